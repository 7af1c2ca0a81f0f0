set_option maxRecDepth 100000 in
set_option maxHeartbeats 4000000 in
theorem c_Mo_isRingLetter {G : r_X} {d : Nat} {h : r_HI} {p q : Nat} {z : r_HL} {F : Int32 → r_HI → r_HR → r_HL → Prop} {i c : Nat} {a1 : Int32} (hi : i < 28) (hc : c < 127) (hp : h 48 i = nI c) (e1 : a1 = nI i) (hF : F (if a_fr i c then 1 else 0) (if a_fr i c ∧ c = 59 then r_up h 47 2 (nI i) else h) (r_gp p q) z) : r_Ci G m_Mo_isRingLetter (d + 1) 61 [.ref (G.2.1 + 47), .int a1] 61 h (r_gp p q) z F := by
  have t2 : (nI c).toInt = (c : Int) := nI_toInt (by omega)
  have e9 : nI i - nI i / 2 * 2 = nI (i % 2) := pk_rem (d := 2) (by omega) (by decide) (by decide)
  subst e1
  by_cases o : i % 2 = 1
  · by_cases q97 : 97 ≤ c ∧ c < 121
    · rw [show a_fr i c = true by simp [a_fr, o, q97], if_pos rfl, if_neg (by omega)] at hF
      refine r_C_of (by decide +kernel) (Nat.le_of_ble_eq_true rfl) ?_
      refine j_ls (ls' := [(0, _), (1, _)]) rfl ?_
      refine j_aload_n d_Mo_isRingLetter_0 rfl rfl ?_
      refine j_getr d_Mo_isRingLetter_1 f_Mo_7 rfl rfl (by decide) rfl ?_
      refine j_iload_n d_Mo_isRingLetter_4 rfl rfl ?_
      refine j_iav d_Mo_isRingLetter_5 rfl (by decide) (j := i) (rfl) (by omega) (by decide) (hp) ?_
      refine j_istore_n (ls' := [(2, _), (0, _), (1, _)]) d_Mo_isRingLetter_6 rfl (by decide) rfl ?_
      refine j_iload_n d_Mo_isRingLetter_7 rfl rfl ?_
      refine j_iconst (v := 2) d_Mo_isRingLetter_8 rfl ?_
      refine j_irem d_Mo_isRingLetter_9 (by decide) ?_
      refine j_iconst (v := 1) d_Mo_isRingLetter_10 rfl ?_
      rw [e9]
      refine j_icmp_ne (tgt := 26) d_Mo_isRingLetter_11 rfl (fun bq1 => False.elim (bq1 (by rw [o]; rfl))) (fun bq1 => ?_)
      refine j_iload_n d_Mo_isRingLetter_14 rfl rfl ?_
      refine j_i2l d_Mo_isRingLetter_15 ?_
      refine j_ldc2 d_Mo_isRingLetter_16 k_Mo_62 ?_
      refine j_ldc2 d_Mo_isRingLetter_19 k_Mo_64 ?_
      refine q_i s_Mo_isRingLetter_22 rfl (Nat.le_of_ble_eq_true rfl) (Nat.le_of_ble_eq_true rfl) ?_
      refine c_inY 97 120 rfl rfl (by omega) ?_
      refine j_zret d_Mo_isRingLetter_25 rfl (by decide) ?_
      exact q_i1 hF rfl
    · rw [show a_fr i c = false by simp [a_fr, o]; omega, if_neg (by decide), if_neg (by simp)] at hF
      refine r_C_of (by decide +kernel) (Nat.le_of_ble_eq_true rfl) ?_
      refine j_ls (ls' := [(0, _), (1, _)]) rfl ?_
      refine j_aload_n d_Mo_isRingLetter_0 rfl rfl ?_
      refine j_getr d_Mo_isRingLetter_1 f_Mo_7 rfl rfl (by decide) rfl ?_
      refine j_iload_n d_Mo_isRingLetter_4 rfl rfl ?_
      refine j_iav d_Mo_isRingLetter_5 rfl (by decide) (j := i) (rfl) (by omega) (by decide) (hp) ?_
      refine j_istore_n (ls' := [(2, _), (0, _), (1, _)]) d_Mo_isRingLetter_6 rfl (by decide) rfl ?_
      refine j_iload_n d_Mo_isRingLetter_7 rfl rfl ?_
      refine j_iconst (v := 2) d_Mo_isRingLetter_8 rfl ?_
      refine j_irem d_Mo_isRingLetter_9 (by decide) ?_
      refine j_iconst (v := 1) d_Mo_isRingLetter_10 rfl ?_
      rw [e9]
      refine j_icmp_ne (tgt := 26) d_Mo_isRingLetter_11 rfl (fun bq1 => False.elim (bq1 (by rw [o]; rfl))) (fun bq1 => ?_)
      refine j_iload_n d_Mo_isRingLetter_14 rfl rfl ?_
      refine j_i2l d_Mo_isRingLetter_15 ?_
      refine j_ldc2 d_Mo_isRingLetter_16 k_Mo_62 ?_
      refine j_ldc2 d_Mo_isRingLetter_19 k_Mo_64 ?_
      refine q_i s_Mo_isRingLetter_22 rfl (Nat.le_of_ble_eq_true rfl) (Nat.le_of_ble_eq_true rfl) ?_
      refine c_inN 97 120 rfl rfl (by omega) ?_
      refine j_zret d_Mo_isRingLetter_25 rfl (by decide) ?_
      exact q_i1 hF rfl
  · by_cases s59 : c = 59
    · by_cases h8 : 8 ≤ i
      · rw [show a_fr i c = true by simp [a_fr, o, s59, h8], if_pos rfl, if_pos ⟨rfl, s59⟩] at hF
        refine r_C_of (by decide +kernel) (Nat.le_of_ble_eq_true rfl) ?_
        refine j_ls (ls' := [(0, _), (1, _)]) rfl ?_
        refine j_aload_n d_Mo_isRingLetter_0 rfl rfl ?_
        refine j_getr d_Mo_isRingLetter_1 f_Mo_7 rfl rfl (by decide) rfl ?_
        refine j_iload_n d_Mo_isRingLetter_4 rfl rfl ?_
        refine j_iav d_Mo_isRingLetter_5 rfl (by decide) (j := i) (rfl) (by omega) (by decide) (hp) ?_
        refine j_istore_n (ls' := [(2, _), (0, _), (1, _)]) d_Mo_isRingLetter_6 rfl (by decide) rfl ?_
        refine j_iload_n d_Mo_isRingLetter_7 rfl rfl ?_
        refine j_iconst (v := 2) d_Mo_isRingLetter_8 rfl ?_
        refine j_irem d_Mo_isRingLetter_9 (by decide) ?_
        refine j_iconst (v := 1) d_Mo_isRingLetter_10 rfl ?_
        rw [e9]
        refine j_icmp_ne (tgt := 26) d_Mo_isRingLetter_11 rfl (fun bq1 => ?_) (fun bq1 => False.elim (absurd ((nI_eq (b := 1) (by omega) (by omega)).mp bq1) o))
        refine j_iload_n d_Mo_isRingLetter_26 rfl rfl ?_
        refine j_bipush (v := 59) d_Mo_isRingLetter_27 (by decide) ?_
        refine j_icmp_ne (tgt := 45) d_Mo_isRingLetter_29 rfl (fun bq2 => False.elim (bq2 (congrArg nI s59))) (fun bq2 => ?_)
        refine j_iload_n d_Mo_isRingLetter_32 rfl rfl ?_
        refine j_bipush (v := 7) d_Mo_isRingLetter_33 (by decide) ?_
        refine j_icmp_le (tgt := 45) d_Mo_isRingLetter_35 rfl (fun bq3 => False.elim (nI_ge (a := 7) (b := i) (by omega) (by omega) bq3)) (fun bq3 => ?_)
        refine j_aload_n d_Mo_isRingLetter_38 rfl rfl ?_
        refine j_iload_n d_Mo_isRingLetter_39 rfl rfl ?_
        refine j_puti d_Mo_isRingLetter_40 f_Mo_66 (by decide) rfl rfl (by decide) ?_
        refine j_iconst (v := 1) d_Mo_isRingLetter_43 rfl ?_
        refine j_zret d_Mo_isRingLetter_44 rfl (by decide) ?_
        exact q_i1 hF rfl
      · rw [show a_fr i c = false by simp [a_fr, o, s59]; omega, if_neg (by decide), if_neg (by simp)] at hF
        have hz : a_po c = 0 := by rw [s59]; rfl
        refine r_C_of (by decide +kernel) (Nat.le_of_ble_eq_true rfl) ?_
        refine j_ls (ls' := [(0, _), (1, _)]) rfl ?_
        refine j_aload_n d_Mo_isRingLetter_0 rfl rfl ?_
        refine j_getr d_Mo_isRingLetter_1 f_Mo_7 rfl rfl (by decide) rfl ?_
        refine j_iload_n d_Mo_isRingLetter_4 rfl rfl ?_
        refine j_iav d_Mo_isRingLetter_5 rfl (by decide) (j := i) (rfl) (by omega) (by decide) (hp) ?_
        refine j_istore_n (ls' := [(2, _), (0, _), (1, _)]) d_Mo_isRingLetter_6 rfl (by decide) rfl ?_
        refine j_iload_n d_Mo_isRingLetter_7 rfl rfl ?_
        refine j_iconst (v := 2) d_Mo_isRingLetter_8 rfl ?_
        refine j_irem d_Mo_isRingLetter_9 (by decide) ?_
        refine j_iconst (v := 1) d_Mo_isRingLetter_10 rfl ?_
        rw [e9]
        refine j_icmp_ne (tgt := 26) d_Mo_isRingLetter_11 rfl (fun bq1 => ?_) (fun bq1 => False.elim (absurd ((nI_eq (b := 1) (by omega) (by omega)).mp bq1) o))
        refine j_iload_n d_Mo_isRingLetter_26 rfl rfl ?_
        refine j_bipush (v := 59) d_Mo_isRingLetter_27 (by decide) ?_
        refine j_icmp_ne (tgt := 45) d_Mo_isRingLetter_29 rfl (fun bq2 => False.elim (bq2 (congrArg nI s59))) (fun bq2 => ?_)
        refine j_iload_n d_Mo_isRingLetter_32 rfl rfl ?_
        refine j_bipush (v := 7) d_Mo_isRingLetter_33 (by decide) ?_
        refine j_icmp_le (tgt := 45) d_Mo_isRingLetter_35 rfl (fun bq3 => ?_) (fun bq3 => False.elim (bq3 (nI_le (a := i) (b := 7) (by omega) (by omega))))
        refine j_iload_n d_Mo_isRingLetter_45 rfl rfl ?_
        refine q_i s_Mo_isRingLetter_46 rfl (Nat.le_of_ble_eq_true rfl) (Nat.le_of_ble_eq_true rfl) ?_
        refine c_Mo_placesBy hc rfl ?_
        refine j_if_le (tgt := 62) d_Mo_isRingLetter_49 rfl (fun bq4 => ?_) (fun bq4 => False.elim (bq4 (by rw [hz]; decide)))
        refine j_iconst (v := 0) d_Mo_isRingLetter_62 rfl ?_
        refine j_zret d_Mo_isRingLetter_63 rfl (by decide) ?_
        exact q_i1 hF rfl
    · by_cases hz : a_po c = 0
      · rw [show a_fr i c = false by simp [a_fr, o, s59, hz], if_neg (by decide), if_neg (by simp)] at hF
        refine r_C_of (by decide +kernel) (Nat.le_of_ble_eq_true rfl) ?_
        refine j_ls (ls' := [(0, _), (1, _)]) rfl ?_
        refine j_aload_n d_Mo_isRingLetter_0 rfl rfl ?_
        refine j_getr d_Mo_isRingLetter_1 f_Mo_7 rfl rfl (by decide) rfl ?_
        refine j_iload_n d_Mo_isRingLetter_4 rfl rfl ?_
        refine j_iav d_Mo_isRingLetter_5 rfl (by decide) (j := i) (rfl) (by omega) (by decide) (hp) ?_
        refine j_istore_n (ls' := [(2, _), (0, _), (1, _)]) d_Mo_isRingLetter_6 rfl (by decide) rfl ?_
        refine j_iload_n d_Mo_isRingLetter_7 rfl rfl ?_
        refine j_iconst (v := 2) d_Mo_isRingLetter_8 rfl ?_
        refine j_irem d_Mo_isRingLetter_9 (by decide) ?_
        refine j_iconst (v := 1) d_Mo_isRingLetter_10 rfl ?_
        rw [e9]
        refine j_icmp_ne (tgt := 26) d_Mo_isRingLetter_11 rfl (fun bq1 => ?_) (fun bq1 => False.elim (absurd ((nI_eq (b := 1) (by omega) (by omega)).mp bq1) o))
        refine j_iload_n d_Mo_isRingLetter_26 rfl rfl ?_
        refine j_bipush (v := 59) d_Mo_isRingLetter_27 (by decide) ?_
        refine j_icmp_ne (tgt := 45) d_Mo_isRingLetter_29 rfl (fun bq2 => ?_) (fun bq2 => False.elim (absurd ((nI_eq (b := 59) (by omega) (by omega)).mp bq2) s59))
        refine j_iload_n d_Mo_isRingLetter_45 rfl rfl ?_
        refine q_i s_Mo_isRingLetter_46 rfl (Nat.le_of_ble_eq_true rfl) (Nat.le_of_ble_eq_true rfl) ?_
        refine c_Mo_placesBy hc rfl ?_
        refine j_if_le (tgt := 62) d_Mo_isRingLetter_49 rfl (fun bq3 => ?_) (fun bq3 => False.elim (bq3 (by rw [hz]; decide)))
        refine j_iconst (v := 0) d_Mo_isRingLetter_62 rfl ?_
        refine j_zret d_Mo_isRingLetter_63 rfl (by decide) ?_
        exact q_i1 hF rfl
      · have hpo := a_po_le c
        by_cases h20 : i < 20
        · rw [show a_fr i c = true by simp [a_fr, o, s59, hz, h20], if_pos rfl, if_neg (by omega)] at hF
          refine r_C_of (by decide +kernel) (Nat.le_of_ble_eq_true rfl) ?_
          refine j_ls (ls' := [(0, _), (1, _)]) rfl ?_
          refine j_aload_n d_Mo_isRingLetter_0 rfl rfl ?_
          refine j_getr d_Mo_isRingLetter_1 f_Mo_7 rfl rfl (by decide) rfl ?_
          refine j_iload_n d_Mo_isRingLetter_4 rfl rfl ?_
          refine j_iav d_Mo_isRingLetter_5 rfl (by decide) (j := i) (rfl) (by omega) (by decide) (hp) ?_
          refine j_istore_n (ls' := [(2, _), (0, _), (1, _)]) d_Mo_isRingLetter_6 rfl (by decide) rfl ?_
          refine j_iload_n d_Mo_isRingLetter_7 rfl rfl ?_
          refine j_iconst (v := 2) d_Mo_isRingLetter_8 rfl ?_
          refine j_irem d_Mo_isRingLetter_9 (by decide) ?_
          refine j_iconst (v := 1) d_Mo_isRingLetter_10 rfl ?_
          rw [e9]
          refine j_icmp_ne (tgt := 26) d_Mo_isRingLetter_11 rfl (fun bq1 => ?_) (fun bq1 => False.elim (absurd ((nI_eq (b := 1) (by omega) (by omega)).mp bq1) o))
          refine j_iload_n d_Mo_isRingLetter_26 rfl rfl ?_
          refine j_bipush (v := 59) d_Mo_isRingLetter_27 (by decide) ?_
          refine j_icmp_ne (tgt := 45) d_Mo_isRingLetter_29 rfl (fun bq2 => ?_) (fun bq2 => False.elim (absurd ((nI_eq (b := 59) (by omega) (by omega)).mp bq2) s59))
          refine j_iload_n d_Mo_isRingLetter_45 rfl rfl ?_
          refine q_i s_Mo_isRingLetter_46 rfl (Nat.le_of_ble_eq_true rfl) (Nat.le_of_ble_eq_true rfl) ?_
          refine c_Mo_placesBy hc rfl ?_
          refine j_if_le (tgt := 62) d_Mo_isRingLetter_49 rfl (fun bq3 => False.elim (nI_nle (n := a_po c) (by omega) (by omega) bq3)) (fun bq3 => ?_)
          refine j_iload_n d_Mo_isRingLetter_52 rfl rfl ?_
          refine j_bipush (v := 20) d_Mo_isRingLetter_53 (by decide) ?_
          refine j_icmp_ge (tgt := 62) d_Mo_isRingLetter_55 rfl (fun bq4 => False.elim (nI_ge (b := 20) h20 (by omega) bq4)) (fun bq4 => ?_)
          refine j_iconst (v := 1) d_Mo_isRingLetter_58 rfl ?_
          refine j_goto (tgt := 63) d_Mo_isRingLetter_59 rfl ?_
          refine j_zret d_Mo_isRingLetter_63 rfl (by decide) ?_
          exact q_i1 hF rfl
        · rw [show a_fr i c = false by simp [a_fr, o, s59, h20], if_neg (by decide), if_neg (by simp)] at hF
          refine r_C_of (by decide +kernel) (Nat.le_of_ble_eq_true rfl) ?_
          refine j_ls (ls' := [(0, _), (1, _)]) rfl ?_
          refine j_aload_n d_Mo_isRingLetter_0 rfl rfl ?_
          refine j_getr d_Mo_isRingLetter_1 f_Mo_7 rfl rfl (by decide) rfl ?_
          refine j_iload_n d_Mo_isRingLetter_4 rfl rfl ?_
          refine j_iav d_Mo_isRingLetter_5 rfl (by decide) (j := i) (rfl) (by omega) (by decide) (hp) ?_
          refine j_istore_n (ls' := [(2, _), (0, _), (1, _)]) d_Mo_isRingLetter_6 rfl (by decide) rfl ?_
          refine j_iload_n d_Mo_isRingLetter_7 rfl rfl ?_
          refine j_iconst (v := 2) d_Mo_isRingLetter_8 rfl ?_
          refine j_irem d_Mo_isRingLetter_9 (by decide) ?_
          refine j_iconst (v := 1) d_Mo_isRingLetter_10 rfl ?_
          rw [e9]
          refine j_icmp_ne (tgt := 26) d_Mo_isRingLetter_11 rfl (fun bq1 => ?_) (fun bq1 => False.elim (absurd ((nI_eq (b := 1) (by omega) (by omega)).mp bq1) o))
          refine j_iload_n d_Mo_isRingLetter_26 rfl rfl ?_
          refine j_bipush (v := 59) d_Mo_isRingLetter_27 (by decide) ?_
          refine j_icmp_ne (tgt := 45) d_Mo_isRingLetter_29 rfl (fun bq2 => ?_) (fun bq2 => False.elim (absurd ((nI_eq (b := 59) (by omega) (by omega)).mp bq2) s59))
          refine j_iload_n d_Mo_isRingLetter_45 rfl rfl ?_
          refine q_i s_Mo_isRingLetter_46 rfl (Nat.le_of_ble_eq_true rfl) (Nat.le_of_ble_eq_true rfl) ?_
          refine c_Mo_placesBy hc rfl ?_
          refine j_if_le (tgt := 62) d_Mo_isRingLetter_49 rfl (fun bq3 => False.elim (nI_nle (n := a_po c) (by omega) (by omega) bq3)) (fun bq3 => ?_)
          refine j_iload_n d_Mo_isRingLetter_52 rfl rfl ?_
          refine j_bipush (v := 20) d_Mo_isRingLetter_53 (by decide) ?_
          refine j_icmp_ge (tgt := 62) d_Mo_isRingLetter_55 rfl (fun bq4 => ?_) (fun bq4 => False.elim (bq4 (nI_le (a := 20) (by omega) (by omega))))
          refine j_iconst (v := 0) d_Mo_isRingLetter_62 rfl ?_
          refine j_zret d_Mo_isRingLetter_63 rfl (by decide) ?_
          exact q_i1 hF rfl
set_option maxRecDepth 100000 in
set_option maxHeartbeats 4000000 in
theorem c_Mo_isGood {G : r_X} {d : Nat} {h : r_HI} {p q : Nat} {z : r_HL} {F : Int32 → r_HI → r_HR → r_HL → Prop} {i c : Nat} {a1 : Int32} (hi : i < 28) (hc : c < 127) (hp : h 48 i = nI c) (e1 : a1 = nI i) {e : Nat} (hei : e ≤ i) (he : h 47 2 = nI e) (hF : F (if a_g e i c then 1 else 0) (if a_g e i c ∧ e = 0 ∧ c = 59 then r_up h 47 2 (nI i) else h) (r_gp p q) z) : r_Ci G m_Mo_isGood (d + 2) 61 [.ref (G.2.1 + 47), .int a1] 61 h (r_gp p q) z F := by
  have t2 : (nI c).toInt = (c : Int) := nI_toInt (by omega)
  subst e1
  by_cases e0 : e = 0
  · have hg : a_g e i c = a_fr i c := by simp [a_g, e0]
    rw [hg] at hF
    have hF : F (if a_fr i c then 1 else 0) (if a_fr i c ∧ c = 59 then r_up h 47 2 (nI i) else h) (r_gp p q) z := by
      by_cases u : a_fr i c = true ∧ c = 59
      · rw [if_pos u]
        rw [if_pos (show a_fr i c = true ∧ e = 0 ∧ c = 59 from ⟨u.1, e0, u.2⟩)] at hF
        exact hF
      · rw [if_neg u]
        rw [if_neg (show ¬ (a_fr i c = true ∧ e = 0 ∧ c = 59) from fun v => u ⟨v.1, v.2.2⟩)] at hF
        exact hF
    refine r_C_of (by decide +kernel) (Nat.le_of_ble_eq_true rfl) ?_
    refine j_ls (ls' := [(0, _), (1, _)]) rfl ?_
    refine j_aload_n d_Mo_isGood_0 rfl rfl ?_
    refine j_geti d_Mo_isGood_1 f_Mo_66 rfl rfl (by decide) ?_
    refine j_if_ne (tgt := 13) d_Mo_isGood_4 rfl (fun bq1 => False.elim (bq1 (he.trans (congrArg nI e0)))) (fun bq1 => ?_)
    refine j_aload_n d_Mo_isGood_7 rfl rfl ?_
    refine j_iload_n d_Mo_isGood_8 rfl rfl ?_
    refine q_i (s_Mo_isGood_9 rfl (by decide)) rfl (Nat.le_of_ble_eq_true rfl) (Nat.le_of_ble_eq_true rfl) ?_
    refine c_Mo_isRingLetter hi hc hp rfl ?_
    refine j_zret d_Mo_isGood_12 rfl (by cases a_fr i c <;> simp) ?_
    exact q_i1 hF rfl
  · rw [if_neg (show ¬ (a_g e i c = true ∧ e = 0 ∧ c = 59) from fun v => e0 v.2.1)] at hF
    have hg : a_g e i c = a_ta (i - e) c := by simp [a_g, e0]
    rw [hg] at hF
    have t1 : (nI (i - e)).toInt = ((i - e : Nat) : Int) := nI_toInt (by omega)
    rcases (show i - e = 1 ∨ i - e = 2 ∨ i - e = 3 ∨ i - e = 4 ∨ (i - e = 0 ∨ 4 < i - e) by omega) with k | k | k | k | k
    · have tk : (nI (i - e)).toInt = 1 := by rw [t1, k]; rfl
      by_cases u : 48 ≤ c ∧ c ≤ 57
      · rw [show a_ta (i - e) c = true by simp [a_ta, k, u], if_pos rfl] at hF
        refine r_C_of (by decide +kernel) (Nat.le_of_ble_eq_true rfl) ?_
        refine j_ls (ls' := [(0, _), (1, _)]) rfl ?_
        refine j_aload_n d_Mo_isGood_0 rfl rfl ?_
        refine j_geti d_Mo_isGood_1 f_Mo_66 rfl rfl (by decide) ?_
        refine j_if_ne (tgt := 13) d_Mo_isGood_4 rfl (fun bq1 => ?_) (fun bq1 => False.elim (e0 ((nI_eq (b := 0) (by omega) (by omega)).mp (he.symm.trans bq1))))
        refine j_aload_n d_Mo_isGood_13 rfl rfl ?_
        refine j_getr d_Mo_isGood_14 f_Mo_7 rfl rfl (by decide) rfl ?_
        refine j_iload_n d_Mo_isGood_17 rfl rfl ?_
        refine j_iav d_Mo_isGood_18 rfl (by decide) (j := i) (rfl) (by omega) (by decide) (hp) ?_
        refine j_istore_n (ls' := [(2, _), (0, _), (1, _)]) d_Mo_isGood_19 rfl (by decide) rfl ?_
        refine j_iload_n d_Mo_isGood_20 rfl rfl ?_
        refine j_aload_n d_Mo_isGood_21 rfl rfl ?_
        refine j_geti d_Mo_isGood_22 f_Mo_66 rfl rfl (by decide) ?_
        refine j_isub d_Mo_isGood_25 ?_
        rw [he, pk_sub (by omega)]
        refine j_tabIn (off := 30) (tgt := 56) d_Mo_isGood_26 (by rw [tk]; decide) (by rw [tk]; decide) (by rw [tk]; rfl) rfl ?_
        refine j_iload_n d_Mo_isGood_56 rfl rfl ?_
        refine j_i2l d_Mo_isGood_57 ?_
        refine j_ldc2 d_Mo_isGood_58 k_Mo_77 ?_
        refine j_ldc2 d_Mo_isGood_61 k_Mo_79 ?_
        refine q_i s_Mo_isGood_64 rfl (Nat.le_of_ble_eq_true rfl) (Nat.le_of_ble_eq_true rfl) ?_
        refine c_inY 48 57 rfl rfl (by omega) ?_
        refine j_zret d_Mo_isGood_67 rfl (by decide) ?_
        exact q_i1 hF rfl
      · rw [show a_ta (i - e) c = false by simp [a_ta, k]; omega, if_neg (by decide)] at hF
        refine r_C_of (by decide +kernel) (Nat.le_of_ble_eq_true rfl) ?_
        refine j_ls (ls' := [(0, _), (1, _)]) rfl ?_
        refine j_aload_n d_Mo_isGood_0 rfl rfl ?_
        refine j_geti d_Mo_isGood_1 f_Mo_66 rfl rfl (by decide) ?_
        refine j_if_ne (tgt := 13) d_Mo_isGood_4 rfl (fun bq1 => ?_) (fun bq1 => False.elim (e0 ((nI_eq (b := 0) (by omega) (by omega)).mp (he.symm.trans bq1))))
        refine j_aload_n d_Mo_isGood_13 rfl rfl ?_
        refine j_getr d_Mo_isGood_14 f_Mo_7 rfl rfl (by decide) rfl ?_
        refine j_iload_n d_Mo_isGood_17 rfl rfl ?_
        refine j_iav d_Mo_isGood_18 rfl (by decide) (j := i) (rfl) (by omega) (by decide) (hp) ?_
        refine j_istore_n (ls' := [(2, _), (0, _), (1, _)]) d_Mo_isGood_19 rfl (by decide) rfl ?_
        refine j_iload_n d_Mo_isGood_20 rfl rfl ?_
        refine j_aload_n d_Mo_isGood_21 rfl rfl ?_
        refine j_geti d_Mo_isGood_22 f_Mo_66 rfl rfl (by decide) ?_
        refine j_isub d_Mo_isGood_25 ?_
        rw [he, pk_sub (by omega)]
        refine j_tabIn (off := 30) (tgt := 56) d_Mo_isGood_26 (by rw [tk]; decide) (by rw [tk]; decide) (by rw [tk]; rfl) rfl ?_
        refine j_iload_n d_Mo_isGood_56 rfl rfl ?_
        refine j_i2l d_Mo_isGood_57 ?_
        refine j_ldc2 d_Mo_isGood_58 k_Mo_77 ?_
        refine j_ldc2 d_Mo_isGood_61 k_Mo_79 ?_
        refine q_i s_Mo_isGood_64 rfl (Nat.le_of_ble_eq_true rfl) (Nat.le_of_ble_eq_true rfl) ?_
        refine c_inN 48 57 rfl rfl (by omega) ?_
        refine j_zret d_Mo_isGood_67 rfl (by decide) ?_
        exact q_i1 hF rfl
    · have tk : (nI (i - e)).toInt = 2 := by rw [t1, k]; rfl
      by_cases u : 49 ≤ c ∧ c ≤ 57
      · rw [show a_ta (i - e) c = true by simp [a_ta, k, u], if_pos rfl] at hF
        refine r_C_of (by decide +kernel) (Nat.le_of_ble_eq_true rfl) ?_
        refine j_ls (ls' := [(0, _), (1, _)]) rfl ?_
        refine j_aload_n d_Mo_isGood_0 rfl rfl ?_
        refine j_geti d_Mo_isGood_1 f_Mo_66 rfl rfl (by decide) ?_
        refine j_if_ne (tgt := 13) d_Mo_isGood_4 rfl (fun bq1 => ?_) (fun bq1 => False.elim (e0 ((nI_eq (b := 0) (by omega) (by omega)).mp (he.symm.trans bq1))))
        refine j_aload_n d_Mo_isGood_13 rfl rfl ?_
        refine j_getr d_Mo_isGood_14 f_Mo_7 rfl rfl (by decide) rfl ?_
        refine j_iload_n d_Mo_isGood_17 rfl rfl ?_
        refine j_iav d_Mo_isGood_18 rfl (by decide) (j := i) (rfl) (by omega) (by decide) (hp) ?_
        refine j_istore_n (ls' := [(2, _), (0, _), (1, _)]) d_Mo_isGood_19 rfl (by decide) rfl ?_
        refine j_iload_n d_Mo_isGood_20 rfl rfl ?_
        refine j_aload_n d_Mo_isGood_21 rfl rfl ?_
        refine j_geti d_Mo_isGood_22 f_Mo_66 rfl rfl (by decide) ?_
        refine j_isub d_Mo_isGood_25 ?_
        rw [he, pk_sub (by omega)]
        refine j_tabIn (off := 42) (tgt := 68) d_Mo_isGood_26 (by rw [tk]; decide) (by rw [tk]; decide) (by rw [tk]; rfl) rfl ?_
        refine j_iload_n d_Mo_isGood_68 rfl rfl ?_
        refine j_i2l d_Mo_isGood_69 ?_
        refine j_ldc2 d_Mo_isGood_70 k_Mo_81 ?_
        refine j_ldc2 d_Mo_isGood_73 k_Mo_79 ?_
        refine q_i s_Mo_isGood_76 rfl (Nat.le_of_ble_eq_true rfl) (Nat.le_of_ble_eq_true rfl) ?_
        refine c_inY 49 57 rfl rfl (by omega) ?_
        refine j_zret d_Mo_isGood_79 rfl (by decide) ?_
        exact q_i1 hF rfl
      · rw [show a_ta (i - e) c = false by simp [a_ta, k]; omega, if_neg (by decide)] at hF
        refine r_C_of (by decide +kernel) (Nat.le_of_ble_eq_true rfl) ?_
        refine j_ls (ls' := [(0, _), (1, _)]) rfl ?_
        refine j_aload_n d_Mo_isGood_0 rfl rfl ?_
        refine j_geti d_Mo_isGood_1 f_Mo_66 rfl rfl (by decide) ?_
        refine j_if_ne (tgt := 13) d_Mo_isGood_4 rfl (fun bq1 => ?_) (fun bq1 => False.elim (e0 ((nI_eq (b := 0) (by omega) (by omega)).mp (he.symm.trans bq1))))
        refine j_aload_n d_Mo_isGood_13 rfl rfl ?_
        refine j_getr d_Mo_isGood_14 f_Mo_7 rfl rfl (by decide) rfl ?_
        refine j_iload_n d_Mo_isGood_17 rfl rfl ?_
        refine j_iav d_Mo_isGood_18 rfl (by decide) (j := i) (rfl) (by omega) (by decide) (hp) ?_
        refine j_istore_n (ls' := [(2, _), (0, _), (1, _)]) d_Mo_isGood_19 rfl (by decide) rfl ?_
        refine j_iload_n d_Mo_isGood_20 rfl rfl ?_
        refine j_aload_n d_Mo_isGood_21 rfl rfl ?_
        refine j_geti d_Mo_isGood_22 f_Mo_66 rfl rfl (by decide) ?_
        refine j_isub d_Mo_isGood_25 ?_
        rw [he, pk_sub (by omega)]
        refine j_tabIn (off := 42) (tgt := 68) d_Mo_isGood_26 (by rw [tk]; decide) (by rw [tk]; decide) (by rw [tk]; rfl) rfl ?_
        refine j_iload_n d_Mo_isGood_68 rfl rfl ?_
        refine j_i2l d_Mo_isGood_69 ?_
        refine j_ldc2 d_Mo_isGood_70 k_Mo_81 ?_
        refine j_ldc2 d_Mo_isGood_73 k_Mo_79 ?_
        refine q_i s_Mo_isGood_76 rfl (Nat.le_of_ble_eq_true rfl) (Nat.le_of_ble_eq_true rfl) ?_
        refine c_inN 49 57 rfl rfl (by omega) ?_
        refine j_zret d_Mo_isGood_79 rfl (by decide) ?_
        exact q_i1 hF rfl
    · have tk : (nI (i - e)).toInt = 3 := by rw [t1, k]; rfl
      by_cases u : c = 59
      · rw [show a_ta (i - e) c = true by simp [a_ta, k, u], if_pos rfl] at hF
        refine r_C_of (by decide +kernel) (Nat.le_of_ble_eq_true rfl) ?_
        refine j_ls (ls' := [(0, _), (1, _)]) rfl ?_
        refine j_aload_n d_Mo_isGood_0 rfl rfl ?_
        refine j_geti d_Mo_isGood_1 f_Mo_66 rfl rfl (by decide) ?_
        refine j_if_ne (tgt := 13) d_Mo_isGood_4 rfl (fun bq1 => ?_) (fun bq1 => False.elim (e0 ((nI_eq (b := 0) (by omega) (by omega)).mp (he.symm.trans bq1))))
        refine j_aload_n d_Mo_isGood_13 rfl rfl ?_
        refine j_getr d_Mo_isGood_14 f_Mo_7 rfl rfl (by decide) rfl ?_
        refine j_iload_n d_Mo_isGood_17 rfl rfl ?_
        refine j_iav d_Mo_isGood_18 rfl (by decide) (j := i) (rfl) (by omega) (by decide) (hp) ?_
        refine j_istore_n (ls' := [(2, _), (0, _), (1, _)]) d_Mo_isGood_19 rfl (by decide) rfl ?_
        refine j_iload_n d_Mo_isGood_20 rfl rfl ?_
        refine j_aload_n d_Mo_isGood_21 rfl rfl ?_
        refine j_geti d_Mo_isGood_22 f_Mo_66 rfl rfl (by decide) ?_
        refine j_isub d_Mo_isGood_25 ?_
        rw [he, pk_sub (by omega)]
        refine j_tabIn (off := 54) (tgt := 80) d_Mo_isGood_26 (by rw [tk]; decide) (by rw [tk]; decide) (by rw [tk]; rfl) rfl ?_
        refine j_iload_n d_Mo_isGood_80 rfl rfl ?_
        refine j_bipush (v := 59) d_Mo_isGood_81 (by decide) ?_
        refine j_icmp_ne (tgt := 90) d_Mo_isGood_83 rfl (fun bq2 => False.elim (bq2 (congrArg nI u))) (fun bq2 => ?_)
        refine j_iconst (v := 1) d_Mo_isGood_86 rfl ?_
        refine j_goto (tgt := 91) d_Mo_isGood_87 rfl ?_
        refine j_zret d_Mo_isGood_91 rfl (by decide) ?_
        exact q_i1 hF rfl
      · rw [show a_ta (i - e) c = false by simp [a_ta, k]; omega, if_neg (by decide)] at hF
        refine r_C_of (by decide +kernel) (Nat.le_of_ble_eq_true rfl) ?_
        refine j_ls (ls' := [(0, _), (1, _)]) rfl ?_
        refine j_aload_n d_Mo_isGood_0 rfl rfl ?_
        refine j_geti d_Mo_isGood_1 f_Mo_66 rfl rfl (by decide) ?_
        refine j_if_ne (tgt := 13) d_Mo_isGood_4 rfl (fun bq1 => ?_) (fun bq1 => False.elim (e0 ((nI_eq (b := 0) (by omega) (by omega)).mp (he.symm.trans bq1))))
        refine j_aload_n d_Mo_isGood_13 rfl rfl ?_
        refine j_getr d_Mo_isGood_14 f_Mo_7 rfl rfl (by decide) rfl ?_
        refine j_iload_n d_Mo_isGood_17 rfl rfl ?_
        refine j_iav d_Mo_isGood_18 rfl (by decide) (j := i) (rfl) (by omega) (by decide) (hp) ?_
        refine j_istore_n (ls' := [(2, _), (0, _), (1, _)]) d_Mo_isGood_19 rfl (by decide) rfl ?_
        refine j_iload_n d_Mo_isGood_20 rfl rfl ?_
        refine j_aload_n d_Mo_isGood_21 rfl rfl ?_
        refine j_geti d_Mo_isGood_22 f_Mo_66 rfl rfl (by decide) ?_
        refine j_isub d_Mo_isGood_25 ?_
        rw [he, pk_sub (by omega)]
        refine j_tabIn (off := 54) (tgt := 80) d_Mo_isGood_26 (by rw [tk]; decide) (by rw [tk]; decide) (by rw [tk]; rfl) rfl ?_
        refine j_iload_n d_Mo_isGood_80 rfl rfl ?_
        refine j_bipush (v := 59) d_Mo_isGood_81 (by decide) ?_
        refine j_icmp_ne (tgt := 90) d_Mo_isGood_83 rfl (fun bq2 => ?_) (fun bq2 => False.elim (u ((nI_eq (b := 59) (by omega) (by omega)).mp bq2)))
        refine j_iconst (v := 0) d_Mo_isGood_90 rfl ?_
        refine j_zret d_Mo_isGood_91 rfl (by decide) ?_
        exact q_i1 hF rfl
    · have tk : (nI (i - e)).toInt = 4 := by rw [t1, k]; rfl
      have hko := a_ko_le c
      by_cases u : a_ko c < 5
      · rw [show a_ta (i - e) c = true by simp [a_ta, k, u], if_pos rfl] at hF
        refine r_C_of (by decide +kernel) (Nat.le_of_ble_eq_true rfl) ?_
        refine j_ls (ls' := [(0, _), (1, _)]) rfl ?_
        refine j_aload_n d_Mo_isGood_0 rfl rfl ?_
        refine j_geti d_Mo_isGood_1 f_Mo_66 rfl rfl (by decide) ?_
        refine j_if_ne (tgt := 13) d_Mo_isGood_4 rfl (fun bq1 => ?_) (fun bq1 => False.elim (e0 ((nI_eq (b := 0) (by omega) (by omega)).mp (he.symm.trans bq1))))
        refine j_aload_n d_Mo_isGood_13 rfl rfl ?_
        refine j_getr d_Mo_isGood_14 f_Mo_7 rfl rfl (by decide) rfl ?_
        refine j_iload_n d_Mo_isGood_17 rfl rfl ?_
        refine j_iav d_Mo_isGood_18 rfl (by decide) (j := i) (rfl) (by omega) (by decide) (hp) ?_
        refine j_istore_n (ls' := [(2, _), (0, _), (1, _)]) d_Mo_isGood_19 rfl (by decide) rfl ?_
        refine j_iload_n d_Mo_isGood_20 rfl rfl ?_
        refine j_aload_n d_Mo_isGood_21 rfl rfl ?_
        refine j_geti d_Mo_isGood_22 f_Mo_66 rfl rfl (by decide) ?_
        refine j_isub d_Mo_isGood_25 ?_
        rw [he, pk_sub (by omega)]
        refine j_tabIn (off := 66) (tgt := 92) d_Mo_isGood_26 (by rw [tk]; decide) (by rw [tk]; decide) (by rw [tk]; rfl) rfl ?_
        refine j_iload_n d_Mo_isGood_92 rfl rfl ?_
        refine q_i s_Mo_isGood_93 rfl (Nat.le_of_ble_eq_true rfl) (Nat.le_of_ble_eq_true rfl) ?_
        refine c_Mo_kindBy hc rfl ?_
        rw [if_neg (by omega)]
        refine j_iconst (v := (-1)) d_Mo_isGood_96 rfl ?_
        refine j_icmp_eq (tgt := 104) d_Mo_isGood_97 rfl (fun bq2 => False.elim (nI_m1 (m := a_ko c) (by omega) bq2)) (fun bq2 => ?_)
        refine j_iconst (v := 1) d_Mo_isGood_100 rfl ?_
        refine j_goto (tgt := 105) d_Mo_isGood_101 rfl ?_
        refine j_zret d_Mo_isGood_105 rfl (by decide) ?_
        exact q_i1 hF rfl
      · rw [show a_ta (i - e) c = false by simp [a_ta, k]; omega, if_neg (by decide)] at hF
        refine r_C_of (by decide +kernel) (Nat.le_of_ble_eq_true rfl) ?_
        refine j_ls (ls' := [(0, _), (1, _)]) rfl ?_
        refine j_aload_n d_Mo_isGood_0 rfl rfl ?_
        refine j_geti d_Mo_isGood_1 f_Mo_66 rfl rfl (by decide) ?_
        refine j_if_ne (tgt := 13) d_Mo_isGood_4 rfl (fun bq1 => ?_) (fun bq1 => False.elim (e0 ((nI_eq (b := 0) (by omega) (by omega)).mp (he.symm.trans bq1))))
        refine j_aload_n d_Mo_isGood_13 rfl rfl ?_
        refine j_getr d_Mo_isGood_14 f_Mo_7 rfl rfl (by decide) rfl ?_
        refine j_iload_n d_Mo_isGood_17 rfl rfl ?_
        refine j_iav d_Mo_isGood_18 rfl (by decide) (j := i) (rfl) (by omega) (by decide) (hp) ?_
        refine j_istore_n (ls' := [(2, _), (0, _), (1, _)]) d_Mo_isGood_19 rfl (by decide) rfl ?_
        refine j_iload_n d_Mo_isGood_20 rfl rfl ?_
        refine j_aload_n d_Mo_isGood_21 rfl rfl ?_
        refine j_geti d_Mo_isGood_22 f_Mo_66 rfl rfl (by decide) ?_
        refine j_isub d_Mo_isGood_25 ?_
        rw [he, pk_sub (by omega)]
        refine j_tabIn (off := 66) (tgt := 92) d_Mo_isGood_26 (by rw [tk]; decide) (by rw [tk]; decide) (by rw [tk]; rfl) rfl ?_
        refine j_iload_n d_Mo_isGood_92 rfl rfl ?_
        refine q_i s_Mo_isGood_93 rfl (Nat.le_of_ble_eq_true rfl) (Nat.le_of_ble_eq_true rfl) ?_
        refine c_Mo_kindBy hc rfl ?_
        rw [if_pos (by omega)]
        refine j_iconst (v := (-1)) d_Mo_isGood_96 rfl ?_
        refine j_icmp_eq (tgt := 104) d_Mo_isGood_97 rfl (fun bq2 => ?_) (fun bq2 => False.elim (bq2 rfl))
        refine j_iconst (v := 0) d_Mo_isGood_104 rfl ?_
        refine j_zret d_Mo_isGood_105 rfl (by decide) ?_
        exact q_i1 hF rfl
    · have tk : (nI (i - e)).toInt < 1 ∨ 4 < (nI (i - e)).toInt := by rw [t1]; omega
      rw [show a_ta (i - e) c = false by simp only [a_ta]; rw [if_neg (by omega), if_neg (by omega), if_neg (by omega), if_neg (by omega)], if_neg (by decide)] at hF
      refine r_C_of (by decide +kernel) (Nat.le_of_ble_eq_true rfl) ?_
      refine j_ls (ls' := [(0, _), (1, _)]) rfl ?_
      refine j_aload_n d_Mo_isGood_0 rfl rfl ?_
      refine j_geti d_Mo_isGood_1 f_Mo_66 rfl rfl (by decide) ?_
      refine j_if_ne (tgt := 13) d_Mo_isGood_4 rfl (fun bq1 => ?_) (fun bq1 => False.elim (e0 ((nI_eq (b := 0) (by omega) (by omega)).mp (he.symm.trans bq1))))
      refine j_aload_n d_Mo_isGood_13 rfl rfl ?_
      refine j_getr d_Mo_isGood_14 f_Mo_7 rfl rfl (by decide) rfl ?_
      refine j_iload_n d_Mo_isGood_17 rfl rfl ?_
      refine j_iav d_Mo_isGood_18 rfl (by decide) (j := i) (rfl) (by omega) (by decide) (hp) ?_
      refine j_istore_n (ls' := [(2, _), (0, _), (1, _)]) d_Mo_isGood_19 rfl (by decide) rfl ?_
      refine j_iload_n d_Mo_isGood_20 rfl rfl ?_
      refine j_aload_n d_Mo_isGood_21 rfl rfl ?_
      refine j_geti d_Mo_isGood_22 f_Mo_66 rfl rfl (by decide) ?_
      refine j_isub d_Mo_isGood_25 ?_
      rw [he, pk_sub (by omega)]
      refine j_tabOut (tgt := 106) d_Mo_isGood_26 tk rfl ?_
      refine j_iconst (v := 0) d_Mo_isGood_106 rfl ?_
      refine j_zret d_Mo_isGood_107 rfl (by decide) ?_
      exact q_i1 hF rfl
set_option maxRecDepth 100000 in
set_option maxHeartbeats 4000000 in
theorem l_Mo_faultOf {G : r_X} {d : Nat} {h : r_HI} {p q : Nat} {z : r_HL} {F : Int32 → r_HI → r_HR → r_HL → Prop} {P : a_P} (hG : p_G h P) (hp : a_pok P)  : ∀ (m i e : Nat) (v : Int32) (h1 : r_HI), m + i = P.1 → v = nI i → e ≤ i → r_ey [] [2] h h1 → h1 47 2 = nI e → (∀ h', r_ey [] [2] h h' → h' 47 2 = nI (a_fl P.2 m i e).2 → F (nI (a_fl P.2 m i e).1) h' (r_gp p q) z) → r_TM G m_Mo_faultOf (d + 3) 61 61 (fun v h' g' z' => ∃ r, v = some (.int r) ∧ F r h' g' z') 7 [(0, .ref (G.2.1 + 47)), (1, .int v)] [] 61 h1 (r_gp p q) z := by
  have h28 := hp.1
  intro m
  induction m with
  | zero =>
    intro i e v h1 hm hv hei hy he hF
    subst hv
    have hG1 : p_G h1 P := hG.ey hy (by decide) (by decide)
    refine j_iload_n d_Mo_faultOf_7 rfl rfl ?_
    refine j_aload_n d_Mo_faultOf_8 rfl rfl ?_
    refine j_geti d_Mo_faultOf_9 f_Mo_59 rfl rfl (by decide) ?_
    refine j_icmp_ge (tgt := 29) d_Mo_faultOf_12 rfl (fun bq1 => ?_) (fun bq1 => False.elim (bq1 (by rw [hG1.1]; exact nI_le (by omega) (by omega))))
    refine j_iload_n d_Mo_faultOf_29 rfl rfl ?_
    refine j_iret d_Mo_faultOf_30 rfl ?_
    exact q_i1 (hF _ hy he) rfl
  | succ m ih =>
    intro i e v h1 hm hv hei hy he hF
    subst hv
    have hG1 : p_G h1 P := hG.ey hy (by decide) (by decide)
    by_cases u : a_g e i (P.2 i) = true
    · refine j_iload_n d_Mo_faultOf_7 rfl rfl ?_
      refine j_aload_n d_Mo_faultOf_8 rfl rfl ?_
      refine j_geti d_Mo_faultOf_9 f_Mo_59 rfl rfl (by decide) ?_
      refine j_icmp_ge (tgt := 29) d_Mo_faultOf_12 rfl (fun bq1 => False.elim (nI_ge (by omega) (by omega) (hG1.1 ▸ bq1))) (fun bq1 => ?_)
      refine j_aload_n d_Mo_faultOf_15 rfl rfl ?_
      refine j_iload_n d_Mo_faultOf_16 rfl rfl ?_
      refine q_i (s_Mo_faultOf_17 rfl (by decide)) rfl (Nat.le_of_ble_eq_true rfl) (Nat.le_of_ble_eq_true rfl) ?_
      refine c_Mo_isGood (i := i) (c := P.2 i) (by omega) (hp.2 i (by omega)) (hG1.2 i (by omega)) rfl hei he ?_
      rw [if_pos u]
      refine j_if_eq (tgt := 29) d_Mo_faultOf_20 rfl (fun bq2 => False.elim (absurd bq2 (by decide))) (fun bq2 => ?_)
      refine j_iinc (ls' := [(1, _), (0, _)]) d_Mo_faultOf_23 rfl (by decide) rfl ?_
      refine j_goto (tgt := 7) d_Mo_faultOf_26 rfl ?_
      refine j_pick [1, 0] (ls' := [(0, _), (1, _)]) rfl ?_
      have e8 : a_fl P.2 (m + 1) i e = a_fl P.2 m (i + 1) (if e = 0 ∧ P.2 i = 59 then i else e) := if_pos u
      rw [e8] at hF
      by_cases c : e = 0 ∧ P.2 i = 59
      · rw [if_pos ⟨u, c⟩]
        rw [if_pos c] at hF
        exact ih (i + 1) i _ _ (by omega) (nI_inc i) (by omega) (hy.fl (by decide)) rfl hF
      · rw [if_neg (fun q => c q.2)]
        rw [if_neg c] at hF
        exact ih (i + 1) e _ _ (by omega) (nI_inc i) (by omega) hy he hF
    · refine j_iload_n d_Mo_faultOf_7 rfl rfl ?_
      refine j_aload_n d_Mo_faultOf_8 rfl rfl ?_
      refine j_geti d_Mo_faultOf_9 f_Mo_59 rfl rfl (by decide) ?_
      refine j_icmp_ge (tgt := 29) d_Mo_faultOf_12 rfl (fun bq1 => False.elim (nI_ge (by omega) (by omega) (hG1.1 ▸ bq1))) (fun bq1 => ?_)
      refine j_aload_n d_Mo_faultOf_15 rfl rfl ?_
      refine j_iload_n d_Mo_faultOf_16 rfl rfl ?_
      refine q_i (s_Mo_faultOf_17 rfl (by decide)) rfl (Nat.le_of_ble_eq_true rfl) (Nat.le_of_ble_eq_true rfl) ?_
      refine c_Mo_isGood (i := i) (c := P.2 i) (by omega) (hp.2 i (by omega)) (hG1.2 i (by omega)) rfl hei he ?_
      rw [if_neg u, if_neg (fun q => u q.1)]
      refine j_if_eq (tgt := 29) d_Mo_faultOf_20 rfl (fun bq2 => ?_) (fun bq2 => False.elim (bq2 rfl))
      refine j_iload_n d_Mo_faultOf_29 rfl rfl ?_
      refine j_iret d_Mo_faultOf_30 rfl ?_
      have e8 : a_fl P.2 (m + 1) i e = (i, e) := if_neg u
      rw [e8] at hF
      exact q_i1 (hF _ hy he) rfl
set_option maxRecDepth 100000 in
set_option maxHeartbeats 4000000 in
theorem c_Mo_faultOf {G : r_X} {d : Nat} {h : r_HI} {p q : Nat} {z : r_HL} {F : Int32 → r_HI → r_HR → r_HL → Prop} {P : a_P} (hG : p_G h P) (hp : a_pok P) (hF : ∀ h', r_ey [] [2] h h' → h' 47 2 = nI (a_fl P.2 P.1 0 0).2 → F (nI (a_fl P.2 P.1 0 0).1) h' (r_gp p q) z) : r_Ci G m_Mo_faultOf (d + 3) 61 [.ref (G.2.1 + 47)] 61 h (r_gp p q) z F := by
  refine r_C_of (by decide +kernel) (Nat.le_of_ble_eq_true rfl) ?_
  refine j_ls (ls' := [(0, _)]) rfl ?_
  refine j_aload_n d_Mo_faultOf_0 rfl rfl ?_
  refine j_iconst (v := 0) d_Mo_faultOf_1 rfl ?_
  refine j_puti d_Mo_faultOf_2 f_Mo_66 (by decide) rfl rfl (by decide) ?_
  refine j_iconst (v := 0) d_Mo_faultOf_5 rfl ?_
  refine j_istore_n (ls' := [(1, _), (0, _)]) d_Mo_faultOf_6 rfl (by decide) rfl ?_
  refine j_pick [1, 0] (ls' := [(0, _), (1, _)]) rfl ?_
  exact l_Mo_faultOf hG hp P.1 0 0 _ _ (by omega) rfl (Nat.le_refl 0) (r_ey.rf.fl (by decide)) rfl hF
set_option maxRecDepth 100000 in
set_option maxHeartbeats 4000000 in
theorem c_Mo_fault {G : r_X} {d : Nat} {h : r_HI} {p q : Nat} {z : r_HL} {F : Int32 → r_HI → r_HR → r_HL → Prop} {Z : a_Z} (hM : p_M h Z) (ho : a_zok Z) (hF : ∀ h', r_ml h h' → p_M h' (s_fault Z).2 → F (s_fault Z).1 h' (r_gp p q) z) : r_Ci G m_Mo_fault (d + 20) 61 [.ref (G.2.1 + 47)] 61 h (r_gp p q) z F := by
  obtain ⟨mG, mN, mJ0, m6, mW, mS, m11, m20, mkk, mkp⟩ := id hM
  obtain ⟨op, ⟨od, ok, otk, ow, os, okd⟩, o3, o4, o5, o6, o7⟩ := id ho
  obtain ⟨od1, od2, od3, od4⟩ := id od
  obtain ⟨ok1, ok2, ok3, ok4⟩ := id ok
  have os1 := os.1
  have op1 := op.1
  refine r_C_of (by decide +kernel) (Nat.le_of_ble_eq_true rfl) ?_
  refine j_ls (ls' := [(0, _)]) rfl ?_
  refine j_aload_n d_Mo_fault_0 rfl rfl ?_
  refine q_i (s_Mo_fault_1 rfl (by decide)) rfl (Nat.le_of_ble_eq_true rfl) (Nat.le_of_ble_eq_true rfl) ?_
  refine c_Mo_faultOf mG op (fun h1 y1 e1 => ?_)
  refine j_iret d_Mo_fault_4 rfl ?_
  exact q_i1 (hF _ (y1.ml (by decide)) (hM.scr (y1.mono (by decide) (by decide)))) rfl
