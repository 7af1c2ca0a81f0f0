theorem r_gp_18 {p q k : Nat} (h : k < 5) : r_gp p q 18 k = some (19 + k) := by
  match k, h with
  | 0, _ => rfl
  | 1, _ => rfl
  | 2, _ => rfl
  | 3, _ => rfl
  | 4, _ => rfl
set_option maxRecDepth 100000 in
set_option maxHeartbeats 4000000 in
theorem c_Ra_policyOf {G : r_X} {d : Nat} {h : r_HI} {p q : Nat} {z : r_HL} {F : Nat → r_HI → r_HR → r_HL → Prop} {k : Nat} {a1 : Int32} (hk : k < 5) (e1 : a1 = nI k) (hF : F (19 + k) h (r_gp p q) z) : r_Ca G m_Ra_policyOf (d) 61 [.ref (G.2.1 + 0), .int a1] 61 h (r_gp p q) z F := by
  subst e1
  refine r_C_of (by decide +kernel) (Nat.le_of_ble_eq_true rfl) ?_
  refine j_ls (ls' := [(0, _), (1, _)]) rfl ?_
  refine j_iload_n d_Ra_policyOf_0 rfl rfl ?_
  refine j_if_lt (tgt := 13) d_Ra_policyOf_1 rfl (fun bq1 => False.elim (nI_pos (by omega) bq1)) (fun bq1 => ?_)
  refine j_iload_n d_Ra_policyOf_4 rfl rfl ?_
  refine j_aload_n d_Ra_policyOf_5 rfl rfl ?_
  refine j_getr d_Ra_policyOf_6 f_Ra_61 rfl rfl (by decide) rfl ?_
  refine j_alenq d_Ra_policyOf_9 rfl (by decide) rfl ?_
  refine j_icmp_lt (tgt := 18) d_Ra_policyOf_10 rfl (fun bq2 => ?_) (fun bq2 => False.elim (bq2 (nI_lt (b := 5) (by omega) (by omega))))
  refine j_aload_n d_Ra_policyOf_18 rfl rfl ?_
  refine j_getr d_Ra_policyOf_19 f_Ra_61 rfl rfl (by decide) rfl ?_
  refine j_iload_n d_Ra_policyOf_22 rfl rfl ?_
  refine j_aald d_Ra_policyOf_23 rfl (by decide) (nI_ix hk (by omega)) (by rw [nI_cl (by omega)]; exact r_gp_18 hk) ?_
  refine j_astore_n (ls' := [(2, _), (0, _), (1, _)]) d_Ra_policyOf_24 rfl (by decide) rfl ?_
  refine j_aload_n d_Ra_policyOf_25 rfl rfl ?_
  refine j_nonnull (tgt := 36) d_Ra_policyOf_26 rfl ?_
  refine j_aload_n d_Ra_policyOf_36 rfl rfl ?_
  refine j_aret d_Ra_policyOf_37 rfl ?_
  exact ⟨_, rfl, hF⟩
def a_is (kd k : Nat) : Bool := decide (k = 0 ∨ k = kd ∨ (k = 1 ∧ kd = 4) ∨ (k = 2 ∧ kd = 3))
set_option maxRecDepth 100000 in
set_option maxHeartbeats 4000000 in
theorem c_Ra_isOf {G : r_X} {d : Nat} {h : r_HI} {p q : Nat} {z : r_HL} {F : Int32 → r_HI → r_HR → r_HL → Prop} {P k : Nat} {a1 : Int32} (hP : r_pol P) (hk : k < 5) (e1 : a1 = nI k) (hF : F (if a_is (r_kd P) k then 1 else 0) h (r_gp p q) z) : r_Ci G m_Ra_isOf (d) 61 [.ref (G.2.1 + P), .int a1] 61 h (r_gp p q) z F := by
  subst e1
  rcases hP.cases with rfl | rfl | rfl | rfl | rfl | rfl
  · refine r_C_of (by decide +kernel) (Nat.le_of_ble_eq_true rfl) ?_
    refine j_ls (ls' := [(0, _), (1, _)]) rfl ?_
    refine j_iload_n d_Ra_isOf_0 rfl rfl ?_
    rcases (show (nI k).toInt < 0 ∨ 4 < (nI k).toInt ∨ (nI k).toInt = 0 ∨ (nI k).toInt = 1 ∨ (nI k).toInt = 2 ∨ (nI k).toInt = 3 ∨ (nI k).toInt = 4 by omega) with t9 | t9 | t9 | t9 | t9 | t9 | t9
    · refine j_tabOut (tgt := 58) d_Ra_isOf_1 (Or.inl t9) rfl ?_
      refine j_iconst (v := 0) d_Ra_isOf_58 rfl ?_
      refine j_zret d_Ra_isOf_59 rfl (by decide) ?_
      have e9 := nI_toInt (n := k) (by omega)
      rw [e9] at t9
      first
        | (have e7 : k = 0 := by omega
           subst e7
           exact q_i1 hF rfl)
        | (have e7 : k = 1 := by omega
           subst e7
           exact q_i1 hF rfl)
        | (have e7 : k = 2 := by omega
           subst e7
           exact q_i1 hF rfl)
        | (have e7 : k = 3 := by omega
           subst e7
           exact q_i1 hF rfl)
        | (have e7 : k = 4 := by omega
           subst e7
           exact q_i1 hF rfl)
        | exact absurd t9 (by omega)
    · refine j_tabOut (tgt := 58) d_Ra_isOf_1 (Or.inr t9) rfl ?_
      refine j_iconst (v := 0) d_Ra_isOf_58 rfl ?_
      refine j_zret d_Ra_isOf_59 rfl (by decide) ?_
      have e9 := nI_toInt (n := k) (by omega)
      rw [e9] at t9
      first
        | (have e7 : k = 0 := by omega
           subst e7
           exact q_i1 hF rfl)
        | (have e7 : k = 1 := by omega
           subst e7
           exact q_i1 hF rfl)
        | (have e7 : k = 2 := by omega
           subst e7
           exact q_i1 hF rfl)
        | (have e7 : k = 3 := by omega
           subst e7
           exact q_i1 hF rfl)
        | (have e7 : k = 4 := by omega
           subst e7
           exact q_i1 hF rfl)
        | exact absurd t9 (by omega)
    · refine j_tabIn (off := 35) (tgt := 36) d_Ra_isOf_1 (by rw [t9]; decide) (by rw [t9]; decide) (by rw [t9]; rfl) rfl ?_
      refine j_iconst (v := 1) d_Ra_isOf_36 rfl ?_
      refine j_zret d_Ra_isOf_37 rfl (by decide) ?_
      have e9 := nI_toInt (n := k) (by omega)
      rw [e9] at t9
      first
        | (have e7 : k = 0 := by omega
           subst e7
           exact q_i1 hF rfl)
        | (have e7 : k = 1 := by omega
           subst e7
           exact q_i1 hF rfl)
        | (have e7 : k = 2 := by omega
           subst e7
           exact q_i1 hF rfl)
        | (have e7 : k = 3 := by omega
           subst e7
           exact q_i1 hF rfl)
        | (have e7 : k = 4 := by omega
           subst e7
           exact q_i1 hF rfl)
        | exact absurd t9 (by omega)
    · refine j_tabIn (off := 37) (tgt := 38) d_Ra_isOf_1 (by rw [t9]; decide) (by rw [t9]; decide) (by rw [t9]; rfl) rfl ?_
      refine j_aload_n d_Ra_isOf_38 rfl rfl ?_
      refine j_instN (c := 2) d_Ra_isOf_39 l_Ra_49 (by decide) (by decide) rfl (by decide) ?_
      refine j_zret d_Ra_isOf_42 rfl (by decide) ?_
      have e9 := nI_toInt (n := k) (by omega)
      rw [e9] at t9
      first
        | (have e7 : k = 0 := by omega
           subst e7
           exact q_i1 hF rfl)
        | (have e7 : k = 1 := by omega
           subst e7
           exact q_i1 hF rfl)
        | (have e7 : k = 2 := by omega
           subst e7
           exact q_i1 hF rfl)
        | (have e7 : k = 3 := by omega
           subst e7
           exact q_i1 hF rfl)
        | (have e7 : k = 4 := by omega
           subst e7
           exact q_i1 hF rfl)
        | exact absurd t9 (by omega)
    · refine j_tabIn (off := 42) (tgt := 43) d_Ra_isOf_1 (by rw [t9]; decide) (by rw [t9]; decide) (by rw [t9]; rfl) rfl ?_
      refine j_aload_n d_Ra_isOf_43 rfl rfl ?_
      refine j_instN (c := 2) d_Ra_isOf_44 l_Ra_52 (by decide) (by decide) rfl (by decide) ?_
      refine j_zret d_Ra_isOf_47 rfl (by decide) ?_
      have e9 := nI_toInt (n := k) (by omega)
      rw [e9] at t9
      first
        | (have e7 : k = 0 := by omega
           subst e7
           exact q_i1 hF rfl)
        | (have e7 : k = 1 := by omega
           subst e7
           exact q_i1 hF rfl)
        | (have e7 : k = 2 := by omega
           subst e7
           exact q_i1 hF rfl)
        | (have e7 : k = 3 := by omega
           subst e7
           exact q_i1 hF rfl)
        | (have e7 : k = 4 := by omega
           subst e7
           exact q_i1 hF rfl)
        | exact absurd t9 (by omega)
    · refine j_tabIn (off := 47) (tgt := 48) d_Ra_isOf_1 (by rw [t9]; decide) (by rw [t9]; decide) (by rw [t9]; rfl) rfl ?_
      refine j_aload_n d_Ra_isOf_48 rfl rfl ?_
      refine j_instN (c := 2) d_Ra_isOf_49 l_Ra_55 (by decide) (by decide) rfl (by decide) ?_
      refine j_zret d_Ra_isOf_52 rfl (by decide) ?_
      have e9 := nI_toInt (n := k) (by omega)
      rw [e9] at t9
      first
        | (have e7 : k = 0 := by omega
           subst e7
           exact q_i1 hF rfl)
        | (have e7 : k = 1 := by omega
           subst e7
           exact q_i1 hF rfl)
        | (have e7 : k = 2 := by omega
           subst e7
           exact q_i1 hF rfl)
        | (have e7 : k = 3 := by omega
           subst e7
           exact q_i1 hF rfl)
        | (have e7 : k = 4 := by omega
           subst e7
           exact q_i1 hF rfl)
        | exact absurd t9 (by omega)
    · refine j_tabIn (off := 52) (tgt := 53) d_Ra_isOf_1 (by rw [t9]; decide) (by rw [t9]; decide) (by rw [t9]; rfl) rfl ?_
      refine j_aload_n d_Ra_isOf_53 rfl rfl ?_
      refine j_instN (c := 2) d_Ra_isOf_54 l_Ra_58 (by decide) (by decide) rfl (by decide) ?_
      refine j_zret d_Ra_isOf_57 rfl (by decide) ?_
      have e9 := nI_toInt (n := k) (by omega)
      rw [e9] at t9
      first
        | (have e7 : k = 0 := by omega
           subst e7
           exact q_i1 hF rfl)
        | (have e7 : k = 1 := by omega
           subst e7
           exact q_i1 hF rfl)
        | (have e7 : k = 2 := by omega
           subst e7
           exact q_i1 hF rfl)
        | (have e7 : k = 3 := by omega
           subst e7
           exact q_i1 hF rfl)
        | (have e7 : k = 4 := by omega
           subst e7
           exact q_i1 hF rfl)
        | exact absurd t9 (by omega)
  · refine r_C_of (by decide +kernel) (Nat.le_of_ble_eq_true rfl) ?_
    refine j_ls (ls' := [(0, _), (1, _)]) rfl ?_
    refine j_iload_n d_Ra_isOf_0 rfl rfl ?_
    rcases (show (nI k).toInt < 0 ∨ 4 < (nI k).toInt ∨ (nI k).toInt = 0 ∨ (nI k).toInt = 1 ∨ (nI k).toInt = 2 ∨ (nI k).toInt = 3 ∨ (nI k).toInt = 4 by omega) with t9 | t9 | t9 | t9 | t9 | t9 | t9
    · refine j_tabOut (tgt := 58) d_Ra_isOf_1 (Or.inl t9) rfl ?_
      refine j_iconst (v := 0) d_Ra_isOf_58 rfl ?_
      refine j_zret d_Ra_isOf_59 rfl (by decide) ?_
      have e9 := nI_toInt (n := k) (by omega)
      rw [e9] at t9
      first
        | (have e7 : k = 0 := by omega
           subst e7
           exact q_i1 hF rfl)
        | (have e7 : k = 1 := by omega
           subst e7
           exact q_i1 hF rfl)
        | (have e7 : k = 2 := by omega
           subst e7
           exact q_i1 hF rfl)
        | (have e7 : k = 3 := by omega
           subst e7
           exact q_i1 hF rfl)
        | (have e7 : k = 4 := by omega
           subst e7
           exact q_i1 hF rfl)
        | exact absurd t9 (by omega)
    · refine j_tabOut (tgt := 58) d_Ra_isOf_1 (Or.inr t9) rfl ?_
      refine j_iconst (v := 0) d_Ra_isOf_58 rfl ?_
      refine j_zret d_Ra_isOf_59 rfl (by decide) ?_
      have e9 := nI_toInt (n := k) (by omega)
      rw [e9] at t9
      first
        | (have e7 : k = 0 := by omega
           subst e7
           exact q_i1 hF rfl)
        | (have e7 : k = 1 := by omega
           subst e7
           exact q_i1 hF rfl)
        | (have e7 : k = 2 := by omega
           subst e7
           exact q_i1 hF rfl)
        | (have e7 : k = 3 := by omega
           subst e7
           exact q_i1 hF rfl)
        | (have e7 : k = 4 := by omega
           subst e7
           exact q_i1 hF rfl)
        | exact absurd t9 (by omega)
    · refine j_tabIn (off := 35) (tgt := 36) d_Ra_isOf_1 (by rw [t9]; decide) (by rw [t9]; decide) (by rw [t9]; rfl) rfl ?_
      refine j_iconst (v := 1) d_Ra_isOf_36 rfl ?_
      refine j_zret d_Ra_isOf_37 rfl (by decide) ?_
      have e9 := nI_toInt (n := k) (by omega)
      rw [e9] at t9
      first
        | (have e7 : k = 0 := by omega
           subst e7
           exact q_i1 hF rfl)
        | (have e7 : k = 1 := by omega
           subst e7
           exact q_i1 hF rfl)
        | (have e7 : k = 2 := by omega
           subst e7
           exact q_i1 hF rfl)
        | (have e7 : k = 3 := by omega
           subst e7
           exact q_i1 hF rfl)
        | (have e7 : k = 4 := by omega
           subst e7
           exact q_i1 hF rfl)
        | exact absurd t9 (by omega)
    · refine j_tabIn (off := 37) (tgt := 38) d_Ra_isOf_1 (by rw [t9]; decide) (by rw [t9]; decide) (by rw [t9]; rfl) rfl ?_
      refine j_aload_n d_Ra_isOf_38 rfl rfl ?_
      refine j_instS (c := 3) d_Ra_isOf_39 l_Ra_49 (by decide) rfl (by decide) ?_
      refine j_zret d_Ra_isOf_42 rfl (by decide) ?_
      have e9 := nI_toInt (n := k) (by omega)
      rw [e9] at t9
      first
        | (have e7 : k = 0 := by omega
           subst e7
           exact q_i1 hF rfl)
        | (have e7 : k = 1 := by omega
           subst e7
           exact q_i1 hF rfl)
        | (have e7 : k = 2 := by omega
           subst e7
           exact q_i1 hF rfl)
        | (have e7 : k = 3 := by omega
           subst e7
           exact q_i1 hF rfl)
        | (have e7 : k = 4 := by omega
           subst e7
           exact q_i1 hF rfl)
        | exact absurd t9 (by omega)
    · refine j_tabIn (off := 42) (tgt := 43) d_Ra_isOf_1 (by rw [t9]; decide) (by rw [t9]; decide) (by rw [t9]; rfl) rfl ?_
      refine j_aload_n d_Ra_isOf_43 rfl rfl ?_
      refine j_instN (c := 3) d_Ra_isOf_44 l_Ra_52 (by decide) (by decide) rfl (by decide) ?_
      refine j_zret d_Ra_isOf_47 rfl (by decide) ?_
      have e9 := nI_toInt (n := k) (by omega)
      rw [e9] at t9
      first
        | (have e7 : k = 0 := by omega
           subst e7
           exact q_i1 hF rfl)
        | (have e7 : k = 1 := by omega
           subst e7
           exact q_i1 hF rfl)
        | (have e7 : k = 2 := by omega
           subst e7
           exact q_i1 hF rfl)
        | (have e7 : k = 3 := by omega
           subst e7
           exact q_i1 hF rfl)
        | (have e7 : k = 4 := by omega
           subst e7
           exact q_i1 hF rfl)
        | exact absurd t9 (by omega)
    · refine j_tabIn (off := 47) (tgt := 48) d_Ra_isOf_1 (by rw [t9]; decide) (by rw [t9]; decide) (by rw [t9]; rfl) rfl ?_
      refine j_aload_n d_Ra_isOf_48 rfl rfl ?_
      refine j_instN (c := 3) d_Ra_isOf_49 l_Ra_55 (by decide) (by decide) rfl (by decide) ?_
      refine j_zret d_Ra_isOf_52 rfl (by decide) ?_
      have e9 := nI_toInt (n := k) (by omega)
      rw [e9] at t9
      first
        | (have e7 : k = 0 := by omega
           subst e7
           exact q_i1 hF rfl)
        | (have e7 : k = 1 := by omega
           subst e7
           exact q_i1 hF rfl)
        | (have e7 : k = 2 := by omega
           subst e7
           exact q_i1 hF rfl)
        | (have e7 : k = 3 := by omega
           subst e7
           exact q_i1 hF rfl)
        | (have e7 : k = 4 := by omega
           subst e7
           exact q_i1 hF rfl)
        | exact absurd t9 (by omega)
    · refine j_tabIn (off := 52) (tgt := 53) d_Ra_isOf_1 (by rw [t9]; decide) (by rw [t9]; decide) (by rw [t9]; rfl) rfl ?_
      refine j_aload_n d_Ra_isOf_53 rfl rfl ?_
      refine j_instN (c := 3) d_Ra_isOf_54 l_Ra_58 (by decide) (by decide) rfl (by decide) ?_
      refine j_zret d_Ra_isOf_57 rfl (by decide) ?_
      have e9 := nI_toInt (n := k) (by omega)
      rw [e9] at t9
      first
        | (have e7 : k = 0 := by omega
           subst e7
           exact q_i1 hF rfl)
        | (have e7 : k = 1 := by omega
           subst e7
           exact q_i1 hF rfl)
        | (have e7 : k = 2 := by omega
           subst e7
           exact q_i1 hF rfl)
        | (have e7 : k = 3 := by omega
           subst e7
           exact q_i1 hF rfl)
        | (have e7 : k = 4 := by omega
           subst e7
           exact q_i1 hF rfl)
        | exact absurd t9 (by omega)
  · refine r_C_of (by decide +kernel) (Nat.le_of_ble_eq_true rfl) ?_
    refine j_ls (ls' := [(0, _), (1, _)]) rfl ?_
    refine j_iload_n d_Ra_isOf_0 rfl rfl ?_
    rcases (show (nI k).toInt < 0 ∨ 4 < (nI k).toInt ∨ (nI k).toInt = 0 ∨ (nI k).toInt = 1 ∨ (nI k).toInt = 2 ∨ (nI k).toInt = 3 ∨ (nI k).toInt = 4 by omega) with t9 | t9 | t9 | t9 | t9 | t9 | t9
    · refine j_tabOut (tgt := 58) d_Ra_isOf_1 (Or.inl t9) rfl ?_
      refine j_iconst (v := 0) d_Ra_isOf_58 rfl ?_
      refine j_zret d_Ra_isOf_59 rfl (by decide) ?_
      have e9 := nI_toInt (n := k) (by omega)
      rw [e9] at t9
      first
        | (have e7 : k = 0 := by omega
           subst e7
           exact q_i1 hF rfl)
        | (have e7 : k = 1 := by omega
           subst e7
           exact q_i1 hF rfl)
        | (have e7 : k = 2 := by omega
           subst e7
           exact q_i1 hF rfl)
        | (have e7 : k = 3 := by omega
           subst e7
           exact q_i1 hF rfl)
        | (have e7 : k = 4 := by omega
           subst e7
           exact q_i1 hF rfl)
        | exact absurd t9 (by omega)
    · refine j_tabOut (tgt := 58) d_Ra_isOf_1 (Or.inr t9) rfl ?_
      refine j_iconst (v := 0) d_Ra_isOf_58 rfl ?_
      refine j_zret d_Ra_isOf_59 rfl (by decide) ?_
      have e9 := nI_toInt (n := k) (by omega)
      rw [e9] at t9
      first
        | (have e7 : k = 0 := by omega
           subst e7
           exact q_i1 hF rfl)
        | (have e7 : k = 1 := by omega
           subst e7
           exact q_i1 hF rfl)
        | (have e7 : k = 2 := by omega
           subst e7
           exact q_i1 hF rfl)
        | (have e7 : k = 3 := by omega
           subst e7
           exact q_i1 hF rfl)
        | (have e7 : k = 4 := by omega
           subst e7
           exact q_i1 hF rfl)
        | exact absurd t9 (by omega)
    · refine j_tabIn (off := 35) (tgt := 36) d_Ra_isOf_1 (by rw [t9]; decide) (by rw [t9]; decide) (by rw [t9]; rfl) rfl ?_
      refine j_iconst (v := 1) d_Ra_isOf_36 rfl ?_
      refine j_zret d_Ra_isOf_37 rfl (by decide) ?_
      have e9 := nI_toInt (n := k) (by omega)
      rw [e9] at t9
      first
        | (have e7 : k = 0 := by omega
           subst e7
           exact q_i1 hF rfl)
        | (have e7 : k = 1 := by omega
           subst e7
           exact q_i1 hF rfl)
        | (have e7 : k = 2 := by omega
           subst e7
           exact q_i1 hF rfl)
        | (have e7 : k = 3 := by omega
           subst e7
           exact q_i1 hF rfl)
        | (have e7 : k = 4 := by omega
           subst e7
           exact q_i1 hF rfl)
        | exact absurd t9 (by omega)
    · refine j_tabIn (off := 37) (tgt := 38) d_Ra_isOf_1 (by rw [t9]; decide) (by rw [t9]; decide) (by rw [t9]; rfl) rfl ?_
      refine j_aload_n d_Ra_isOf_38 rfl rfl ?_
      refine j_instN (c := 9) d_Ra_isOf_39 l_Ra_49 (by decide) (by decide) rfl (by decide) ?_
      refine j_zret d_Ra_isOf_42 rfl (by decide) ?_
      have e9 := nI_toInt (n := k) (by omega)
      rw [e9] at t9
      first
        | (have e7 : k = 0 := by omega
           subst e7
           exact q_i1 hF rfl)
        | (have e7 : k = 1 := by omega
           subst e7
           exact q_i1 hF rfl)
        | (have e7 : k = 2 := by omega
           subst e7
           exact q_i1 hF rfl)
        | (have e7 : k = 3 := by omega
           subst e7
           exact q_i1 hF rfl)
        | (have e7 : k = 4 := by omega
           subst e7
           exact q_i1 hF rfl)
        | exact absurd t9 (by omega)
    · refine j_tabIn (off := 42) (tgt := 43) d_Ra_isOf_1 (by rw [t9]; decide) (by rw [t9]; decide) (by rw [t9]; rfl) rfl ?_
      refine j_aload_n d_Ra_isOf_43 rfl rfl ?_
      refine j_instS (c := 9) d_Ra_isOf_44 l_Ra_52 (by decide) rfl (by decide) ?_
      refine j_zret d_Ra_isOf_47 rfl (by decide) ?_
      have e9 := nI_toInt (n := k) (by omega)
      rw [e9] at t9
      first
        | (have e7 : k = 0 := by omega
           subst e7
           exact q_i1 hF rfl)
        | (have e7 : k = 1 := by omega
           subst e7
           exact q_i1 hF rfl)
        | (have e7 : k = 2 := by omega
           subst e7
           exact q_i1 hF rfl)
        | (have e7 : k = 3 := by omega
           subst e7
           exact q_i1 hF rfl)
        | (have e7 : k = 4 := by omega
           subst e7
           exact q_i1 hF rfl)
        | exact absurd t9 (by omega)
    · refine j_tabIn (off := 47) (tgt := 48) d_Ra_isOf_1 (by rw [t9]; decide) (by rw [t9]; decide) (by rw [t9]; rfl) rfl ?_
      refine j_aload_n d_Ra_isOf_48 rfl rfl ?_
      refine j_instN (c := 9) d_Ra_isOf_49 l_Ra_55 (by decide) (by decide) rfl (by decide) ?_
      refine j_zret d_Ra_isOf_52 rfl (by decide) ?_
      have e9 := nI_toInt (n := k) (by omega)
      rw [e9] at t9
      first
        | (have e7 : k = 0 := by omega
           subst e7
           exact q_i1 hF rfl)
        | (have e7 : k = 1 := by omega
           subst e7
           exact q_i1 hF rfl)
        | (have e7 : k = 2 := by omega
           subst e7
           exact q_i1 hF rfl)
        | (have e7 : k = 3 := by omega
           subst e7
           exact q_i1 hF rfl)
        | (have e7 : k = 4 := by omega
           subst e7
           exact q_i1 hF rfl)
        | exact absurd t9 (by omega)
    · refine j_tabIn (off := 52) (tgt := 53) d_Ra_isOf_1 (by rw [t9]; decide) (by rw [t9]; decide) (by rw [t9]; rfl) rfl ?_
      refine j_aload_n d_Ra_isOf_53 rfl rfl ?_
      refine j_instN (c := 9) d_Ra_isOf_54 l_Ra_58 (by decide) (by decide) rfl (by decide) ?_
      refine j_zret d_Ra_isOf_57 rfl (by decide) ?_
      have e9 := nI_toInt (n := k) (by omega)
      rw [e9] at t9
      first
        | (have e7 : k = 0 := by omega
           subst e7
           exact q_i1 hF rfl)
        | (have e7 : k = 1 := by omega
           subst e7
           exact q_i1 hF rfl)
        | (have e7 : k = 2 := by omega
           subst e7
           exact q_i1 hF rfl)
        | (have e7 : k = 3 := by omega
           subst e7
           exact q_i1 hF rfl)
        | (have e7 : k = 4 := by omega
           subst e7
           exact q_i1 hF rfl)
        | exact absurd t9 (by omega)
  · refine r_C_of (by decide +kernel) (Nat.le_of_ble_eq_true rfl) ?_
    refine j_ls (ls' := [(0, _), (1, _)]) rfl ?_
    refine j_iload_n d_Ra_isOf_0 rfl rfl ?_
    rcases (show (nI k).toInt < 0 ∨ 4 < (nI k).toInt ∨ (nI k).toInt = 0 ∨ (nI k).toInt = 1 ∨ (nI k).toInt = 2 ∨ (nI k).toInt = 3 ∨ (nI k).toInt = 4 by omega) with t9 | t9 | t9 | t9 | t9 | t9 | t9
    · refine j_tabOut (tgt := 58) d_Ra_isOf_1 (Or.inl t9) rfl ?_
      refine j_iconst (v := 0) d_Ra_isOf_58 rfl ?_
      refine j_zret d_Ra_isOf_59 rfl (by decide) ?_
      have e9 := nI_toInt (n := k) (by omega)
      rw [e9] at t9
      first
        | (have e7 : k = 0 := by omega
           subst e7
           exact q_i1 hF rfl)
        | (have e7 : k = 1 := by omega
           subst e7
           exact q_i1 hF rfl)
        | (have e7 : k = 2 := by omega
           subst e7
           exact q_i1 hF rfl)
        | (have e7 : k = 3 := by omega
           subst e7
           exact q_i1 hF rfl)
        | (have e7 : k = 4 := by omega
           subst e7
           exact q_i1 hF rfl)
        | exact absurd t9 (by omega)
    · refine j_tabOut (tgt := 58) d_Ra_isOf_1 (Or.inr t9) rfl ?_
      refine j_iconst (v := 0) d_Ra_isOf_58 rfl ?_
      refine j_zret d_Ra_isOf_59 rfl (by decide) ?_
      have e9 := nI_toInt (n := k) (by omega)
      rw [e9] at t9
      first
        | (have e7 : k = 0 := by omega
           subst e7
           exact q_i1 hF rfl)
        | (have e7 : k = 1 := by omega
           subst e7
           exact q_i1 hF rfl)
        | (have e7 : k = 2 := by omega
           subst e7
           exact q_i1 hF rfl)
        | (have e7 : k = 3 := by omega
           subst e7
           exact q_i1 hF rfl)
        | (have e7 : k = 4 := by omega
           subst e7
           exact q_i1 hF rfl)
        | exact absurd t9 (by omega)
    · refine j_tabIn (off := 35) (tgt := 36) d_Ra_isOf_1 (by rw [t9]; decide) (by rw [t9]; decide) (by rw [t9]; rfl) rfl ?_
      refine j_iconst (v := 1) d_Ra_isOf_36 rfl ?_
      refine j_zret d_Ra_isOf_37 rfl (by decide) ?_
      have e9 := nI_toInt (n := k) (by omega)
      rw [e9] at t9
      first
        | (have e7 : k = 0 := by omega
           subst e7
           exact q_i1 hF rfl)
        | (have e7 : k = 1 := by omega
           subst e7
           exact q_i1 hF rfl)
        | (have e7 : k = 2 := by omega
           subst e7
           exact q_i1 hF rfl)
        | (have e7 : k = 3 := by omega
           subst e7
           exact q_i1 hF rfl)
        | (have e7 : k = 4 := by omega
           subst e7
           exact q_i1 hF rfl)
        | exact absurd t9 (by omega)
    · refine j_tabIn (off := 37) (tgt := 38) d_Ra_isOf_1 (by rw [t9]; decide) (by rw [t9]; decide) (by rw [t9]; rfl) rfl ?_
      refine j_aload_n d_Ra_isOf_38 rfl rfl ?_
      refine j_instN (c := 6) d_Ra_isOf_39 l_Ra_49 (by decide) (by decide) rfl (by decide) ?_
      refine j_zret d_Ra_isOf_42 rfl (by decide) ?_
      have e9 := nI_toInt (n := k) (by omega)
      rw [e9] at t9
      first
        | (have e7 : k = 0 := by omega
           subst e7
           exact q_i1 hF rfl)
        | (have e7 : k = 1 := by omega
           subst e7
           exact q_i1 hF rfl)
        | (have e7 : k = 2 := by omega
           subst e7
           exact q_i1 hF rfl)
        | (have e7 : k = 3 := by omega
           subst e7
           exact q_i1 hF rfl)
        | (have e7 : k = 4 := by omega
           subst e7
           exact q_i1 hF rfl)
        | exact absurd t9 (by omega)
    · refine j_tabIn (off := 42) (tgt := 43) d_Ra_isOf_1 (by rw [t9]; decide) (by rw [t9]; decide) (by rw [t9]; rfl) rfl ?_
      refine j_aload_n d_Ra_isOf_43 rfl rfl ?_
      refine j_instY (c := 6) d_Ra_isOf_44 l_Ra_52 (by decide) (by decide) rfl (by decide) ?_
      refine j_zret d_Ra_isOf_47 rfl (by decide) ?_
      have e9 := nI_toInt (n := k) (by omega)
      rw [e9] at t9
      first
        | (have e7 : k = 0 := by omega
           subst e7
           exact q_i1 hF rfl)
        | (have e7 : k = 1 := by omega
           subst e7
           exact q_i1 hF rfl)
        | (have e7 : k = 2 := by omega
           subst e7
           exact q_i1 hF rfl)
        | (have e7 : k = 3 := by omega
           subst e7
           exact q_i1 hF rfl)
        | (have e7 : k = 4 := by omega
           subst e7
           exact q_i1 hF rfl)
        | exact absurd t9 (by omega)
    · refine j_tabIn (off := 47) (tgt := 48) d_Ra_isOf_1 (by rw [t9]; decide) (by rw [t9]; decide) (by rw [t9]; rfl) rfl ?_
      refine j_aload_n d_Ra_isOf_48 rfl rfl ?_
      refine j_instS (c := 6) d_Ra_isOf_49 l_Ra_55 (by decide) rfl (by decide) ?_
      refine j_zret d_Ra_isOf_52 rfl (by decide) ?_
      have e9 := nI_toInt (n := k) (by omega)
      rw [e9] at t9
      first
        | (have e7 : k = 0 := by omega
           subst e7
           exact q_i1 hF rfl)
        | (have e7 : k = 1 := by omega
           subst e7
           exact q_i1 hF rfl)
        | (have e7 : k = 2 := by omega
           subst e7
           exact q_i1 hF rfl)
        | (have e7 : k = 3 := by omega
           subst e7
           exact q_i1 hF rfl)
        | (have e7 : k = 4 := by omega
           subst e7
           exact q_i1 hF rfl)
        | exact absurd t9 (by omega)
    · refine j_tabIn (off := 52) (tgt := 53) d_Ra_isOf_1 (by rw [t9]; decide) (by rw [t9]; decide) (by rw [t9]; rfl) rfl ?_
      refine j_aload_n d_Ra_isOf_53 rfl rfl ?_
      refine j_instN (c := 6) d_Ra_isOf_54 l_Ra_58 (by decide) (by decide) rfl (by decide) ?_
      refine j_zret d_Ra_isOf_57 rfl (by decide) ?_
      have e9 := nI_toInt (n := k) (by omega)
      rw [e9] at t9
      first
        | (have e7 : k = 0 := by omega
           subst e7
           exact q_i1 hF rfl)
        | (have e7 : k = 1 := by omega
           subst e7
           exact q_i1 hF rfl)
        | (have e7 : k = 2 := by omega
           subst e7
           exact q_i1 hF rfl)
        | (have e7 : k = 3 := by omega
           subst e7
           exact q_i1 hF rfl)
        | (have e7 : k = 4 := by omega
           subst e7
           exact q_i1 hF rfl)
        | exact absurd t9 (by omega)
  · refine r_C_of (by decide +kernel) (Nat.le_of_ble_eq_true rfl) ?_
    refine j_ls (ls' := [(0, _), (1, _)]) rfl ?_
    refine j_iload_n d_Ra_isOf_0 rfl rfl ?_
    rcases (show (nI k).toInt < 0 ∨ 4 < (nI k).toInt ∨ (nI k).toInt = 0 ∨ (nI k).toInt = 1 ∨ (nI k).toInt = 2 ∨ (nI k).toInt = 3 ∨ (nI k).toInt = 4 by omega) with t9 | t9 | t9 | t9 | t9 | t9 | t9
    · refine j_tabOut (tgt := 58) d_Ra_isOf_1 (Or.inl t9) rfl ?_
      refine j_iconst (v := 0) d_Ra_isOf_58 rfl ?_
      refine j_zret d_Ra_isOf_59 rfl (by decide) ?_
      have e9 := nI_toInt (n := k) (by omega)
      rw [e9] at t9
      first
        | (have e7 : k = 0 := by omega
           subst e7
           exact q_i1 hF rfl)
        | (have e7 : k = 1 := by omega
           subst e7
           exact q_i1 hF rfl)
        | (have e7 : k = 2 := by omega
           subst e7
           exact q_i1 hF rfl)
        | (have e7 : k = 3 := by omega
           subst e7
           exact q_i1 hF rfl)
        | (have e7 : k = 4 := by omega
           subst e7
           exact q_i1 hF rfl)
        | exact absurd t9 (by omega)
    · refine j_tabOut (tgt := 58) d_Ra_isOf_1 (Or.inr t9) rfl ?_
      refine j_iconst (v := 0) d_Ra_isOf_58 rfl ?_
      refine j_zret d_Ra_isOf_59 rfl (by decide) ?_
      have e9 := nI_toInt (n := k) (by omega)
      rw [e9] at t9
      first
        | (have e7 : k = 0 := by omega
           subst e7
           exact q_i1 hF rfl)
        | (have e7 : k = 1 := by omega
           subst e7
           exact q_i1 hF rfl)
        | (have e7 : k = 2 := by omega
           subst e7
           exact q_i1 hF rfl)
        | (have e7 : k = 3 := by omega
           subst e7
           exact q_i1 hF rfl)
        | (have e7 : k = 4 := by omega
           subst e7
           exact q_i1 hF rfl)
        | exact absurd t9 (by omega)
    · refine j_tabIn (off := 35) (tgt := 36) d_Ra_isOf_1 (by rw [t9]; decide) (by rw [t9]; decide) (by rw [t9]; rfl) rfl ?_
      refine j_iconst (v := 1) d_Ra_isOf_36 rfl ?_
      refine j_zret d_Ra_isOf_37 rfl (by decide) ?_
      have e9 := nI_toInt (n := k) (by omega)
      rw [e9] at t9
      first
        | (have e7 : k = 0 := by omega
           subst e7
           exact q_i1 hF rfl)
        | (have e7 : k = 1 := by omega
           subst e7
           exact q_i1 hF rfl)
        | (have e7 : k = 2 := by omega
           subst e7
           exact q_i1 hF rfl)
        | (have e7 : k = 3 := by omega
           subst e7
           exact q_i1 hF rfl)
        | (have e7 : k = 4 := by omega
           subst e7
           exact q_i1 hF rfl)
        | exact absurd t9 (by omega)
    · refine j_tabIn (off := 37) (tgt := 38) d_Ra_isOf_1 (by rw [t9]; decide) (by rw [t9]; decide) (by rw [t9]; rfl) rfl ?_
      refine j_aload_n d_Ra_isOf_38 rfl rfl ?_
      refine j_instY (c := 8) d_Ra_isOf_39 l_Ra_49 (by decide) (by decide) rfl (by decide) ?_
      refine j_zret d_Ra_isOf_42 rfl (by decide) ?_
      have e9 := nI_toInt (n := k) (by omega)
      rw [e9] at t9
      first
        | (have e7 : k = 0 := by omega
           subst e7
           exact q_i1 hF rfl)
        | (have e7 : k = 1 := by omega
           subst e7
           exact q_i1 hF rfl)
        | (have e7 : k = 2 := by omega
           subst e7
           exact q_i1 hF rfl)
        | (have e7 : k = 3 := by omega
           subst e7
           exact q_i1 hF rfl)
        | (have e7 : k = 4 := by omega
           subst e7
           exact q_i1 hF rfl)
        | exact absurd t9 (by omega)
    · refine j_tabIn (off := 42) (tgt := 43) d_Ra_isOf_1 (by rw [t9]; decide) (by rw [t9]; decide) (by rw [t9]; rfl) rfl ?_
      refine j_aload_n d_Ra_isOf_43 rfl rfl ?_
      refine j_instN (c := 8) d_Ra_isOf_44 l_Ra_52 (by decide) (by decide) rfl (by decide) ?_
      refine j_zret d_Ra_isOf_47 rfl (by decide) ?_
      have e9 := nI_toInt (n := k) (by omega)
      rw [e9] at t9
      first
        | (have e7 : k = 0 := by omega
           subst e7
           exact q_i1 hF rfl)
        | (have e7 : k = 1 := by omega
           subst e7
           exact q_i1 hF rfl)
        | (have e7 : k = 2 := by omega
           subst e7
           exact q_i1 hF rfl)
        | (have e7 : k = 3 := by omega
           subst e7
           exact q_i1 hF rfl)
        | (have e7 : k = 4 := by omega
           subst e7
           exact q_i1 hF rfl)
        | exact absurd t9 (by omega)
    · refine j_tabIn (off := 47) (tgt := 48) d_Ra_isOf_1 (by rw [t9]; decide) (by rw [t9]; decide) (by rw [t9]; rfl) rfl ?_
      refine j_aload_n d_Ra_isOf_48 rfl rfl ?_
      refine j_instN (c := 8) d_Ra_isOf_49 l_Ra_55 (by decide) (by decide) rfl (by decide) ?_
      refine j_zret d_Ra_isOf_52 rfl (by decide) ?_
      have e9 := nI_toInt (n := k) (by omega)
      rw [e9] at t9
      first
        | (have e7 : k = 0 := by omega
           subst e7
           exact q_i1 hF rfl)
        | (have e7 : k = 1 := by omega
           subst e7
           exact q_i1 hF rfl)
        | (have e7 : k = 2 := by omega
           subst e7
           exact q_i1 hF rfl)
        | (have e7 : k = 3 := by omega
           subst e7
           exact q_i1 hF rfl)
        | (have e7 : k = 4 := by omega
           subst e7
           exact q_i1 hF rfl)
        | exact absurd t9 (by omega)
    · refine j_tabIn (off := 52) (tgt := 53) d_Ra_isOf_1 (by rw [t9]; decide) (by rw [t9]; decide) (by rw [t9]; rfl) rfl ?_
      refine j_aload_n d_Ra_isOf_53 rfl rfl ?_
      refine j_instS (c := 8) d_Ra_isOf_54 l_Ra_58 (by decide) rfl (by decide) ?_
      refine j_zret d_Ra_isOf_57 rfl (by decide) ?_
      have e9 := nI_toInt (n := k) (by omega)
      rw [e9] at t9
      first
        | (have e7 : k = 0 := by omega
           subst e7
           exact q_i1 hF rfl)
        | (have e7 : k = 1 := by omega
           subst e7
           exact q_i1 hF rfl)
        | (have e7 : k = 2 := by omega
           subst e7
           exact q_i1 hF rfl)
        | (have e7 : k = 3 := by omega
           subst e7
           exact q_i1 hF rfl)
        | (have e7 : k = 4 := by omega
           subst e7
           exact q_i1 hF rfl)
        | exact absurd t9 (by omega)
  · refine r_C_of (by decide +kernel) (Nat.le_of_ble_eq_true rfl) ?_
    refine j_ls (ls' := [(0, _), (1, _)]) rfl ?_
    refine j_iload_n d_Ra_isOf_0 rfl rfl ?_
    rcases (show (nI k).toInt < 0 ∨ 4 < (nI k).toInt ∨ (nI k).toInt = 0 ∨ (nI k).toInt = 1 ∨ (nI k).toInt = 2 ∨ (nI k).toInt = 3 ∨ (nI k).toInt = 4 by omega) with t9 | t9 | t9 | t9 | t9 | t9 | t9
    · refine j_tabOut (tgt := 58) d_Ra_isOf_1 (Or.inl t9) rfl ?_
      refine j_iconst (v := 0) d_Ra_isOf_58 rfl ?_
      refine j_zret d_Ra_isOf_59 rfl (by decide) ?_
      have e9 := nI_toInt (n := k) (by omega)
      rw [e9] at t9
      first
        | (have e7 : k = 0 := by omega
           subst e7
           exact q_i1 hF rfl)
        | (have e7 : k = 1 := by omega
           subst e7
           exact q_i1 hF rfl)
        | (have e7 : k = 2 := by omega
           subst e7
           exact q_i1 hF rfl)
        | (have e7 : k = 3 := by omega
           subst e7
           exact q_i1 hF rfl)
        | (have e7 : k = 4 := by omega
           subst e7
           exact q_i1 hF rfl)
        | exact absurd t9 (by omega)
    · refine j_tabOut (tgt := 58) d_Ra_isOf_1 (Or.inr t9) rfl ?_
      refine j_iconst (v := 0) d_Ra_isOf_58 rfl ?_
      refine j_zret d_Ra_isOf_59 rfl (by decide) ?_
      have e9 := nI_toInt (n := k) (by omega)
      rw [e9] at t9
      first
        | (have e7 : k = 0 := by omega
           subst e7
           exact q_i1 hF rfl)
        | (have e7 : k = 1 := by omega
           subst e7
           exact q_i1 hF rfl)
        | (have e7 : k = 2 := by omega
           subst e7
           exact q_i1 hF rfl)
        | (have e7 : k = 3 := by omega
           subst e7
           exact q_i1 hF rfl)
        | (have e7 : k = 4 := by omega
           subst e7
           exact q_i1 hF rfl)
        | exact absurd t9 (by omega)
    · refine j_tabIn (off := 35) (tgt := 36) d_Ra_isOf_1 (by rw [t9]; decide) (by rw [t9]; decide) (by rw [t9]; rfl) rfl ?_
      refine j_iconst (v := 1) d_Ra_isOf_36 rfl ?_
      refine j_zret d_Ra_isOf_37 rfl (by decide) ?_
      have e9 := nI_toInt (n := k) (by omega)
      rw [e9] at t9
      first
        | (have e7 : k = 0 := by omega
           subst e7
           exact q_i1 hF rfl)
        | (have e7 : k = 1 := by omega
           subst e7
           exact q_i1 hF rfl)
        | (have e7 : k = 2 := by omega
           subst e7
           exact q_i1 hF rfl)
        | (have e7 : k = 3 := by omega
           subst e7
           exact q_i1 hF rfl)
        | (have e7 : k = 4 := by omega
           subst e7
           exact q_i1 hF rfl)
        | exact absurd t9 (by omega)
    · refine j_tabIn (off := 37) (tgt := 38) d_Ra_isOf_1 (by rw [t9]; decide) (by rw [t9]; decide) (by rw [t9]; rfl) rfl ?_
      refine j_aload_n d_Ra_isOf_38 rfl rfl ?_
      refine j_instN (c := 2) d_Ra_isOf_39 l_Ra_49 (by decide) (by decide) rfl (by decide) ?_
      refine j_zret d_Ra_isOf_42 rfl (by decide) ?_
      have e9 := nI_toInt (n := k) (by omega)
      rw [e9] at t9
      first
        | (have e7 : k = 0 := by omega
           subst e7
           exact q_i1 hF rfl)
        | (have e7 : k = 1 := by omega
           subst e7
           exact q_i1 hF rfl)
        | (have e7 : k = 2 := by omega
           subst e7
           exact q_i1 hF rfl)
        | (have e7 : k = 3 := by omega
           subst e7
           exact q_i1 hF rfl)
        | (have e7 : k = 4 := by omega
           subst e7
           exact q_i1 hF rfl)
        | exact absurd t9 (by omega)
    · refine j_tabIn (off := 42) (tgt := 43) d_Ra_isOf_1 (by rw [t9]; decide) (by rw [t9]; decide) (by rw [t9]; rfl) rfl ?_
      refine j_aload_n d_Ra_isOf_43 rfl rfl ?_
      refine j_instN (c := 2) d_Ra_isOf_44 l_Ra_52 (by decide) (by decide) rfl (by decide) ?_
      refine j_zret d_Ra_isOf_47 rfl (by decide) ?_
      have e9 := nI_toInt (n := k) (by omega)
      rw [e9] at t9
      first
        | (have e7 : k = 0 := by omega
           subst e7
           exact q_i1 hF rfl)
        | (have e7 : k = 1 := by omega
           subst e7
           exact q_i1 hF rfl)
        | (have e7 : k = 2 := by omega
           subst e7
           exact q_i1 hF rfl)
        | (have e7 : k = 3 := by omega
           subst e7
           exact q_i1 hF rfl)
        | (have e7 : k = 4 := by omega
           subst e7
           exact q_i1 hF rfl)
        | exact absurd t9 (by omega)
    · refine j_tabIn (off := 47) (tgt := 48) d_Ra_isOf_1 (by rw [t9]; decide) (by rw [t9]; decide) (by rw [t9]; rfl) rfl ?_
      refine j_aload_n d_Ra_isOf_48 rfl rfl ?_
      refine j_instN (c := 2) d_Ra_isOf_49 l_Ra_55 (by decide) (by decide) rfl (by decide) ?_
      refine j_zret d_Ra_isOf_52 rfl (by decide) ?_
      have e9 := nI_toInt (n := k) (by omega)
      rw [e9] at t9
      first
        | (have e7 : k = 0 := by omega
           subst e7
           exact q_i1 hF rfl)
        | (have e7 : k = 1 := by omega
           subst e7
           exact q_i1 hF rfl)
        | (have e7 : k = 2 := by omega
           subst e7
           exact q_i1 hF rfl)
        | (have e7 : k = 3 := by omega
           subst e7
           exact q_i1 hF rfl)
        | (have e7 : k = 4 := by omega
           subst e7
           exact q_i1 hF rfl)
        | exact absurd t9 (by omega)
    · refine j_tabIn (off := 52) (tgt := 53) d_Ra_isOf_1 (by rw [t9]; decide) (by rw [t9]; decide) (by rw [t9]; rfl) rfl ?_
      refine j_aload_n d_Ra_isOf_53 rfl rfl ?_
      refine j_instN (c := 2) d_Ra_isOf_54 l_Ra_58 (by decide) (by decide) rfl (by decide) ?_
      refine j_zret d_Ra_isOf_57 rfl (by decide) ?_
      have e9 := nI_toInt (n := k) (by omega)
      rw [e9] at t9
      first
        | (have e7 : k = 0 := by omega
           subst e7
           exact q_i1 hF rfl)
        | (have e7 : k = 1 := by omega
           subst e7
           exact q_i1 hF rfl)
        | (have e7 : k = 2 := by omega
           subst e7
           exact q_i1 hF rfl)
        | (have e7 : k = 3 := by omega
           subst e7
           exact q_i1 hF rfl)
        | (have e7 : k = 4 := by omega
           subst e7
           exact q_i1 hF rfl)
        | exact absurd t9 (by omega)
def a_ns (m : Nat) : Nat := (1103515245 * m + 12345) % 2 ^ 31
def a_dr (m n : Nat) : Nat := m / 65536 % n
theorem a_nsI {m : Nat} (h : m < 2 ^ 31) : ((1103515245 * (nI m).toInt64 + 12345) &&& 2147483647).toInt32 = nI (a_ns m) := by
  rw [nI_l h, show (1103515245 : Int64) = lN 1103515245 from rfl, show (12345 : Int64) = lN 12345 from rfl, lN_mul, lN_add]
  have hb : 1103515245 * m + 12345 < 2 ^ 64 := by omega
  have e : lN (1103515245 * m + 12345) &&& 2147483647 = lN (a_ns m) := by
    apply Int64.toBitVec_inj.mp
    apply BitVec.eq_of_toNat_eq
    rw [Int64.toBitVec_and, BitVec.toNat_and]
    have e1 : (lN (1103515245 * m + 12345)).toBitVec.toNat = 1103515245 * m + 12345 := by
      show (Int64.ofNat (1103515245 * m + 12345)).toBitVec.toNat = _
      rw [Int64.toBitVec_ofNat']
      simp
      omega
    have e2 : (lN (a_ns m)).toBitVec.toNat = a_ns m := by
      show (Int64.ofNat (a_ns m)).toBitVec.toNat = _
      rw [Int64.toBitVec_ofNat']
      unfold a_ns
      simp
      omega
    have e3 : (2147483647 : Int64).toBitVec.toNat = 2 ^ 31 - 1 := by decide
    rw [e1, e2, e3, Nat.and_two_pow_sub_one_eq_mod]
    rfl
  rw [e, lN_i]
theorem a_ns_lt (m : Nat) : a_ns m < 2 ^ 31 := Nat.mod_lt _ (by decide)
set_option maxRecDepth 100000 in
set_option maxHeartbeats 4000000 in
theorem c_Ra_nextSeed {G : r_X} {d : Nat} {h : r_HI} {p q : Nat} {z : r_HL} {F : Int32 → r_HI → r_HR → r_HL → Prop} {m : Nat} {a1 : Int32} (hm : m < 2 ^ 31) (e1 : a1 = nI m) (hF : F (nI (a_ns m)) h (r_gp p q) z) : r_Ci G m_Ra_nextSeed (d) 61 [.int a1] 61 h (r_gp p q) z F := by
  subst e1
  refine r_C_of (by decide +kernel) (Nat.le_of_ble_eq_true rfl) ?_
  refine j_ls (ls' := [(0, _)]) rfl ?_
  refine j_ldc2 d_Ra_nextSeed_0 k_Ra_332 ?_
  refine j_iload_n d_Ra_nextSeed_3 rfl rfl ?_
  refine j_i2l d_Ra_nextSeed_4 ?_
  refine j_lmul d_Ra_nextSeed_5 ?_
  refine j_ldc2 d_Ra_nextSeed_6 k_Ra_334 ?_
  refine j_ladd d_Ra_nextSeed_9 ?_
  refine j_ldc2 d_Ra_nextSeed_10 k_Ra_336 ?_
  refine j_land d_Ra_nextSeed_13 ?_
  refine j_l2i d_Ra_nextSeed_14 ?_
  refine j_iret d_Ra_nextSeed_15 rfl ?_
  exact q_i1 hF (a_nsI hm)
set_option maxRecDepth 100000 in
set_option maxHeartbeats 4000000 in
theorem c_Ra_drawn {G : r_X} {d : Nat} {h : r_HI} {p q : Nat} {z : r_HL} {F : Int32 → r_HI → r_HR → r_HL → Prop} {m n : Nat} {a1 a2 : Int32} (hm : m < 2 ^ 31) (hn : 0 < n) (hn2 : n < 1000) (e1 : a1 = nI m) (e2 : a2 = nI n) (hF : F (nI (a_dr m n)) h (r_gp p q) z) : r_Ci G m_Ra_drawn (d) 61 [.int a1, .int a2] 61 h (r_gp p q) z F := by
  subst e1
  subst e2
  refine r_C_of (by decide +kernel) (Nat.le_of_ble_eq_true rfl) ?_
  refine j_ls (ls' := [(0, _), (1, _)]) rfl ?_
  refine j_iload_n d_Ra_drawn_0 rfl rfl ?_
  refine j_if_le (tgt := 14) d_Ra_drawn_1 rfl (fun bq1 => False.elim (nI_nle hn (by omega) bq1)) (fun bq1 => ?_)
  refine j_iload_n d_Ra_drawn_4 rfl rfl ?_
  refine j_ldcw d_Ra_drawn_5 k_Ra_338 ?_
  refine j_idiv d_Ra_drawn_8 (by decide) ?_
  refine j_iload_n d_Ra_drawn_9 rfl rfl ?_
  refine j_irem d_Ra_drawn_10 (nI_ne0 hn (by omega)) ?_
  refine j_goto (tgt := 15) d_Ra_drawn_11 rfl ?_
  refine j_iret d_Ra_drawn_15 rfl ?_
  exact q_i1 hF (by rw [show nI m / 65536 = nI (m / 65536) from pk_div (d := 65536) hm (by decide) (by decide), pk_rem (by omega) hn (by omega)]; rfl)
set_option maxRecDepth 100000 in
set_option maxHeartbeats 4000000 in
theorem c_Ra_mix {G : r_X} {d : Nat} {h : r_HI} {g : r_HR} {z : r_HL} {F : Int64 → r_HI → r_HR → r_HL → Prop} {x y : Int64} (hF : F (31 * x + y) h g z) : r_Cl G m_Ra_mix (d) 61 [.long x, .long y] 61 h g z F := by
  refine r_C_of (by decide +kernel) (Nat.le_of_ble_eq_true rfl) ?_
  refine j_ls (ls' := [(0, _), (2, _)]) rfl ?_
  refine j_ldc2 d_Ra_mix_0 k_Ra_324 ?_
  refine j_lload_n d_Ra_mix_3 rfl rfl ?_
  refine j_lmul d_Ra_mix_4 ?_
  refine j_lload_n d_Ra_mix_5 rfl rfl ?_
  refine j_ladd d_Ra_mix_6 ?_
  refine j_lret d_Ra_mix_7 rfl ?_
  exact ⟨_, rfl, hF⟩
theorem a_ask_ok {D : a_D} {K : a_K} {r w : Nat} (hk : a_kok D K) (h7 : K.2.2.2.1 < 7) (hr : r < D.1) (hw : w < D.2.2.2.1 r) : a_kok D (a_ask K r w) := by
  obtain ⟨h1, h2, h3, h4⟩ := hk
  refine ⟨h1, h2, show K.2.2.2.1 + 1 ≤ 7 by omega, fun i hi => ?_⟩
  show va_up K.2.2.2.2.1 K.2.2.2.1 r i < D.1 ∧ va_up K.2.2.2.2.2.1 K.2.2.2.1 w i < D.2.2.2.1 (va_up K.2.2.2.2.1 K.2.2.2.1 r i) ∧ va_up K.2.2.2.2.2.2 K.2.2.2.1 K.1 i ≤ K.1
  by_cases e : i = K.2.2.2.1
  · simp [va_up, e, hr, hw]
  · have hi : i < K.2.2.2.1 + 1 := hi
    have := h4 i (by omega)
    simp [va_up, e]
    exact this
/-- one draw of a day -/
def a_d1 (D : a_D) (kd : Nat) (x : Nat × a_K × Nat) : Nat × a_K × Nat :=
  let K1 := a_ask x.2.1 (a_dr (a_ns x.1) D.1) (a_dr (a_ns (a_ns x.1)) (D.2.2.2.1 (a_dr (a_ns x.1) D.1)))
  if 3 ≤ K1.2.2.2.1 then (a_ns (a_ns x.1), a_fo D K1 kd (a_nx D K1 kd), x.2.2 + a_wt D K1 (a_nx D K1 kd)) else (a_ns (a_ns x.1), K1, x.2.2)
def a_dy (D : a_D) (kd : Nat) : Nat → Nat × a_K × Nat → Nat × a_K × Nat
  | 0, x => x
  | m + 1, x => a_dy D kd m (a_d1 D kd x)
/-- the days: the seed then, the arm and how long all waited -/
def a_days (D : a_D) (kd times sd : Nat) (K : a_K) : Nat × a_K × Nat :=
  let x := a_dy D kd times (sd, (K.1, K.2.1, K.2.2.1, 0, K.2.2.2.2), 0)
  (x.1, a_all D kd x.2.1.2.2.2.1 x.2.1 x.2.2)
set_option maxRecDepth 100000 in
set_option maxHeartbeats 4000000 in
theorem l_Ra_playDays {G : r_X} {d : Nat} {h : r_HI} {p q : Nat} {z : r_HL} {F : Int32 → r_HI → r_HR → r_HL → Prop} {D : a_D} (hD : p_D h 3 D) (ho : a_dok D) (hR : 0 < D.1) (hP : r_pol p) {times : Nat} (htm : times ≤ 60) {x2 : Int32} : ∀ (e i : Nat) (v sv : Int32) (x : Nat × a_K × Nat) (h1 : r_HI), e + i = times → v = nI i → sv = nI x.1 → x.1 < 2 ^ 31 → r_ex [40, 41, 42, 43] h h1 → p_K h1 40 x.2.1 → a_kok D x.2.1 → x.2.1.2.2.2.1 ≤ 2 → x.2.1.1 + 125 * (e + 3) < 2 ^ 25 → h1 40 8 = nI x.2.2 → (∀ h', r_ex [40, 41, 42, 43] h h' → p_K h' 40 (a_all D (r_kd p) (a_dy D (r_kd p) e x).2.1.2.2.2.1 (a_dy D (r_kd p) e x).2.1 (a_dy D (r_kd p) e x).2.2).1 → h' 40 8 = nI (a_all D (r_kd p) (a_dy D (r_kd p) e x).2.1.2.2.2.1 (a_dy D (r_kd p) e x).2.1 (a_dy D (r_kd p) e x).2.2).2 → F (nI (a_dy D (r_kd p) e x).1) h' (r_gp p q) z) → r_TM G m_Ra_playDays (d + 5) 61 61 (fun v h' g' z' => ∃ r, v = some (.int r) ∧ F r h' g' z') 24 [(0, .ref (G.2.1 + 0)), (1, .int (nI times)), (2, .int x2), (3, .int sv), (4, .int v)] [] 61 h1 (r_gp p q) z := by
  intro e
  induction e with
  | zero =>
    intro i v sv x h1 he hv hsv hsd hx hK hk hn2 ht hs hF
    subst hv
    subst hsv
    have hD1 : p_D h1 3 D := hD.ex hx (by decide) (by decide) (by decide) (by decide)
    refine j_iload d_Ra_playDays_24 rfl ?_
    refine j_iload_n d_Ra_playDays_26 rfl rfl ?_
    refine j_icmp_ge (tgt := 118) d_Ra_playDays_27 rfl (fun bq1 => ?_) (fun bq1 => False.elim (bq1 (nI_le (by omega) (by omega))))
    refine j_aload_n d_Ra_playDays_118 rfl rfl ?_
    refine j_getr d_Ra_playDays_119 f_Ra_88 rfl rfl (by decide) rfl ?_
    refine j_aload_n d_Ra_playDays_122 rfl rfl ?_
    refine j_getr d_Ra_playDays_123 f_Ra_65 rfl rfl (by decide) rfl ?_
    refine q_v (s_Ra_playDays_126 rfl (by decide)) rfl (Nat.le_of_ble_eq_true rfl) (Nat.le_of_ble_eq_true rfl) ?_
    refine c_Dk_followAll_40 hD1 ho hK hk hP (by omega) hs (fun h2 q1 q2 q3 => ?_)
    refine j_iload_n d_Ra_playDays_129 rfl rfl ?_
    refine j_iret d_Ra_playDays_130 rfl ?_
    exact ⟨_, rfl, hF _ (r_ex.tr hx q1 (fun _ q => q)) q2 q3⟩
  | succ e ih =>
    intro i v sv x h1 he hv hsv hsd hx hK hk hn2 ht hs hF
    subst hv
    subst hsv
    have hD1 : p_D h1 3 D := hD.ex hx (by decide) (by decide) (by decide) (by decide)
    have hrr : a_dr (a_ns x.1) D.1 < D.1 := Nat.mod_lt _ hR
    have hpl : h1 4 (a_dr (a_ns x.1) D.1) = nI (D.2.2.2.1 (a_dr (a_ns x.1) D.1)) := (hD1.2.2.2 _ hrr).1
    obtain ⟨hp2, hp12, -, -, -⟩ := a_pl (ho.2.2.2 _ hrr).1
    have hww : a_dr (a_ns (a_ns x.1)) (D.2.2.2.1 (a_dr (a_ns x.1) D.1)) < D.2.2.2.1 (a_dr (a_ns x.1) D.1) := Nat.mod_lt _ (by omega)
    refine j_iload d_Ra_playDays_24 rfl ?_
    refine j_iload_n d_Ra_playDays_26 rfl rfl ?_
    refine j_icmp_ge (tgt := 118) d_Ra_playDays_27 rfl (fun bq1 => False.elim (nI_ge (by omega) (by omega) bq1)) (fun bq1 => ?_)
    refine j_iload_n d_Ra_playDays_30 rfl rfl ?_
    refine q_i s_Ra_playDays_31 rfl (Nat.le_of_ble_eq_true rfl) (Nat.le_of_ble_eq_true rfl) ?_
    refine c_Ra_nextSeed hsd rfl ?_
    refine j_istore_n (ls' := [(3, _), (0, _), (1, _), (2, _), (4, _)]) d_Ra_playDays_34 rfl (by decide) rfl ?_
    refine j_iload_n d_Ra_playDays_35 rfl rfl ?_
    refine j_aload_n d_Ra_playDays_36 rfl rfl ?_
    refine j_getr d_Ra_playDays_37 f_Ra_19 rfl rfl (by decide) rfl ?_
    refine j_geti d_Ra_playDays_40 f_Ra_140 rfl rfl (by decide) ?_
    refine q_i s_Ra_playDays_43 rfl (Nat.le_of_ble_eq_true rfl) (Nat.le_of_ble_eq_true rfl) ?_
    refine c_Ra_drawn (a_ns_lt _) hR (by have := ho.1; omega) rfl hD1.1 ?_
    refine j_istore (ls' := [(5, _), (3, _), (0, _), (1, _), (2, _), (4, _)]) d_Ra_playDays_46 (by decide) rfl ?_
    refine j_iload_n d_Ra_playDays_48 rfl rfl ?_
    refine q_i s_Ra_playDays_49 rfl (Nat.le_of_ble_eq_true rfl) (Nat.le_of_ble_eq_true rfl) ?_
    refine c_Ra_nextSeed (a_ns_lt _) rfl ?_
    refine j_istore_n (ls' := [(3, _), (5, _), (0, _), (1, _), (2, _), (4, _)]) d_Ra_playDays_52 rfl (by decide) rfl ?_
    refine j_aload_n d_Ra_playDays_53 rfl rfl ?_
    refine j_getr d_Ra_playDays_54 f_Ra_88 rfl rfl (by decide) rfl ?_
    refine j_iload d_Ra_playDays_57 rfl ?_
    refine j_iload_n d_Ra_playDays_59 rfl rfl ?_
    refine j_aload_n d_Ra_playDays_60 rfl rfl ?_
    refine j_getr d_Ra_playDays_61 f_Ra_19 rfl rfl (by decide) rfl ?_
    refine j_getr d_Ra_playDays_64 f_Ra_145 rfl rfl (by decide) rfl ?_
    refine j_iload d_Ra_playDays_67 rfl ?_
    refine q_i s_Ra_playDays_69 rfl (Nat.le_of_ble_eq_true rfl) (Nat.le_of_ble_eq_true rfl) ?_
    refine c_Ra_av (j := a_dr (a_ns x.1) D.1) rfl (by decide) rfl (by have := ho.1; omega) hpl ?_
    refine q_i s_Ra_playDays_72 rfl (Nat.le_of_ble_eq_true rfl) (Nat.le_of_ble_eq_true rfl) ?_
    refine c_Ra_drawn (a_ns_lt _) (by omega) (by omega) rfl rfl ?_
    refine q_i (s_Ra_playDays_75 rfl (by decide)) rfl (Nat.le_of_ble_eq_true rfl) (Nat.le_of_ble_eq_true rfl) ?_
    refine c_Dk_append_40 hD1 ho hK hk (by omega) rfl rfl (fun h2 q1 q2 q3 => ?_)
    have hD2 : p_D h2 3 D := hD1.ex q1 (by decide) (by decide) (by decide) (by decide)
    have hk1 : a_kok D (a_ask x.2.1 (a_dr (a_ns x.1) D.1) (a_dr (a_ns (a_ns x.1)) (D.2.2.2.1 (a_dr (a_ns x.1) D.1)))) := a_ask_ok hk (by omega) hrr hww
    have ht1 : (a_ask x.2.1 (a_dr (a_ns x.1) D.1) (a_dr (a_ns (a_ns x.1)) (D.2.2.2.1 (a_dr (a_ns x.1) D.1)))).1 < 2 ^ 27 := by show x.2.1.1 < 2 ^ 27; omega
    have hpos : 0 < (a_ask x.2.1 (a_dr (a_ns x.1) D.1) (a_dr (a_ns (a_ns x.1)) (D.2.2.2.1 (a_dr (a_ns x.1) D.1)))).2.2.2.1 := Nat.succ_pos _
    refine j_pop d_Ra_playDays_78 rfl ?_
    refine j_aload_n d_Ra_playDays_79 rfl rfl ?_
    refine j_getr d_Ra_playDays_80 f_Ra_88 rfl rfl (by decide) rfl ?_
    refine j_geti d_Ra_playDays_83 f_Ra_197 rfl rfl (by decide) ?_
    refine j_iconst (v := 3) d_Ra_playDays_86 rfl ?_
    refine j_icmp_lt (tgt := 112) d_Ra_playDays_87 rfl (fun bq2 => ?_) (fun bq2 => ?_)
    · refine j_iinc (ls' := [(4, _), (3, _), (5, _), (0, _), (1, _), (2, _)]) d_Ra_playDays_112 rfl (by decide) rfl ?_
      refine j_goto (tgt := 24) d_Ra_playDays_115 rfl ?_
      refine j_pick [3, 4, 5, 1, 0] (ls' := [(0, _), (1, _), (2, _), (3, _), (4, _)]) rfl ?_
      rw [show h2 40 4 = nI (x.2.1.2.2.2.1 + 1) from q2.1] at bq2
      first
        | (have g1 : ¬ 3 ≤ x.2.1.2.2.2.1 + 1 := fun e8 => nI_nlt (b := 3) e8 (by omega) bq2
           have g2 : a_d1 D (r_kd p) x = (a_ns (a_ns x.1), (a_ask x.2.1 (a_dr (a_ns x.1) D.1) (a_dr (a_ns (a_ns x.1)) (D.2.2.2.1 (a_dr (a_ns x.1) D.1)))), x.2.2) := if_neg g1
           refine ih (i + 1) _ _ (a_d1 D (r_kd p) x) h2 (by omega) (nI_inc i) ?_ ?_ (r_ex.tr hx q1 (fun _ q => q)) ?_ ?_ ?_ ?_ ?_ (by rw [a_dy] at hF; exact hF)
           · rw [g2]
           · rw [g2]; exact a_ns_lt _
           · rw [g2]; exact q2
           · rw [g2]; exact hk1
           · rw [g2]; show x.2.1.2.2.2.1 + 1 ≤ 2; omega
           · rw [g2]; show x.2.1.1 + 125 * (e + 3) < 2 ^ 25; omega
           · rw [g2]; show h2 40 8 = nI x.2.2; rw [q3]; exact hs)
        | (have g1 : 3 ≤ x.2.1.2.2.2.1 + 1 := Decidable.byContradiction (fun e8 => bq2 (nI_lt (b := 3) (by omega) (by omega)))
           have g2 : a_d1 D (r_kd p) x = (a_ns (a_ns x.1), a_fo D (a_ask x.2.1 (a_dr (a_ns x.1) D.1) (a_dr (a_ns (a_ns x.1)) (D.2.2.2.1 (a_dr (a_ns x.1) D.1)))) (r_kd p) (a_nx D (a_ask x.2.1 (a_dr (a_ns x.1) D.1) (a_dr (a_ns (a_ns x.1)) (D.2.2.2.1 (a_dr (a_ns x.1) D.1)))) (r_kd p)), x.2.2 + a_wt D (a_ask x.2.1 (a_dr (a_ns x.1) D.1) (a_dr (a_ns (a_ns x.1)) (D.2.2.2.1 (a_dr (a_ns x.1) D.1)))) (a_nx D (a_ask x.2.1 (a_dr (a_ns x.1) D.1) (a_dr (a_ns (a_ns x.1)) (D.2.2.2.1 (a_dr (a_ns x.1) D.1)))) (r_kd p))) := if_pos g1
           have hnx : a_nx D (a_ask x.2.1 (a_dr (a_ns x.1) D.1) (a_dr (a_ns (a_ns x.1)) (D.2.2.2.1 (a_dr (a_ns x.1) D.1)))) (r_kd p) < (a_ask x.2.1 (a_dr (a_ns x.1) D.1) (a_dr (a_ns (a_ns x.1)) (D.2.2.2.1 (a_dr (a_ns x.1) D.1)))).2.2.2.1 := a_am_lt hpos
           have g4 := a_dn_le ho (t := x.2.1.1) (p := (a_ask x.2.1 (a_dr (a_ns x.1) D.1) (a_dr (a_ns (a_ns x.1)) (D.2.2.2.1 (a_dr (a_ns x.1) D.1)))).2.2.2.2.2.1 (a_nx D (a_ask x.2.1 (a_dr (a_ns x.1) D.1) (a_dr (a_ns (a_ns x.1)) (D.2.2.2.1 (a_dr (a_ns x.1) D.1)))) (r_kd p))) hk1.1 (hk1.2.2.2 _ hnx).1
           refine ih (i + 1) _ _ (a_d1 D (r_kd p) x) h3 (by omega) (nI_inc i) ?_ ?_ (r_ex.tr (r_ex.tr hx q1 (fun _ q => q)) f1 (fun _ q => q)) ?_ ?_ ?_ ?_ ?_ (by rw [a_dy] at hF; exact hF)
           · rw [g2]
           · rw [g2]; exact a_ns_lt _
           · rw [g2]; exact f2
           · rw [g2]; exact a_fo_ok ho hk1 hnx
           · rw [g2]; show x.2.1.2.2.2.1 + 1 - 1 ≤ 2; omega
           · rw [g2]; exact Nat.lt_of_le_of_lt (Nat.add_le_add_right g4 (125 * (e + 3))) (by omega)
           · rw [g2]; show h3 40 8 = nI (x.2.2 + _); rw [f3, q3, hs, nI_add])
    · refine j_aload_n d_Ra_playDays_90 rfl rfl ?_
      refine j_getr d_Ra_playDays_91 f_Ra_88 rfl rfl (by decide) rfl ?_
      refine j_aload_n d_Ra_playDays_94 rfl rfl ?_
      refine j_getr d_Ra_playDays_95 f_Ra_65 rfl rfl (by decide) rfl ?_
      refine j_aload_n d_Ra_playDays_98 rfl rfl ?_
      refine j_getr d_Ra_playDays_99 f_Ra_65 rfl rfl (by decide) rfl ?_
      refine j_aload_n d_Ra_playDays_102 rfl rfl ?_
      refine j_getr d_Ra_playDays_103 f_Ra_88 rfl rfl (by decide) rfl ?_
      refine q_i (s_pick_all_Ra_playDays_106 hP) rfl (Nat.le_of_ble_eq_true rfl) (Nat.le_of_ble_eq_true rfl) ?_
      refine c_Fi_pick_40 hD2 ho q2 hk1 hP ht1 ?_
      refine q_v (s_Ra_playDays_109 rfl (by decide)) rfl (Nat.le_of_ble_eq_true rfl) (Nat.le_of_ble_eq_true rfl) ?_
      refine c_Dk_follow_40 hD2 ho q2 hk1 hP ht1 (i := a_nx D (a_ask x.2.1 (a_dr (a_ns x.1) D.1) (a_dr (a_ns (a_ns x.1)) (D.2.2.2.1 (a_dr (a_ns x.1) D.1)))) (r_kd p)) (a_am_lt hpos) (if_neg (by omega)) (fun h3 f1 f2 f3 => ?_)
      refine j_iinc (ls' := [(4, _), (3, _), (5, _), (0, _), (1, _), (2, _)]) d_Ra_playDays_112 rfl (by decide) rfl ?_
      refine j_goto (tgt := 24) d_Ra_playDays_115 rfl ?_
      refine j_pick [3, 4, 5, 1, 0] (ls' := [(0, _), (1, _), (2, _), (3, _), (4, _)]) rfl ?_
      rw [show h2 40 4 = nI (x.2.1.2.2.2.1 + 1) from q2.1] at bq2
      first
        | (have g1 : ¬ 3 ≤ x.2.1.2.2.2.1 + 1 := fun e8 => nI_nlt (b := 3) e8 (by omega) bq2
           have g2 : a_d1 D (r_kd p) x = (a_ns (a_ns x.1), (a_ask x.2.1 (a_dr (a_ns x.1) D.1) (a_dr (a_ns (a_ns x.1)) (D.2.2.2.1 (a_dr (a_ns x.1) D.1)))), x.2.2) := if_neg g1
           refine ih (i + 1) _ _ (a_d1 D (r_kd p) x) h2 (by omega) (nI_inc i) ?_ ?_ (r_ex.tr hx q1 (fun _ q => q)) ?_ ?_ ?_ ?_ ?_ (by rw [a_dy] at hF; exact hF)
           · rw [g2]
           · rw [g2]; exact a_ns_lt _
           · rw [g2]; exact q2
           · rw [g2]; exact hk1
           · rw [g2]; show x.2.1.2.2.2.1 + 1 ≤ 2; omega
           · rw [g2]; show x.2.1.1 + 125 * (e + 3) < 2 ^ 25; omega
           · rw [g2]; show h2 40 8 = nI x.2.2; rw [q3]; exact hs)
        | (have g1 : 3 ≤ x.2.1.2.2.2.1 + 1 := Decidable.byContradiction (fun e8 => bq2 (nI_lt (b := 3) (by omega) (by omega)))
           have g2 : a_d1 D (r_kd p) x = (a_ns (a_ns x.1), a_fo D (a_ask x.2.1 (a_dr (a_ns x.1) D.1) (a_dr (a_ns (a_ns x.1)) (D.2.2.2.1 (a_dr (a_ns x.1) D.1)))) (r_kd p) (a_nx D (a_ask x.2.1 (a_dr (a_ns x.1) D.1) (a_dr (a_ns (a_ns x.1)) (D.2.2.2.1 (a_dr (a_ns x.1) D.1)))) (r_kd p)), x.2.2 + a_wt D (a_ask x.2.1 (a_dr (a_ns x.1) D.1) (a_dr (a_ns (a_ns x.1)) (D.2.2.2.1 (a_dr (a_ns x.1) D.1)))) (a_nx D (a_ask x.2.1 (a_dr (a_ns x.1) D.1) (a_dr (a_ns (a_ns x.1)) (D.2.2.2.1 (a_dr (a_ns x.1) D.1)))) (r_kd p))) := if_pos g1
           have hnx : a_nx D (a_ask x.2.1 (a_dr (a_ns x.1) D.1) (a_dr (a_ns (a_ns x.1)) (D.2.2.2.1 (a_dr (a_ns x.1) D.1)))) (r_kd p) < (a_ask x.2.1 (a_dr (a_ns x.1) D.1) (a_dr (a_ns (a_ns x.1)) (D.2.2.2.1 (a_dr (a_ns x.1) D.1)))).2.2.2.1 := a_am_lt hpos
           have g4 := a_dn_le ho (t := x.2.1.1) (p := (a_ask x.2.1 (a_dr (a_ns x.1) D.1) (a_dr (a_ns (a_ns x.1)) (D.2.2.2.1 (a_dr (a_ns x.1) D.1)))).2.2.2.2.2.1 (a_nx D (a_ask x.2.1 (a_dr (a_ns x.1) D.1) (a_dr (a_ns (a_ns x.1)) (D.2.2.2.1 (a_dr (a_ns x.1) D.1)))) (r_kd p))) hk1.1 (hk1.2.2.2 _ hnx).1
           refine ih (i + 1) _ _ (a_d1 D (r_kd p) x) h3 (by omega) (nI_inc i) ?_ ?_ (r_ex.tr (r_ex.tr hx q1 (fun _ q => q)) f1 (fun _ q => q)) ?_ ?_ ?_ ?_ ?_ (by rw [a_dy] at hF; exact hF)
           · rw [g2]
           · rw [g2]; exact a_ns_lt _
           · rw [g2]; exact f2
           · rw [g2]; exact a_fo_ok ho hk1 hnx
           · rw [g2]; show x.2.1.2.2.2.1 + 1 - 1 ≤ 2; omega
           · rw [g2]; exact Nat.lt_of_le_of_lt (Nat.add_le_add_right g4 (125 * (e + 3))) (by omega)
           · rw [g2]; show h3 40 8 = nI (x.2.2 + _); rw [f3, q3, hs, nI_add])
set_option maxRecDepth 100000 in
set_option maxHeartbeats 4000000 in
theorem c_Ra_playDays {G : r_X} {d : Nat} {h : r_HI} {p q : Nat} {z : r_HL} {F : Int32 → r_HI → r_HR → r_HL → Prop} {D : a_D} (hD : p_D h 3 D) (ho : a_dok D) (hR : 0 < D.1) {K : a_K} (hK : p_K h 7 K) (hk : a_kok D K) (ht : K.1 < 2 ^ 20) (hP : r_pol p) {times sd : Nat} (htm : times ≤ 60) (hsd : sd < 2 ^ 31) {a1 a2 : Int32} (e1 : a1 = nI times) (e2 : a2 = nI sd) (hF : ∀ h', r_ex [40, 41, 42, 43] h h' → p_K h' 40 (a_days D (r_kd p) times sd K).2.1 → h' 40 8 = nI (a_days D (r_kd p) times sd K).2.2 → F (nI (a_days D (r_kd p) times sd K).1) h' (r_gp p q) z) : r_Ci G m_Ra_playDays (d + 5) 61 [.ref (G.2.1 + 0), .int a1, .int a2] 61 h (r_gp p q) z F := by
  subst e1
  subst e2
  refine r_C_of (by decide +kernel) (Nat.le_of_ble_eq_true rfl) ?_
  refine j_ls (ls' := [(0, _), (1, _), (2, _)]) rfl ?_
  refine j_aload_n d_Ra_playDays_0 rfl rfl ?_
  refine j_getr d_Ra_playDays_1 f_Ra_88 rfl rfl (by decide) rfl ?_
  refine j_aload_n d_Ra_playDays_4 rfl rfl ?_
  refine j_getr d_Ra_playDays_5 f_Ra_28 rfl rfl (by decide) rfl ?_
  refine q_v (s_Ra_playDays_8 rfl (by decide)) rfl (Nat.le_of_ble_eq_true rfl) (Nat.le_of_ble_eq_true rfl) ?_
  refine c_Dk_copyFrom_40_7 hK hk (fun h1 q1 q2 q3 => ?_)
  refine j_aload_n d_Ra_playDays_11 rfl rfl ?_
  refine j_getr d_Ra_playDays_12 f_Ra_88 rfl rfl (by decide) rfl ?_
  refine j_iconst (v := 0) d_Ra_playDays_15 rfl ?_
  refine j_puti d_Ra_playDays_16 f_Ra_197 (by decide) rfl rfl (by decide) ?_
  refine j_iload_n d_Ra_playDays_19 rfl rfl ?_
  refine j_istore_n (ls' := [(3, _), (0, _), (1, _), (2, _)]) d_Ra_playDays_20 rfl (by decide) rfl ?_
  refine j_iconst (v := 0) d_Ra_playDays_21 rfl ?_
  refine j_istore (ls' := [(4, _), (3, _), (0, _), (1, _), (2, _)]) d_Ra_playDays_22 (by decide) rfl ?_
  refine j_pick [2, 3, 4, 1, 0] (ls' := [(0, _), (1, _), (2, _), (3, _), (4, _)]) rfl ?_
  refine l_Ra_playDays hD ho hR hP htm times 0 _ _ (sd, (K.1, K.2.1, K.2.2.1, 0, K.2.2.2.2), 0) _ (by omega) rfl rfl hsd (q1.up (by decide)) ⟨rfl, q2.2.1, q2.2.2.1, q2.2.2.2.1, fun i hi => absurd hi (Nat.not_lt_zero i)⟩ ⟨hk.1, hk.2.1, Nat.zero_le _, fun i hi => absurd hi (Nat.not_lt_zero i)⟩ (Nat.zero_le _) (show K.1 + 125 * (times + 3) < 2 ^ 25 by omega) q3 (fun h2 f1 f2 f3 => ?_)
  exact hF h2 f1 f2 f3
