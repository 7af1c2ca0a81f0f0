theorem a_fl_A (lt : Nat → Nat) : ∀ r i e, e ≠ 0 → (a_fl lt r i e).1 = i + r → (a_fl lt r i e).2 = e ∧ ∀ j, i ≤ j → j < i + r → a_ta (j - e) (lt j) = true
  | 0, i, e, _, _ => ⟨rfl, fun j h1 h2 => absurd h2 (by omega)⟩
  | r + 1, i, e, he, h => by
    unfold a_fl at h ⊢
    by_cases hg : a_g e i (lt i) = true
    · rw [if_pos hg] at h ⊢
      rw [if_neg (fun q => he q.1)] at h ⊢
      obtain ⟨h1, h2⟩ := a_fl_A lt r (i + 1) e he (by omega)
      refine ⟨h1, fun j h3 h4 => ?_⟩
      by_cases e1 : j = i
      · subst e1
        rw [a_g, if_neg he] at hg
        exact hg
      · exact h2 j (by omega) (by omega)
    · rw [if_neg hg] at h
      exact absurd (show i = i + (r + 1) from h) (by omega)
theorem a_fr_59 {i : Nat} (h : a_fr i 59 = true) : 8 ≤ i ∧ i % 2 = 0 := by
  unfold a_fr at h
  by_cases e : i % 2 = 1
  · rw [if_pos e] at h
    simp at h
  · rw [if_neg e, if_pos rfl] at h
    exact ⟨by simpa using h, by omega⟩
theorem a_fl_B (lt : Nat → Nat) : ∀ r i, (a_fl lt r i 0).1 = i + r → (a_re lt r i = 28 ∧ (a_fl lt r i 0).2 = 0) ∨ (∃ E, i ≤ E ∧ E < i + r ∧ a_re lt r i = E ∧ lt E = 59 ∧ a_fr E 59 = true ∧ (∀ j, i ≤ j → j < E → a_fr j (lt j) = true ∧ lt j ≠ 59) ∧ (∀ j, E < j → j < i + r → a_ta (j - E) (lt j) = true) ∧ (a_fl lt r i 0).2 = E)
  | 0, i, _ => Or.inl ⟨rfl, rfl⟩
  | r + 1, i, h => by
    unfold a_fl a_re at *
    by_cases hg : a_g 0 i (lt i) = true
    · have hf : a_fr i (lt i) = true := by rw [a_g, if_pos rfl] at hg; exact hg
      rw [if_pos hg] at h ⊢
      by_cases e : lt i = 59
      · have e0 : (if 0 = 0 ∧ lt i = 59 then i else 0) = i := if_pos ⟨rfl, e⟩
        rw [e0] at h ⊢
        rw [if_pos e]
        rw [e] at hf
        have h8 := a_fr_59 hf
        obtain ⟨h1, h2⟩ := a_fl_A lt r (i + 1) i (by omega) (by omega)
        exact Or.inr ⟨i, Nat.le_refl _, by omega, rfl, e, hf, fun j h3 h4 => absurd h4 (by omega), fun j h3 h4 => h2 j (by omega) (by omega), h1⟩
      · have e0 : (if 0 = 0 ∧ lt i = 59 then i else 0) = 0 := if_neg (fun q => e q.2)
        rw [e0] at h ⊢
        rw [if_neg e]
        rcases a_fl_B lt r (i + 1) (by omega) with ⟨h1, h2⟩ | ⟨E, h1, h2, h3, h4, h5, h6, h7, h8⟩
        · exact Or.inl ⟨h1, h2⟩
        · refine Or.inr ⟨E, by omega, by omega, h3, h4, h5, fun j h9 h10 => ?_, fun j h9 h10 => h7 j h9 (by omega), h8⟩
          by_cases e1 : j = i
          · subst e1
            exact ⟨hf, e⟩
          · exact h6 j (by omega) h10
    · rw [if_neg hg] at h
      exact absurd (show i = i + (r + 1) from h) (by omega)
/-- the plate that a page tells, whose rings end at E -/
def a_rd (lt : Nat → Nat) (E : Nat) : a_D := (E / 2, lt (E + 1) - 48, lt (E + 2) - 48, (fun i => a_po (lt (2 * i))), (fun i => lt (2 * i + 1) - 97))
/-- what a page that is a plate is like -/
def a_vp (P : a_P) (E : Nat) : Prop := 8 ≤ E ∧ E ≤ 20 ∧ E % 2 = 0 ∧ P.1 = E + 5 ∧ a_re P.2 P.1 0 = E ∧ (a_fl P.2 P.1 0 0).1 = P.1 ∧ (a_fl P.2 P.1 0 0).2 = E ∧ (∀ i, i < E / 2 → a_po (P.2 (2 * i)) ≠ 0 ∧ 97 ≤ P.2 (2 * i + 1) ∧ P.2 (2 * i + 1) < 121) ∧ (48 ≤ P.2 (E + 1) ∧ P.2 (E + 1) ≤ 57) ∧ (49 ≤ P.2 (E + 2) ∧ P.2 (E + 2) ≤ 57) ∧ a_ko (P.2 (E + 4)) < 5
theorem a_vp_of {P : a_P} (hp : a_pok P) (h : a_ip P) : ∃ E, a_vp P E := by
  obtain ⟨h1, h2⟩ := h
  have h28 := hp.1
  rcases a_fl_B P.2 P.1 0 (by omega) with ⟨h3, -⟩ | ⟨E, -, h3, h4, h5, h6, h7, h8, h9⟩
  · omega
  · have hE := a_fr_59 h6
    rw [h4] at h2
    have t1 := h8 (E + 1) (by omega) (by omega)
    have t2 := h8 (E + 2) (by omega) (by omega)
    have t4 := h8 (E + 4) (by omega) (by omega)
    rw [show E + 1 - E = 1 by omega] at t1
    rw [show E + 2 - E = 2 by omega] at t2
    rw [show E + 4 - E = 4 by omega] at t4
    have hr : ∀ j, j < E → a_fr j (P.2 j) = true ∧ P.2 j ≠ 59 := fun j hj => h7 j (by omega) hj
    have h20 : E ≤ 20 := by
      refine Decidable.byContradiction (fun q => ?_)
      obtain ⟨g1, g2⟩ := hr 20 (by omega)
      rw [a_fr, if_neg (by decide), if_neg g2] at g1
      simp at g1
    refine ⟨E, hE.1, h20, hE.2, h2, h4, h1, h9, fun i hi => ?_, by simpa [a_ta] using t1, by simpa [a_ta] using t2, by simpa [a_ta] using t4⟩
    obtain ⟨g1, g2⟩ := hr (2 * i) (by omega)
    obtain ⟨g3, g4⟩ := hr (2 * i + 1) (by omega)
    rw [a_fr, if_neg (by omega), if_neg g2] at g1
    rw [a_fr, if_pos (by omega)] at g3
    simp at g1 g3
    exact ⟨g1.2, g3.1, g3.2⟩
theorem a_rd_ok {P : a_P} {E : Nat} (h : a_vp P E) : a_dok (a_rd P.2 E) := by
  obtain ⟨h1, h2, h3, h4, h5, h6, h7, h8, h9, h10, h11⟩ := h
  refine ⟨show E / 2 ≤ 10 by omega, show P.2 (E + 1) - 48 ≤ 9 by omega, show P.2 (E + 2) - 48 ≤ 9 by omega, fun i hi => ?_⟩
  obtain ⟨g1, g2, g3⟩ := h8 i hi
  exact ⟨a_po_mem g1, show P.2 (2 * i + 1) - 97 < 24 by omega⟩
set_option maxRecDepth 100000 in
set_option maxHeartbeats 4000000 in
theorem l_Di_readFrom {G : r_X} {d : Nat} {h : r_HI} {p q : Nat} {z : r_HL} {F : r_HI → r_HR → r_HL → Prop} {P : a_P} {E : Nat} (hP : p_P h P) (hp : a_pok P) (hv : a_vp P E) (hF : ∀ h', r_ex [3, 4, 5, 6] h h' → p_D h' 3 (a_rd P.2 E) → F h' (r_gp p q) z) : ∀ (e i : Nat) (v : Int32) (h1 : r_HI), e + i = E / 2 → v = nI i → r_ex [3, 4, 5, 6] h h1 → h1 3 3 = nI (E / 2) → (∀ j, j < i → h1 4 j = nI ((a_rd P.2 E).2.2.2.1 j) ∧ h1 5 j = nI ((a_rd P.2 E).2.2.2.2 j) ∧ h1 6 j = nI (24 / (a_rd P.2 E).2.2.2.1 j)) → r_TM G m_Di_readFrom (d + 2) 61 61 (fun v h' g' z' => v = none ∧ F h' g' z') 19 [(0, .ref (G.2.1 + 3)), (1, .ref (G.2.1 + 1)), (2, .int (nI E)), (3, .int v)] [] 61 h1 (r_gp p q) z := by
  obtain ⟨v1, v2, v3, v4, v5, v6, v7, v8, v9, v10, v11⟩ := id hv
  intro e
  induction e with
  | zero =>
    intro i v h1 he hv0 hx h33 hs
    subst hv0
    have hx2 : p_P h1 P := hP.ex hx (by decide) (by decide)
    refine j_iload_n d_Di_readFrom_19 rfl rfl ?_
    refine j_aload_n d_Di_readFrom_20 rfl rfl ?_
    refine j_geti d_Di_readFrom_21 f_Di_21 rfl rfl (by decide) ?_
    refine j_icmp_ge (tgt := 110) d_Di_readFrom_24 rfl (fun bq1 => ?_) (fun bq1 => False.elim (bq1 (by rw [h33]; exact nI_le (by omega) (by omega))))
    refine j_aload_n d_Di_readFrom_110 rfl rfl ?_
    refine j_aload_n d_Di_readFrom_111 rfl rfl ?_
    refine j_getr d_Di_readFrom_112 f_Di_43 rfl rfl (by decide) rfl ?_
    refine j_iload_n d_Di_readFrom_115 rfl rfl ?_
    refine j_iconst (v := 1) d_Di_readFrom_116 rfl ?_
    refine j_iadd d_Di_readFrom_117 ?_
    refine q_i s_Di_readFrom_118 rfl (Nat.le_of_ble_eq_true rfl) (Nat.le_of_ble_eq_true rfl) ?_
    refine c_Ra_av (j := E + 1) rfl (by decide) (nI_add E 1) (by omega) (hx2.2 (E + 1) (by omega)) ?_
    refine j_bipush (v := 48) d_Di_readFrom_121 (by decide) ?_
    refine j_isub d_Di_readFrom_123 ?_
    refine j_puti d_Di_readFrom_124 f_Di_25 (by decide) rfl rfl (by decide) ?_
    refine j_aload_n d_Di_readFrom_127 rfl rfl ?_
    refine j_aload_n d_Di_readFrom_128 rfl rfl ?_
    refine j_getr d_Di_readFrom_129 f_Di_43 rfl rfl (by decide) rfl ?_
    refine j_iload_n d_Di_readFrom_132 rfl rfl ?_
    refine j_iconst (v := 2) d_Di_readFrom_133 rfl ?_
    refine j_iadd d_Di_readFrom_134 ?_
    refine q_i s_Di_readFrom_135 rfl (Nat.le_of_ble_eq_true rfl) (Nat.le_of_ble_eq_true rfl) ?_
    refine c_Ra_av (j := E + 2) rfl (by decide) (nI_add E 2) (by omega) (hx2.2 (E + 2) (by omega)) ?_
    refine j_bipush (v := 48) d_Di_readFrom_138 (by decide) ?_
    refine j_isub d_Di_readFrom_140 ?_
    refine j_puti d_Di_readFrom_141 f_Di_28 (by decide) rfl rfl (by decide) ?_
    refine j_vret d_Di_readFrom_144 rfl ?_
    refine ⟨rfl, hF _ ((hx.up (by decide)).up (by decide)) ⟨h33, pk_sub (b := 48) (by omega), pk_sub (b := 48) (by omega), fun j hj => hs j (by have hj : j < E / 2 := hj; omega)⟩⟩
  | succ e ih =>
    intro i v h1 he hv0 hx h33 hs
    subst hv0
    have hx2 : p_P h1 P := hP.ex hx (by decide) (by decide)
    obtain ⟨g1, g2, g3⟩ := v8 i (by omega)
    have hpl := a_po_le (P.2 (2 * i))
    have hq1 : h1 2 (2 * i) = nI (P.2 (2 * i)) := hx2.2 _ (by omega)
    have hq2 : (r_up (r_up h1 4 i (nI (a_po (P.2 (2 * i))))) 6 i (nI (24 / a_po (P.2 (2 * i))))) 2 (2 * i + 1) = nI (P.2 (2 * i + 1)) := hx2.2 _ (by omega)
    refine j_iload_n d_Di_readFrom_19 rfl rfl ?_
    refine j_aload_n d_Di_readFrom_20 rfl rfl ?_
    refine j_geti d_Di_readFrom_21 f_Di_21 rfl rfl (by decide) ?_
    refine j_icmp_ge (tgt := 110) d_Di_readFrom_24 rfl (fun bq1 => False.elim (nI_ge (by omega) (by omega) (h33 ▸ bq1))) (fun bq1 => ?_)
    refine j_iload_n d_Di_readFrom_27 rfl rfl ?_
    refine j_bipush (v := 10) d_Di_readFrom_28 (by decide) ?_
    refine j_icmp_ge (tgt := 110) d_Di_readFrom_30 rfl (fun bq2 => False.elim (nI_ge (b := 10) (by omega) (by omega) bq2)) (fun bq2 => ?_)
    refine j_aload_n d_Di_readFrom_33 rfl rfl ?_
    refine j_getr d_Di_readFrom_34 f_Di_43 rfl rfl (by decide) rfl ?_
    refine j_iconst (v := 2) d_Di_readFrom_37 rfl ?_
    refine j_iload_n d_Di_readFrom_38 rfl rfl ?_
    refine j_imul d_Di_readFrom_39 ?_
    refine q_i s_Di_readFrom_40 rfl (Nat.le_of_ble_eq_true rfl) (Nat.le_of_ble_eq_true rfl) ?_
    refine c_Ra_av (j := 2 * i) rfl (by decide) (pk_mul 2 i) (by omega) hq1 ?_
    refine q_i s_Di_readFrom_43 rfl (Nat.le_of_ble_eq_true rfl) (Nat.le_of_ble_eq_true rfl) ?_
    refine c_Pa_placesOf (hp.2 _ (by omega)) rfl ?_
    rw [if_neg g1]
    refine j_istore (ls' := [(4, _), (0, _), (1, _), (2, _), (3, _)]) d_Di_readFrom_46 (by decide) rfl ?_
    refine j_aload_n d_Di_readFrom_48 rfl rfl ?_
    refine j_getr d_Di_readFrom_49 f_Di_9 rfl rfl (by decide) rfl ?_
    refine j_iload_n d_Di_readFrom_52 rfl rfl ?_
    refine j_iload d_Di_readFrom_53 rfl ?_
    refine q_v s_Di_readFrom_55 rfl (Nat.le_of_ble_eq_true rfl) (Nat.le_of_ble_eq_true rfl) ?_
    refine c_Ra_put (j := i) rfl (by decide) rfl (by omega) ?_
    refine j_aload_n d_Di_readFrom_58 rfl rfl ?_
    refine j_getr d_Di_readFrom_59 f_Di_18 rfl rfl (by decide) rfl ?_
    refine j_iload_n d_Di_readFrom_62 rfl rfl ?_
    refine j_iload d_Di_readFrom_63 rfl ?_
    refine j_if_le (tgt := 76) d_Di_readFrom_65 rfl (fun bq3 => False.elim (nI_nle (n := a_po (P.2 (2 * i))) (by omega) (by omega) bq3)) (fun bq3 => ?_)
    refine j_bipush (v := 24) d_Di_readFrom_68 (by decide) ?_
    refine j_iload d_Di_readFrom_70 rfl ?_
    refine j_idiv d_Di_readFrom_72 (nI_ne0 (by omega) (by omega)) ?_
    refine j_goto (tgt := 78) d_Di_readFrom_73 rfl ?_
    refine q_v s_Di_readFrom_78 rfl (Nat.le_of_ble_eq_true rfl) (Nat.le_of_ble_eq_true rfl) ?_
    rw [show (24 : Int32) / nI (a_po (P.2 (2 * i))) = nI (24 / a_po (P.2 (2 * i))) from pk_div (a := 24) (by omega) (by omega) (by omega)]
    refine c_Ra_put (j := i) rfl (by decide) rfl (by omega) ?_
    refine j_aload_n d_Di_readFrom_81 rfl rfl ?_
    refine j_getr d_Di_readFrom_82 f_Di_15 rfl rfl (by decide) rfl ?_
    refine j_iload_n d_Di_readFrom_85 rfl rfl ?_
    refine j_aload_n d_Di_readFrom_86 rfl rfl ?_
    refine j_getr d_Di_readFrom_87 f_Di_43 rfl rfl (by decide) rfl ?_
    refine j_iconst (v := 2) d_Di_readFrom_90 rfl ?_
    refine j_iload_n d_Di_readFrom_91 rfl rfl ?_
    refine j_imul d_Di_readFrom_92 ?_
    refine j_iconst (v := 1) d_Di_readFrom_93 rfl ?_
    refine j_iadd d_Di_readFrom_94 ?_
    refine q_i s_Di_readFrom_95 rfl (Nat.le_of_ble_eq_true rfl) (Nat.le_of_ble_eq_true rfl) ?_
    refine c_Ra_av (j := 2 * i + 1) rfl (by decide) (by rw [show (2 : Int32) * nI i = nI (2 * i) from pk_mul 2 i, nI_1]) (by omega) hq2 ?_
    refine j_bipush (v := 97) d_Di_readFrom_98 (by decide) ?_
    refine j_isub d_Di_readFrom_100 ?_
    refine q_v s_Di_readFrom_101 rfl (Nat.le_of_ble_eq_true rfl) (Nat.le_of_ble_eq_true rfl) ?_
    rw [show nI (P.2 (2 * i + 1)) - 97 = nI (P.2 (2 * i + 1) - 97) from pk_sub (b := 97) (by omega)]
    refine c_Ra_put (j := i) rfl (by decide) rfl (by omega) ?_
    refine j_iinc (ls' := [(3, _), (4, _), (0, _), (1, _), (2, _)]) d_Di_readFrom_104 rfl (by decide) rfl ?_
    refine j_goto (tgt := 19) d_Di_readFrom_107 rfl ?_
    refine j_pick [2, 3, 4, 0] (ls' := [(0, _), (1, _), (2, _), (3, _)]) rfl ?_
    refine ih (i + 1) _ _ (by omega) (nI_inc i) (((hx.up (by decide)).up (by decide)).up (by decide)) h33 (fun j hj => ?_)
    by_cases e9 : j = i
    · subst e9
      exact ⟨by simp [r_up, upd, a_rd], by simp [r_up, upd, a_rd], by simp [r_up, upd, a_rd]⟩
    · obtain ⟨f1, f2, f3⟩ := hs j (by omega)
      refine ⟨?_, ?_, ?_⟩
      · simp [r_up, upd, e9]; exact f1
      · simp [r_up, upd, e9]; exact f2
      · simp [r_up, upd, e9]; exact f3
set_option maxRecDepth 100000 in
set_option maxHeartbeats 4000000 in
theorem c_Di_readFrom {G : r_X} {d : Nat} {h : r_HI} {p q : Nat} {z : r_HL} {F : r_HI → r_HR → r_HL → Prop} {P : a_P} {E : Nat} (hP : p_P h P) (hp : a_pok P) (hv : a_vp P E) (hF : ∀ h', r_ex [3, 4, 5, 6] h h' → p_D h' 3 (a_rd P.2 E) → F h' (r_gp p q) z) : r_Cv G m_Di_readFrom (d + 2) 61 [.ref (G.2.1 + 3), .ref (G.2.1 + 1)] 61 h (r_gp p q) z F := by
  have v1 := hv.1
  have v2 := hv.2.1
  refine r_C_of (by decide +kernel) (Nat.le_of_ble_eq_true rfl) ?_
  refine j_ls (ls' := [(0, _), (1, _)]) rfl ?_
  refine j_aload_n d_Di_readFrom_0 rfl rfl ?_
  refine q_i (s_Di_readFrom_1 rfl (by decide)) rfl (Nat.le_of_ble_eq_true rfl) (Nat.le_of_ble_eq_true rfl) ?_
  refine c_Pa_ringsEnd hP hp ?_
  rw [hv.2.2.2.2.1]
  refine j_istore_n (ls' := [(2, _), (0, _), (1, _)]) d_Di_readFrom_4 rfl (by decide) rfl ?_
  refine j_aload_n d_Di_readFrom_5 rfl rfl ?_
  refine j_iload_n d_Di_readFrom_6 rfl rfl ?_
  refine j_iconst (v := 2) d_Di_readFrom_7 rfl ?_
  refine j_idiv d_Di_readFrom_8 (by decide) ?_
  refine j_bipush (v := 10) d_Di_readFrom_9 (by decide) ?_
  refine q_i s_Di_readFrom_11 rfl (Nat.le_of_ble_eq_true rfl) (Nat.le_of_ble_eq_true rfl) ?_
  rw [show nI E / 2 = nI (E / 2) from pk_div (d := 2) (by omega) (by omega) (by omega)]
  refine c_Jm_min ?_
  rw [if_neg (show ¬ (10 : Int32) < nI (E / 2) from nI_nlt (a := 10) (by omega) (by omega))]
  refine j_puti d_Di_readFrom_14 f_Di_21 (by decide) rfl rfl (by decide) ?_
  refine j_iconst (v := 0) d_Di_readFrom_17 rfl ?_
  refine j_istore_n (ls' := [(3, _), (2, _), (0, _), (1, _)]) d_Di_readFrom_18 rfl (by decide) rfl ?_
  refine j_pick [2, 3, 1, 0] (ls' := [(0, _), (1, _), (2, _), (3, _)]) rfl ?_
  exact l_Di_readFrom hP hp hv hF (E / 2) 0 _ _ (by omega) rfl (r_ex.rf.up (by decide)) rfl (fun j hj => absurd hj (Nat.not_lt_zero j))
