set_option maxRecDepth 100000 in
set_option maxHeartbeats 4000000 in
theorem l_trial1 {G : r_X} {d : Nat} {h : r_HI} {p q : Nat} {z : r_HL} {F : Int32 → r_HI → r_HR → r_HL → Prop} {b f s : Nat} (hb : b < 2 ^ 31) (hf9 : f ≤ 9) (hs9 : s < 9) {c2 c3 c5 : Int32} : ∀ (m t : Nat) (v : Int32) (l : Nat), m + t = 9 → v = nI t → (∀ v, r_TM G m_Mo_trialOf (d + 1) 61 61 (fun v h' g' z' => ∃ r, v = some (.int r) ∧ F r h' g' z') 90 [(0, .ref (G.2.1 + 47)), (1, .int (nI b)), (2, .int c2), (3, .int c3), (4, .int (nI f)), (5, .int c5), (6, .int (nI s)), (7, .int (nI (a_wi b f (s + 1) m (t + 1) l))), (8, .int v)] [] 61 h (r_gp p q) z) → r_TM G m_Mo_trialOf (d + 1) 61 61 (fun v h' g' z' => ∃ r, v = some (.int r) ∧ F r h' g' z') 43 [(0, .ref (G.2.1 + 47)), (1, .int (nI b)), (2, .int c2), (3, .int c3), (4, .int (nI f)), (5, .int c5), (6, .int (nI s)), (7, .int (nI l)), (8, .int v)] [] 61 h (r_gp p q) z := by
  intro m
  induction m with
  | zero =>
    intro t v l hm hv kk
    subst hv
    refine j_iload d_Mo_trialOf_43 rfl ?_
    refine j_bipush (v := 9) d_Mo_trialOf_45 (by decide) ?_
    refine j_icmp_ge (tgt := 90) d_Mo_trialOf_47 rfl (fun bq1 => ?_) (fun bq1 => False.elim (bq1 (nI_le (a := 9) (by omega) (by omega))))
    exact kk _
  | succ m ih =>
    intro t v l hm hv kk
    subst hv
    have tf := m_far (s := s) (t := t) (f := f) hs9 (by omega) hf9
    have tI := m_farI (s := s) (t := t) (f := f) hs9 (by omega) hf9
    by_cases cc : a_ds (t + 1) (s + 1) * f ≤ 1
    · have c1 := tI.mpr cc
      rw [← tf] at c1
      have hbit := nI_hb (b := b) (j := t) hb (by omega)
      rcases (show b / 2 ^ t % 2 = 0 ∨ b / 2 ^ t % 2 = 1 by omega) with hz | hz
      · refine j_iload d_Mo_trialOf_43 rfl ?_
        refine j_bipush (v := 9) d_Mo_trialOf_45 (by decide) ?_
        refine j_icmp_ge (tgt := 90) d_Mo_trialOf_47 rfl (fun bq1 => False.elim (nI_ge (b := 9) (by omega) (by omega) bq1)) (fun bq1 => ?_)
        refine j_iload d_Mo_trialOf_50 rfl ?_
        refine j_iload d_Mo_trialOf_52 rfl ?_
        refine j_iload d_Mo_trialOf_54 rfl ?_
        refine j_isub d_Mo_trialOf_56 ?_
        refine j_iload d_Mo_trialOf_57 rfl ?_
        refine j_imul d_Mo_trialOf_59 ?_
        refine j_i2l d_Mo_trialOf_60 ?_
        refine j_ldc2 d_Mo_trialOf_61 k_Mo_268 ?_
        refine j_lconst (v := 1) d_Mo_trialOf_64 rfl ?_
        refine q_i s_Mo_trialOf_65 rfl (Nat.le_of_ble_eq_true rfl) (Nat.le_of_ble_eq_true rfl) ?_
        refine c_inY (-1) 1 (by decide) (by decide) c1 ?_
        refine j_if_eq (tgt := 80) d_Mo_trialOf_68 rfl (fun bq2 => False.elim (absurd bq2 (by decide))) (fun bq2 => ?_)
        refine j_iload_n d_Mo_trialOf_71 rfl rfl ?_
        refine j_iload d_Mo_trialOf_72 rfl ?_
        refine j_ishr d_Mo_trialOf_74 ?_
        refine j_iconst (v := 1) d_Mo_trialOf_75 rfl ?_
        refine j_iand d_Mo_trialOf_76 ?_
        refine j_goto (tgt := 81) d_Mo_trialOf_77 rfl ?_
        rw [hbit, hz]
        refine j_iadd d_Mo_trialOf_81 ?_
        rw [nI_add]
        refine j_istore (ls' := [(7, _), (0, _), (1, _), (2, _), (3, _), (4, _), (5, _), (6, _), (8, _)]) d_Mo_trialOf_82 (by decide) rfl ?_
        refine j_iinc (ls' := [(8, _), (7, _), (0, _), (1, _), (2, _), (3, _), (4, _), (5, _), (6, _)]) d_Mo_trialOf_84 rfl (by decide) rfl ?_
        refine j_goto (tgt := 43) d_Mo_trialOf_87 rfl ?_
        refine j_pick [2, 3, 4, 5, 6, 7, 8, 1, 0] (ls' := [(0, _), (1, _), (2, _), (3, _), (4, _), (5, _), (6, _), (7, _), (8, _)]) rfl ?_
        have e9 : a_wi b f (s + 1) (m + 1) (t + 1) l = a_wi b f (s + 1) m (t + 2) (l + 0) := by rw [a_wi, show t + 1 - 1 = t by omega]; simp [a_hb, cc, hz]
        rw [e9] at kk
        exact ih (t + 1) _ _ (by omega) (nI_inc t) kk
      · refine j_iload d_Mo_trialOf_43 rfl ?_
        refine j_bipush (v := 9) d_Mo_trialOf_45 (by decide) ?_
        refine j_icmp_ge (tgt := 90) d_Mo_trialOf_47 rfl (fun bq1 => False.elim (nI_ge (b := 9) (by omega) (by omega) bq1)) (fun bq1 => ?_)
        refine j_iload d_Mo_trialOf_50 rfl ?_
        refine j_iload d_Mo_trialOf_52 rfl ?_
        refine j_iload d_Mo_trialOf_54 rfl ?_
        refine j_isub d_Mo_trialOf_56 ?_
        refine j_iload d_Mo_trialOf_57 rfl ?_
        refine j_imul d_Mo_trialOf_59 ?_
        refine j_i2l d_Mo_trialOf_60 ?_
        refine j_ldc2 d_Mo_trialOf_61 k_Mo_268 ?_
        refine j_lconst (v := 1) d_Mo_trialOf_64 rfl ?_
        refine q_i s_Mo_trialOf_65 rfl (Nat.le_of_ble_eq_true rfl) (Nat.le_of_ble_eq_true rfl) ?_
        refine c_inY (-1) 1 (by decide) (by decide) c1 ?_
        refine j_if_eq (tgt := 80) d_Mo_trialOf_68 rfl (fun bq2 => False.elim (absurd bq2 (by decide))) (fun bq2 => ?_)
        refine j_iload_n d_Mo_trialOf_71 rfl rfl ?_
        refine j_iload d_Mo_trialOf_72 rfl ?_
        refine j_ishr d_Mo_trialOf_74 ?_
        refine j_iconst (v := 1) d_Mo_trialOf_75 rfl ?_
        refine j_iand d_Mo_trialOf_76 ?_
        refine j_goto (tgt := 81) d_Mo_trialOf_77 rfl ?_
        rw [hbit, hz]
        refine j_iadd d_Mo_trialOf_81 ?_
        rw [nI_add]
        refine j_istore (ls' := [(7, _), (0, _), (1, _), (2, _), (3, _), (4, _), (5, _), (6, _), (8, _)]) d_Mo_trialOf_82 (by decide) rfl ?_
        refine j_iinc (ls' := [(8, _), (7, _), (0, _), (1, _), (2, _), (3, _), (4, _), (5, _), (6, _)]) d_Mo_trialOf_84 rfl (by decide) rfl ?_
        refine j_goto (tgt := 43) d_Mo_trialOf_87 rfl ?_
        refine j_pick [2, 3, 4, 5, 6, 7, 8, 1, 0] (ls' := [(0, _), (1, _), (2, _), (3, _), (4, _), (5, _), (6, _), (7, _), (8, _)]) rfl ?_
        have e9 : a_wi b f (s + 1) (m + 1) (t + 1) l = a_wi b f (s + 1) m (t + 2) (l + 1) := by rw [a_wi, show t + 1 - 1 = t by omega]; simp [a_hb, cc, hz]
        rw [e9] at kk
        exact ih (t + 1) _ _ (by omega) (nI_inc t) kk
    · have c1 : ((nI s - nI t) * nI f).toInt < -1 ∨ 1 < ((nI s - nI t) * nI f).toInt := by
        rw [tf]
        have := fun q => cc (tI.mp q)
        omega
      refine j_iload d_Mo_trialOf_43 rfl ?_
      refine j_bipush (v := 9) d_Mo_trialOf_45 (by decide) ?_
      refine j_icmp_ge (tgt := 90) d_Mo_trialOf_47 rfl (fun bq1 => False.elim (nI_ge (b := 9) (by omega) (by omega) bq1)) (fun bq1 => ?_)
      refine j_iload d_Mo_trialOf_50 rfl ?_
      refine j_iload d_Mo_trialOf_52 rfl ?_
      refine j_iload d_Mo_trialOf_54 rfl ?_
      refine j_isub d_Mo_trialOf_56 ?_
      refine j_iload d_Mo_trialOf_57 rfl ?_
      refine j_imul d_Mo_trialOf_59 ?_
      refine j_i2l d_Mo_trialOf_60 ?_
      refine j_ldc2 d_Mo_trialOf_61 k_Mo_268 ?_
      refine j_lconst (v := 1) d_Mo_trialOf_64 rfl ?_
      refine q_i s_Mo_trialOf_65 rfl (Nat.le_of_ble_eq_true rfl) (Nat.le_of_ble_eq_true rfl) ?_
      refine c_inN (-1) 1 (by decide) (by decide) c1 ?_
      refine j_if_eq (tgt := 80) d_Mo_trialOf_68 rfl (fun bq2 => ?_) (fun bq2 => False.elim (bq2 rfl))
      refine j_iconst (v := 0) d_Mo_trialOf_80 rfl ?_
      refine j_iadd d_Mo_trialOf_81 ?_
      rw [Int32.add_zero]
      refine j_istore (ls' := [(7, _), (0, _), (1, _), (2, _), (3, _), (4, _), (5, _), (6, _), (8, _)]) d_Mo_trialOf_82 (by decide) rfl ?_
      refine j_iinc (ls' := [(8, _), (7, _), (0, _), (1, _), (2, _), (3, _), (4, _), (5, _), (6, _)]) d_Mo_trialOf_84 rfl (by decide) rfl ?_
      refine j_goto (tgt := 43) d_Mo_trialOf_87 rfl ?_
      refine j_pick [2, 3, 4, 5, 6, 7, 8, 1, 0] (ls' := [(0, _), (1, _), (2, _), (3, _), (4, _), (5, _), (6, _), (7, _), (8, _)]) rfl ?_
      have e9 : a_wi b f (s + 1) (m + 1) (t + 1) l = a_wi b f (s + 1) m (t + 2) (l) := by rw [a_wi, show t + 1 - 1 = t by omega]; simp [a_hb, cc]
      rw [e9] at kk
      exact ih (t + 1) _ _ (by omega) (nI_inc t) kk
set_option maxRecDepth 100000 in
set_option maxHeartbeats 4000000 in
theorem l_trial2 {G : r_X} {d : Nat} {h : r_HI} {p q : Nat} {z : r_HL} {F : Int32 → r_HI → r_HR → r_HL → Prop} {b f : Nat} (hb : b < 2 ^ 31) (hf9 : f ≤ 9) {c2 c3 : Int32} : ∀ (m s : Nat) (v : Int32) (w : Nat), m + s = 9 → v = nI s → w ≤ 9 → (∀ v, r_TM G m_Mo_trialOf (d + 1) 61 61 (fun v h' g' z' => ∃ r, v = some (.int r) ∧ F r h' g' z') 122 [(0, .ref (G.2.1 + 47)), (1, .int (nI b)), (2, .int c2), (3, .int c3), (4, .int (nI f)), (5, .int (nI (a_wo b f m (s + 1) w))), (6, .int v)] [] 61 h (r_gp p q) z) → r_TM G m_Mo_trialOf (d + 1) 61 61 (fun v h' g' z' => ∃ r, v = some (.int r) ∧ F r h' g' z') 30 [(0, .ref (G.2.1 + 47)), (1, .int (nI b)), (2, .int c2), (3, .int c3), (4, .int (nI f)), (5, .int (nI w)), (6, .int v)] [] 61 h (r_gp p q) z := by
  intro m
  induction m with
  | zero =>
    intro s v w hm hv hw kk
    subst hv
    refine j_iload d_Mo_trialOf_30 rfl ?_
    refine j_bipush (v := 9) d_Mo_trialOf_32 (by decide) ?_
    refine j_icmp_ge (tgt := 122) d_Mo_trialOf_34 rfl (fun bq1 => ?_) (fun bq1 => False.elim (bq1 (nI_le (a := 9) (by omega) (by omega))))
    exact kk _
  | succ m ih =>
    intro s v w hm hv hw kk
    subst hv
    have hwi := a_wi_le b f (s + 1) 9 1 0
    have hbit := nI_hb (b := b) (j := s) hb (by omega)
    refine j_iload d_Mo_trialOf_30 rfl ?_
    refine j_bipush (v := 9) d_Mo_trialOf_32 (by decide) ?_
    refine j_icmp_ge (tgt := 122) d_Mo_trialOf_34 rfl (fun bq1 => False.elim (nI_ge (b := 9) (by omega) (by omega) bq1)) (fun bq1 => ?_)
    refine j_iconst (v := 0) d_Mo_trialOf_37 rfl ?_
    refine j_istore (ls' := [(7, _), (0, _), (1, _), (2, _), (3, _), (4, _), (5, _), (6, _)]) d_Mo_trialOf_38 (by decide) rfl ?_
    refine j_iconst (v := 0) d_Mo_trialOf_40 rfl ?_
    refine j_istore (ls' := [(8, _), (7, _), (0, _), (1, _), (2, _), (3, _), (4, _), (5, _), (6, _)]) d_Mo_trialOf_41 (by decide) rfl ?_
    refine j_pick [2, 3, 4, 5, 6, 7, 8, 1, 0] (ls' := [(0, _), (1, _), (2, _), (3, _), (4, _), (5, _), (6, _), (7, _), (8, _)]) rfl ?_
    refine l_trial1 hb hf9 (s := s) (by omega) 9 0 _ 0 (by omega) rfl (fun v => ?_)
    rcases (show b / 2 ^ s % 2 = 0 ∨ b / 2 ^ s % 2 = 1 by omega) with hz | hz
    · refine j_iload_n d_Mo_trialOf_90 rfl rfl ?_
      refine j_iload d_Mo_trialOf_91 rfl ?_
      refine j_ishr d_Mo_trialOf_93 ?_
      refine j_iconst (v := 1) d_Mo_trialOf_94 rfl ?_
      refine j_iand d_Mo_trialOf_95 ?_
      rw [hbit, hz]
      refine j_iconst (v := 1) d_Mo_trialOf_96 rfl ?_
      refine j_icmp_ne (tgt := 112) d_Mo_trialOf_97 rfl (fun bq1 => ?_) (fun bq1 => False.elim (absurd bq1 (by decide)))
      refine j_iload d_Mo_trialOf_112 rfl ?_
      refine j_istore (ls' := [(5, _), (0, _), (1, _), (2, _), (3, _), (4, _), (6, _), (7, _), (8, _)]) d_Mo_trialOf_114 (by decide) rfl ?_
      refine j_iinc (ls' := [(6, _), (5, _), (0, _), (1, _), (2, _), (3, _), (4, _), (7, _), (8, _)]) d_Mo_trialOf_116 rfl (by decide) rfl ?_
      refine j_goto (tgt := 30) d_Mo_trialOf_119 rfl ?_
      refine j_pick [2, 3, 4, 5, 6, 1, 0] (ls' := [(0, _), (1, _), (2, _), (3, _), (4, _), (5, _), (6, _)]) rfl ?_
      have e9 : a_wo b f (m + 1) (s + 1) w = a_wo b f m (s + 2) (w) := by rw [a_wo, show s + 1 - 1 = s by omega]; rw [if_neg (by simp [a_hb, hz])]
      rw [e9] at kk
      exact ih (s + 1) _ _ (by omega) (nI_inc s) (by omega) kk
    · by_cases c : w < a_wi b f (s + 1) 9 1 0
      · refine j_iload_n d_Mo_trialOf_90 rfl rfl ?_
        refine j_iload d_Mo_trialOf_91 rfl ?_
        refine j_ishr d_Mo_trialOf_93 ?_
        refine j_iconst (v := 1) d_Mo_trialOf_94 rfl ?_
        refine j_iand d_Mo_trialOf_95 ?_
        rw [hbit, hz]
        refine j_iconst (v := 1) d_Mo_trialOf_96 rfl ?_
        refine j_icmp_ne (tgt := 112) d_Mo_trialOf_97 rfl (fun bq1 => False.elim (bq1 rfl)) (fun bq1 => ?_)
        refine j_iload d_Mo_trialOf_100 rfl ?_
        refine j_iload d_Mo_trialOf_102 rfl ?_
        refine j_icmp_le (tgt := 112) d_Mo_trialOf_104 rfl (fun bq2 => False.elim (nI_ge (a := w) (b := a_wi b f (s + 1) 9 1 0) c (by omega) bq2)) (fun bq2 => ?_)
        refine j_iload d_Mo_trialOf_107 rfl ?_
        refine j_goto (tgt := 114) d_Mo_trialOf_109 rfl ?_
        refine j_istore (ls' := [(5, _), (0, _), (1, _), (2, _), (3, _), (4, _), (6, _), (7, _), (8, _)]) d_Mo_trialOf_114 (by decide) rfl ?_
        refine j_iinc (ls' := [(6, _), (5, _), (0, _), (1, _), (2, _), (3, _), (4, _), (7, _), (8, _)]) d_Mo_trialOf_116 rfl (by decide) rfl ?_
        refine j_goto (tgt := 30) d_Mo_trialOf_119 rfl ?_
        refine j_pick [2, 3, 4, 5, 6, 1, 0] (ls' := [(0, _), (1, _), (2, _), (3, _), (4, _), (5, _), (6, _)]) rfl ?_
        have e9 : a_wo b f (m + 1) (s + 1) w = a_wo b f m (s + 2) (a_wi b f (s + 1) 9 1 0) := by rw [a_wo, show s + 1 - 1 = s by omega]; rw [if_pos (by simp [a_hb, hz]), Nat.max_eq_right (by omega)]
        rw [e9] at kk
        exact ih (s + 1) _ _ (by omega) (nI_inc s) (by omega) kk
      · refine j_iload_n d_Mo_trialOf_90 rfl rfl ?_
        refine j_iload d_Mo_trialOf_91 rfl ?_
        refine j_ishr d_Mo_trialOf_93 ?_
        refine j_iconst (v := 1) d_Mo_trialOf_94 rfl ?_
        refine j_iand d_Mo_trialOf_95 ?_
        rw [hbit, hz]
        refine j_iconst (v := 1) d_Mo_trialOf_96 rfl ?_
        refine j_icmp_ne (tgt := 112) d_Mo_trialOf_97 rfl (fun bq1 => False.elim (bq1 rfl)) (fun bq1 => ?_)
        refine j_iload d_Mo_trialOf_100 rfl ?_
        refine j_iload d_Mo_trialOf_102 rfl ?_
        refine j_icmp_le (tgt := 112) d_Mo_trialOf_104 rfl (fun bq2 => ?_) (fun bq2 => False.elim (bq2 (nI_le (a := a_wi b f (s + 1) 9 1 0) (b := w) (by omega) (by omega))))
        refine j_iload d_Mo_trialOf_112 rfl ?_
        refine j_istore (ls' := [(5, _), (0, _), (1, _), (2, _), (3, _), (4, _), (6, _), (7, _), (8, _)]) d_Mo_trialOf_114 (by decide) rfl ?_
        refine j_iinc (ls' := [(6, _), (5, _), (0, _), (1, _), (2, _), (3, _), (4, _), (7, _), (8, _)]) d_Mo_trialOf_116 rfl (by decide) rfl ?_
        refine j_goto (tgt := 30) d_Mo_trialOf_119 rfl ?_
        refine j_pick [2, 3, 4, 5, 6, 1, 0] (ls' := [(0, _), (1, _), (2, _), (3, _), (4, _), (5, _), (6, _)]) rfl ?_
        have e9 : a_wo b f (m + 1) (s + 1) w = a_wo b f m (s + 2) (w) := by rw [a_wo, show s + 1 - 1 = s by omega]; rw [if_pos (by simp [a_hb, hz]), Nat.max_eq_left (by omega)]
        rw [e9] at kk
        exact ih (s + 1) _ _ (by omega) (nI_inc s) (by omega) kk
set_option maxRecDepth 100000 in
set_option maxHeartbeats 4000000 in
theorem l_trial3 {G : r_X} {d : Nat} {h : r_HI} {p q : Nat} {z : r_HL} {F : Int32 → r_HI → r_HR → r_HL → Prop} {b : Nat} (hb : b < 2 ^ 31) (hb0 : 0 < b) : ∀ (m f : Nat) (v : Int32) (x : Nat × Nat), m + f = 10 → v = nI f → 0 < f → x.1 ≤ 10 → F (a_mi (a_bt b m f x).2) h (r_gp p q) z → r_TM G m_Mo_trialOf (d + 1) 61 61 (fun v h' g' z' => ∃ r, v = some (.int r) ∧ F r h' g' z') 13 [(0, .ref (G.2.1 + 47)), (1, .int (nI b)), (2, .int (a_mi x.2)), (3, .int (nI x.1)), (4, .int v)] [] 61 h (r_gp p q) z := by
  intro m
  induction m with
  | zero =>
    intro f v x hm hv hf0 hx hF
    subst hv
    refine j_iload d_Mo_trialOf_13 rfl ?_
    refine j_bipush (v := 10) d_Mo_trialOf_15 (by decide) ?_
    refine j_icmp_ge (tgt := 154) d_Mo_trialOf_17 rfl (fun bq1 => ?_) (fun bq1 => False.elim (bq1 (nI_le (a := 10) (by omega) (by omega))))
    refine j_iload_n d_Mo_trialOf_154 rfl rfl ?_
    refine j_iret d_Mo_trialOf_155 rfl ?_
    exact q_i1 hF rfl
  | succ m ih =>
    intro f v x hm hv hf0 hx hF
    subst hv
    have hwo : a_wo b f 9 1 0 ≤ 9 := by have := a_wo_le b f 9 1 0; omega
    refine j_iload d_Mo_trialOf_13 rfl ?_
    refine j_bipush (v := 10) d_Mo_trialOf_15 (by decide) ?_
    refine j_icmp_ge (tgt := 154) d_Mo_trialOf_17 rfl (fun bq1 => False.elim (nI_ge (b := 10) (by omega) (by omega) bq1)) (fun bq1 => ?_)
    refine j_iload_n d_Mo_trialOf_20 rfl rfl ?_
    refine j_if_eq (tgt := 154) d_Mo_trialOf_21 rfl (fun bq2 => False.elim (absurd ((nI_eq (b := 0) (by omega) (by omega)).mp bq2) (by omega))) (fun bq2 => ?_)
    refine j_iconst (v := 0) d_Mo_trialOf_24 rfl ?_
    refine j_istore (ls' := [(5, _), (0, _), (1, _), (2, _), (3, _), (4, _)]) d_Mo_trialOf_25 (by decide) rfl ?_
    refine j_iconst (v := 0) d_Mo_trialOf_27 rfl ?_
    refine j_istore (ls' := [(6, _), (5, _), (0, _), (1, _), (2, _), (3, _), (4, _)]) d_Mo_trialOf_28 (by decide) rfl ?_
    refine j_pick [2, 3, 4, 5, 6, 1, 0] (ls' := [(0, _), (1, _), (2, _), (3, _), (4, _), (5, _), (6, _)]) rfl ?_
    refine l_trial2 hb (f := f) (by omega) 9 0 _ 0 (by omega) rfl (by omega) (fun v => ?_)
    by_cases c : a_wo b f 9 1 0 < x.1
    · refine j_iload d_Mo_trialOf_122 rfl ?_
      refine j_iload_n d_Mo_trialOf_124 rfl rfl ?_
      refine j_icmp_ge (tgt := 133) d_Mo_trialOf_125 rfl (fun bq1 => False.elim (nI_ge c (by omega) bq1)) (fun bq1 => ?_)
      refine j_iload d_Mo_trialOf_128 rfl ?_
      refine j_goto (tgt := 134) d_Mo_trialOf_130 rfl ?_
      refine j_istore_n (ls' := [(2, _), (0, _), (1, _), (3, _), (4, _), (5, _), (6, _)]) d_Mo_trialOf_134 rfl (by decide) rfl ?_
      refine j_iload d_Mo_trialOf_135 rfl ?_
      refine j_iload_n d_Mo_trialOf_137 rfl rfl ?_
      refine j_icmp_ge (tgt := 146) d_Mo_trialOf_138 rfl (fun bq2 => False.elim (nI_ge c (by omega) bq2)) (fun bq2 => ?_)
      refine j_iload d_Mo_trialOf_141 rfl ?_
      refine j_goto (tgt := 147) d_Mo_trialOf_143 rfl ?_
      refine j_istore_n (ls' := [(3, _), (2, _), (0, _), (1, _), (4, _), (5, _), (6, _)]) d_Mo_trialOf_147 rfl (by decide) rfl ?_
      refine j_iinc (ls' := [(4, _), (3, _), (2, _), (0, _), (1, _), (5, _), (6, _)]) d_Mo_trialOf_148 rfl (by decide) rfl ?_
      refine j_goto (tgt := 13) d_Mo_trialOf_151 rfl ?_
      refine j_pick [3, 4, 2, 1, 0] (ls' := [(0, _), (1, _), (2, _), (3, _), (4, _)]) rfl ?_
      have e9 : a_bt b (m + 1) f x = a_bt b m (f + 1) (a_wo b f 9 1 0, f) := by rw [a_bt, if_pos c]
      rw [e9] at hF
      refine j_ls ?_ (ih (f + 1) _ (a_wo b f 9 1 0, f) (by omega) (nI_inc f) (by omega) (by show a_wo b f 9 1 0 ≤ 10; omega) hF)
      simp [a_mi, show ¬ f = 0 by omega]
    · refine j_iload d_Mo_trialOf_122 rfl ?_
      refine j_iload_n d_Mo_trialOf_124 rfl rfl ?_
      refine j_icmp_ge (tgt := 133) d_Mo_trialOf_125 rfl (fun bq1 => ?_) (fun bq1 => False.elim (bq1 (nI_le (b := a_wo b f 9 1 0) (by omega) (by omega))))
      refine j_iload_n d_Mo_trialOf_133 rfl rfl ?_
      refine j_istore_n (ls' := [(2, _), (0, _), (1, _), (3, _), (4, _), (5, _), (6, _)]) d_Mo_trialOf_134 rfl (by decide) rfl ?_
      refine j_iload d_Mo_trialOf_135 rfl ?_
      refine j_iload_n d_Mo_trialOf_137 rfl rfl ?_
      refine j_icmp_ge (tgt := 146) d_Mo_trialOf_138 rfl (fun bq2 => ?_) (fun bq2 => False.elim (bq2 (nI_le (b := a_wo b f 9 1 0) (by omega) (by omega))))
      refine j_iload_n d_Mo_trialOf_146 rfl rfl ?_
      refine j_istore_n (ls' := [(3, _), (2, _), (0, _), (1, _), (4, _), (5, _), (6, _)]) d_Mo_trialOf_147 rfl (by decide) rfl ?_
      refine j_iinc (ls' := [(4, _), (3, _), (2, _), (0, _), (1, _), (5, _), (6, _)]) d_Mo_trialOf_148 rfl (by decide) rfl ?_
      refine j_goto (tgt := 13) d_Mo_trialOf_151 rfl ?_
      refine j_pick [3, 4, 2, 1, 0] (ls' := [(0, _), (1, _), (2, _), (3, _), (4, _)]) rfl ?_
      have e9 : a_bt b (m + 1) f x = a_bt b m (f + 1) x := by rw [a_bt, if_neg c]
      rw [e9] at hF
      refine j_ls ?_ (ih (f + 1) _ x (by omega) (nI_inc f) (by omega) (by exact hx) hF)
      rfl
set_option maxRecDepth 100000 in
set_option maxHeartbeats 4000000 in
theorem c_Mo_trialOf {G : r_X} {d : Nat} {h : r_HI} {p q : Nat} {z : r_HL} {F : Int32 → r_HI → r_HR → r_HL → Prop} {S : a_S} (hS : p_Sm h 24 56 S) (hs : a_sok S) {st : Nat} (h4 : h 47 4 = nI st) (hst : st ≤ 9) (hF : F (a_tri (a_ft st S 9)) h (r_gp p q) z) : r_Ci G m_Mo_trialOf (d + 2) 61 [.ref (G.2.1 + 47)] 61 h (r_gp p q) z F := by
  have hft := a_ft_lt st S 9
  by_cases b0 : (a_ft st S 9) = 0
  · rw [b0] at hF
    refine r_C_of (by decide +kernel) (Nat.le_of_ble_eq_true rfl) ?_
    refine j_ls (ls' := [(0, _)]) rfl ?_
    refine j_aload_n d_Mo_trialOf_0 rfl rfl ?_
    refine q_i (s_Mo_trialOf_1 rfl (by decide)) rfl (Nat.le_of_ble_eq_true rfl) (Nat.le_of_ble_eq_true rfl) ?_
    refine c_Mo_stepsOf hS hs h4 hst ?_
    refine j_istore_n (ls' := [(1, _), (0, _)]) d_Mo_trialOf_4 rfl (by decide) rfl ?_
    refine j_iconst (v := (-1)) d_Mo_trialOf_5 rfl ?_
    refine j_istore_n (ls' := [(2, _), (1, _), (0, _)]) d_Mo_trialOf_6 rfl (by decide) rfl ?_
    refine j_bipush (v := 10) d_Mo_trialOf_7 (by decide) ?_
    refine j_istore_n (ls' := [(3, _), (2, _), (1, _), (0, _)]) d_Mo_trialOf_9 rfl (by decide) rfl ?_
    refine j_iconst (v := 1) d_Mo_trialOf_10 rfl ?_
    refine j_istore (ls' := [(4, _), (3, _), (2, _), (1, _), (0, _)]) d_Mo_trialOf_11 (by decide) rfl ?_
    refine j_iload d_Mo_trialOf_13 rfl ?_
    refine j_bipush (v := 10) d_Mo_trialOf_15 (by decide) ?_
    refine j_icmp_ge (tgt := 154) d_Mo_trialOf_17 rfl (fun bq1 => False.elim (absurd bq1 (by decide))) (fun bq1 => ?_)
    refine j_iload_n d_Mo_trialOf_20 rfl rfl ?_
    refine j_if_eq (tgt := 154) d_Mo_trialOf_21 rfl (fun bq2 => ?_) (fun bq2 => False.elim (bq2 (congrArg nI b0)))
    refine j_iload_n d_Mo_trialOf_154 rfl rfl ?_
    refine j_iret d_Mo_trialOf_155 rfl ?_
    exact q_i1 hF rfl
  · rw [a_tri, if_neg b0] at hF
    refine r_C_of (by decide +kernel) (Nat.le_of_ble_eq_true rfl) ?_
    refine j_ls (ls' := [(0, _)]) rfl ?_
    refine j_aload_n d_Mo_trialOf_0 rfl rfl ?_
    refine q_i (s_Mo_trialOf_1 rfl (by decide)) rfl (Nat.le_of_ble_eq_true rfl) (Nat.le_of_ble_eq_true rfl) ?_
    refine c_Mo_stepsOf hS hs h4 hst ?_
    refine j_istore_n (ls' := [(1, _), (0, _)]) d_Mo_trialOf_4 rfl (by decide) rfl ?_
    refine j_iconst (v := (-1)) d_Mo_trialOf_5 rfl ?_
    refine j_istore_n (ls' := [(2, _), (1, _), (0, _)]) d_Mo_trialOf_6 rfl (by decide) rfl ?_
    refine j_bipush (v := 10) d_Mo_trialOf_7 (by decide) ?_
    refine j_istore_n (ls' := [(3, _), (2, _), (1, _), (0, _)]) d_Mo_trialOf_9 rfl (by decide) rfl ?_
    refine j_iconst (v := 1) d_Mo_trialOf_10 rfl ?_
    refine j_istore (ls' := [(4, _), (3, _), (2, _), (1, _), (0, _)]) d_Mo_trialOf_11 (by decide) rfl ?_
    refine j_pick [4, 3, 2, 1, 0] (ls' := [(0, _), (1, _), (2, _), (3, _), (4, _)]) rfl ?_
    exact l_trial3 (b := (a_ft st S 9)) (by omega) (by omega) 9 1 _ (10, 0) (by omega) rfl (by omega) (by decide) hF
set_option maxRecDepth 100000 in
set_option maxHeartbeats 4000000 in
theorem c_Mo_trial {G : r_X} {d : Nat} {h : r_HI} {p q : Nat} {z : r_HL} {F : Int32 → r_HI → r_HR → r_HL → Prop} {Z : a_Z} (hM : p_M h Z) (ho : a_zok Z) (hF : ∀ h', r_ey r_As r_Js h h' → F (s_trial Z) h' (r_gp p q) z) : r_Ci G m_Mo_trial (d + 20) 61 [.ref (G.2.1 + 47)] 61 h (r_gp p q) z F := by
  obtain ⟨mG, mN, mJ0, m6, mW, mS, m11, m20, mkk, mkp⟩ := id hM
  obtain ⟨op, ⟨od, ok, otk, ow, os, okd⟩, o3, o4, o5, o6, o7⟩ := id ho
  obtain ⟨od1, od2, od3, od4⟩ := id od
  obtain ⟨ok1, ok2, ok3, ok4⟩ := id ok
  have os1 := os.1
  have op1 := op.1
  by_cases hR : Z.2.1.1.1 = 0
  · have hs : s_trial Z = -103 := by simp [s_trial, hR]
    rw [hs] at hF
    refine r_C_of (by decide +kernel) (Nat.le_of_ble_eq_true rfl) ?_
    refine j_ls (ls' := [(0, _)]) rfl ?_
    refine j_aload_n d_Mo_trial_0 rfl rfl ?_
    refine q_i (s_Mo_trial_1 rfl (by decide)) rfl (Nat.le_of_ble_eq_true rfl) (Nat.le_of_ble_eq_true rfl) ?_
    refine c_Mo_lacksY mN od hR ?_
    refine j_if_eq (tgt := 12) d_Mo_trial_4 rfl (fun bq1 => False.elim (absurd bq1 (by decide))) (fun bq1 => ?_)
    refine j_bipush (v := (-103)) d_Mo_trial_7 (by decide) ?_
    refine j_goto (tgt := 16) d_Mo_trial_9 rfl ?_
    refine j_iret d_Mo_trial_16 rfl ?_
    exact q_i1 (hF _ r_ey.rf) rfl
  · have hs : s_trial Z = a_tri (a_ft Z.2.1.1.2.1 Z.2.1.2.2.2.1 9) := by simp [s_trial, hR]
    rw [hs] at hF
    refine r_C_of (by decide +kernel) (Nat.le_of_ble_eq_true rfl) ?_
    refine j_ls (ls' := [(0, _)]) rfl ?_
    refine j_aload_n d_Mo_trial_0 rfl rfl ?_
    refine q_i (s_Mo_trial_1 rfl (by decide)) rfl (Nat.le_of_ble_eq_true rfl) (Nat.le_of_ble_eq_true rfl) ?_
    refine c_Mo_lacksN mN od hR ?_
    refine j_if_eq (tgt := 12) d_Mo_trial_4 rfl (fun bq1 => ?_) (fun bq1 => False.elim (bq1 rfl))
    refine j_aload_n d_Mo_trial_12 rfl rfl ?_
    refine q_i (s_Mo_trial_13 rfl (by decide)) rfl (Nat.le_of_ble_eq_true rfl) (Nat.le_of_ble_eq_true rfl) ?_
    refine c_Mo_trialOf mS os mN.2.1 od2 ?_
    refine j_iret d_Mo_trial_16 rfl ?_
    exact q_i1 (hF _ r_ey.rf) rfl
