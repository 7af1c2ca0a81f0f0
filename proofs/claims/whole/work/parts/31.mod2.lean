theorem a_am_id {n : Nat} : a_am (fun i => i) n = 0 := by
  induction n with
  | zero => rfl
  | succ n ih =>
    unfold a_am
    by_cases e : n = 0
    · rw [if_pos e]
    · rw [if_neg e, ih, if_neg (by omega)]
theorem a_nx_near {D : a_D} {K : a_K} (hn : 0 < K.2.2.2.1) (h9 : ∀ i, i < K.2.2.2.1 → a_ds (K.2.2.2.2.1 i) K.2.1 ≤ 9) : a_ob (a_om (a_aw K 0) K.2.2.2.1) = nI (a_nx D K 1) := by
  obtain ⟨b, hb⟩ := a_om_all (f := a_aw K 0) (n := K.2.2.2.1) (fun i _ => by simp [a_aw]) hn
  have h := a_om_am (p := a_pr D K 1) (v := fun _ => 0) (fun i hi => ⟨fun e => by simp [a_aw] at e, fun u e => by
    have e : some (a_ds (K.2.2.2.2.1 i) K.2.1) = some u := e
    injection e with e
    exact ⟨e, by rw [← e]; exact h9 i hi⟩⟩) hb
  rw [hb, show a_nx D K 1 = b.1 from h]
  rfl
theorem a_sw_aw {K : a_K} (hw : K.2.2.1 ≤ 1) (i : Nat) : a_aw K (if K.2.2.1 = 1 then 1 else 2) i = if a_ah K i then some (a_ds (K.2.2.2.2.1 i) K.2.1) else none := by
  unfold a_aw a_ah a_ds
  by_cases c : K.2.2.1 = 1
  · simp only [if_pos c]
    by_cases e : K.2.1 ≤ K.2.2.2.2.1 i
    · simp [e]
      omega
    · simp [e]
  · simp only [if_neg c]
    by_cases e : K.2.2.2.2.1 i ≤ K.2.1
    · simp [e]
      intro _
      omega
    · simp [e]
theorem a_sw_no {K : a_K} (hw : K.2.2.1 ≤ 1) {i : Nat} (h : a_ah K i = false) : a_aw K (if 1 - K.2.2.1 = 1 then 1 else 2) i = some (a_ds (K.2.2.2.2.1 i) K.2.1) := by
  unfold a_ah at h
  unfold a_aw a_ds
  by_cases c : K.2.2.1 = 1
  · rw [if_pos c] at h
    have h := of_decide_eq_false h
    rw [if_neg (show ¬ 1 - K.2.2.1 = 1 by omega)]
    simp only [if_pos (show K.2.2.2.2.1 i ≤ K.2.1 by omega), if_pos (show K.2.2.2.2.1 i < K.2.1 by omega)]
    rfl
  · rw [if_neg c] at h
    have h := of_decide_eq_false h
    rw [if_pos (show 1 - K.2.2.1 = 1 by omega)]
    simp only [if_pos (show K.2.1 ≤ K.2.2.2.2.1 i by omega), if_neg (show ¬ K.2.2.2.2.1 i < K.2.1 by omega)]
    rfl
theorem a_sw1 {D : a_D} {K : a_K} (hw : K.2.2.1 ≤ 1) (h9 : ∀ i, i < K.2.2.2.1 → a_ds (K.2.2.2.2.1 i) K.2.1 ≤ 9) {b : Nat × Nat} (hb : a_om (a_aw K (if K.2.2.1 = 1 then 1 else 2)) K.2.2.2.1 = some b) : a_nx D K 2 = b.1 ∧ a_tw K 2 (a_nx D K 2) = K.2.2.1 := by
  have h := a_om_am (p := a_pr D K 2) (v := fun i => a_ds (K.2.2.2.2.1 i) K.2.1) (fun i hi => by
    rw [a_sw_aw hw]
    show _ ∧ _
    refine ⟨fun e => ?_, fun u e => ?_⟩
    · show (if a_ah K i then _ else _) = _
      by_cases c : a_ah K i = true
      · rw [if_pos c] at e
        cases e
      · rw [if_neg c]
    · show (if a_ah K i then _ else _) = _ ∧ _
      by_cases c : a_ah K i = true
      · rw [if_pos c] at e ⊢
        injection e with e
        exact ⟨e, by rw [← e]; exact h9 i hi⟩
      · rw [if_neg c] at e
        cases e) hb
  refine ⟨h, ?_⟩
  have h2 := (a_om_lt hb).2
  rw [a_sw_aw hw] at h2
  have h3 : a_nx D K 2 = b.1 := h
  rw [h3]
  unfold a_tw
  rw [if_neg]
  intro q
  rw [q.2] at h2
  cases h2
theorem a_sw2 {D : a_D} {K : a_K} (hw : K.2.2.1 ≤ 1) (hn : 0 < K.2.2.2.1) (h9 : ∀ i, i < K.2.2.2.1 → a_ds (K.2.2.2.2.1 i) K.2.1 ≤ 9) (hb : a_om (a_aw K (if K.2.2.1 = 1 then 1 else 2)) K.2.2.2.1 = none) : a_ob (a_om (a_aw K (if 1 - K.2.2.1 = 1 then 1 else 2)) K.2.2.2.1) = nI (a_nx D K 2) ∧ a_tw K 2 (a_nx D K 2) = 1 - K.2.2.1 := by
  have hall : ∀ i, i < K.2.2.2.1 → a_ah K i = false := fun i hi => by
    have h1 := a_om_no hb i hi
    rw [a_sw_aw hw] at h1
    cases c : a_ah K i
    · rfl
    · rw [c] at h1
      cases h1
  obtain ⟨b, hb2⟩ := a_om_all (f := a_aw K (if 1 - K.2.2.1 = 1 then 1 else 2)) (n := K.2.2.2.1) (fun i hi => by rw [a_sw_no hw (hall i hi)]; simp) hn
  have h := a_om_am (p := fun i => a_ds (K.2.2.2.2.1 i) K.2.1) (v := fun _ => 0) (fun i hi => by
    rw [a_sw_no hw (hall i hi)]
    exact ⟨fun e => (by cases e), fun u e => by injection e with e; exact ⟨e, by rw [← e]; exact h9 i hi⟩⟩) hb2
  have h2 : a_nx D K 2 = b.1 := by
    rw [← h]
    refine a_am_eq (c := 10) (fun i hi => ?_)
    show (if a_ah K i then _ else _) = _
    rw [hall i hi]
    rfl
  refine ⟨by rw [hb2, h2]; rfl, ?_⟩
  unfold a_tw
  rw [if_pos ⟨rfl, hall _ (a_nx_lt hn)⟩]
theorem a_ro1 {D : a_D} {K : a_K} (h9 : ∀ i, i < K.2.2.2.1 → K.2.2.2.2.1 i < 10) {b : Nat × Nat} (hb : a_om (a_aw K 1) K.2.2.2.1 = some b) : a_nx D K 3 = b.1 :=
  a_om_am (p := a_pr D K 3) (v := fun i => K.2.2.2.2.1 i) (fun i hi => by
    show ((if K.2.1 ≤ K.2.2.2.2.1 i then some (K.2.2.2.2.1 i - K.2.1) else none) = none → (if K.2.1 ≤ K.2.2.2.2.1 i then K.2.2.2.2.1 i - K.2.1 else 10 + K.2.2.2.2.1 i) = 10 + K.2.2.2.2.1 i) ∧ ∀ u, (if K.2.1 ≤ K.2.2.2.2.1 i then some (K.2.2.2.2.1 i - K.2.1) else none) = some u → (if K.2.1 ≤ K.2.2.2.2.1 i then K.2.2.2.2.1 i - K.2.1 else 10 + K.2.2.2.2.1 i) = u ∧ u ≤ 9
    by_cases c : K.2.1 ≤ K.2.2.2.2.1 i
    · rw [if_pos c, if_pos c]
      exact ⟨fun e => (by cases e), fun u e => by injection e with e; have := h9 i hi; exact ⟨e, by omega⟩⟩
    · rw [if_neg c, if_neg c]
      exact ⟨fun _ => rfl, fun u e => by cases e⟩) hb
theorem a_ro2 {D : a_D} {K : a_K} (hb : a_om (a_aw K 1) K.2.2.2.1 = none) : a_nx D K 3 = a_am K.2.2.2.2.1 K.2.2.2.1 := by
  refine a_am_eq (c := 10) (fun i hi => ?_)
  have h1 : (if K.2.1 ≤ K.2.2.2.2.1 i then some (K.2.2.2.2.1 i - K.2.1) else none) = none := a_om_no hb i hi
  show (if K.2.1 ≤ K.2.2.2.2.1 i then K.2.2.2.2.1 i - K.2.1 else 10 + K.2.2.2.2.1 i) = _
  by_cases c : K.2.1 ≤ K.2.2.2.2.1 i
  · rw [if_pos c] at h1
    cases h1
  · rw [if_neg c]
set_option maxRecDepth 100000 in
set_option maxHeartbeats 4000000 in
theorem c_Mo_nextThen {G : r_X} {d : Nat} {h : r_HI} {p q : Nat} {z : r_HL} {F : Int32 → r_HI → r_HR → r_HL → Prop} {D : a_D} (hN : p_N h D) (ho : a_dok D) {K : a_K} (hT : p_T h K) (hk : a_kok D K) (ht : K.1 < 2 ^ 27) {k : Nat} {a1 : Int32} (h5 : k < 5) (e1 : a1 = nI k) (hn : 0 < K.2.2.2.1) (hF : ∀ h', r_ey [] [17] h h' → p_T h' (K.1, K.2.1, a_tw K k (a_nx D K k), K.2.2.2) → F (nI (a_nx D K k)) h' (r_gp p q) z) : r_Ci G m_Mo_nextThen (d + 4) 61 [.ref (G.2.1 + 47), .int a1] 61 h (r_gp p q) z F := by
  subst e1
  have hn7 := hk.2.2.1
  have h10 := ho.1
  have hw1 := hk.2.1
  have hr10 : ∀ i, i < K.2.2.2.1 → K.2.2.2.2.1 i < 10 := fun i hi => Nat.lt_of_lt_of_le (hk.2.2.2 i hi).1 h10
  have ha10 := hk.1
  have h9 : ∀ i, i < K.2.2.2.1 → a_ds (K.2.2.2.2.1 i) K.2.1 ≤ 9 := fun i hi => by have := hr10 i hi; unfold a_ds; split <;> omega
  rcases (show k = 0 ∨ k = 1 ∨ k = 2 ∨ k = 3 ∨ k = 4 by omega) with e | e | e | e | e
  · subst e
    refine r_C_of (by decide +kernel) (Nat.le_of_ble_eq_true rfl) ?_
    refine j_ls (ls' := [(0, _), (1, _)]) rfl ?_
    refine j_aload_n d_Mo_nextThen_0 rfl rfl ?_
    refine j_geti d_Mo_nextThen_1 f_Mo_139 rfl rfl (by decide) ?_
    refine j_if_ne (tgt := 9) d_Mo_nextThen_4 rfl (fun bq1 => ?_) (fun bq1 => False.elim (absurd ((nI_eq (b := 0) (by omega) (by omega)).mp (hT.2.2.2.1.symm.trans bq1)) (by omega)))
    refine j_iconst (v := (-1)) d_Mo_nextThen_9 rfl ?_
    refine j_istore_n (ls' := [(2, _), (0, _), (1, _)]) d_Mo_nextThen_10 rfl (by decide) rfl ?_
    refine j_iload_n d_Mo_nextThen_11 rfl rfl ?_
    refine j_tabOut (tgt := 128) d_Mo_nextThen_12 (Or.inl (by decide)) rfl ?_
    refine j_iconst (v := 0) d_Mo_nextThen_128 rfl ?_
    refine j_iret d_Mo_nextThen_129 rfl ?_
    refine q_i1 (hF _ r_ey.rf hT) ?_
    show 0 = nI (a_am (fun i => i) K.2.2.2.1)
    rw [a_am_id]
    rfl
  · subst e
    refine r_C_of (by decide +kernel) (Nat.le_of_ble_eq_true rfl) ?_
    refine j_ls (ls' := [(0, _), (1, _)]) rfl ?_
    refine j_aload_n d_Mo_nextThen_0 rfl rfl ?_
    refine j_geti d_Mo_nextThen_1 f_Mo_139 rfl rfl (by decide) ?_
    refine j_if_ne (tgt := 9) d_Mo_nextThen_4 rfl (fun bq1 => ?_) (fun bq1 => False.elim (absurd ((nI_eq (b := 0) (by omega) (by omega)).mp (hT.2.2.2.1.symm.trans bq1)) (by omega)))
    refine j_iconst (v := (-1)) d_Mo_nextThen_9 rfl ?_
    refine j_istore_n (ls' := [(2, _), (0, _), (1, _)]) d_Mo_nextThen_10 rfl (by decide) rfl ?_
    refine j_iload_n d_Mo_nextThen_11 rfl rfl ?_
    refine j_tabIn (off := 32) (tgt := 44) d_Mo_nextThen_12 (by decide) (by decide) rfl rfl ?_
    refine j_aload_n d_Mo_nextThen_44 rfl rfl ?_
    refine j_iconst (v := 0) d_Mo_nextThen_45 rfl ?_
    refine q_i (s_Mo_nextThen_46 rfl (by decide)) rfl (Nat.le_of_ble_eq_true rfl) (Nat.le_of_ble_eq_true rfl) ?_
    refine c_Mo_nearestThen hN ho hT hk (w := 0) (by decide) rfl ?_
    rw [a_nx_near (D := D) hn h9]
    refine j_iret d_Mo_nextThen_49 rfl ?_
    exact q_i1 (hF _ r_ey.rf hT) rfl
  · subst e
    rcases (show K.2.2.1 = 1 ∨ K.2.2.1 = 0 by omega) with ew | ew
    · cases ho1 : a_om (a_aw K 1) K.2.2.2.1 with
      | some b =>
        have hsw := a_sw1 (D := D) hw1 h9 (b := b) (by rw [ew]; exact ho1)
        have hb1 := (a_om_lt ho1).1
        rw [hsw.2] at hF
        refine r_C_of (by decide +kernel) (Nat.le_of_ble_eq_true rfl) ?_
        refine j_ls (ls' := [(0, _), (1, _)]) rfl ?_
        refine j_aload_n d_Mo_nextThen_0 rfl rfl ?_
        refine j_geti d_Mo_nextThen_1 f_Mo_139 rfl rfl (by decide) ?_
        refine j_if_ne (tgt := 9) d_Mo_nextThen_4 rfl (fun bq1 => ?_) (fun bq1 => False.elim (absurd ((nI_eq (b := 0) (by omega) (by omega)).mp (hT.2.2.2.1.symm.trans bq1)) (by omega)))
        refine j_iconst (v := (-1)) d_Mo_nextThen_9 rfl ?_
        refine j_istore_n (ls' := [(2, _), (0, _), (1, _)]) d_Mo_nextThen_10 rfl (by decide) rfl ?_
        refine j_iload_n d_Mo_nextThen_11 rfl rfl ?_
        refine j_tabIn (off := 38) (tgt := 50) d_Mo_nextThen_12 (by decide) (by decide) rfl rfl ?_
        refine j_aload_n d_Mo_nextThen_50 rfl rfl ?_
        refine j_aload_n d_Mo_nextThen_51 rfl rfl ?_
        refine j_geti d_Mo_nextThen_52 f_Mo_136 rfl rfl (by decide) ?_
        refine j_iconst (v := 1) d_Mo_nextThen_55 rfl ?_
        refine j_icmp_ne (tgt := 63) d_Mo_nextThen_56 rfl (fun bq2 => False.elim (bq2 (by rw [hT.2.2.1, ew]; rfl))) (fun bq2 => ?_)
        refine j_iconst (v := 1) d_Mo_nextThen_59 rfl ?_
        refine j_goto (tgt := 64) d_Mo_nextThen_60 rfl ?_
        refine q_i (s_Mo_nextThen_64 rfl (by decide)) rfl (Nat.le_of_ble_eq_true rfl) (Nat.le_of_ble_eq_true rfl) ?_
        refine c_Mo_nearestThen hN ho hT hk (w := 1) (by decide) rfl ?_
        rw [ho1]
        refine j_istore_n (ls' := [(2, _), (0, _), (1, _)]) d_Mo_nextThen_67 rfl (by decide) rfl ?_
        refine j_iload_n d_Mo_nextThen_68 rfl rfl ?_
        refine j_iconst (v := (-1)) d_Mo_nextThen_69 rfl ?_
        refine j_icmp_ne (tgt := 101) d_Mo_nextThen_70 rfl (fun bq3 => ?_) (fun bq3 => False.elim (nI_m1 (m := b.1) (by omega) bq3))
        refine j_iload_n d_Mo_nextThen_101 rfl rfl ?_
        refine j_iret d_Mo_nextThen_102 rfl ?_
        exact q_i1 (hF _ r_ey.rf hT) (by rw [hsw.1]; rfl)
      | none =>
        have hsw := a_sw2 (D := D) hw1 hn h9 (by rw [ew]; exact ho1)
        rw [hsw.2] at hF
        refine r_C_of (by decide +kernel) (Nat.le_of_ble_eq_true rfl) ?_
        refine j_ls (ls' := [(0, _), (1, _)]) rfl ?_
        refine j_aload_n d_Mo_nextThen_0 rfl rfl ?_
        refine j_geti d_Mo_nextThen_1 f_Mo_139 rfl rfl (by decide) ?_
        refine j_if_ne (tgt := 9) d_Mo_nextThen_4 rfl (fun bq1 => ?_) (fun bq1 => False.elim (absurd ((nI_eq (b := 0) (by omega) (by omega)).mp (hT.2.2.2.1.symm.trans bq1)) (by omega)))
        refine j_iconst (v := (-1)) d_Mo_nextThen_9 rfl ?_
        refine j_istore_n (ls' := [(2, _), (0, _), (1, _)]) d_Mo_nextThen_10 rfl (by decide) rfl ?_
        refine j_iload_n d_Mo_nextThen_11 rfl rfl ?_
        refine j_tabIn (off := 38) (tgt := 50) d_Mo_nextThen_12 (by decide) (by decide) rfl rfl ?_
        refine j_aload_n d_Mo_nextThen_50 rfl rfl ?_
        refine j_aload_n d_Mo_nextThen_51 rfl rfl ?_
        refine j_geti d_Mo_nextThen_52 f_Mo_136 rfl rfl (by decide) ?_
        refine j_iconst (v := 1) d_Mo_nextThen_55 rfl ?_
        refine j_icmp_ne (tgt := 63) d_Mo_nextThen_56 rfl (fun bq2 => False.elim (bq2 (by rw [hT.2.2.1, ew]; rfl))) (fun bq2 => ?_)
        refine j_iconst (v := 1) d_Mo_nextThen_59 rfl ?_
        refine j_goto (tgt := 64) d_Mo_nextThen_60 rfl ?_
        refine q_i (s_Mo_nextThen_64 rfl (by decide)) rfl (Nat.le_of_ble_eq_true rfl) (Nat.le_of_ble_eq_true rfl) ?_
        refine c_Mo_nearestThen hN ho hT hk (w := 1) (by decide) rfl ?_
        rw [ho1]
        refine j_istore_n (ls' := [(2, _), (0, _), (1, _)]) d_Mo_nextThen_67 rfl (by decide) rfl ?_
        refine j_iload_n d_Mo_nextThen_68 rfl rfl ?_
        refine j_iconst (v := (-1)) d_Mo_nextThen_69 rfl ?_
        refine j_icmp_ne (tgt := 101) d_Mo_nextThen_70 rfl (fun bq3 => False.elim (bq3 rfl)) (fun bq3 => ?_)
        refine j_aload_n d_Mo_nextThen_73 rfl rfl ?_
        refine j_iconst (v := 1) d_Mo_nextThen_74 rfl ?_
        refine j_aload_n d_Mo_nextThen_75 rfl rfl ?_
        refine j_geti d_Mo_nextThen_76 f_Mo_136 rfl rfl (by decide) ?_
        refine j_isub d_Mo_nextThen_79 ?_
        rw [hT.2.2.1, ew]
        refine j_puti d_Mo_nextThen_80 f_Mo_136 (by decide) rfl rfl (by decide) ?_
        have hy : r_ey [] [17] h (r_up h 47 17 (nI (1 - 1))) := r_ey.rf.fl (by decide)
        have hT2 : p_T (r_up h 47 17 (nI (1 - 1))) (K.1, K.2.1, 1 - K.2.2.1, K.2.2.2) := ⟨hT.1, hT.2.1, by rw [ew]; rfl, hT.2.2.2.1, hT.2.2.2.2⟩
        have hk2 : a_kok D (K.1, K.2.1, 1 - K.2.2.1, K.2.2.2) := ⟨hk.1, show 1 - K.2.2.1 ≤ 1 by omega, hk.2.2.1, hk.2.2.2⟩
        have hN2 : p_N (r_up h 47 17 (nI (1 - 1))) D := hN.ey hy (by decide) (by decide) (by decide) (by decide) (by decide)
        refine j_aload_n d_Mo_nextThen_83 rfl rfl ?_
        refine j_aload_n d_Mo_nextThen_84 rfl rfl ?_
        refine j_geti d_Mo_nextThen_85 f_Mo_136 rfl rfl (by decide) ?_
        refine j_iconst (v := 1) d_Mo_nextThen_88 rfl ?_
        refine j_icmp_ne (tgt := 96) d_Mo_nextThen_89 rfl (fun bq4 => ?_) (fun bq4 => False.elim (absurd (show (1 : Int32) - nI 1 = 1 from bq4) (by decide)))
        refine j_iconst (v := (-1)) d_Mo_nextThen_96 rfl ?_
        refine q_i (s_Mo_nextThen_97 rfl (by decide)) rfl (Nat.le_of_ble_eq_true rfl) (Nat.le_of_ble_eq_true rfl) ?_
        refine c_Mo_nearestThen hN2 ho hT2 hk2 (w := 2) (by decide) rfl ?_
        refine j_istore_n (ls' := [(2, _), (0, _), (1, _)]) d_Mo_nextThen_100 rfl (by decide) rfl ?_
        refine j_iload_n d_Mo_nextThen_101 rfl rfl ?_
        refine j_iret d_Mo_nextThen_102 rfl ?_
        refine q_i1 (hF _ hy hT2) ?_
        rw [← hsw.1, ew]
        rfl
    · cases ho1 : a_om (a_aw K 2) K.2.2.2.1 with
      | some b =>
        have hsw := a_sw1 (D := D) hw1 h9 (b := b) (by rw [ew]; exact ho1)
        have hb1 := (a_om_lt ho1).1
        rw [hsw.2] at hF
        refine r_C_of (by decide +kernel) (Nat.le_of_ble_eq_true rfl) ?_
        refine j_ls (ls' := [(0, _), (1, _)]) rfl ?_
        refine j_aload_n d_Mo_nextThen_0 rfl rfl ?_
        refine j_geti d_Mo_nextThen_1 f_Mo_139 rfl rfl (by decide) ?_
        refine j_if_ne (tgt := 9) d_Mo_nextThen_4 rfl (fun bq1 => ?_) (fun bq1 => False.elim (absurd ((nI_eq (b := 0) (by omega) (by omega)).mp (hT.2.2.2.1.symm.trans bq1)) (by omega)))
        refine j_iconst (v := (-1)) d_Mo_nextThen_9 rfl ?_
        refine j_istore_n (ls' := [(2, _), (0, _), (1, _)]) d_Mo_nextThen_10 rfl (by decide) rfl ?_
        refine j_iload_n d_Mo_nextThen_11 rfl rfl ?_
        refine j_tabIn (off := 38) (tgt := 50) d_Mo_nextThen_12 (by decide) (by decide) rfl rfl ?_
        refine j_aload_n d_Mo_nextThen_50 rfl rfl ?_
        refine j_aload_n d_Mo_nextThen_51 rfl rfl ?_
        refine j_geti d_Mo_nextThen_52 f_Mo_136 rfl rfl (by decide) ?_
        refine j_iconst (v := 1) d_Mo_nextThen_55 rfl ?_
        refine j_icmp_ne (tgt := 63) d_Mo_nextThen_56 rfl (fun bq2 => ?_) (fun bq2 => False.elim (absurd (hT.2.2.1.symm.trans bq2) (by rw [ew]; decide)))
        refine j_iconst (v := (-1)) d_Mo_nextThen_63 rfl ?_
        refine q_i (s_Mo_nextThen_64 rfl (by decide)) rfl (Nat.le_of_ble_eq_true rfl) (Nat.le_of_ble_eq_true rfl) ?_
        refine c_Mo_nearestThen hN ho hT hk (w := 2) (by decide) rfl ?_
        rw [ho1]
        refine j_istore_n (ls' := [(2, _), (0, _), (1, _)]) d_Mo_nextThen_67 rfl (by decide) rfl ?_
        refine j_iload_n d_Mo_nextThen_68 rfl rfl ?_
        refine j_iconst (v := (-1)) d_Mo_nextThen_69 rfl ?_
        refine j_icmp_ne (tgt := 101) d_Mo_nextThen_70 rfl (fun bq3 => ?_) (fun bq3 => False.elim (nI_m1 (m := b.1) (by omega) bq3))
        refine j_iload_n d_Mo_nextThen_101 rfl rfl ?_
        refine j_iret d_Mo_nextThen_102 rfl ?_
        exact q_i1 (hF _ r_ey.rf hT) (by rw [hsw.1]; rfl)
      | none =>
        have hsw := a_sw2 (D := D) hw1 hn h9 (by rw [ew]; exact ho1)
        rw [hsw.2] at hF
        refine r_C_of (by decide +kernel) (Nat.le_of_ble_eq_true rfl) ?_
        refine j_ls (ls' := [(0, _), (1, _)]) rfl ?_
        refine j_aload_n d_Mo_nextThen_0 rfl rfl ?_
        refine j_geti d_Mo_nextThen_1 f_Mo_139 rfl rfl (by decide) ?_
        refine j_if_ne (tgt := 9) d_Mo_nextThen_4 rfl (fun bq1 => ?_) (fun bq1 => False.elim (absurd ((nI_eq (b := 0) (by omega) (by omega)).mp (hT.2.2.2.1.symm.trans bq1)) (by omega)))
        refine j_iconst (v := (-1)) d_Mo_nextThen_9 rfl ?_
        refine j_istore_n (ls' := [(2, _), (0, _), (1, _)]) d_Mo_nextThen_10 rfl (by decide) rfl ?_
        refine j_iload_n d_Mo_nextThen_11 rfl rfl ?_
        refine j_tabIn (off := 38) (tgt := 50) d_Mo_nextThen_12 (by decide) (by decide) rfl rfl ?_
        refine j_aload_n d_Mo_nextThen_50 rfl rfl ?_
        refine j_aload_n d_Mo_nextThen_51 rfl rfl ?_
        refine j_geti d_Mo_nextThen_52 f_Mo_136 rfl rfl (by decide) ?_
        refine j_iconst (v := 1) d_Mo_nextThen_55 rfl ?_
        refine j_icmp_ne (tgt := 63) d_Mo_nextThen_56 rfl (fun bq2 => ?_) (fun bq2 => False.elim (absurd (hT.2.2.1.symm.trans bq2) (by rw [ew]; decide)))
        refine j_iconst (v := (-1)) d_Mo_nextThen_63 rfl ?_
        refine q_i (s_Mo_nextThen_64 rfl (by decide)) rfl (Nat.le_of_ble_eq_true rfl) (Nat.le_of_ble_eq_true rfl) ?_
        refine c_Mo_nearestThen hN ho hT hk (w := 2) (by decide) rfl ?_
        rw [ho1]
        refine j_istore_n (ls' := [(2, _), (0, _), (1, _)]) d_Mo_nextThen_67 rfl (by decide) rfl ?_
        refine j_iload_n d_Mo_nextThen_68 rfl rfl ?_
        refine j_iconst (v := (-1)) d_Mo_nextThen_69 rfl ?_
        refine j_icmp_ne (tgt := 101) d_Mo_nextThen_70 rfl (fun bq3 => False.elim (bq3 rfl)) (fun bq3 => ?_)
        refine j_aload_n d_Mo_nextThen_73 rfl rfl ?_
        refine j_iconst (v := 1) d_Mo_nextThen_74 rfl ?_
        refine j_aload_n d_Mo_nextThen_75 rfl rfl ?_
        refine j_geti d_Mo_nextThen_76 f_Mo_136 rfl rfl (by decide) ?_
        refine j_isub d_Mo_nextThen_79 ?_
        rw [hT.2.2.1, ew]
        refine j_puti d_Mo_nextThen_80 f_Mo_136 (by decide) rfl rfl (by decide) ?_
        have hy : r_ey [] [17] h (r_up h 47 17 (nI (1 - 0))) := r_ey.rf.fl (by decide)
        have hT2 : p_T (r_up h 47 17 (nI (1 - 0))) (K.1, K.2.1, 1 - K.2.2.1, K.2.2.2) := ⟨hT.1, hT.2.1, by rw [ew]; rfl, hT.2.2.2.1, hT.2.2.2.2⟩
        have hk2 : a_kok D (K.1, K.2.1, 1 - K.2.2.1, K.2.2.2) := ⟨hk.1, show 1 - K.2.2.1 ≤ 1 by omega, hk.2.2.1, hk.2.2.2⟩
        have hN2 : p_N (r_up h 47 17 (nI (1 - 0))) D := hN.ey hy (by decide) (by decide) (by decide) (by decide) (by decide)
        refine j_aload_n d_Mo_nextThen_83 rfl rfl ?_
        refine j_aload_n d_Mo_nextThen_84 rfl rfl ?_
        refine j_geti d_Mo_nextThen_85 f_Mo_136 rfl rfl (by decide) ?_
        refine j_iconst (v := 1) d_Mo_nextThen_88 rfl ?_
        refine j_icmp_ne (tgt := 96) d_Mo_nextThen_89 rfl (fun bq4 => False.elim (bq4 rfl)) (fun bq4 => ?_)
        refine j_iconst (v := 1) d_Mo_nextThen_92 rfl ?_
        refine j_goto (tgt := 97) d_Mo_nextThen_93 rfl ?_
        refine q_i (s_Mo_nextThen_97 rfl (by decide)) rfl (Nat.le_of_ble_eq_true rfl) (Nat.le_of_ble_eq_true rfl) ?_
        refine c_Mo_nearestThen hN2 ho hT2 hk2 (w := 1) (by decide) rfl ?_
        refine j_istore_n (ls' := [(2, _), (0, _), (1, _)]) d_Mo_nextThen_100 rfl (by decide) rfl ?_
        refine j_iload_n d_Mo_nextThen_101 rfl rfl ?_
        refine j_iret d_Mo_nextThen_102 rfl ?_
        refine q_i1 (hF _ hy hT2) ?_
        rw [← hsw.1, ew]
        rfl
  · subst e
    cases ho1 : a_om (a_aw K 1) K.2.2.2.1 with
    | some b =>
      have hb1 := (a_om_lt ho1).1
      refine r_C_of (by decide +kernel) (Nat.le_of_ble_eq_true rfl) ?_
      refine j_ls (ls' := [(0, _), (1, _)]) rfl ?_
      refine j_aload_n d_Mo_nextThen_0 rfl rfl ?_
      refine j_geti d_Mo_nextThen_1 f_Mo_139 rfl rfl (by decide) ?_
      refine j_if_ne (tgt := 9) d_Mo_nextThen_4 rfl (fun bq1 => ?_) (fun bq1 => False.elim (absurd ((nI_eq (b := 0) (by omega) (by omega)).mp (hT.2.2.2.1.symm.trans bq1)) (by omega)))
      refine j_iconst (v := (-1)) d_Mo_nextThen_9 rfl ?_
      refine j_istore_n (ls' := [(2, _), (0, _), (1, _)]) d_Mo_nextThen_10 rfl (by decide) rfl ?_
      refine j_iload_n d_Mo_nextThen_11 rfl rfl ?_
      refine j_tabIn (off := 91) (tgt := 103) d_Mo_nextThen_12 (by decide) (by decide) rfl rfl ?_
      refine j_aload_n d_Mo_nextThen_103 rfl rfl ?_
      refine j_iconst (v := 1) d_Mo_nextThen_104 rfl ?_
      refine q_i (s_Mo_nextThen_105 rfl (by decide)) rfl (Nat.le_of_ble_eq_true rfl) (Nat.le_of_ble_eq_true rfl) ?_
      refine c_Mo_nearestThen hN ho hT hk (w := 1) (by decide) rfl ?_
      rw [ho1]
      refine j_istore_n (ls' := [(2, _), (0, _), (1, _)]) d_Mo_nextThen_108 rfl (by decide) rfl ?_
      refine j_iload_n d_Mo_nextThen_109 rfl rfl ?_
      refine j_iconst (v := (-1)) d_Mo_nextThen_110 rfl ?_
      refine j_icmp_ne (tgt := 121) d_Mo_nextThen_111 rfl (fun bq2 => ?_) (fun bq2 => False.elim (nI_m1 (m := b.1) (by omega) bq2))
      refine j_iload_n d_Mo_nextThen_121 rfl rfl ?_
      refine j_iret d_Mo_nextThen_122 rfl ?_
      exact q_i1 (hF _ r_ey.rf hT) (by rw [a_ro1 hr10 ho1]; rfl)
    | none =>
      refine r_C_of (by decide +kernel) (Nat.le_of_ble_eq_true rfl) ?_
      refine j_ls (ls' := [(0, _), (1, _)]) rfl ?_
      refine j_aload_n d_Mo_nextThen_0 rfl rfl ?_
      refine j_geti d_Mo_nextThen_1 f_Mo_139 rfl rfl (by decide) ?_
      refine j_if_ne (tgt := 9) d_Mo_nextThen_4 rfl (fun bq1 => ?_) (fun bq1 => False.elim (absurd ((nI_eq (b := 0) (by omega) (by omega)).mp (hT.2.2.2.1.symm.trans bq1)) (by omega)))
      refine j_iconst (v := (-1)) d_Mo_nextThen_9 rfl ?_
      refine j_istore_n (ls' := [(2, _), (0, _), (1, _)]) d_Mo_nextThen_10 rfl (by decide) rfl ?_
      refine j_iload_n d_Mo_nextThen_11 rfl rfl ?_
      refine j_tabIn (off := 91) (tgt := 103) d_Mo_nextThen_12 (by decide) (by decide) rfl rfl ?_
      refine j_aload_n d_Mo_nextThen_103 rfl rfl ?_
      refine j_iconst (v := 1) d_Mo_nextThen_104 rfl ?_
      refine q_i (s_Mo_nextThen_105 rfl (by decide)) rfl (Nat.le_of_ble_eq_true rfl) (Nat.le_of_ble_eq_true rfl) ?_
      refine c_Mo_nearestThen hN ho hT hk (w := 1) (by decide) rfl ?_
      rw [ho1]
      refine j_istore_n (ls' := [(2, _), (0, _), (1, _)]) d_Mo_nextThen_108 rfl (by decide) rfl ?_
      refine j_iload_n d_Mo_nextThen_109 rfl rfl ?_
      refine j_iconst (v := (-1)) d_Mo_nextThen_110 rfl ?_
      refine j_icmp_ne (tgt := 121) d_Mo_nextThen_111 rfl (fun bq2 => False.elim (bq2 rfl)) (fun bq2 => ?_)
      refine j_aload_n d_Mo_nextThen_114 rfl rfl ?_
      refine q_i (s_Mo_nextThen_115 rfl (by decide)) rfl (Nat.le_of_ble_eq_true rfl) (Nat.le_of_ble_eq_true rfl) ?_
      refine c_Mo_outermostThen hN ho hT hk ht hn ?_
      refine j_goto (tgt := 122) d_Mo_nextThen_118 rfl ?_
      refine j_iret d_Mo_nextThen_122 rfl ?_
      exact q_i1 (hF _ r_ey.rf hT) (by rw [a_ro2 ho1])
  · subst e
    refine r_C_of (by decide +kernel) (Nat.le_of_ble_eq_true rfl) ?_
    refine j_ls (ls' := [(0, _), (1, _)]) rfl ?_
    refine j_aload_n d_Mo_nextThen_0 rfl rfl ?_
    refine j_geti d_Mo_nextThen_1 f_Mo_139 rfl rfl (by decide) ?_
    refine j_if_ne (tgt := 9) d_Mo_nextThen_4 rfl (fun bq1 => ?_) (fun bq1 => False.elim (absurd ((nI_eq (b := 0) (by omega) (by omega)).mp (hT.2.2.2.1.symm.trans bq1)) (by omega)))
    refine j_iconst (v := (-1)) d_Mo_nextThen_9 rfl ?_
    refine j_istore_n (ls' := [(2, _), (0, _), (1, _)]) d_Mo_nextThen_10 rfl (by decide) rfl ?_
    refine j_iload_n d_Mo_nextThen_11 rfl rfl ?_
    refine j_tabIn (off := 111) (tgt := 123) d_Mo_nextThen_12 (by decide) (by decide) rfl rfl ?_
    refine j_aload_n d_Mo_nextThen_123 rfl rfl ?_
    refine q_i (s_Mo_nextThen_124 rfl (by decide)) rfl (Nat.le_of_ble_eq_true rfl) (Nat.le_of_ble_eq_true rfl) ?_
    refine c_Mo_soonestThen hN ho hT hk ht hn ?_
    refine j_iret d_Mo_nextThen_127 rfl ?_
    exact q_i1 (hF _ r_ey.rf hT) rfl
set_option maxRecDepth 100000 in
set_option maxHeartbeats 4000000 in
theorem c_Mo_nextThen0 {G : r_X} {d : Nat} {h : r_HI} {p q : Nat} {z : r_HL} {F : Int32 → r_HI → r_HR → r_HL → Prop} {K : a_K} (hT : p_T h K) (hn : K.2.2.2.1 = 0) {a1 : Int32} (hF : F (-1) h (r_gp p q) z) : r_Ci G m_Mo_nextThen (d) 61 [.ref (G.2.1 + 47), .int a1] 61 h (r_gp p q) z F := by
  refine r_C_of (by decide +kernel) (Nat.le_of_ble_eq_true rfl) ?_
  refine j_ls (ls' := [(0, _), (1, _)]) rfl ?_
  refine j_aload_n d_Mo_nextThen_0 rfl rfl ?_
  refine j_geti d_Mo_nextThen_1 f_Mo_139 rfl rfl (by decide) ?_
  refine j_if_ne (tgt := 9) d_Mo_nextThen_4 rfl (fun bq1 => False.elim (bq1 (by rw [hT.2.2.2.1, hn]; rfl))) (fun bq1 => ?_)
  refine j_iconst (v := (-1)) d_Mo_nextThen_7 rfl ?_
  refine j_iret d_Mo_nextThen_8 rfl ?_
  exact q_i1 hF rfl
set_option maxRecDepth 100000 in
set_option maxHeartbeats 4000000 in
theorem l_Mo_goTo {G : r_X} {d : Nat} {h1 : r_HI} {p q : Nat} {z : r_HL} {F : Int32 → r_HI → r_HR → r_HL → Prop} {m c : Nat} {a1 s2 : Int32} (hm : m ≤ 6) (e18 : h1 47 18 = nI m) (hF : F (h1 47 15 - s2) (r_rw h1 52 (r_s3 (h1 52) c (3 * m))) (r_gp p q) z) : ∀ (e k : Nat) (v : Int32), e + k = 3 * m → c ≤ k → v = nI k → r_TM G m_Mo_goTo (d + 3) 61 61 (fun v h' g' z' => ∃ r, v = some (.int r) ∧ F r h' g' z') 46 [(0, .ref (G.2.1 + 47)), (1, .int a1), (2, .int s2), (3, .int v)] [] 61 (r_rw h1 52 (r_s3 (h1 52) c k)) (r_gp p q) z := by
  intro e
  induction e with
  | zero =>
    intro k v he hck hv
    subst hv
    refine j_iload_n d_Mo_goTo_46 rfl rfl ?_
    refine j_iconst (v := 3) d_Mo_goTo_47 rfl ?_
    refine j_aload_n d_Mo_goTo_48 rfl rfl ?_
    refine j_geti d_Mo_goTo_49 f_Mo_139 rfl rfl (by decide) ?_
    refine j_imul d_Mo_goTo_52 ?_
    refine j_icmp_ge (tgt := 76) d_Mo_goTo_53 rfl (fun bq1 => ?_) (fun bq1 => False.elim (bq1 (by show 3 * h1 47 18 ≤ nI k; rw [e18, m3_0]; exact nI_le (by omega) (by omega))))
    refine j_aload_n d_Mo_goTo_76 rfl rfl ?_
    refine j_geti d_Mo_goTo_77 f_Mo_130 rfl rfl (by decide) ?_
    refine j_iload_n d_Mo_goTo_80 rfl rfl ?_
    refine j_isub d_Mo_goTo_81 ?_
    refine j_iret d_Mo_goTo_82 rfl ?_
    have e0 : k = 3 * m := by omega
    subst e0
    exact q_i1 hF rfl
  | succ e ih =>
    intro k v he hck hv
    subst hv
    refine j_iload_n d_Mo_goTo_46 rfl rfl ?_
    refine j_iconst (v := 3) d_Mo_goTo_47 rfl ?_
    refine j_aload_n d_Mo_goTo_48 rfl rfl ?_
    refine j_geti d_Mo_goTo_49 f_Mo_139 rfl rfl (by decide) ?_
    refine j_imul d_Mo_goTo_52 ?_
    refine j_icmp_ge (tgt := 76) d_Mo_goTo_53 rfl (fun bq1 => False.elim (nI_ge (a := k) (b := 3 * m) (by omega) (by omega) (by have t9 : 3 * h1 47 18 ≤ nI k := bq1; rw [e18, m3_0] at t9; exact t9))) (fun bq1 => ?_)
    refine j_aload_n d_Mo_goTo_56 rfl rfl ?_
    refine j_getr d_Mo_goTo_57 f_Mo_22 rfl rfl (by decide) rfl ?_
    refine j_iload_n d_Mo_goTo_60 rfl rfl ?_
    refine j_aload_n d_Mo_goTo_61 rfl rfl ?_
    refine j_getr d_Mo_goTo_62 f_Mo_22 rfl rfl (by decide) rfl ?_
    refine j_iload_n d_Mo_goTo_65 rfl rfl ?_
    refine j_iconst (v := 3) d_Mo_goTo_66 rfl ?_
    refine j_iadd d_Mo_goTo_67 ?_
    refine j_iav d_Mo_goTo_68 rfl (by decide) (j := k + 3) (nI_add k 3) (by omega) (by decide) (rfl) ?_
    refine j_iap d_Mo_goTo_69 rfl (by decide) (j := k) (rfl) (by omega) (by decide) ?_
    refine j_iinc (ls' := [(3, _), (0, _), (1, _), (2, _)]) d_Mo_goTo_70 rfl (by decide) rfl ?_
    refine j_goto (tgt := 46) d_Mo_goTo_73 rfl ?_
    refine j_pick [1, 2, 3, 0] (ls' := [(0, _), (1, _), (2, _), (3, _)]) rfl ?_
    refine j_h ?_ (ih (k + 1) _ (by omega) (by omega) (nI_inc k))
    show r_up (r_rw h1 52 (r_s3 (h1 52) c k)) 52 k (r_s3 (h1 52) c k (k + 3)) = r_rw h1 52 (r_s3 (h1 52) c (k + 1))
    rw [r_rw_up, show r_s3 (h1 52) c k (k + 3) = h1 52 (k + 3) from if_neg (by omega), r_s3_up hck]
set_option maxRecDepth 100000 in
set_option maxHeartbeats 4000000 in
theorem c_Mo_goTo {G : r_X} {d : Nat} {h : r_HI} {p q : Nat} {z : r_HL} {F : Int32 → r_HI → r_HR → r_HL → Prop} {D : a_D} (hN : p_N h D) (ho : a_dok D) {K : a_K} (hT : p_T h K) (hk : a_kok D K) {i : Nat} {a1 : Int32} (ht : K.1 < 2 ^ 27) (hi : i < K.2.2.2.1) (e1 : a1 = nI i) (hF : ∀ h', r_ey [52] [15, 16, 18] h h' → p_T h' (a_fin D K i) → F (nI (a_wt D K i)) h' (r_gp p q) z) : r_Ci G m_Mo_goTo (d + 3) 61 [.ref (G.2.1 + 47), .int a1] 61 h (r_gp p q) z F := by
  obtain ⟨hri, hpi, hsi⟩ := hT.2.2.2.2 i hi
  obtain ⟨hr1, hp1, hs1⟩ := hk.2.2.2 i hi
  have hn7 := hk.2.2.1
  have h10 := ho.1
  have ha10 := hk.1
  subst e1
  refine r_C_of (by decide +kernel) (Nat.le_of_ble_eq_true rfl) ?_
  refine j_ls (ls' := [(0, _), (1, _)]) rfl ?_
  refine j_aload_n d_Mo_goTo_0 rfl rfl ?_
  refine j_getr d_Mo_goTo_1 f_Mo_22 rfl rfl (by decide) rfl ?_
  refine j_iconst (v := 3) d_Mo_goTo_4 rfl ?_
  refine j_iload_n d_Mo_goTo_5 rfl rfl ?_
  refine j_imul d_Mo_goTo_6 ?_
  refine j_iconst (v := 2) d_Mo_goTo_7 rfl ?_
  refine j_iadd d_Mo_goTo_8 ?_
  refine j_iav d_Mo_goTo_9 rfl (by decide) (j := 3 * i + 2) (m3_2 i) (by omega) (by decide) (hsi) ?_
  refine j_istore_n (ls' := [(2, _), (0, _), (1, _)]) d_Mo_goTo_10 rfl (by decide) rfl ?_
  refine j_aload_n d_Mo_goTo_11 rfl rfl ?_
  refine j_aload_n d_Mo_goTo_12 rfl rfl ?_
  refine j_iload_n d_Mo_goTo_13 rfl rfl ?_
  refine q_i (s_Mo_goTo_14 rfl (by decide)) rfl (Nat.le_of_ble_eq_true rfl) (Nat.le_of_ble_eq_true rfl) ?_
  refine c_Mo_doneThen hN ho hT hk ht hi rfl ?_
  refine j_puti d_Mo_goTo_17 f_Mo_130 (by decide) rfl rfl (by decide) ?_
  refine j_aload_n d_Mo_goTo_20 rfl rfl ?_
  refine j_aload_n d_Mo_goTo_21 rfl rfl ?_
  refine j_getr d_Mo_goTo_22 f_Mo_22 rfl rfl (by decide) rfl ?_
  refine j_iconst (v := 3) d_Mo_goTo_25 rfl ?_
  refine j_iload_n d_Mo_goTo_26 rfl rfl ?_
  refine j_imul d_Mo_goTo_27 ?_
  refine j_iav d_Mo_goTo_28 rfl (by decide) (j := 3 * i) (m3_0 i) (by omega) (by decide) (hri) ?_
  refine j_puti d_Mo_goTo_29 f_Mo_133 (by decide) rfl rfl (by decide) ?_
  refine j_aload_n d_Mo_goTo_32 rfl rfl ?_
  refine j_dup d_Mo_goTo_33 rfl ?_
  refine j_geti d_Mo_goTo_34 f_Mo_139 rfl rfl (by decide) ?_
  refine j_iconst (v := 1) d_Mo_goTo_37 rfl ?_
  refine j_isub d_Mo_goTo_38 ?_
  refine j_st (st' := [.int (h 47 18 - 1), .ref (G.2.1 + 47)]) rfl ?_
  rw [hT.2.2.2.1, show nI K.2.2.2.1 - 1 = nI (K.2.2.2.1 - 1) from pk_sub (b := 1) (by omega)]
  refine j_puti d_Mo_goTo_39 f_Mo_139 (by decide) rfl rfl (by decide) ?_
  refine j_iconst (v := 3) d_Mo_goTo_42 rfl ?_
  refine j_iload_n d_Mo_goTo_43 rfl rfl ?_
  refine j_imul d_Mo_goTo_44 ?_
  rw [m3_0]
  refine j_istore_n (ls' := [(3, _), (2, _), (0, _), (1, _)]) d_Mo_goTo_45 rfl (by decide) rfl ?_
  refine j_pick [2, 3, 1, 0] (ls' := [(0, _), (1, _), (2, _), (3, _)]) rfl ?_
  have hz : r_ey [52] [15, 16, 18] h (r_up (r_up (r_up h 47 15 (nI (a_dn D K.1 K.2.1 (K.2.2.2.2.1 i) (K.2.2.2.2.2.1 i)))) 47 16 (nI (K.2.2.2.2.1 i))) 47 18 (nI (K.2.2.2.1 - 1))) := ((r_ey.rf.fl (by decide)).fl (by decide)).fl (by decide)
  refine j_h (h' := r_rw (r_up (r_up (r_up h 47 15 (nI (a_dn D K.1 K.2.1 (K.2.2.2.2.1 i) (K.2.2.2.2.2.1 i)))) 47 16 (nI (K.2.2.2.2.1 i))) 47 18 (nI (K.2.2.2.1 - 1))) 52 (r_s3 ((r_up (r_up (r_up h 47 15 (nI (a_dn D K.1 K.2.1 (K.2.2.2.2.1 i) (K.2.2.2.2.2.1 i)))) 47 16 (nI (K.2.2.2.2.1 i))) 47 18 (nI (K.2.2.2.1 - 1))) 52) (3 * i) (3 * i))) ?_ (l_Mo_goTo (m := K.2.2.2.1 - 1) (c := 3 * i) (by omega) rfl ?_ (3 * (K.2.2.2.1 - 1) - 3 * i) (3 * i) _ (by omega) (Nat.le_refl _) rfl)
  · rw [r_s3_0, r_rw_self]
  · have hw9 : a_dn D K.1 K.2.1 (K.2.2.2.2.1 i) (K.2.2.2.2.2.1 i) - K.2.2.2.2.2.2 i = a_wt D K i := rfl
    have e9 : nI (a_dn D K.1 K.2.1 (K.2.2.2.2.1 i) (K.2.2.2.2.2.1 i)) - nI (K.2.2.2.2.2.2 i) = nI (a_wt D K i) := a_wtI hk hi
    show F (nI (a_dn D K.1 K.2.1 (K.2.2.2.2.1 i) (K.2.2.2.2.2.1 i)) - nI (K.2.2.2.2.2.2 i)) _ _ _
    rw [e9]
    refine hF _ (hz.rw (by decide) (by decide)) ⟨rfl, rfl, hT.2.2.1, rfl, fun j hj => ?_⟩
    have hj : j < K.2.2.2.1 - 1 := hj
    show r_s3 (h 52) (3 * i) (3 * (K.2.2.2.1 - 1)) (3 * j) = nI (a_rm K.2.2.2.2.1 i j) ∧ r_s3 (h 52) (3 * i) (3 * (K.2.2.2.1 - 1)) (3 * j + 1) = nI (a_rm K.2.2.2.2.2.1 i j) ∧ r_s3 (h 52) (3 * i) (3 * (K.2.2.2.1 - 1)) (3 * j + 2) = nI (a_rm K.2.2.2.2.2.2 i j)
    by_cases c : j < i
    · obtain ⟨g1, g2, g3⟩ := hT.2.2.2.2 j (by omega)
      rw [a_rm_lt c, a_rm_lt c, a_rm_lt c]
      exact ⟨(if_neg (by omega)).trans g1, (if_neg (by omega)).trans g2, (if_neg (by omega)).trans g3⟩
    · obtain ⟨g1, g2, g3⟩ := hT.2.2.2.2 (j + 1) (by omega)
      rw [a_rm_ge c, a_rm_ge c, a_rm_ge c]
      exact ⟨(if_pos ⟨by omega, by omega⟩).trans g1, (if_pos ⟨by omega, by omega⟩).trans g2, (if_pos ⟨by omega, by omega⟩).trans g3⟩
set_option maxRecDepth 100000 in
set_option maxHeartbeats 4000000 in
theorem c_Mo_askThen {G : r_X} {d : Nat} {h : r_HI} {p q : Nat} {z : r_HL} {F : Int32 → r_HI → r_HR → r_HL → Prop} {K : a_K} (hT : p_T h K) {r w : Nat} {a1 a2 : Int32} (hn6 : K.2.2.2.1 < 7) (e1 : a1 = nI r) (e2 : a2 = nI w) (hF : ∀ h', r_ey [52] [18] h h' → p_T h' (a_ask K r w) → F (nI (K.2.2.2.1 + 1)) h' (r_gp p q) z) : r_Ci G m_Mo_askThen (d) 61 [.ref (G.2.1 + 47), .int a1, .int a2] 61 h (r_gp p q) z F := by
  subst e1
  subst e2
  refine r_C_of (by decide +kernel) (Nat.le_of_ble_eq_true rfl) ?_
  refine j_ls (ls' := [(0, _), (1, _), (2, _)]) rfl ?_
  refine j_aload_n d_Mo_askThen_0 rfl rfl ?_
  refine j_getr d_Mo_askThen_1 f_Mo_22 rfl rfl (by decide) rfl ?_
  refine j_iconst (v := 3) d_Mo_askThen_4 rfl ?_
  refine j_aload_n d_Mo_askThen_5 rfl rfl ?_
  refine j_geti d_Mo_askThen_6 f_Mo_139 rfl rfl (by decide) ?_
  refine j_imul d_Mo_askThen_9 ?_
  refine j_iload_n d_Mo_askThen_10 rfl rfl ?_
  refine j_iap d_Mo_askThen_11 rfl (by decide) (j := 3 * K.2.2.2.1) (by rw [hT.2.2.2.1]; exact m3_0 _) (by omega) (by decide) ?_
  refine j_aload_n d_Mo_askThen_12 rfl rfl ?_
  refine j_getr d_Mo_askThen_13 f_Mo_22 rfl rfl (by decide) rfl ?_
  refine j_iconst (v := 3) d_Mo_askThen_16 rfl ?_
  refine j_aload_n d_Mo_askThen_17 rfl rfl ?_
  refine j_geti d_Mo_askThen_18 f_Mo_139 rfl rfl (by decide) ?_
  refine j_imul d_Mo_askThen_21 ?_
  refine j_iconst (v := 1) d_Mo_askThen_22 rfl ?_
  refine j_iadd d_Mo_askThen_23 ?_
  refine j_iload_n d_Mo_askThen_24 rfl rfl ?_
  refine j_iap d_Mo_askThen_25 rfl (by decide) (j := 3 * K.2.2.2.1 + 1) (by show 3 * h 47 18 + 1 = _; rw [hT.2.2.2.1]; exact m3_1 _) (by omega) (by decide) ?_
  refine j_aload_n d_Mo_askThen_26 rfl rfl ?_
  refine j_getr d_Mo_askThen_27 f_Mo_22 rfl rfl (by decide) rfl ?_
  refine j_iconst (v := 3) d_Mo_askThen_30 rfl ?_
  refine j_aload_n d_Mo_askThen_31 rfl rfl ?_
  refine j_geti d_Mo_askThen_32 f_Mo_139 rfl rfl (by decide) ?_
  refine j_imul d_Mo_askThen_35 ?_
  refine j_iconst (v := 2) d_Mo_askThen_36 rfl ?_
  refine j_iadd d_Mo_askThen_37 ?_
  refine j_aload_n d_Mo_askThen_38 rfl rfl ?_
  refine j_geti d_Mo_askThen_39 f_Mo_130 rfl rfl (by decide) ?_
  refine j_iap d_Mo_askThen_42 rfl (by decide) (j := 3 * K.2.2.2.1 + 2) (by show 3 * h 47 18 + 2 = _; rw [hT.2.2.2.1]; exact m3_2 _) (by omega) (by decide) ?_
  refine j_aload_n d_Mo_askThen_43 rfl rfl ?_
  refine j_dup d_Mo_askThen_44 rfl ?_
  refine j_geti d_Mo_askThen_45 f_Mo_139 rfl rfl (by decide) ?_
  refine j_iconst (v := 1) d_Mo_askThen_48 rfl ?_
  refine j_iadd d_Mo_askThen_49 ?_
  refine j_st (st' := [.int (h 47 18 + 1), .ref (G.2.1 + 47)]) rfl ?_
  rw [hT.2.2.2.1, nI_1]
  refine j_puti d_Mo_askThen_50 f_Mo_139 (by decide) rfl rfl (by decide) ?_
  refine j_aload_n d_Mo_askThen_53 rfl rfl ?_
  refine j_geti d_Mo_askThen_54 f_Mo_139 rfl rfl (by decide) ?_
  refine j_iret d_Mo_askThen_57 rfl ?_
  refine q_i1 (hF _ ((((r_ey.rf.up (by decide) (by decide)).up (by decide) (by decide)).up (by decide) (by decide)).fl (by decide)) ⟨hT.1, hT.2.1, hT.2.2.1, rfl, fun i hi => ?_⟩) rfl
  have hi : i < K.2.2.2.1 + 1 := hi
  show r_up (r_up (r_up h 52 (3 * K.2.2.2.1) (nI r)) 52 (3 * K.2.2.2.1 + 1) (nI w)) 52 (3 * K.2.2.2.1 + 2) (h 47 15) 52 (3 * i) = nI (va_up K.2.2.2.2.1 K.2.2.2.1 r i) ∧ r_up (r_up (r_up h 52 (3 * K.2.2.2.1) (nI r)) 52 (3 * K.2.2.2.1 + 1) (nI w)) 52 (3 * K.2.2.2.1 + 2) (h 47 15) 52 (3 * i + 1) = nI (va_up K.2.2.2.2.2.1 K.2.2.2.1 w i) ∧ r_up (r_up (r_up h 52 (3 * K.2.2.2.1) (nI r)) 52 (3 * K.2.2.2.1 + 1) (nI w)) 52 (3 * K.2.2.2.1 + 2) (h 47 15) 52 (3 * i + 2) = nI (va_up K.2.2.2.2.2.2 K.2.2.2.1 K.1 i)
  rw [r_up_k, r_up_k, r_up_k]
  by_cases c : i = K.2.2.2.1
  · subst c
    refine ⟨?_, ?_, ?_⟩
    · rw [pk_un (by omega), pk_un (by omega), pk_us]; simp [va_up]
    · rw [pk_un (by omega), pk_us]; simp [va_up]
    · rw [pk_us]; simp [va_up]; exact hT.1
  · obtain ⟨g1, g2, g3⟩ := hT.2.2.2.2 i (by omega)
    refine ⟨?_, ?_, ?_⟩
    · rw [pk_un (by omega), pk_un (by omega), pk_un (by omega)]; simp only [va_up, if_neg c]; exact g1
    · rw [pk_un (by omega), pk_un (by omega), pk_un (by omega)]; simp only [va_up, if_neg c]; exact g2
    · rw [pk_un (by omega), pk_un (by omega), pk_un (by omega)]; simp only [va_up, if_neg c]; exact g3
set_option maxRecDepth 100000 in
set_option maxHeartbeats 4000000 in
theorem l_Mo_askedOn {G : r_X} {d : Nat} {h : r_HI} {p q : Nat} {z : r_HL} {F : Int32 → r_HI → r_HR → r_HL → Prop} {K : a_K} (hJ : p_J h K) (hn7 : K.2.2.2.1 ≤ 7) (hr10 : ∀ i, i < K.2.2.2.1 → K.2.2.2.2.1 i < 10) {r : Nat} (hr : r < 10) (hF : F (a_bits K.2.2.2.2.1 r K.2.2.2.1) h (r_gp p q) z) : ∀ (e i : Nat) (v : Int32), e + i = K.2.2.2.1 → v = nI i → r_TM G m_Mo_askedOn (d) 61 61 (fun v h' g' z' => ∃ r, v = some (.int r) ∧ F r h' g' z') 4 [(0, .ref (G.2.1 + 47)), (1, .int (nI r)), (2, .int (a_bits K.2.2.2.2.1 r i)), (3, .int v)] [] 61 h (r_gp p q) z := by
  intro e
  induction e with
  | zero =>
    intro i v he hv
    subst hv
    refine j_iload_n d_Mo_askedOn_4 rfl rfl ?_
    refine j_aload_n d_Mo_askedOn_5 rfl rfl ?_
    refine j_geti d_Mo_askedOn_6 f_Mo_114 rfl rfl (by decide) ?_
    refine j_icmp_ge (tgt := 40) d_Mo_askedOn_9 rfl (fun bq1 => ?_) (fun bq1 => False.elim (bq1 (by rw [hJ.2.2.2.1]; exact nI_le (by omega) (by omega))))
    refine j_iload_n d_Mo_askedOn_40 rfl rfl ?_
    refine j_iret d_Mo_askedOn_41 rfl ?_
    have e0 : i = K.2.2.2.1 := by omega
    subst e0
    exact q_i1 hF rfl
  | succ e ih =>
    intro i v he hv
    subst hv
    have hi : i < K.2.2.2.1 := by omega
    by_cases c : K.2.2.2.2.1 i = r
    · refine j_iload_n d_Mo_askedOn_4 rfl rfl ?_
      refine j_aload_n d_Mo_askedOn_5 rfl rfl ?_
      refine j_geti d_Mo_askedOn_6 f_Mo_114 rfl rfl (by decide) ?_
      refine j_icmp_ge (tgt := 40) d_Mo_askedOn_9 rfl (fun bq1 => False.elim (nI_ge (by omega) (by omega) (hJ.2.2.2.1 ▸ bq1))) (fun bq1 => ?_)
      refine j_iload_n d_Mo_askedOn_12 rfl rfl ?_
      refine j_aload_n d_Mo_askedOn_13 rfl rfl ?_
      refine j_getr d_Mo_askedOn_14 f_Mo_19 rfl rfl (by decide) rfl ?_
      refine j_iconst (v := 3) d_Mo_askedOn_17 rfl ?_
      refine j_iload_n d_Mo_askedOn_18 rfl rfl ?_
      refine j_imul d_Mo_askedOn_19 ?_
      refine j_iav d_Mo_askedOn_20 rfl (by decide) (j := 3 * i) (m3_0 i) (by omega) (by decide) ((hJ.2.2.2.2 i hi).1) ?_
      refine j_iload_n d_Mo_askedOn_21 rfl rfl ?_
      refine j_icmp_ne (tgt := 31) d_Mo_askedOn_22 rfl (fun bq2 => False.elim (bq2 (by rw [c]))) (fun bq2 => ?_)
      refine j_iconst (v := 1) d_Mo_askedOn_25 rfl ?_
      refine j_iload_n d_Mo_askedOn_26 rfl rfl ?_
      refine j_ishl d_Mo_askedOn_27 ?_
      refine j_goto (tgt := 32) d_Mo_askedOn_28 rfl ?_
      refine j_ior d_Mo_askedOn_32 ?_
      refine j_istore_n (ls' := [(2, _), (0, _), (1, _), (3, _)]) d_Mo_askedOn_33 rfl (by decide) rfl ?_
      refine j_iinc (ls' := [(3, _), (2, _), (0, _), (1, _)]) d_Mo_askedOn_34 rfl (by decide) rfl ?_
      refine j_goto (tgt := 4) d_Mo_askedOn_37 rfl ?_
      refine j_pick [2, 3, 1, 0] (ls' := [(0, _), (1, _), (2, _), (3, _)]) rfl ?_
      have e9 : a_bits K.2.2.2.2.1 r (i + 1) = a_bits K.2.2.2.2.1 r i ||| (1 <<< (nI i &&& 31)) := by simp [a_bits, c]
      have ih1 := ih (i + 1) _ (by omega) (nI_inc i)
      rw [e9] at ih1
      exact ih1
    · refine j_iload_n d_Mo_askedOn_4 rfl rfl ?_
      refine j_aload_n d_Mo_askedOn_5 rfl rfl ?_
      refine j_geti d_Mo_askedOn_6 f_Mo_114 rfl rfl (by decide) ?_
      refine j_icmp_ge (tgt := 40) d_Mo_askedOn_9 rfl (fun bq1 => False.elim (nI_ge (by omega) (by omega) (hJ.2.2.2.1 ▸ bq1))) (fun bq1 => ?_)
      refine j_iload_n d_Mo_askedOn_12 rfl rfl ?_
      refine j_aload_n d_Mo_askedOn_13 rfl rfl ?_
      refine j_getr d_Mo_askedOn_14 f_Mo_19 rfl rfl (by decide) rfl ?_
      refine j_iconst (v := 3) d_Mo_askedOn_17 rfl ?_
      refine j_iload_n d_Mo_askedOn_18 rfl rfl ?_
      refine j_imul d_Mo_askedOn_19 ?_
      refine j_iav d_Mo_askedOn_20 rfl (by decide) (j := 3 * i) (m3_0 i) (by omega) (by decide) ((hJ.2.2.2.2 i hi).1) ?_
      refine j_iload_n d_Mo_askedOn_21 rfl rfl ?_
      refine j_icmp_ne (tgt := 31) d_Mo_askedOn_22 rfl (fun bq2 => ?_) (fun bq2 => False.elim (c ((nI_eq (by have := hr10 i hi; omega) (by omega)).mp bq2)))
      refine j_iconst (v := 0) d_Mo_askedOn_31 rfl ?_
      refine j_ior d_Mo_askedOn_32 ?_
      rw [Int32.or_zero]
      refine j_istore_n (ls' := [(2, _), (0, _), (1, _), (3, _)]) d_Mo_askedOn_33 rfl (by decide) rfl ?_
      refine j_iinc (ls' := [(3, _), (2, _), (0, _), (1, _)]) d_Mo_askedOn_34 rfl (by decide) rfl ?_
      refine j_goto (tgt := 4) d_Mo_askedOn_37 rfl ?_
      refine j_pick [2, 3, 1, 0] (ls' := [(0, _), (1, _), (2, _), (3, _)]) rfl ?_
      have e9 : a_bits K.2.2.2.2.1 r (i + 1) = a_bits K.2.2.2.2.1 r i := by simp [a_bits, c]
      have ih1 := ih (i + 1) _ (by omega) (nI_inc i)
      rw [e9] at ih1
      exact ih1
set_option maxRecDepth 100000 in
set_option maxHeartbeats 4000000 in
theorem c_Mo_askedOn {G : r_X} {d : Nat} {h : r_HI} {p q : Nat} {z : r_HL} {F : Int32 → r_HI → r_HR → r_HL → Prop} {K : a_K} (hJ : p_J h K) (hn7 : K.2.2.2.1 ≤ 7) (hr10 : ∀ i, i < K.2.2.2.1 → K.2.2.2.2.1 i < 10) {r : Nat} {a1 : Int32} (hr : r < 10) (e1 : a1 = nI r) (hF : F (a_bits K.2.2.2.2.1 r K.2.2.2.1) h (r_gp p q) z) : r_Ci G m_Mo_askedOn (d) 61 [.ref (G.2.1 + 47), .int a1] 61 h (r_gp p q) z F := by
  subst e1
  refine r_C_of (by decide +kernel) (Nat.le_of_ble_eq_true rfl) ?_
  refine j_ls (ls' := [(0, _), (1, _)]) rfl ?_
  refine j_iconst (v := 0) d_Mo_askedOn_0 rfl ?_
  refine j_istore_n (ls' := [(2, _), (0, _), (1, _)]) d_Mo_askedOn_1 rfl (by decide) rfl ?_
  refine j_iconst (v := 0) d_Mo_askedOn_2 rfl ?_
  refine j_istore_n (ls' := [(3, _), (2, _), (0, _), (1, _)]) d_Mo_askedOn_3 rfl (by decide) rfl ?_
  refine j_pick [2, 3, 1, 0] (ls' := [(0, _), (1, _), (2, _), (3, _)]) rfl ?_
  exact l_Mo_askedOn hJ hn7 hr10 hr hF K.2.2.2.1 0 _ (by omega) rfl
