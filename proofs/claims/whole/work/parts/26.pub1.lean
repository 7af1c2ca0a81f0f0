theorem ixc (x : Int32) (n : Nat) : (a_ix x n = none ∧ (x.toInt < 0 ∨ (n : Int) ≤ x.toInt)) ∨ ∃ j, j < n ∧ x = nI j ∧ a_ix x n = some j ∧ x.toInt = (j : Int) := by
  rcases r_ixc x n with h | ⟨j, h1, h2, h3⟩
  · exact Or.inl h
  · refine Or.inr ⟨j, h1, h2, h3, ?_⟩
    unfold a_ix at h3
    split at h3
    · rename_i h4
      injection h3 with h5
      omega
    · exact absurd h3 (by simp)
theorem a_ix_of {x : Int32} {n j : Nat} (h : x.toInt = (j : Int)) (hj : j < n) : a_ix x n = some j := by
  unfold a_ix
  rw [if_pos (by omega), h]
  simp
theorem a_ix_no {x : Int32} {n : Nat} (h : x.toInt < 0 ∨ (n : Int) ≤ x.toInt) : a_ix x n = none := by
  unfold a_ix
  rw [if_neg (by omega)]
theorem x_of {x : Int32} {j : Nat} (h : x.toInt = (j : Int)) : x = nI j := by
  rw [iI_n, ← h]
  exact iI_of x
theorem r_mo.rf {h : r_HI} : r_mo h h := fun _ _ => rfl
theorem p_C.K {h h' : r_HI} {p q : Nat} {Z : a_Z} {K : a_K} (hC : p_C h p q Z) (e : r_ex [7, 8, 9, 10] h h') (hK : p_K h' 7 K) : p_C h' p q (z_K Z K) := by
  obtain ⟨c1, ⟨c2, c3, c4, c5⟩, c6, c7, c8, c9, c10, c11, c12⟩ := hC
  have e0 : h' 0 = h 0 := e 0 (by decide)
  exact ⟨c1.ex e (by decide) (by decide), ⟨c2.ex e (by decide) (by decide) (by decide) (by decide), hK, c4.ex e (by decide), c5.ex e (by decide) (by decide) (by decide)⟩, by rw [e0]; exact c6, by rw [e0]; exact c7, by rw [e0]; exact c8, c9, c10, c11, fun f => ⟨(c12 f).1.ex e (by decide), (c12 f).2⟩⟩
theorem p_C.D {h h' : r_HI} {p q : Nat} {Z : a_Z} {D : a_D} (hC : p_C h p q Z) (e : r_ex [3, 4, 5, 6] h h') (hD : p_D h' 3 D) : p_C h' p q (z_D Z D) := by
  obtain ⟨c1, ⟨c2, c3, c4, c5⟩, c6, c7, c8, c9, c10, c11, c12⟩ := hC
  have e0 : h' 0 = h 0 := e 0 (by decide)
  exact ⟨c1.ex e (by decide) (by decide), ⟨hD, c3.ex e (by decide) (by decide) (by decide) (by decide), c4.ex e (by decide), c5.ex e (by decide) (by decide) (by decide)⟩, by rw [e0]; exact c6, by rw [e0]; exact c7, by rw [e0]; exact c8, c9, c10, c11, fun f => ⟨(c12 f).1.ex e (by decide), (c12 f).2⟩⟩
theorem p_C.P {h h' : r_HI} {p q : Nat} {Z : a_Z} {P : a_P} (hC : p_C h p q Z) (e : r_ex [1, 2] h h') (hP : p_P h' P) : p_C h' p q (z_P Z P) := by
  obtain ⟨c1, c2, c6, c7, c8, c9, c10, c11, c12⟩ := hC
  have e0 : h' 0 = h 0 := e 0 (by decide)
  exact ⟨hP, c2.ex e (by decide), by rw [e0]; exact c6, by rw [e0]; exact c7, by rw [e0]; exact c8, c9, c10, c11, fun f => ⟨(c12 f).1.ex e (by decide), (c12 f).2⟩⟩
theorem p_C.W {h h' : r_HI} {p q : Nat} {Z : a_Z} {w : Nat → Nat} (hC : p_C h p q Z) (e : r_ex [12] h h') (hW : p_W h' 11 w) : p_C h' p q (z_W Z w) := by
  obtain ⟨c1, ⟨c2, c3, c4, c5⟩, c6, c7, c8, c9, c10, c11, c12⟩ := hC
  have e0 : h' 0 = h 0 := e 0 (by decide)
  exact ⟨c1.ex e (by decide) (by decide), ⟨c2.ex e (by decide) (by decide) (by decide) (by decide), c3.ex e (by decide) (by decide) (by decide) (by decide), hW, c5.ex e (by decide) (by decide) (by decide)⟩, by rw [e0]; exact c6, by rw [e0]; exact c7, by rw [e0]; exact c8, c9, c10, c11, fun f => ⟨(c12 f).1.ex e (by decide), (c12 f).2⟩⟩
theorem p_C.S {h h' : r_HI} {p q : Nat} {Z : a_Z} {S : a_S} (hC : p_C h p q Z) (e : r_ex [15, 16, 17] h h') (hS : p_S h' 15 S) : p_C h' p q (z_S Z S) := by
  obtain ⟨c1, ⟨c2, c3, c4, c5⟩, c6, c7, c8, c9, c10, c11, c12⟩ := hC
  have e0 : h' 0 = h 0 := e 0 (by decide)
  exact ⟨c1.ex e (by decide) (by decide), ⟨c2.ex e (by decide) (by decide) (by decide) (by decide), c3.ex e (by decide) (by decide) (by decide) (by decide), c4.ex e (by decide), hS⟩, by rw [e0]; exact c6, by rw [e0]; exact c7, by rw [e0]; exact c8, c9, c10, c11, fun f => ⟨(c12 f).1.ex e (by decide), (c12 f).2⟩⟩
theorem p_C.k {h : r_HI} {p q : Nat} {Z : a_Z} {k : Nat} (hC : p_C h p q Z) (hk : k < 5) : p_C h (19 + k) q (z_k Z k) := by
  obtain ⟨c1, ⟨c2, c3, c4, c5⟩, c6, c7, c8, c9, c10, c11, c12⟩ := hC
  refine ⟨c1, ⟨c2, c3, c4, c5⟩, c6, c7, c8, ⟨by omega, by omega⟩, ?_, c11, c12⟩
  show r_kd (19 + k) = k
  exact (show ∀ k, k < 5 → r_kd (19 + k) = k by decide) k hk
theorem p_C.mo7 {h h' : r_HI} (e : r_ex [7, 8, 9, 10] h h') : r_mo h h' := e.mo (by decide)
theorem a_nx_lt {D : a_D} {K : a_K} {kd : Nat} (h : 0 < K.2.2.2.1) : a_nx D K kd < K.2.2.2.1 := a_am_lt h
theorem a_kok.fin {D : a_D} {K : a_K} {i : Nat} (ho : a_dok D) (hk : a_kok D K) (hi : i < K.2.2.2.1) : a_kok D (a_fin D K i) := by
  have h := a_fo_ok (kd := 0) ho hk hi
  have e : a_fo D K 0 i = a_fin D K i := by
    unfold a_fo a_tw
    rw [if_neg (by omega)]
  rw [e] at h
  exact h
set_option maxRecDepth 100000 in
set_option maxHeartbeats 4000000 in
theorem c_hpY {G : r_X} {d : Nat} {h : r_HI} {p q : Nat} {z : r_HL} {F : Int32 → r_HI → r_HR → r_HL → Prop} {R : Nat} (hR : 0 < R) (hR2 : R ≤ 10) (h33 : h 3 3 = nI R) (hF : F 1 h (r_gp p q) z) : r_Ci G m_Ra_hasPlate (d) 61 [.ref (G.2.1 + 0)] 61 h (r_gp p q) z F := by
  refine c_hp (R := R) (by omega) h33 ?_
  rw [if_neg (by omega)]
  exact hF
set_option maxRecDepth 100000 in
set_option maxHeartbeats 4000000 in
theorem c_hpN {G : r_X} {d : Nat} {h : r_HI} {p q : Nat} {z : r_HL} {F : Int32 → r_HI → r_HR → r_HL → Prop} {R : Nat} (hR : R = 0) (h33 : h 3 3 = nI R) (hF : F 0 h (r_gp p q) z) : r_Ci G m_Ra_hasPlate (d) 61 [.ref (G.2.1 + 0)] 61 h (r_gp p q) z F := by
  refine c_hp (R := R) (by omega) h33 ?_
  rw [if_pos hR]
  exact hF
set_option maxRecDepth 100000 in
set_option maxHeartbeats 4000000 in
theorem c_Ra_letter {G : r_X} {d : Nat} {h : r_HI} {p q : Nat} {z : r_HL} {F : Int32 → r_HI → r_HR → r_HL → Prop} {Z : a_Z} {x : Int32} (hC : p_C h p q Z) (ho : a_zok Z) (hF : ∀ h' p' q', r_mo h h' → p_C h' p' q' (s_letter Z x).2 → F (s_letter Z x).1 h' (r_gp p' q') z) : r_Ci G m_Ra_letter (d + 20) 61 [.ref (G.2.1 + 0), .int x] 61 h (r_gp p q) z F := by
  obtain ⟨hP, ⟨hD, hK, hW, hS⟩, hpr, hld, hik, hpo, hkd, hqo, hkept⟩ := id hC
  obtain ⟨op, ⟨od, ok, otk, ow, os, okd⟩, o3, o4, o5, o6, o7⟩ := id ho
  obtain ⟨od1, od2, od3, od4⟩ := id od
  obtain ⟨ok1, ok2, ok3, ok4⟩ := id ok
  have os1 := os.1
  have op1 := op.1
  rcases ixc x 127 with ⟨ix1, hr1⟩ | ⟨c, hj1, e1, ix1, t1⟩
  · rcases hr1 with hr1 | hr1
    · have hs : s_letter Z x = (-102, Z) := by simp [s_letter, ix1]
      rw [hs] at hF
      refine r_C_of (by decide +kernel) (Nat.le_of_ble_eq_true rfl) ?_
      refine j_ls (ls' := [(0, _), (1, _)]) rfl ?_
      refine j_iload_n d_Ra_letter_0 rfl rfl ?_
      refine j_iconst (v := 1) d_Ra_letter_1 rfl ?_
      refine j_icmp_lt (tgt := 11) d_Ra_letter_2 rfl (fun bq1 => ?_) (fun bq1 => False.elim (bq1 ((xlt (n := 1) (by decide)).mpr (by omega))))
      refine j_bipush (v := (-102)) d_Ra_letter_11 (by decide) ?_
      refine j_iret d_Ra_letter_13 rfl ?_
      exact q_i1 (hF _ _ _ r_mo.rf hC) rfl
    · have hs : s_letter Z x = (-102, Z) := by simp [s_letter, ix1]
      rw [hs] at hF
      refine r_C_of (by decide +kernel) (Nat.le_of_ble_eq_true rfl) ?_
      refine j_ls (ls' := [(0, _), (1, _)]) rfl ?_
      refine j_iload_n d_Ra_letter_0 rfl rfl ?_
      refine j_iconst (v := 1) d_Ra_letter_1 rfl ?_
      refine j_icmp_lt (tgt := 11) d_Ra_letter_2 rfl (fun bq1 => False.elim (absurd ((xlt (n := 1) (by decide)).mp bq1) (by omega))) (fun bq1 => ?_)
      refine j_iload_n d_Ra_letter_5 rfl rfl ?_
      refine j_bipush (v := 126) d_Ra_letter_6 (by decide) ?_
      refine j_icmp_le (tgt := 14) d_Ra_letter_8 rfl (fun bq2 => False.elim (absurd ((xle (n := 126) (by decide)).mp bq2) (by omega))) (fun bq2 => ?_)
      refine j_bipush (v := (-102)) d_Ra_letter_11 (by decide) ?_
      refine j_iret d_Ra_letter_13 rfl ?_
      exact q_i1 (hF _ _ _ r_mo.rf hC) rfl
  · by_cases c0 : c = 0
    · have hs : s_letter Z x = (-102, Z) := by simp [s_letter, ix1, c0]
      rw [hs] at hF
      refine r_C_of (by decide +kernel) (Nat.le_of_ble_eq_true rfl) ?_
      refine j_ls (ls' := [(0, _), (1, _)]) rfl ?_
      refine j_iload_n d_Ra_letter_0 rfl rfl ?_
      refine j_iconst (v := 1) d_Ra_letter_1 rfl ?_
      refine j_icmp_lt (tgt := 11) d_Ra_letter_2 rfl (fun bq1 => ?_) (fun bq1 => False.elim (bq1 ((xlt (n := 1) (by decide)).mpr (by omega))))
      refine j_bipush (v := (-102)) d_Ra_letter_11 (by decide) ?_
      refine j_iret d_Ra_letter_13 rfl ?_
      exact q_i1 (hF _ _ _ r_mo.rf hC) rfl
    · by_cases c28 : 28 ≤ Z.1.1
      · have hs : s_letter Z x = (-104, Z) := by simp [s_letter, ix1, c0, c28]
        rw [hs] at hF
        refine r_C_of (by decide +kernel) (Nat.le_of_ble_eq_true rfl) ?_
        refine j_ls (ls' := [(0, _), (1, _)]) rfl ?_
        refine j_iload_n d_Ra_letter_0 rfl rfl ?_
        refine j_iconst (v := 1) d_Ra_letter_1 rfl ?_
        refine j_icmp_lt (tgt := 11) d_Ra_letter_2 rfl (fun bq1 => False.elim (absurd ((xlt (n := 1) (by decide)).mp bq1) (by omega))) (fun bq1 => ?_)
        refine j_iload_n d_Ra_letter_5 rfl rfl ?_
        refine j_bipush (v := 126) d_Ra_letter_6 (by decide) ?_
        refine j_icmp_le (tgt := 14) d_Ra_letter_8 rfl (fun bq2 => ?_) (fun bq2 => False.elim (bq2 ((xle (n := 126) (by decide)).mpr (by omega))))
        refine j_aload_n d_Ra_letter_14 rfl rfl ?_
        refine j_getr d_Ra_letter_15 f_Ra_10 rfl rfl (by decide) rfl ?_
        refine j_geti d_Ra_letter_18 f_Ra_105 rfl rfl (by decide) ?_
        rw [hP.1]
        refine j_bipush (v := 28) d_Ra_letter_21 (by decide) ?_
        refine j_icmp_lt (tgt := 29) d_Ra_letter_23 rfl (fun bq3 => False.elim (nI_nlt (a := Z.1.1) (b := 28) (by omega) (by omega) bq3)) (fun bq3 => ?_)
        refine j_bipush (v := (-104)) d_Ra_letter_26 (by decide) ?_
        refine j_iret d_Ra_letter_28 rfl ?_
        exact q_i1 (hF _ _ _ r_mo.rf hC) rfl
      · have hs : s_letter Z x = (nI (Z.1.1 + 1), z_P Z (Z.1.1 + 1, va_up Z.1.2 Z.1.1 c)) := by simp [s_letter, ix1, c0, c28]
        rw [hs] at hF
        refine r_C_of (by decide +kernel) (Nat.le_of_ble_eq_true rfl) ?_
        refine j_ls (ls' := [(0, _), (1, _)]) rfl ?_
        refine j_iload_n d_Ra_letter_0 rfl rfl ?_
        refine j_iconst (v := 1) d_Ra_letter_1 rfl ?_
        refine j_icmp_lt (tgt := 11) d_Ra_letter_2 rfl (fun bq1 => False.elim (absurd ((xlt (n := 1) (by decide)).mp bq1) (by omega))) (fun bq1 => ?_)
        refine j_iload_n d_Ra_letter_5 rfl rfl ?_
        refine j_bipush (v := 126) d_Ra_letter_6 (by decide) ?_
        refine j_icmp_le (tgt := 14) d_Ra_letter_8 rfl (fun bq2 => ?_) (fun bq2 => False.elim (bq2 ((xle (n := 126) (by decide)).mpr (by omega))))
        refine j_aload_n d_Ra_letter_14 rfl rfl ?_
        refine j_getr d_Ra_letter_15 f_Ra_10 rfl rfl (by decide) rfl ?_
        refine j_geti d_Ra_letter_18 f_Ra_105 rfl rfl (by decide) ?_
        rw [hP.1]
        refine j_bipush (v := 28) d_Ra_letter_21 (by decide) ?_
        refine j_icmp_lt (tgt := 29) d_Ra_letter_23 rfl (fun bq3 => ?_) (fun bq3 => False.elim (bq3 (nI_lt (a := Z.1.1) (b := 28) (by omega) (by omega))))
        refine j_aload_n d_Ra_letter_29 rfl rfl ?_
        refine j_getr d_Ra_letter_30 f_Ra_10 rfl rfl (by decide) rfl ?_
        refine j_iload_n d_Ra_letter_33 rfl rfl ?_
        refine q_i (s_Ra_letter_34 rfl (by decide)) rfl (Nat.le_of_ble_eq_true rfl) (Nat.le_of_ble_eq_true rfl) ?_
        refine c_Pa_append hP op (by omega) e1 (fun h' q1 q2 => ?_)
        refine j_iret d_Ra_letter_37 rfl ?_
        exact q_i1 (hF _ _ _ (q1.mo (by decide)) (hC.P q1 q2)) rfl
set_option maxRecDepth 100000 in
set_option maxHeartbeats 4000000 in
theorem c_Ra_blank {G : r_X} {d : Nat} {h : r_HI} {p q : Nat} {z : r_HL} {F : Int32 → r_HI → r_HR → r_HL → Prop} {Z : a_Z} (hC : p_C h p q Z) (ho : a_zok Z) (hF : ∀ h' p' q', r_mo h h' → p_C h' p' q' (s_blank Z).2 → F (s_blank Z).1 h' (r_gp p' q') z) : r_Ci G m_Ra_blank (d + 20) 61 [.ref (G.2.1 + 0)] 61 h (r_gp p q) z F := by
  obtain ⟨hP, ⟨hD, hK, hW, hS⟩, hpr, hld, hik, hpo, hkd, hqo, hkept⟩ := id hC
  obtain ⟨op, ⟨od, ok, otk, ow, os, okd⟩, o3, o4, o5, o6, o7⟩ := id ho
  obtain ⟨od1, od2, od3, od4⟩ := id od
  obtain ⟨ok1, ok2, ok3, ok4⟩ := id ok
  have os1 := os.1
  have op1 := op.1
  have hs : s_blank Z = (nI Z.1.1, z_P Z (0, Z.1.2)) := by simp [s_blank, s_blank]
  rw [hs] at hF
  refine r_C_of (by decide +kernel) (Nat.le_of_ble_eq_true rfl) ?_
  refine j_ls (ls' := [(0, _)]) rfl ?_
  refine j_aload_n d_Ra_blank_0 rfl rfl ?_
  refine j_getr d_Ra_blank_1 f_Ra_10 rfl rfl (by decide) rfl ?_
  refine q_i (s_Ra_blank_4 rfl (by decide)) rfl (Nat.le_of_ble_eq_true rfl) (Nat.le_of_ble_eq_true rfl) ?_
  refine c_Pa_clear hP op (fun h' q1 q2 => ?_)
  refine j_iret d_Ra_blank_7 rfl ?_
  exact q_i1 (hF _ _ _ (q1.mo (by decide)) (hC.P (q1.mono (by decide)) q2)) rfl
set_option maxRecDepth 100000 in
set_option maxHeartbeats 4000000 in
theorem c_Ra_fault {G : r_X} {d : Nat} {h : r_HI} {p q : Nat} {z : r_HL} {F : Int32 → r_HI → r_HR → r_HL → Prop} {Z : a_Z} (hC : p_C h p q Z) (ho : a_zok Z) (hF : ∀ h' p' q', r_mo h h' → p_C h' p' q' (s_fault Z).2 → F (s_fault Z).1 h' (r_gp p' q') z) : r_Ci G m_Ra_fault (d + 20) 61 [.ref (G.2.1 + 0)] 61 h (r_gp p q) z F := by
  obtain ⟨hP, ⟨hD, hK, hW, hS⟩, hpr, hld, hik, hpo, hkd, hqo, hkept⟩ := id hC
  obtain ⟨op, ⟨od, ok, otk, ow, os, okd⟩, o3, o4, o5, o6, o7⟩ := id ho
  obtain ⟨od1, od2, od3, od4⟩ := id od
  obtain ⟨ok1, ok2, ok3, ok4⟩ := id ok
  have os1 := os.1
  have op1 := op.1
  refine r_C_of (by decide +kernel) (Nat.le_of_ble_eq_true rfl) ?_
  refine j_ls (ls' := [(0, _)]) rfl ?_
  refine j_aload_n d_Ra_fault_0 rfl rfl ?_
  refine j_getr d_Ra_fault_1 f_Ra_10 rfl rfl (by decide) rfl ?_
  refine q_i (s_Ra_fault_4 rfl (by decide)) rfl (Nat.le_of_ble_eq_true rfl) (Nat.le_of_ble_eq_true rfl) ?_
  refine c_Pa_firstFault hP op ?_
  refine j_iret d_Ra_fault_7 rfl ?_
  exact q_i1 (hF _ _ _ r_mo.rf hC) rfl
set_option maxRecDepth 100000 in
set_option maxHeartbeats 4000000 in
theorem c_Ra_ring {G : r_X} {d : Nat} {h : r_HI} {p q : Nat} {z : r_HL} {F : Int32 → r_HI → r_HR → r_HL → Prop} {Z : a_Z} {x w : Int32} (hC : p_C h p q Z) (ho : a_zok Z) (hF : F (s_ring Z x w) h (r_gp p q) z) : r_Ci G m_Ra_ring (d + 20) 61 [.ref (G.2.1 + 0), .int x, .int w] 61 h (r_gp p q) z F := by
  obtain ⟨hP, ⟨hD, hK, hW, hS⟩, hpr, hld, hik, hpo, hkd, hqo, hkept⟩ := id hC
  obtain ⟨op, ⟨od, ok, otk, ow, os, okd⟩, o3, o4, o5, o6, o7⟩ := id ho
  obtain ⟨od1, od2, od3, od4⟩ := id od
  obtain ⟨ok1, ok2, ok3, ok4⟩ := id ok
  have os1 := os.1
  have op1 := op.1
  rcases ixc x Z.2.1.1.1 with ⟨ix1, hr1⟩ | ⟨r, hj1, e1, ix1, t1⟩
  · have hs : s_ring Z x w = -101 := by simp [s_ring, ix1]
    rw [hs] at hF
    refine r_C_of (by decide +kernel) (Nat.le_of_ble_eq_true rfl) ?_
    refine j_ls (ls' := [(0, _), (1, _), (2, _)]) rfl ?_
    refine j_aload_n d_Ra_ring_0 rfl rfl ?_
    refine j_getr d_Ra_ring_1 f_Ra_19 rfl rfl (by decide) rfl ?_
    refine j_iload_n d_Ra_ring_4 rfl rfl ?_
    refine q_i (s_Ra_ring_5 rfl (by decide)) rfl (Nat.le_of_ble_eq_true rfl) (Nat.le_of_ble_eq_true rfl) ?_
    refine c_Di_hasN (R := Z.2.1.1.1) (by omega) hD.1 hr1 ?_
    refine j_if_ne (tgt := 14) d_Ra_ring_8 rfl (fun bq1 => False.elim (bq1 rfl)) (fun bq1 => ?_)
    refine j_bipush (v := (-101)) d_Ra_ring_11 (by decide) ?_
    refine j_iret d_Ra_ring_13 rfl ?_
    exact q_i1 hF rfl
  · refine r_C_of (by decide +kernel) (Nat.le_of_ble_eq_true rfl) ?_
    refine j_ls (ls' := [(0, _), (1, _), (2, _)]) rfl ?_
    refine j_aload_n d_Ra_ring_0 rfl rfl ?_
    refine j_getr d_Ra_ring_1 f_Ra_19 rfl rfl (by decide) rfl ?_
    refine j_iload_n d_Ra_ring_4 rfl rfl ?_
    refine q_i (s_Ra_ring_5 rfl (by decide)) rfl (Nat.le_of_ble_eq_true rfl) (Nat.le_of_ble_eq_true rfl) ?_
    refine c_Di_hasY (R := Z.2.1.1.1) (by omega) hD.1 e1 hj1 ?_
    refine j_if_ne (tgt := 14) d_Ra_ring_8 rfl (fun bq1 => ?_) (fun bq1 => False.elim (absurd bq1 (by decide)))
    refine j_iload_n d_Ra_ring_14 rfl rfl ?_
    rcases (show w.toInt < 0 ∨ 4 < w.toInt ∨ w.toInt = 0 ∨ w.toInt = 1 ∨ w.toInt = 2 ∨ w.toInt = 3 ∨ w.toInt = 4 by omega) with t9 | t9 | t9 | t9 | t9 | t9 | t9
    · refine j_tabOut (tgt := 109) d_Ra_ring_15 (Or.inl t9) rfl ?_
      refine j_bipush (v := (-102)) d_Ra_ring_109 (by decide) ?_
      refine j_iret d_Ra_ring_111 rfl ?_
      have hs : s_ring Z x w = -102 := by simp [s_ring, ix1, a_ix_no (x := w) (n := 5) (by omega)]
      rw [hs] at hF
      exact q_i1 hF rfl
    · refine j_tabOut (tgt := 109) d_Ra_ring_15 (Or.inr t9) rfl ?_
      refine j_bipush (v := (-102)) d_Ra_ring_109 (by decide) ?_
      refine j_iret d_Ra_ring_111 rfl ?_
      have hs : s_ring Z x w = -102 := by simp [s_ring, ix1, a_ix_no (x := w) (n := 5) (by omega)]
      rw [hs] at hF
      exact q_i1 hF rfl
    · refine j_tabIn (off := 33) (tgt := 48) d_Ra_ring_15 (by rw [t9]; decide) (by rw [t9]; decide) (by rw [t9]; rfl) rfl ?_
      refine j_aload_n d_Ra_ring_48 rfl rfl ?_
      refine j_getr d_Ra_ring_49 f_Ra_19 rfl rfl (by decide) rfl ?_
      refine j_getr d_Ra_ring_52 f_Ra_145 rfl rfl (by decide) rfl ?_
      refine j_iload_n d_Ra_ring_55 rfl rfl ?_
      refine q_i s_Ra_ring_56 rfl (Nat.le_of_ble_eq_true rfl) (Nat.le_of_ble_eq_true rfl) ?_
      refine c_Ra_av (j := r) rfl (by decide) e1 (by omega) (hD.2.2.2 r hj1).1 ?_
      refine j_iret d_Ra_ring_59 rfl ?_
      have hs : s_ring Z x w = nI (Z.2.1.1.2.2.2.1 r) := by simp [s_ring, ix1, a_ix_of (x := w) (n := 5) (j := 0) (by omega) (by decide)]
      rw [hs] at hF
      exact q_i1 hF rfl
    · refine j_tabIn (off := 45) (tgt := 60) d_Ra_ring_15 (by rw [t9]; decide) (by rw [t9]; decide) (by rw [t9]; rfl) rfl ?_
      refine j_aload_n d_Ra_ring_60 rfl rfl ?_
      refine j_getr d_Ra_ring_61 f_Ra_19 rfl rfl (by decide) rfl ?_
      refine j_getr d_Ra_ring_64 f_Ra_153 rfl rfl (by decide) rfl ?_
      refine j_iload_n d_Ra_ring_67 rfl rfl ?_
      refine q_i s_Ra_ring_68 rfl (Nat.le_of_ble_eq_true rfl) (Nat.le_of_ble_eq_true rfl) ?_
      refine c_Ra_av (j := r) rfl (by decide) e1 (by omega) (hD.2.2.2 r hj1).2.1 ?_
      refine j_iret d_Ra_ring_71 rfl ?_
      have hs : s_ring Z x w = nI (Z.2.1.1.2.2.2.2 r) := by simp [s_ring, ix1, a_ix_of (x := w) (n := 5) (j := 1) (by omega) (by decide)]
      rw [hs] at hF
      exact q_i1 hF rfl
    · refine j_tabIn (off := 57) (tgt := 72) d_Ra_ring_15 (by rw [t9]; decide) (by rw [t9]; decide) (by rw [t9]; rfl) rfl ?_
      refine j_aload_n d_Ra_ring_72 rfl rfl ?_
      refine j_getr d_Ra_ring_73 f_Ra_19 rfl rfl (by decide) rfl ?_
      refine j_getr d_Ra_ring_76 f_Ra_156 rfl rfl (by decide) rfl ?_
      refine j_iload_n d_Ra_ring_79 rfl rfl ?_
      refine q_i s_Ra_ring_80 rfl (Nat.le_of_ble_eq_true rfl) (Nat.le_of_ble_eq_true rfl) ?_
      refine c_Ra_av (j := r) rfl (by decide) e1 (by omega) (hD.2.2.2 r hj1).2.2 ?_
      refine j_iret d_Ra_ring_83 rfl ?_
      have hs : s_ring Z x w = nI (24 / Z.2.1.1.2.2.2.1 r) := by simp [s_ring, ix1, a_ix_of (x := w) (n := 5) (j := 2) (by omega) (by decide)]
      rw [hs] at hF
      exact q_i1 hF rfl
    · refine j_tabIn (off := 69) (tgt := 84) d_Ra_ring_15 (by rw [t9]; decide) (by rw [t9]; decide) (by rw [t9]; rfl) rfl ?_
      refine j_aload_n d_Ra_ring_84 rfl rfl ?_
      refine j_getr d_Ra_ring_85 f_Ra_28 rfl rfl (by decide) rfl ?_
      refine j_iload_n d_Ra_ring_88 rfl rfl ?_
      refine q_i (s_Ra_ring_89 rfl (by decide)) rfl (Nat.le_of_ble_eq_true rfl) (Nat.le_of_ble_eq_true rfl) ?_
      refine c_Dk_bitsOn_7 hD od hK ok (r := r) (by omega) e1 ?_
      refine j_iret d_Ra_ring_92 rfl ?_
      have hs : s_ring Z x w = a_bits Z.2.1.2.1.2.2.2.2.1 r Z.2.1.2.1.2.2.2.1 := by simp [s_ring, ix1, a_ix_of (x := w) (n := 5) (j := 3) (by omega) (by decide)]
      rw [hs] at hF
      exact q_i1 hF rfl
    · refine j_tabIn (off := 78) (tgt := 93) d_Ra_ring_15 (by rw [t9]; decide) (by rw [t9]; decide) (by rw [t9]; rfl) rfl ?_
      refine j_aload_n d_Ra_ring_93 rfl rfl ?_
      refine j_getr d_Ra_ring_94 f_Ra_19 rfl rfl (by decide) rfl ?_
      refine j_aload_n d_Ra_ring_97 rfl rfl ?_
      refine j_getr d_Ra_ring_98 f_Ra_28 rfl rfl (by decide) rfl ?_
      refine j_geti d_Ra_ring_101 f_Ra_162 rfl rfl (by decide) ?_
      refine j_iload_n d_Ra_ring_104 rfl rfl ?_
      refine q_i (s_Ra_ring_105 rfl (by decide)) rfl (Nat.le_of_ble_eq_true rfl) (Nat.le_of_ble_eq_true rfl) ?_
      refine c_Di_travel hD od (x := Z.2.1.2.1.2.1) (y := r) (by omega) (by omega) hK.2.2.1 e1 ?_
      refine j_iret d_Ra_ring_108 rfl ?_
      have hs : s_ring Z x w = nI (a_tr Z.2.1.1 Z.2.1.2.1.2.1 r) := by simp [s_ring, ix1, a_ix_of (x := w) (n := 5) (j := 4) (by omega) (by decide)]
      rw [hs] at hF
      exact q_i1 hF rfl
set_option maxRecDepth 100000 in
set_option maxHeartbeats 4000000 in
theorem c_Ra_asked {G : r_X} {d : Nat} {h : r_HI} {p q : Nat} {z : r_HL} {F : Int32 → r_HI → r_HR → r_HL → Prop} {Z : a_Z} {x w : Int32} (hC : p_C h p q Z) (ho : a_zok Z) (hF : F (s_asked Z x w) h (r_gp p q) z) : r_Ci G m_Ra_asked (d + 20) 61 [.ref (G.2.1 + 0), .int x, .int w] 61 h (r_gp p q) z F := by
  obtain ⟨hP, ⟨hD, hK, hW, hS⟩, hpr, hld, hik, hpo, hkd, hqo, hkept⟩ := id hC
  obtain ⟨op, ⟨od, ok, otk, ow, os, okd⟩, o3, o4, o5, o6, o7⟩ := id ho
  obtain ⟨od1, od2, od3, od4⟩ := id od
  obtain ⟨ok1, ok2, ok3, ok4⟩ := id ok
  have os1 := os.1
  have op1 := op.1
  rcases ixc x Z.2.1.2.1.2.2.2.1 with ⟨ix1, hr1⟩ | ⟨r, hj1, e1, ix1, t1⟩
  · have hs : s_asked Z x w = -101 := by simp [s_asked, ix1]
    rw [hs] at hF
    refine r_C_of (by decide +kernel) (Nat.le_of_ble_eq_true rfl) ?_
    refine j_ls (ls' := [(0, _), (1, _), (2, _)]) rfl ?_
    refine j_aload_n d_Ra_asked_0 rfl rfl ?_
    refine j_getr d_Ra_asked_1 f_Ra_28 rfl rfl (by decide) rfl ?_
    refine j_iload_n d_Ra_asked_4 rfl rfl ?_
    refine q_i (s_Ra_asked_5 rfl (by decide)) rfl (Nat.le_of_ble_eq_true rfl) (Nat.le_of_ble_eq_true rfl) ?_
    refine c_Dk_hasN (R := Z.2.1.2.1.2.2.2.1) (by omega) hK.1 hr1 ?_
    refine j_if_ne (tgt := 14) d_Ra_asked_8 rfl (fun bq1 => False.elim (bq1 rfl)) (fun bq1 => ?_)
    refine j_bipush (v := (-101)) d_Ra_asked_11 (by decide) ?_
    refine j_iret d_Ra_asked_13 rfl ?_
    exact q_i1 hF rfl
  · refine r_C_of (by decide +kernel) (Nat.le_of_ble_eq_true rfl) ?_
    refine j_ls (ls' := [(0, _), (1, _), (2, _)]) rfl ?_
    refine j_aload_n d_Ra_asked_0 rfl rfl ?_
    refine j_getr d_Ra_asked_1 f_Ra_28 rfl rfl (by decide) rfl ?_
    refine j_iload_n d_Ra_asked_4 rfl rfl ?_
    refine q_i (s_Ra_asked_5 rfl (by decide)) rfl (Nat.le_of_ble_eq_true rfl) (Nat.le_of_ble_eq_true rfl) ?_
    refine c_Dk_hasY (R := Z.2.1.2.1.2.2.2.1) (by omega) hK.1 e1 hj1 ?_
    refine j_if_ne (tgt := 14) d_Ra_asked_8 rfl (fun bq1 => ?_) (fun bq1 => False.elim (absurd bq1 (by decide)))
    refine j_iload_n d_Ra_asked_14 rfl rfl ?_
    rcases (show w.toInt < 0 ∨ 3 < w.toInt ∨ w.toInt = 0 ∨ w.toInt = 1 ∨ w.toInt = 2 ∨ w.toInt = 3 by omega) with t9 | t9 | t9 | t9 | t9 | t9
    · refine j_tabOut (tgt := 89) d_Ra_asked_15 (Or.inl t9) rfl ?_
      refine j_bipush (v := (-102)) d_Ra_asked_89 (by decide) ?_
      refine j_iret d_Ra_asked_91 rfl ?_
      have hs : s_asked Z x w = -102 := by simp [s_asked, ix1, a_ix_no (x := w) (n := 4) (by omega)]
      rw [hs] at hF
      exact q_i1 hF rfl
    · refine j_tabOut (tgt := 89) d_Ra_asked_15 (Or.inr t9) rfl ?_
      refine j_bipush (v := (-102)) d_Ra_asked_89 (by decide) ?_
      refine j_iret d_Ra_asked_91 rfl ?_
      have hs : s_asked Z x w = -102 := by simp [s_asked, ix1, a_ix_no (x := w) (n := 4) (by omega)]
      rw [hs] at hF
      exact q_i1 hF rfl
    · refine j_tabIn (off := 29) (tgt := 44) d_Ra_asked_15 (by rw [t9]; decide) (by rw [t9]; decide) (by rw [t9]; rfl) rfl ?_
      refine j_aload_n d_Ra_asked_44 rfl rfl ?_
      refine j_getr d_Ra_asked_45 f_Ra_28 rfl rfl (by decide) rfl ?_
      refine j_getr d_Ra_asked_48 f_Ra_170 rfl rfl (by decide) rfl ?_
      refine j_iload_n d_Ra_asked_51 rfl rfl ?_
      refine q_i s_Ra_asked_52 rfl (Nat.le_of_ble_eq_true rfl) (Nat.le_of_ble_eq_true rfl) ?_
      refine c_Ra_av (j := r) rfl (by decide) e1 (by omega) (hK.2.2.2.2 r hj1).1 ?_
      refine j_iret d_Ra_asked_55 rfl ?_
      have hs : s_asked Z x w = nI (Z.2.1.2.1.2.2.2.2.1 r) := by simp [s_asked, ix1, a_ix_of (x := w) (n := 4) (j := 0) (by omega) (by decide)]
      rw [hs] at hF
      exact q_i1 hF rfl
    · refine j_tabIn (off := 41) (tgt := 56) d_Ra_asked_15 (by rw [t9]; decide) (by rw [t9]; decide) (by rw [t9]; rfl) rfl ?_
      refine j_aload_n d_Ra_asked_56 rfl rfl ?_
      refine j_getr d_Ra_asked_57 f_Ra_28 rfl rfl (by decide) rfl ?_
      refine j_getr d_Ra_asked_60 f_Ra_173 rfl rfl (by decide) rfl ?_
      refine j_iload_n d_Ra_asked_63 rfl rfl ?_
      refine q_i s_Ra_asked_64 rfl (Nat.le_of_ble_eq_true rfl) (Nat.le_of_ble_eq_true rfl) ?_
      refine c_Ra_av (j := r) rfl (by decide) e1 (by omega) (hK.2.2.2.2 r hj1).2.1 ?_
      refine j_iret d_Ra_asked_67 rfl ?_
      have hs : s_asked Z x w = nI (Z.2.1.2.1.2.2.2.2.2.1 r) := by simp [s_asked, ix1, a_ix_of (x := w) (n := 4) (j := 1) (by omega) (by decide)]
      rw [hs] at hF
      exact q_i1 hF rfl
    · refine j_tabIn (off := 53) (tgt := 68) d_Ra_asked_15 (by rw [t9]; decide) (by rw [t9]; decide) (by rw [t9]; rfl) rfl ?_
      refine j_aload_n d_Ra_asked_68 rfl rfl ?_
      refine j_getr d_Ra_asked_69 f_Ra_28 rfl rfl (by decide) rfl ?_
      refine j_getr d_Ra_asked_72 f_Ra_174 rfl rfl (by decide) rfl ?_
      refine j_iload_n d_Ra_asked_75 rfl rfl ?_
      refine q_i s_Ra_asked_76 rfl (Nat.le_of_ble_eq_true rfl) (Nat.le_of_ble_eq_true rfl) ?_
      refine c_Ra_av (j := r) rfl (by decide) e1 (by omega) (hK.2.2.2.2 r hj1).2.2 ?_
      refine j_iret d_Ra_asked_79 rfl ?_
      have hs : s_asked Z x w = nI (Z.2.1.2.1.2.2.2.2.2.2 r) := by simp [s_asked, ix1, a_ix_of (x := w) (n := 4) (j := 2) (by omega) (by decide)]
      rw [hs] at hF
      exact q_i1 hF rfl
    · refine j_tabIn (off := 65) (tgt := 80) d_Ra_asked_15 (by rw [t9]; decide) (by rw [t9]; decide) (by rw [t9]; rfl) rfl ?_
      refine j_aload_n d_Ra_asked_80 rfl rfl ?_
      refine j_getr d_Ra_asked_81 f_Ra_28 rfl rfl (by decide) rfl ?_
      refine j_iload_n d_Ra_asked_84 rfl rfl ?_
      refine q_i (s_Ra_asked_85 rfl (by decide)) rfl (Nat.le_of_ble_eq_true rfl) (Nat.le_of_ble_eq_true rfl) ?_
      refine c_Dk_doneAt_7 hD od hK ok (i := r) (by omega) hj1 e1 ?_
      refine j_iret d_Ra_asked_88 rfl ?_
      have hs : s_asked Z x w = nI (a_dn Z.2.1.1 Z.2.1.2.1.1 Z.2.1.2.1.2.1 (Z.2.1.2.1.2.2.2.2.1 r) (Z.2.1.2.1.2.2.2.2.2.1 r)) := by simp [s_asked, ix1, a_ix_of (x := w) (n := 4) (j := 3) (by omega) (by decide)]
      rw [hs] at hF
      exact q_i1 hF rfl
set_option maxRecDepth 100000 in
set_option maxHeartbeats 4000000 in
theorem c_Ra_as {G : r_X} {d : Nat} {h : r_HI} {p q : Nat} {z : r_HL} {F : Int32 → r_HI → r_HR → r_HL → Prop} {Z : a_Z} {x : Int32} (hC : p_C h p q Z) (ho : a_zok Z) (hF : F (s_as Z x) h (r_gp p q) z) : r_Ci G m_Ra_as (d + 20) 61 [.ref (G.2.1 + 0), .int x] 61 h (r_gp p q) z F := by
  obtain ⟨hP, ⟨hD, hK, hW, hS⟩, hpr, hld, hik, hpo, hkd, hqo, hkept⟩ := id hC
  obtain ⟨op, ⟨od, ok, otk, ow, os, okd⟩, o3, o4, o5, o6, o7⟩ := id ho
  obtain ⟨od1, od2, od3, od4⟩ := id od
  obtain ⟨ok1, ok2, ok3, ok4⟩ := id ok
  have os1 := os.1
  have op1 := op.1
  rcases ixc x 5 with ⟨ix1, hr1⟩ | ⟨k, hj1, e1, ix1, t1⟩
  · have hs : s_as Z x = -102 := by simp [s_as, ix1]
    rw [hs] at hF
    refine r_C_of (by decide +kernel) (Nat.le_of_ble_eq_true rfl) ?_
    refine j_ls (ls' := [(0, _), (1, _)]) rfl ?_
    refine j_iload_n d_Ra_as_0 rfl rfl ?_
    refine q_i s_Ra_as_1 rfl (Nat.le_of_ble_eq_true rfl) (Nat.le_of_ble_eq_true rfl) ?_
    refine c_Ra_kindN hr1 ?_
    refine j_if_ne (tgt := 10) d_Ra_as_4 rfl (fun bq1 => False.elim (bq1 rfl)) (fun bq1 => ?_)
    refine j_bipush (v := (-102)) d_Ra_as_7 (by decide) ?_
    refine j_iret d_Ra_as_9 rfl ?_
    exact q_i1 hF rfl
  · by_cases hR : Z.2.1.1.1 = 0
    · have hs : s_as Z x = -103 := by simp [s_as, ix1, hR]
      rw [hs] at hF
      refine r_C_of (by decide +kernel) (Nat.le_of_ble_eq_true rfl) ?_
      refine j_ls (ls' := [(0, _), (1, _)]) rfl ?_
      refine j_iload_n d_Ra_as_0 rfl rfl ?_
      refine q_i s_Ra_as_1 rfl (Nat.le_of_ble_eq_true rfl) (Nat.le_of_ble_eq_true rfl) ?_
      refine c_Ra_kindY hj1 e1 ?_
      refine j_if_ne (tgt := 10) d_Ra_as_4 rfl (fun bq1 => ?_) (fun bq1 => False.elim (absurd bq1 (by decide)))
      refine j_aload_n d_Ra_as_10 rfl rfl ?_
      refine q_i (s_Ra_as_11 rfl (by decide)) rfl (Nat.le_of_ble_eq_true rfl) (Nat.le_of_ble_eq_true rfl) ?_
      refine c_hpN hR hD.1 ?_
      refine j_if_ne (tgt := 20) d_Ra_as_14 rfl (fun bq2 => False.elim (bq2 rfl)) (fun bq2 => ?_)
      refine j_bipush (v := (-103)) d_Ra_as_17 (by decide) ?_
      refine j_iret d_Ra_as_19 rfl ?_
      exact q_i1 hF rfl
    · by_cases hi : a_is Z.2.1.2.2.2.2 k = true
      · have hs : s_as Z x = nI Z.2.1.2.2.2.2 := by simp [s_as, ix1, hR, hi]
        rw [hs] at hF
        refine r_C_of (by decide +kernel) (Nat.le_of_ble_eq_true rfl) ?_
        refine j_ls (ls' := [(0, _), (1, _)]) rfl ?_
        refine j_iload_n d_Ra_as_0 rfl rfl ?_
        refine q_i s_Ra_as_1 rfl (Nat.le_of_ble_eq_true rfl) (Nat.le_of_ble_eq_true rfl) ?_
        refine c_Ra_kindY hj1 e1 ?_
        refine j_if_ne (tgt := 10) d_Ra_as_4 rfl (fun bq1 => ?_) (fun bq1 => False.elim (absurd bq1 (by decide)))
        refine j_aload_n d_Ra_as_10 rfl rfl ?_
        refine q_i (s_Ra_as_11 rfl (by decide)) rfl (Nat.le_of_ble_eq_true rfl) (Nat.le_of_ble_eq_true rfl) ?_
        refine c_hpY (by omega) od1 hD.1 ?_
        refine j_if_ne (tgt := 20) d_Ra_as_14 rfl (fun bq2 => ?_) (fun bq2 => False.elim (absurd bq2 (by decide)))
        refine j_aload_n d_Ra_as_20 rfl rfl ?_
        refine j_getr d_Ra_as_21 f_Ra_65 rfl rfl (by decide) rfl ?_
        refine j_iload_n d_Ra_as_24 rfl rfl ?_
        refine q_i s_Ra_as_25 rfl (Nat.le_of_ble_eq_true rfl) (Nat.le_of_ble_eq_true rfl) ?_
        refine c_Ra_isOf hpo hj1 e1 ?_
        rw [hkd, if_pos hi]
        refine j_if_eq (tgt := 41) d_Ra_as_28 rfl (fun bq3 => False.elim (absurd bq3 (by decide))) (fun bq3 => ?_)
        refine j_aload_n d_Ra_as_31 rfl rfl ?_
        refine j_getr d_Ra_as_32 f_Ra_65 rfl rfl (by decide) rfl ?_
        refine t_kind_Ra_as hpo (by decide) ?_
        rw [hkd]
        refine j_goto (tgt := 42) d_Ra_as_38 rfl ?_
        refine j_iret d_Ra_as_42 rfl ?_
        exact q_i1 hF rfl
      · have hs : s_as Z x = -1 := by simp [s_as, ix1, hR, hi]
        rw [hs] at hF
        refine r_C_of (by decide +kernel) (Nat.le_of_ble_eq_true rfl) ?_
        refine j_ls (ls' := [(0, _), (1, _)]) rfl ?_
        refine j_iload_n d_Ra_as_0 rfl rfl ?_
        refine q_i s_Ra_as_1 rfl (Nat.le_of_ble_eq_true rfl) (Nat.le_of_ble_eq_true rfl) ?_
        refine c_Ra_kindY hj1 e1 ?_
        refine j_if_ne (tgt := 10) d_Ra_as_4 rfl (fun bq1 => ?_) (fun bq1 => False.elim (absurd bq1 (by decide)))
        refine j_aload_n d_Ra_as_10 rfl rfl ?_
        refine q_i (s_Ra_as_11 rfl (by decide)) rfl (Nat.le_of_ble_eq_true rfl) (Nat.le_of_ble_eq_true rfl) ?_
        refine c_hpY (by omega) od1 hD.1 ?_
        refine j_if_ne (tgt := 20) d_Ra_as_14 rfl (fun bq2 => ?_) (fun bq2 => False.elim (absurd bq2 (by decide)))
        refine j_aload_n d_Ra_as_20 rfl rfl ?_
        refine j_getr d_Ra_as_21 f_Ra_65 rfl rfl (by decide) rfl ?_
        refine j_iload_n d_Ra_as_24 rfl rfl ?_
        refine q_i s_Ra_as_25 rfl (Nat.le_of_ble_eq_true rfl) (Nat.le_of_ble_eq_true rfl) ?_
        refine c_Ra_isOf hpo hj1 e1 ?_
        rw [hkd, if_neg hi]
        refine j_if_eq (tgt := 41) d_Ra_as_28 rfl (fun bq3 => ?_) (fun bq3 => False.elim (bq3 rfl))
        refine j_iconst (v := (-1)) d_Ra_as_41 rfl ?_
        refine j_iret d_Ra_as_42 rfl ?_
        exact q_i1 hF rfl
set_option maxRecDepth 100000 in
set_option maxHeartbeats 4000000 in
theorem c_Ra_next {G : r_X} {d : Nat} {h : r_HI} {p q : Nat} {z : r_HL} {F : Int32 → r_HI → r_HR → r_HL → Prop} {Z : a_Z} (hC : p_C h p q Z) (ho : a_zok Z) (hF : F (s_next Z) h (r_gp p q) z) : r_Ci G m_Ra_next (d + 20) 61 [.ref (G.2.1 + 0)] 61 h (r_gp p q) z F := by
  obtain ⟨hP, ⟨hD, hK, hW, hS⟩, hpr, hld, hik, hpo, hkd, hqo, hkept⟩ := id hC
  obtain ⟨op, ⟨od, ok, otk, ow, os, okd⟩, o3, o4, o5, o6, o7⟩ := id ho
  obtain ⟨od1, od2, od3, od4⟩ := id od
  obtain ⟨ok1, ok2, ok3, ok4⟩ := id ok
  have os1 := os.1
  have op1 := op.1
  by_cases hR : Z.2.1.1.1 = 0
  · have hs : s_next Z = -103 := by simp [s_next, hR]
    rw [hs] at hF
    refine r_C_of (by decide +kernel) (Nat.le_of_ble_eq_true rfl) ?_
    refine j_ls (ls' := [(0, _)]) rfl ?_
    refine j_aload_n d_Ra_next_0 rfl rfl ?_
    refine q_i (s_Ra_next_1 rfl (by decide)) rfl (Nat.le_of_ble_eq_true rfl) (Nat.le_of_ble_eq_true rfl) ?_
    refine c_hpN hR hD.1 ?_
    refine j_if_ne (tgt := 10) d_Ra_next_4 rfl (fun bq1 => False.elim (bq1 rfl)) (fun bq1 => ?_)
    refine j_bipush (v := (-103)) d_Ra_next_7 (by decide) ?_
    refine j_iret d_Ra_next_9 rfl ?_
    exact q_i1 hF rfl
  · have hs : s_next Z = if Z.2.1.2.1.2.2.2.1 = 0 then -1 else nI (a_nx Z.2.1.1 Z.2.1.2.1 Z.2.1.2.2.2.2) := by simp [s_next, hR]
    rw [hs] at hF
    refine r_C_of (by decide +kernel) (Nat.le_of_ble_eq_true rfl) ?_
    refine j_ls (ls' := [(0, _)]) rfl ?_
    refine j_aload_n d_Ra_next_0 rfl rfl ?_
    refine q_i (s_Ra_next_1 rfl (by decide)) rfl (Nat.le_of_ble_eq_true rfl) (Nat.le_of_ble_eq_true rfl) ?_
    refine c_hpY (by omega) od1 hD.1 ?_
    refine j_if_ne (tgt := 10) d_Ra_next_4 rfl (fun bq1 => ?_) (fun bq1 => False.elim (absurd bq1 (by decide)))
    refine j_aload_n d_Ra_next_10 rfl rfl ?_
    refine j_getr d_Ra_next_11 f_Ra_65 rfl rfl (by decide) rfl ?_
    refine j_aload_n d_Ra_next_14 rfl rfl ?_
    refine j_getr d_Ra_next_15 f_Ra_28 rfl rfl (by decide) rfl ?_
    refine q_i (s_pick_all_Ra_next_18 hpo) rfl (Nat.le_of_ble_eq_true rfl) (Nat.le_of_ble_eq_true rfl) ?_
    refine c_Fi_pick_7 hD od hK ok hpo (by omega) ?_
    rw [hkd]
    refine j_iret d_Ra_next_21 rfl ?_
    exact q_i1 hF rfl
set_option maxRecDepth 100000 in
set_option maxHeartbeats 4000000 in
theorem c_Ra_ask {G : r_X} {d : Nat} {h : r_HI} {p q : Nat} {z : r_HL} {F : Int32 → r_HI → r_HR → r_HL → Prop} {Z : a_Z} {x y : Int32} (hC : p_C h p q Z) (ho : a_zok Z) (hF : ∀ h' p' q', r_mo h h' → p_C h' p' q' (s_ask Z x y).2 → F (s_ask Z x y).1 h' (r_gp p' q') z) : r_Ci G m_Ra_ask (d + 20) 61 [.ref (G.2.1 + 0), .int x, .int y] 61 h (r_gp p q) z F := by
  obtain ⟨hP, ⟨hD, hK, hW, hS⟩, hpr, hld, hik, hpo, hkd, hqo, hkept⟩ := id hC
  obtain ⟨op, ⟨od, ok, otk, ow, os, okd⟩, o3, o4, o5, o6, o7⟩ := id ho
  obtain ⟨od1, od2, od3, od4⟩ := id od
  obtain ⟨ok1, ok2, ok3, ok4⟩ := id ok
  have os1 := os.1
  have op1 := op.1
  rcases ixc x Z.2.1.1.1 with ⟨ix1, hr1⟩ | ⟨r, hj1, e1, ix1, t1⟩
  · have hs : s_ask Z x y = (-101, Z) := by simp [s_ask, ix1]
    rw [hs] at hF
    refine r_C_of (by decide +kernel) (Nat.le_of_ble_eq_true rfl) ?_
    refine j_ls (ls' := [(0, _), (1, _), (2, _)]) rfl ?_
    refine j_aload_n d_Ra_ask_0 rfl rfl ?_
    refine j_getr d_Ra_ask_1 f_Ra_19 rfl rfl (by decide) rfl ?_
    refine j_iload_n d_Ra_ask_4 rfl rfl ?_
    refine q_i (s_Ra_ask_5 rfl (by decide)) rfl (Nat.le_of_ble_eq_true rfl) (Nat.le_of_ble_eq_true rfl) ?_
    refine c_Di_hasN (R := Z.2.1.1.1) (by omega) hD.1 hr1 ?_
    refine j_if_eq (tgt := 30) d_Ra_ask_8 rfl (fun bq1 => ?_) (fun bq1 => False.elim (bq1 rfl))
    refine j_bipush (v := (-101)) d_Ra_ask_30 (by decide) ?_
    refine j_iret d_Ra_ask_32 rfl ?_
    exact q_i1 (hF _ _ _ r_mo.rf hC) rfl
  · have hpl := (a_pl (od4 r hj1).1).2.1
    rcases ixc y (Z.2.1.1.2.2.2.1 r) with ⟨ix2, hr2⟩ | ⟨v, hj2, e2, ix2, t2⟩
    · rcases hr2 with hr2 | hr2
      · have hs : s_ask Z x y = (-101, Z) := by simp [s_ask, ix1, ix2]
        rw [hs] at hF
        refine r_C_of (by decide +kernel) (Nat.le_of_ble_eq_true rfl) ?_
        refine j_ls (ls' := [(0, _), (1, _), (2, _)]) rfl ?_
        refine j_aload_n d_Ra_ask_0 rfl rfl ?_
        refine j_getr d_Ra_ask_1 f_Ra_19 rfl rfl (by decide) rfl ?_
        refine j_iload_n d_Ra_ask_4 rfl rfl ?_
        refine q_i (s_Ra_ask_5 rfl (by decide)) rfl (Nat.le_of_ble_eq_true rfl) (Nat.le_of_ble_eq_true rfl) ?_
        refine c_Di_hasY (R := Z.2.1.1.1) (by omega) hD.1 e1 hj1 ?_
        refine j_if_eq (tgt := 30) d_Ra_ask_8 rfl (fun bq1 => False.elim (absurd bq1 (by decide))) (fun bq1 => ?_)
        refine j_iload_n d_Ra_ask_11 rfl rfl ?_
        refine j_if_lt (tgt := 30) d_Ra_ask_12 rfl (fun bq2 => ?_) (fun bq2 => False.elim (bq2 ((xlt (n := 0) (by decide)).mpr (by omega))))
        refine j_bipush (v := (-101)) d_Ra_ask_30 (by decide) ?_
        refine j_iret d_Ra_ask_32 rfl ?_
        exact q_i1 (hF _ _ _ r_mo.rf hC) rfl
      · have hs : s_ask Z x y = (-101, Z) := by simp [s_ask, ix1, ix2]
        rw [hs] at hF
        refine r_C_of (by decide +kernel) (Nat.le_of_ble_eq_true rfl) ?_
        refine j_ls (ls' := [(0, _), (1, _), (2, _)]) rfl ?_
        refine j_aload_n d_Ra_ask_0 rfl rfl ?_
        refine j_getr d_Ra_ask_1 f_Ra_19 rfl rfl (by decide) rfl ?_
        refine j_iload_n d_Ra_ask_4 rfl rfl ?_
        refine q_i (s_Ra_ask_5 rfl (by decide)) rfl (Nat.le_of_ble_eq_true rfl) (Nat.le_of_ble_eq_true rfl) ?_
        refine c_Di_hasY (R := Z.2.1.1.1) (by omega) hD.1 e1 hj1 ?_
        refine j_if_eq (tgt := 30) d_Ra_ask_8 rfl (fun bq1 => False.elim (absurd bq1 (by decide))) (fun bq1 => ?_)
        refine j_iload_n d_Ra_ask_11 rfl rfl ?_
        refine j_if_lt (tgt := 30) d_Ra_ask_12 rfl (fun bq2 => False.elim (absurd ((xlt (n := 0) (by decide)).mp bq2) (by omega))) (fun bq2 => ?_)
        refine j_iload_n d_Ra_ask_15 rfl rfl ?_
        refine j_aload_n d_Ra_ask_16 rfl rfl ?_
        refine j_getr d_Ra_ask_17 f_Ra_19 rfl rfl (by decide) rfl ?_
        refine j_getr d_Ra_ask_20 f_Ra_145 rfl rfl (by decide) rfl ?_
        refine j_iload_n d_Ra_ask_23 rfl rfl ?_
        refine q_i s_Ra_ask_24 rfl (Nat.le_of_ble_eq_true rfl) (Nat.le_of_ble_eq_true rfl) ?_
        refine c_Ra_av (j := r) rfl (by decide) e1 (by omega) (hD.2.2.2 r hj1).1 ?_
        refine j_icmp_lt (tgt := 33) d_Ra_ask_27 rfl (fun bq3 => False.elim (absurd ((xlt (n := Z.2.1.1.2.2.2.1 r) (by omega)).mp bq3) (by omega))) (fun bq3 => ?_)
        refine j_bipush (v := (-101)) d_Ra_ask_30 (by decide) ?_
        refine j_iret d_Ra_ask_32 rfl ?_
        exact q_i1 (hF _ _ _ r_mo.rf hC) rfl
    · by_cases c7 : 7 ≤ Z.2.1.2.1.2.2.2.1
      · have hs : s_ask Z x y = (-104, Z) := by simp [s_ask, ix1, ix2, c7]
        rw [hs] at hF
        refine r_C_of (by decide +kernel) (Nat.le_of_ble_eq_true rfl) ?_
        refine j_ls (ls' := [(0, _), (1, _), (2, _)]) rfl ?_
        refine j_aload_n d_Ra_ask_0 rfl rfl ?_
        refine j_getr d_Ra_ask_1 f_Ra_19 rfl rfl (by decide) rfl ?_
        refine j_iload_n d_Ra_ask_4 rfl rfl ?_
        refine q_i (s_Ra_ask_5 rfl (by decide)) rfl (Nat.le_of_ble_eq_true rfl) (Nat.le_of_ble_eq_true rfl) ?_
        refine c_Di_hasY (R := Z.2.1.1.1) (by omega) hD.1 e1 hj1 ?_
        refine j_if_eq (tgt := 30) d_Ra_ask_8 rfl (fun bq1 => False.elim (absurd bq1 (by decide))) (fun bq1 => ?_)
        refine j_iload_n d_Ra_ask_11 rfl rfl ?_
        refine j_if_lt (tgt := 30) d_Ra_ask_12 rfl (fun bq2 => False.elim (absurd ((xlt (n := 0) (by decide)).mp bq2) (by omega))) (fun bq2 => ?_)
        refine j_iload_n d_Ra_ask_15 rfl rfl ?_
        refine j_aload_n d_Ra_ask_16 rfl rfl ?_
        refine j_getr d_Ra_ask_17 f_Ra_19 rfl rfl (by decide) rfl ?_
        refine j_getr d_Ra_ask_20 f_Ra_145 rfl rfl (by decide) rfl ?_
        refine j_iload_n d_Ra_ask_23 rfl rfl ?_
        refine q_i s_Ra_ask_24 rfl (Nat.le_of_ble_eq_true rfl) (Nat.le_of_ble_eq_true rfl) ?_
        refine c_Ra_av (j := r) rfl (by decide) e1 (by omega) (hD.2.2.2 r hj1).1 ?_
        refine j_icmp_lt (tgt := 33) d_Ra_ask_27 rfl (fun bq3 => ?_) (fun bq3 => False.elim (bq3 ((xlt (n := Z.2.1.1.2.2.2.1 r) (by omega)).mpr (by omega))))
        refine j_aload_n d_Ra_ask_33 rfl rfl ?_
        refine j_getr d_Ra_ask_34 f_Ra_28 rfl rfl (by decide) rfl ?_
        refine j_geti d_Ra_ask_37 f_Ra_197 rfl rfl (by decide) ?_
        rw [hK.1]
        refine j_bipush (v := 7) d_Ra_ask_40 (by decide) ?_
        refine j_icmp_lt (tgt := 48) d_Ra_ask_42 rfl (fun bq4 => False.elim (nI_nlt (a := Z.2.1.2.1.2.2.2.1) (b := 7) (by omega) (by omega) bq4)) (fun bq4 => ?_)
        refine j_bipush (v := (-104)) d_Ra_ask_45 (by decide) ?_
        refine j_iret d_Ra_ask_47 rfl ?_
        exact q_i1 (hF _ _ _ r_mo.rf hC) rfl
      · have hs : s_ask Z x y = (nI (Z.2.1.2.1.2.2.2.1 + 1), z_K Z (a_ask Z.2.1.2.1 r v)) := by simp [s_ask, ix1, ix2, c7]
        rw [hs] at hF
        refine r_C_of (by decide +kernel) (Nat.le_of_ble_eq_true rfl) ?_
        refine j_ls (ls' := [(0, _), (1, _), (2, _)]) rfl ?_
        refine j_aload_n d_Ra_ask_0 rfl rfl ?_
        refine j_getr d_Ra_ask_1 f_Ra_19 rfl rfl (by decide) rfl ?_
        refine j_iload_n d_Ra_ask_4 rfl rfl ?_
        refine q_i (s_Ra_ask_5 rfl (by decide)) rfl (Nat.le_of_ble_eq_true rfl) (Nat.le_of_ble_eq_true rfl) ?_
        refine c_Di_hasY (R := Z.2.1.1.1) (by omega) hD.1 e1 hj1 ?_
        refine j_if_eq (tgt := 30) d_Ra_ask_8 rfl (fun bq1 => False.elim (absurd bq1 (by decide))) (fun bq1 => ?_)
        refine j_iload_n d_Ra_ask_11 rfl rfl ?_
        refine j_if_lt (tgt := 30) d_Ra_ask_12 rfl (fun bq2 => False.elim (absurd ((xlt (n := 0) (by decide)).mp bq2) (by omega))) (fun bq2 => ?_)
        refine j_iload_n d_Ra_ask_15 rfl rfl ?_
        refine j_aload_n d_Ra_ask_16 rfl rfl ?_
        refine j_getr d_Ra_ask_17 f_Ra_19 rfl rfl (by decide) rfl ?_
        refine j_getr d_Ra_ask_20 f_Ra_145 rfl rfl (by decide) rfl ?_
        refine j_iload_n d_Ra_ask_23 rfl rfl ?_
        refine q_i s_Ra_ask_24 rfl (Nat.le_of_ble_eq_true rfl) (Nat.le_of_ble_eq_true rfl) ?_
        refine c_Ra_av (j := r) rfl (by decide) e1 (by omega) (hD.2.2.2 r hj1).1 ?_
        refine j_icmp_lt (tgt := 33) d_Ra_ask_27 rfl (fun bq3 => ?_) (fun bq3 => False.elim (bq3 ((xlt (n := Z.2.1.1.2.2.2.1 r) (by omega)).mpr (by omega))))
        refine j_aload_n d_Ra_ask_33 rfl rfl ?_
        refine j_getr d_Ra_ask_34 f_Ra_28 rfl rfl (by decide) rfl ?_
        refine j_geti d_Ra_ask_37 f_Ra_197 rfl rfl (by decide) ?_
        rw [hK.1]
        refine j_bipush (v := 7) d_Ra_ask_40 (by decide) ?_
        refine j_icmp_lt (tgt := 48) d_Ra_ask_42 rfl (fun bq4 => ?_) (fun bq4 => False.elim (bq4 (nI_lt (a := Z.2.1.2.1.2.2.2.1) (b := 7) (by omega) (by omega))))
        refine j_aload_n d_Ra_ask_48 rfl rfl ?_
        refine j_getr d_Ra_ask_49 f_Ra_28 rfl rfl (by decide) rfl ?_
        refine j_iload_n d_Ra_ask_52 rfl rfl ?_
        refine j_iload_n d_Ra_ask_53 rfl rfl ?_
        refine q_i (s_Ra_ask_54 rfl (by decide)) rfl (Nat.le_of_ble_eq_true rfl) (Nat.le_of_ble_eq_true rfl) ?_
        refine c_Dk_append_7 hD od hK ok (by omega) e1 e2 (fun h' q1 q2 q3 => ?_)
        refine j_iret d_Ra_ask_57 rfl ?_
        exact q_i1 (hF _ _ _ (q1.mo (by decide)) (hC.K q1 q2)) rfl
set_option maxRecDepth 100000 in
set_option maxHeartbeats 4000000 in
theorem c_Ra_serve {G : r_X} {d : Nat} {h : r_HI} {p q : Nat} {z : r_HL} {F : Int32 → r_HI → r_HR → r_HL → Prop} {Z : a_Z} (hC : p_C h p q Z) (ho : a_zok Z) (hF : ∀ h' p' q', r_mo h h' → p_C h' p' q' (s_serve Z).2 → F (s_serve Z).1 h' (r_gp p' q') z) : r_Ci G m_Ra_serve (d + 20) 61 [.ref (G.2.1 + 0)] 61 h (r_gp p q) z F := by
  obtain ⟨hP, ⟨hD, hK, hW, hS⟩, hpr, hld, hik, hpo, hkd, hqo, hkept⟩ := id hC
  obtain ⟨op, ⟨od, ok, otk, ow, os, okd⟩, o3, o4, o5, o6, o7⟩ := id ho
  obtain ⟨od1, od2, od3, od4⟩ := id od
  obtain ⟨ok1, ok2, ok3, ok4⟩ := id ok
  have os1 := os.1
  have op1 := op.1
  by_cases hR : Z.2.1.1.1 = 0
  · have hs : s_serve Z = (-103, Z) := by simp [s_serve, hR]
    rw [hs] at hF
    refine r_C_of (by decide +kernel) (Nat.le_of_ble_eq_true rfl) ?_
    refine j_ls (ls' := [(0, _)]) rfl ?_
    refine j_aload_n d_Ra_serve_0 rfl rfl ?_
    refine q_i (s_Ra_serve_1 rfl (by decide)) rfl (Nat.le_of_ble_eq_true rfl) (Nat.le_of_ble_eq_true rfl) ?_
    refine c_hpN hR hD.1 ?_
    refine j_if_eq (tgt := 17) d_Ra_serve_4 rfl (fun bq1 => ?_) (fun bq1 => False.elim (bq1 rfl))
    refine j_bipush (v := (-103)) d_Ra_serve_17 (by decide) ?_
    refine j_iret d_Ra_serve_19 rfl ?_
    exact q_i1 (hF _ _ _ r_mo.rf hC) rfl
  · by_cases hn : Z.2.1.2.1.2.2.2.1 = 0
    · have hs : s_serve Z = (-103, Z) := by simp [s_serve, hn]
      rw [hs] at hF
      refine r_C_of (by decide +kernel) (Nat.le_of_ble_eq_true rfl) ?_
      refine j_ls (ls' := [(0, _)]) rfl ?_
      refine j_aload_n d_Ra_serve_0 rfl rfl ?_
      refine q_i (s_Ra_serve_1 rfl (by decide)) rfl (Nat.le_of_ble_eq_true rfl) (Nat.le_of_ble_eq_true rfl) ?_
      refine c_hpY (by omega) od1 hD.1 ?_
      refine j_if_eq (tgt := 17) d_Ra_serve_4 rfl (fun bq1 => False.elim (absurd bq1 (by decide))) (fun bq1 => ?_)
      refine j_aload_n d_Ra_serve_7 rfl rfl ?_
      refine j_getr d_Ra_serve_8 f_Ra_28 rfl rfl (by decide) rfl ?_
      refine j_geti d_Ra_serve_11 f_Ra_197 rfl rfl (by decide) ?_
      refine j_if_ne (tgt := 20) d_Ra_serve_14 rfl (fun bq2 => False.elim (bq2 (by rw [hK.1, hn]; rfl))) (fun bq2 => ?_)
      refine j_bipush (v := (-103)) d_Ra_serve_17 (by decide) ?_
      refine j_iret d_Ra_serve_19 rfl ?_
      exact q_i1 (hF _ _ _ r_mo.rf hC) rfl
    · have hnx : (a_nx Z.2.1.1 Z.2.1.2.1 Z.2.1.2.2.2.2) < Z.2.1.2.1.2.2.2.1 := a_nx_lt (by omega)
      have hdl := a_dn_le od (t := Z.2.1.2.1.1) (p := Z.2.1.2.1.2.2.2.2.2.1 (a_nx Z.2.1.1 Z.2.1.2.1 Z.2.1.2.2.2.2)) ok1 (ok4 _ hnx).1
      have hde : a_dnK Z (a_nx Z.2.1.1 Z.2.1.2.1 Z.2.1.2.2.2.2) = a_dn Z.2.1.1 Z.2.1.2.1.1 Z.2.1.2.1.2.1 (Z.2.1.2.1.2.2.2.2.1 (a_nx Z.2.1.1 Z.2.1.2.1 Z.2.1.2.2.2.2)) (Z.2.1.2.1.2.2.2.2.2.1 (a_nx Z.2.1.1 Z.2.1.2.1 Z.2.1.2.2.2.2)) := rfl
      by_cases h5 : 100000 < a_dnK Z (a_nx Z.2.1.1 Z.2.1.2.1 Z.2.1.2.2.2.2)
      · have hs : s_serve Z = (-104, Z) := by simp [s_serve, hR, hn, h5]
        rw [hs] at hF
        refine r_C_of (by decide +kernel) (Nat.le_of_ble_eq_true rfl) ?_
        refine j_ls (ls' := [(0, _)]) rfl ?_
        refine j_aload_n d_Ra_serve_0 rfl rfl ?_
        refine q_i (s_Ra_serve_1 rfl (by decide)) rfl (Nat.le_of_ble_eq_true rfl) (Nat.le_of_ble_eq_true rfl) ?_
        refine c_hpY (by omega) od1 hD.1 ?_
        refine j_if_eq (tgt := 17) d_Ra_serve_4 rfl (fun bq1 => False.elim (absurd bq1 (by decide))) (fun bq1 => ?_)
        refine j_aload_n d_Ra_serve_7 rfl rfl ?_
        refine j_getr d_Ra_serve_8 f_Ra_28 rfl rfl (by decide) rfl ?_
        refine j_geti d_Ra_serve_11 f_Ra_197 rfl rfl (by decide) ?_
        refine j_if_ne (tgt := 20) d_Ra_serve_14 rfl (fun bq2 => ?_) (fun bq2 => False.elim (hn (by have t9 := (nI_eq (a := Z.2.1.2.1.2.2.2.1) (b := 0) (by omega) (by omega)).mp (hK.1.symm.trans bq2); exact t9)))
        refine j_aload_n d_Ra_serve_20 rfl rfl ?_
        refine j_getr d_Ra_serve_21 f_Ra_65 rfl rfl (by decide) rfl ?_
        refine j_aload_n d_Ra_serve_24 rfl rfl ?_
        refine j_getr d_Ra_serve_25 f_Ra_28 rfl rfl (by decide) rfl ?_
        refine q_i (s_pick_all_Ra_serve_28 hpo) rfl (Nat.le_of_ble_eq_true rfl) (Nat.le_of_ble_eq_true rfl) ?_
        refine c_Fi_pick_7 hD od hK ok hpo (by omega) ?_
        rw [hkd, if_neg hn]
        refine j_istore_n (ls' := [(1, _), (0, _)]) d_Ra_serve_31 rfl (by decide) rfl ?_
        refine j_aload_n d_Ra_serve_32 rfl rfl ?_
        refine j_getr d_Ra_serve_33 f_Ra_28 rfl rfl (by decide) rfl ?_
        refine j_iload_n d_Ra_serve_36 rfl rfl ?_
        refine q_i (s_Ra_serve_37 rfl (by decide)) rfl (Nat.le_of_ble_eq_true rfl) (Nat.le_of_ble_eq_true rfl) ?_
        refine c_Dk_doneAt_7 hD od hK ok (i := (a_nx Z.2.1.1 Z.2.1.2.1 Z.2.1.2.2.2.2)) (by omega) hnx rfl ?_
        refine j_ldc d_Ra_serve_40 k_Ra_200 ?_
        refine j_icmp_le (tgt := 48) d_Ra_serve_42 rfl (fun bq3 => False.elim (nI_ge (b := a_dnK Z (a_nx Z.2.1.1 Z.2.1.2.1 Z.2.1.2.2.2.2)) (a := 100000) (by omega) (by omega) bq3)) (fun bq3 => ?_)
        refine j_bipush (v := (-104)) d_Ra_serve_45 (by decide) ?_
        refine j_iret d_Ra_serve_47 rfl ?_
        exact q_i1 (hF _ _ _ r_mo.rf hC) rfl
      · have hs : s_serve Z = (nI (a_dnK Z (a_nx Z.2.1.1 Z.2.1.2.1 Z.2.1.2.2.2.2)), z_K Z (a_fo Z.2.1.1 Z.2.1.2.1 Z.2.1.2.2.2.2 (a_nx Z.2.1.1 Z.2.1.2.1 Z.2.1.2.2.2.2))) := by simp [s_serve, hR, hn, h5]
        rw [hs] at hF
        refine r_C_of (by decide +kernel) (Nat.le_of_ble_eq_true rfl) ?_
        refine j_ls (ls' := [(0, _)]) rfl ?_
        refine j_aload_n d_Ra_serve_0 rfl rfl ?_
        refine q_i (s_Ra_serve_1 rfl (by decide)) rfl (Nat.le_of_ble_eq_true rfl) (Nat.le_of_ble_eq_true rfl) ?_
        refine c_hpY (by omega) od1 hD.1 ?_
        refine j_if_eq (tgt := 17) d_Ra_serve_4 rfl (fun bq1 => False.elim (absurd bq1 (by decide))) (fun bq1 => ?_)
        refine j_aload_n d_Ra_serve_7 rfl rfl ?_
        refine j_getr d_Ra_serve_8 f_Ra_28 rfl rfl (by decide) rfl ?_
        refine j_geti d_Ra_serve_11 f_Ra_197 rfl rfl (by decide) ?_
        refine j_if_ne (tgt := 20) d_Ra_serve_14 rfl (fun bq2 => ?_) (fun bq2 => False.elim (hn (by have t9 := (nI_eq (a := Z.2.1.2.1.2.2.2.1) (b := 0) (by omega) (by omega)).mp (hK.1.symm.trans bq2); exact t9)))
        refine j_aload_n d_Ra_serve_20 rfl rfl ?_
        refine j_getr d_Ra_serve_21 f_Ra_65 rfl rfl (by decide) rfl ?_
        refine j_aload_n d_Ra_serve_24 rfl rfl ?_
        refine j_getr d_Ra_serve_25 f_Ra_28 rfl rfl (by decide) rfl ?_
        refine q_i (s_pick_all_Ra_serve_28 hpo) rfl (Nat.le_of_ble_eq_true rfl) (Nat.le_of_ble_eq_true rfl) ?_
        refine c_Fi_pick_7 hD od hK ok hpo (by omega) ?_
        rw [hkd, if_neg hn]
        refine j_istore_n (ls' := [(1, _), (0, _)]) d_Ra_serve_31 rfl (by decide) rfl ?_
        refine j_aload_n d_Ra_serve_32 rfl rfl ?_
        refine j_getr d_Ra_serve_33 f_Ra_28 rfl rfl (by decide) rfl ?_
        refine j_iload_n d_Ra_serve_36 rfl rfl ?_
        refine q_i (s_Ra_serve_37 rfl (by decide)) rfl (Nat.le_of_ble_eq_true rfl) (Nat.le_of_ble_eq_true rfl) ?_
        refine c_Dk_doneAt_7 hD od hK ok (i := (a_nx Z.2.1.1 Z.2.1.2.1 Z.2.1.2.2.2.2)) (by omega) hnx rfl ?_
        refine j_ldc d_Ra_serve_40 k_Ra_200 ?_
        refine j_icmp_le (tgt := 48) d_Ra_serve_42 rfl (fun bq3 => ?_) (fun bq3 => False.elim (bq3 (nI_le (a := a_dnK Z (a_nx Z.2.1.1 Z.2.1.2.1 Z.2.1.2.2.2.2)) (b := 100000) (by omega) (by omega))))
        refine j_aload_n d_Ra_serve_48 rfl rfl ?_
        refine j_getr d_Ra_serve_49 f_Ra_28 rfl rfl (by decide) rfl ?_
        refine j_aload_n d_Ra_serve_52 rfl rfl ?_
        refine j_getr d_Ra_serve_53 f_Ra_65 rfl rfl (by decide) rfl ?_
        refine j_iload_n d_Ra_serve_56 rfl rfl ?_
        refine q_v (s_Ra_serve_57 rfl (by decide)) rfl (Nat.le_of_ble_eq_true rfl) (Nat.le_of_ble_eq_true rfl) ?_
        refine c_Dk_follow_7 hD od hK ok hpo (i := (a_nx Z.2.1.1 Z.2.1.2.1 Z.2.1.2.2.2.2)) (by omega) hnx rfl (fun h' q1 q2 q3 => ?_)
        rw [hkd] at q2
        refine j_aload_n d_Ra_serve_60 rfl rfl ?_
        refine j_getr d_Ra_serve_61 f_Ra_28 rfl rfl (by decide) rfl ?_
        refine j_geti d_Ra_serve_64 f_Ra_205 rfl rfl (by decide) ?_
        refine j_iret d_Ra_serve_67 rfl ?_
        exact q_i1 (hF _ _ _ (q1.mo (by decide)) (hC.K q1 q2)) q2.2.1
set_option maxRecDepth 100000 in
set_option maxHeartbeats 4000000 in
theorem c_Ra_read {G : r_X} {d : Nat} {h : r_HI} {p q : Nat} {z : r_HL} {F : Int32 → r_HI → r_HR → r_HL → Prop} {Z : a_Z} {x : Int32} (hC : p_C h p q Z) (ho : a_zok Z) (hF : ∀ h' p' q', r_mo h h' → p_C h' p' q' (s_read Z x).2 → F (s_read Z x).1 h' (r_gp p' q') z) : r_Ci G m_Ra_read (d + 20) 61 [.ref (G.2.1 + 0), .int x] 61 h (r_gp p q) z F := by
  obtain ⟨hP, ⟨hD, hK, hW, hS⟩, hpr, hld, hik, hpo, hkd, hqo, hkept⟩ := id hC
  obtain ⟨op, ⟨od, ok, otk, ow, os, okd⟩, o3, o4, o5, o6, o7⟩ := id ho
  obtain ⟨od1, od2, od3, od4⟩ := id od
  obtain ⟨ok1, ok2, ok3, ok4⟩ := id ok
  have os1 := os.1
  have op1 := op.1
  rcases ixc x Z.2.1.2.1.2.2.2.1 with ⟨ix1, hr1⟩ | ⟨r, hj1, e1, ix1, t1⟩
  · have hs : s_read Z x = (-101, Z) := by simp [s_read, ix1]
    rw [hs] at hF
    refine r_C_of (by decide +kernel) (Nat.le_of_ble_eq_true rfl) ?_
    refine j_ls (ls' := [(0, _), (1, _)]) rfl ?_
    refine j_aload_n d_Ra_read_0 rfl rfl ?_
    refine j_getr d_Ra_read_1 f_Ra_28 rfl rfl (by decide) rfl ?_
    refine j_iload_n d_Ra_read_4 rfl rfl ?_
    refine q_i (s_Ra_read_5 rfl (by decide)) rfl (Nat.le_of_ble_eq_true rfl) (Nat.le_of_ble_eq_true rfl) ?_
    refine c_Dk_hasN (R := Z.2.1.2.1.2.2.2.1) (by omega) hK.1 hr1 ?_
    refine j_if_ne (tgt := 14) d_Ra_read_8 rfl (fun bq1 => False.elim (bq1 rfl)) (fun bq1 => ?_)
    refine j_bipush (v := (-101)) d_Ra_read_11 (by decide) ?_
    refine j_iret d_Ra_read_13 rfl ?_
    exact q_i1 (hF _ _ _ r_mo.rf hC) rfl
  · have hdl := a_dn_le od (t := Z.2.1.2.1.1) (p := Z.2.1.2.1.2.2.2.2.2.1 r) ok1 (ok4 _ hj1).1
    have hde : a_dnK Z r = a_dn Z.2.1.1 Z.2.1.2.1.1 Z.2.1.2.1.2.1 (Z.2.1.2.1.2.2.2.2.1 r) (Z.2.1.2.1.2.2.2.2.2.1 r) := rfl
    by_cases h5 : 100000 < a_dnK Z r
    · have hs : s_read Z x = (-104, Z) := by simp [s_read, ix1, h5]
      rw [hs] at hF
      refine r_C_of (by decide +kernel) (Nat.le_of_ble_eq_true rfl) ?_
      refine j_ls (ls' := [(0, _), (1, _)]) rfl ?_
      refine j_aload_n d_Ra_read_0 rfl rfl ?_
      refine j_getr d_Ra_read_1 f_Ra_28 rfl rfl (by decide) rfl ?_
      refine j_iload_n d_Ra_read_4 rfl rfl ?_
      refine q_i (s_Ra_read_5 rfl (by decide)) rfl (Nat.le_of_ble_eq_true rfl) (Nat.le_of_ble_eq_true rfl) ?_
      refine c_Dk_hasY (R := Z.2.1.2.1.2.2.2.1) (by omega) hK.1 e1 hj1 ?_
      refine j_if_ne (tgt := 14) d_Ra_read_8 rfl (fun bq1 => ?_) (fun bq1 => False.elim (absurd bq1 (by decide)))
      refine j_aload_n d_Ra_read_14 rfl rfl ?_
      refine j_getr d_Ra_read_15 f_Ra_28 rfl rfl (by decide) rfl ?_
      refine j_iload_n d_Ra_read_18 rfl rfl ?_
      refine q_i (s_Ra_read_19 rfl (by decide)) rfl (Nat.le_of_ble_eq_true rfl) (Nat.le_of_ble_eq_true rfl) ?_
      refine c_Dk_doneAt_7 hD od hK ok (i := r) (by omega) hj1 e1 ?_
      refine j_ldc d_Ra_read_22 k_Ra_200 ?_
      refine j_icmp_le (tgt := 30) d_Ra_read_24 rfl (fun bq2 => False.elim (nI_ge (b := a_dnK Z r) (a := 100000) (by omega) (by omega) bq2)) (fun bq2 => ?_)
      refine j_bipush (v := (-104)) d_Ra_read_27 (by decide) ?_
      refine j_iret d_Ra_read_29 rfl ?_
      exact q_i1 (hF _ _ _ r_mo.rf hC) rfl
    · have hs : s_read Z x = (nI (a_dnK Z r), z_K Z (a_fin Z.2.1.1 Z.2.1.2.1 r)) := by simp [s_read, ix1, h5]
      rw [hs] at hF
      refine r_C_of (by decide +kernel) (Nat.le_of_ble_eq_true rfl) ?_
      refine j_ls (ls' := [(0, _), (1, _)]) rfl ?_
      refine j_aload_n d_Ra_read_0 rfl rfl ?_
      refine j_getr d_Ra_read_1 f_Ra_28 rfl rfl (by decide) rfl ?_
      refine j_iload_n d_Ra_read_4 rfl rfl ?_
      refine q_i (s_Ra_read_5 rfl (by decide)) rfl (Nat.le_of_ble_eq_true rfl) (Nat.le_of_ble_eq_true rfl) ?_
      refine c_Dk_hasY (R := Z.2.1.2.1.2.2.2.1) (by omega) hK.1 e1 hj1 ?_
      refine j_if_ne (tgt := 14) d_Ra_read_8 rfl (fun bq1 => ?_) (fun bq1 => False.elim (absurd bq1 (by decide)))
      refine j_aload_n d_Ra_read_14 rfl rfl ?_
      refine j_getr d_Ra_read_15 f_Ra_28 rfl rfl (by decide) rfl ?_
      refine j_iload_n d_Ra_read_18 rfl rfl ?_
      refine q_i (s_Ra_read_19 rfl (by decide)) rfl (Nat.le_of_ble_eq_true rfl) (Nat.le_of_ble_eq_true rfl) ?_
      refine c_Dk_doneAt_7 hD od hK ok (i := r) (by omega) hj1 e1 ?_
      refine j_ldc d_Ra_read_22 k_Ra_200 ?_
      refine j_icmp_le (tgt := 30) d_Ra_read_24 rfl (fun bq2 => ?_) (fun bq2 => False.elim (bq2 (nI_le (a := a_dnK Z r) (b := 100000) (by omega) (by omega))))
      refine j_aload_n d_Ra_read_30 rfl rfl ?_
      refine j_getr d_Ra_read_31 f_Ra_28 rfl rfl (by decide) rfl ?_
      refine j_iload_n d_Ra_read_34 rfl rfl ?_
      refine q_v (s_Ra_read_35 rfl (by decide)) rfl (Nat.le_of_ble_eq_true rfl) (Nat.le_of_ble_eq_true rfl) ?_
      refine c_Dk_finish_7 hD od hK ok (i := r) (by omega) hj1 e1 (fun h' q1 q2 q3 => ?_)
      refine j_aload_n d_Ra_read_38 rfl rfl ?_
      refine j_getr d_Ra_read_39 f_Ra_28 rfl rfl (by decide) rfl ?_
      refine j_geti d_Ra_read_42 f_Ra_205 rfl rfl (by decide) ?_
      refine j_iret d_Ra_read_45 rfl ?_
      exact q_i1 (hF _ _ _ (q1.mo (by decide)) (hC.K q1 q2)) q2.2.1
set_option maxRecDepth 100000 in
set_option maxHeartbeats 4000000 in
theorem c_Ra_pass {G : r_X} {d : Nat} {h : r_HI} {p q : Nat} {z : r_HL} {F : Int32 → r_HI → r_HR → r_HL → Prop} {Z : a_Z} {x : Int32} (hC : p_C h p q Z) (ho : a_zok Z) (hF : ∀ h' p' q', r_mo h h' → p_C h' p' q' (s_pass Z x).2 → F (s_pass Z x).1 h' (r_gp p' q') z) : r_Ci G m_Ra_pass (d + 20) 61 [.ref (G.2.1 + 0), .int x] 61 h (r_gp p q) z F := by
  obtain ⟨hP, ⟨hD, hK, hW, hS⟩, hpr, hld, hik, hpo, hkd, hqo, hkept⟩ := id hC
  obtain ⟨op, ⟨od, ok, otk, ow, os, okd⟩, o3, o4, o5, o6, o7⟩ := id ho
  obtain ⟨od1, od2, od3, od4⟩ := id od
  obtain ⟨ok1, ok2, ok3, ok4⟩ := id ok
  have os1 := os.1
  have op1 := op.1
  rcases ixc x 100 with ⟨ix1, hr1⟩ | ⟨c, hj1, e1, ix1, t1⟩
  · rcases hr1 with hr1 | hr1
    · have hs : s_pass Z x = (-102, Z) := by simp [s_pass, ix1]
      rw [hs] at hF
      refine r_C_of (by decide +kernel) (Nat.le_of_ble_eq_true rfl) ?_
      refine j_ls (ls' := [(0, _), (1, _)]) rfl ?_
      refine j_iload_n d_Ra_pass_0 rfl rfl ?_
      refine j_iconst (v := 1) d_Ra_pass_1 rfl ?_
      refine j_icmp_lt (tgt := 11) d_Ra_pass_2 rfl (fun bq1 => ?_) (fun bq1 => False.elim (bq1 ((xlt (n := 1) (by decide)).mpr (by omega))))
      refine j_bipush (v := (-102)) d_Ra_pass_11 (by decide) ?_
      refine j_iret d_Ra_pass_13 rfl ?_
      exact q_i1 (hF _ _ _ r_mo.rf hC) rfl
    · have hs : s_pass Z x = (-102, Z) := by simp [s_pass, ix1]
      rw [hs] at hF
      refine r_C_of (by decide +kernel) (Nat.le_of_ble_eq_true rfl) ?_
      refine j_ls (ls' := [(0, _), (1, _)]) rfl ?_
      refine j_iload_n d_Ra_pass_0 rfl rfl ?_
      refine j_iconst (v := 1) d_Ra_pass_1 rfl ?_
      refine j_icmp_lt (tgt := 11) d_Ra_pass_2 rfl (fun bq1 => False.elim (absurd ((xlt (n := 1) (by decide)).mp bq1) (by omega))) (fun bq1 => ?_)
      refine j_iload_n d_Ra_pass_5 rfl rfl ?_
      refine j_bipush (v := 99) d_Ra_pass_6 (by decide) ?_
      refine j_icmp_le (tgt := 14) d_Ra_pass_8 rfl (fun bq2 => False.elim (absurd ((xle (n := 99) (by decide)).mp bq2) (by omega))) (fun bq2 => ?_)
      refine j_bipush (v := (-102)) d_Ra_pass_11 (by decide) ?_
      refine j_iret d_Ra_pass_13 rfl ?_
      exact q_i1 (hF _ _ _ r_mo.rf hC) rfl
  · by_cases c0 : c = 0
    · have hs : s_pass Z x = (-102, Z) := by simp [s_pass, ix1, c0]
      rw [hs] at hF
      refine r_C_of (by decide +kernel) (Nat.le_of_ble_eq_true rfl) ?_
      refine j_ls (ls' := [(0, _), (1, _)]) rfl ?_
      refine j_iload_n d_Ra_pass_0 rfl rfl ?_
      refine j_iconst (v := 1) d_Ra_pass_1 rfl ?_
      refine j_icmp_lt (tgt := 11) d_Ra_pass_2 rfl (fun bq1 => ?_) (fun bq1 => False.elim (bq1 ((xlt (n := 1) (by decide)).mpr (by omega))))
      refine j_bipush (v := (-102)) d_Ra_pass_11 (by decide) ?_
      refine j_iret d_Ra_pass_13 rfl ?_
      exact q_i1 (hF _ _ _ r_mo.rf hC) rfl
    · by_cases hR : Z.2.1.1.1 = 0
      · have hs : s_pass Z x = (-103, Z) := by simp [s_pass, ix1, c0, hR]
        rw [hs] at hF
        refine r_C_of (by decide +kernel) (Nat.le_of_ble_eq_true rfl) ?_
        refine j_ls (ls' := [(0, _), (1, _)]) rfl ?_
        refine j_iload_n d_Ra_pass_0 rfl rfl ?_
        refine j_iconst (v := 1) d_Ra_pass_1 rfl ?_
        refine j_icmp_lt (tgt := 11) d_Ra_pass_2 rfl (fun bq1 => False.elim (absurd ((xlt (n := 1) (by decide)).mp bq1) (by omega))) (fun bq1 => ?_)
        refine j_iload_n d_Ra_pass_5 rfl rfl ?_
        refine j_bipush (v := 99) d_Ra_pass_6 (by decide) ?_
        refine j_icmp_le (tgt := 14) d_Ra_pass_8 rfl (fun bq2 => ?_) (fun bq2 => False.elim (bq2 ((xle (n := 99) (by decide)).mpr (by omega))))
        refine j_aload_n d_Ra_pass_14 rfl rfl ?_
        refine q_i (s_Ra_pass_15 rfl (by decide)) rfl (Nat.le_of_ble_eq_true rfl) (Nat.le_of_ble_eq_true rfl) ?_
        refine c_hpN hR hD.1 ?_
        refine j_if_ne (tgt := 24) d_Ra_pass_18 rfl (fun bq3 => False.elim (bq3 rfl)) (fun bq3 => ?_)
        refine j_bipush (v := (-103)) d_Ra_pass_21 (by decide) ?_
        refine j_iret d_Ra_pass_23 rfl ?_
        exact q_i1 (hF _ _ _ r_mo.rf hC) rfl
      · by_cases h5 : 100000 < Z.2.1.2.1.1 + c
        · have hs : s_pass Z x = (-104, Z) := by simp [s_pass, ix1, c0, hR, h5]
          rw [hs] at hF
          refine r_C_of (by decide +kernel) (Nat.le_of_ble_eq_true rfl) ?_
          refine j_ls (ls' := [(0, _), (1, _)]) rfl ?_
          refine j_iload_n d_Ra_pass_0 rfl rfl ?_
          refine j_iconst (v := 1) d_Ra_pass_1 rfl ?_
          refine j_icmp_lt (tgt := 11) d_Ra_pass_2 rfl (fun bq1 => False.elim (absurd ((xlt (n := 1) (by decide)).mp bq1) (by omega))) (fun bq1 => ?_)
          refine j_iload_n d_Ra_pass_5 rfl rfl ?_
          refine j_bipush (v := 99) d_Ra_pass_6 (by decide) ?_
          refine j_icmp_le (tgt := 14) d_Ra_pass_8 rfl (fun bq2 => ?_) (fun bq2 => False.elim (bq2 ((xle (n := 99) (by decide)).mpr (by omega))))
          refine j_aload_n d_Ra_pass_14 rfl rfl ?_
          refine q_i (s_Ra_pass_15 rfl (by decide)) rfl (Nat.le_of_ble_eq_true rfl) (Nat.le_of_ble_eq_true rfl) ?_
          refine c_hpY (by omega) od1 hD.1 ?_
          refine j_if_ne (tgt := 24) d_Ra_pass_18 rfl (fun bq3 => ?_) (fun bq3 => False.elim (absurd bq3 (by decide)))
          refine j_aload_n d_Ra_pass_24 rfl rfl ?_
          refine j_getr d_Ra_pass_25 f_Ra_28 rfl rfl (by decide) rfl ?_
          refine j_geti d_Ra_pass_28 f_Ra_205 rfl rfl (by decide) ?_
          refine j_iload_n d_Ra_pass_31 rfl rfl ?_
          refine j_iadd d_Ra_pass_32 ?_
          rw [hK.2.1, e1, nI_add]
          refine j_ldc d_Ra_pass_33 k_Ra_200 ?_
          refine j_icmp_le (tgt := 41) d_Ra_pass_35 rfl (fun bq4 => False.elim (nI_ge (b := Z.2.1.2.1.1 + c) (a := 100000) (by omega) (by omega) bq4)) (fun bq4 => ?_)
          refine j_bipush (v := (-104)) d_Ra_pass_38 (by decide) ?_
          refine j_iret d_Ra_pass_40 rfl ?_
          exact q_i1 (hF _ _ _ r_mo.rf hC) rfl
        · have hs : s_pass Z x = (nI (Z.2.1.2.1.1 + c), z_K Z (Z.2.1.2.1.1 + c, Z.2.1.2.1.2)) := by simp [s_pass, ix1, c0, hR, h5]
          rw [hs] at hF
          refine r_C_of (by decide +kernel) (Nat.le_of_ble_eq_true rfl) ?_
          refine j_ls (ls' := [(0, _), (1, _)]) rfl ?_
          refine j_iload_n d_Ra_pass_0 rfl rfl ?_
          refine j_iconst (v := 1) d_Ra_pass_1 rfl ?_
          refine j_icmp_lt (tgt := 11) d_Ra_pass_2 rfl (fun bq1 => False.elim (absurd ((xlt (n := 1) (by decide)).mp bq1) (by omega))) (fun bq1 => ?_)
          refine j_iload_n d_Ra_pass_5 rfl rfl ?_
          refine j_bipush (v := 99) d_Ra_pass_6 (by decide) ?_
          refine j_icmp_le (tgt := 14) d_Ra_pass_8 rfl (fun bq2 => ?_) (fun bq2 => False.elim (bq2 ((xle (n := 99) (by decide)).mpr (by omega))))
          refine j_aload_n d_Ra_pass_14 rfl rfl ?_
          refine q_i (s_Ra_pass_15 rfl (by decide)) rfl (Nat.le_of_ble_eq_true rfl) (Nat.le_of_ble_eq_true rfl) ?_
          refine c_hpY (by omega) od1 hD.1 ?_
          refine j_if_ne (tgt := 24) d_Ra_pass_18 rfl (fun bq3 => ?_) (fun bq3 => False.elim (absurd bq3 (by decide)))
          refine j_aload_n d_Ra_pass_24 rfl rfl ?_
          refine j_getr d_Ra_pass_25 f_Ra_28 rfl rfl (by decide) rfl ?_
          refine j_geti d_Ra_pass_28 f_Ra_205 rfl rfl (by decide) ?_
          refine j_iload_n d_Ra_pass_31 rfl rfl ?_
          refine j_iadd d_Ra_pass_32 ?_
          rw [hK.2.1, e1, nI_add]
          refine j_ldc d_Ra_pass_33 k_Ra_200 ?_
          refine j_icmp_le (tgt := 41) d_Ra_pass_35 rfl (fun bq4 => ?_) (fun bq4 => False.elim (bq4 (nI_le (a := Z.2.1.2.1.1 + c) (b := 100000) (by omega) (by omega))))
          refine j_aload_n d_Ra_pass_41 rfl rfl ?_
          refine j_getr d_Ra_pass_42 f_Ra_28 rfl rfl (by decide) rfl ?_
          refine j_dup d_Ra_pass_45 rfl ?_
          refine j_geti d_Ra_pass_46 f_Ra_205 rfl rfl (by decide) ?_
          refine j_iload_n d_Ra_pass_49 rfl rfl ?_
          refine j_iadd d_Ra_pass_50 ?_
          rw [hK.2.1, nI_add]
          refine j_puti d_Ra_pass_51 f_Ra_205 (by decide) rfl rfl (by decide) ?_
          refine j_aload_n d_Ra_pass_54 rfl rfl ?_
          refine j_getr d_Ra_pass_55 f_Ra_28 rfl rfl (by decide) rfl ?_
          refine j_geti d_Ra_pass_58 f_Ra_205 rfl rfl (by decide) ?_
          refine j_iret d_Ra_pass_61 rfl ?_
          refine q_i1 (hF _ _ _ (p_C.mo7 ((r_ex.rf (A := [7, 8, 9, 10])).up (by decide))) (hC.K ((r_ex.rf (A := [7, 8, 9, 10])).up (by decide)) ?_)) rfl
          exact ⟨hK.1, rfl, hK.2.2.1, hK.2.2.2.1, hK.2.2.2.2⟩
set_option maxRecDepth 100000 in
set_option maxHeartbeats 4000000 in
theorem c_Ra_choose {G : r_X} {d : Nat} {h : r_HI} {p q : Nat} {z : r_HL} {F : Int32 → r_HI → r_HR → r_HL → Prop} {Z : a_Z} {x : Int32} (hC : p_C h p q Z) (ho : a_zok Z) (hF : ∀ h' p' q', r_mo h h' → p_C h' p' q' (s_choose Z x).2 → F (s_choose Z x).1 h' (r_gp p' q') z) : r_Ci G m_Ra_choose (d + 20) 61 [.ref (G.2.1 + 0), .int x] 61 h (r_gp p q) z F := by
  obtain ⟨hP, ⟨hD, hK, hW, hS⟩, hpr, hld, hik, hpo, hkd, hqo, hkept⟩ := id hC
  obtain ⟨op, ⟨od, ok, otk, ow, os, okd⟩, o3, o4, o5, o6, o7⟩ := id ho
  obtain ⟨od1, od2, od3, od4⟩ := id od
  obtain ⟨ok1, ok2, ok3, ok4⟩ := id ok
  have os1 := os.1
  have op1 := op.1
  rcases ixc x 5 with ⟨ix1, hr1⟩ | ⟨k, hj1, e1, ix1, t1⟩
  · have hs : s_choose Z x = (-102, Z) := by simp [s_choose, ix1]
    rw [hs] at hF
    refine r_C_of (by decide +kernel) (Nat.le_of_ble_eq_true rfl) ?_
    refine j_ls (ls' := [(0, _), (1, _)]) rfl ?_
    refine j_iload_n d_Ra_choose_0 rfl rfl ?_
    refine q_i s_Ra_choose_1 rfl (Nat.le_of_ble_eq_true rfl) (Nat.le_of_ble_eq_true rfl) ?_
    refine c_Ra_kindN hr1 ?_
    refine j_if_ne (tgt := 10) d_Ra_choose_4 rfl (fun bq1 => False.elim (bq1 rfl)) (fun bq1 => ?_)
    refine j_bipush (v := (-102)) d_Ra_choose_7 (by decide) ?_
    refine j_iret d_Ra_choose_9 rfl ?_
    exact q_i1 (hF _ _ _ r_mo.rf hC) rfl
  · by_cases hR : Z.2.1.1.1 = 0
    · have hs : s_choose Z x = (-103, Z) := by simp [s_choose, ix1, hR]
      rw [hs] at hF
      refine r_C_of (by decide +kernel) (Nat.le_of_ble_eq_true rfl) ?_
      refine j_ls (ls' := [(0, _), (1, _)]) rfl ?_
      refine j_iload_n d_Ra_choose_0 rfl rfl ?_
      refine q_i s_Ra_choose_1 rfl (Nat.le_of_ble_eq_true rfl) (Nat.le_of_ble_eq_true rfl) ?_
      refine c_Ra_kindY hj1 e1 ?_
      refine j_if_ne (tgt := 10) d_Ra_choose_4 rfl (fun bq1 => ?_) (fun bq1 => False.elim (absurd bq1 (by decide)))
      refine j_aload_n d_Ra_choose_10 rfl rfl ?_
      refine q_i (s_Ra_choose_11 rfl (by decide)) rfl (Nat.le_of_ble_eq_true rfl) (Nat.le_of_ble_eq_true rfl) ?_
      refine c_hpN hR hD.1 ?_
      refine j_if_ne (tgt := 20) d_Ra_choose_14 rfl (fun bq2 => False.elim (bq2 rfl)) (fun bq2 => ?_)
      refine j_bipush (v := (-103)) d_Ra_choose_17 (by decide) ?_
      refine j_iret d_Ra_choose_19 rfl ?_
      exact q_i1 (hF _ _ _ r_mo.rf hC) rfl
    · have hs : s_choose Z x = (nI Z.2.1.2.2.2.2, z_k Z k) := by simp [s_choose, ix1, hR]
      rw [hs] at hF
      refine r_C_of (by decide +kernel) (Nat.le_of_ble_eq_true rfl) ?_
      refine j_ls (ls' := [(0, _), (1, _)]) rfl ?_
      refine j_iload_n d_Ra_choose_0 rfl rfl ?_
      refine q_i s_Ra_choose_1 rfl (Nat.le_of_ble_eq_true rfl) (Nat.le_of_ble_eq_true rfl) ?_
      refine c_Ra_kindY hj1 e1 ?_
      refine j_if_ne (tgt := 10) d_Ra_choose_4 rfl (fun bq1 => ?_) (fun bq1 => False.elim (absurd bq1 (by decide)))
      refine j_aload_n d_Ra_choose_10 rfl rfl ?_
      refine q_i (s_Ra_choose_11 rfl (by decide)) rfl (Nat.le_of_ble_eq_true rfl) (Nat.le_of_ble_eq_true rfl) ?_
      refine c_hpY (by omega) od1 hD.1 ?_
      refine j_if_ne (tgt := 20) d_Ra_choose_14 rfl (fun bq2 => ?_) (fun bq2 => False.elim (absurd bq2 (by decide)))
      refine j_aload_n d_Ra_choose_20 rfl rfl ?_
      refine j_getr d_Ra_choose_21 f_Ra_65 rfl rfl (by decide) rfl ?_
      refine t_kind_Ra_choose hpo (by decide) ?_
      rw [hkd]
      refine j_istore_n (ls' := [(2, _), (0, _), (1, _)]) d_Ra_choose_27 rfl (by decide) rfl ?_
      refine j_aload_n d_Ra_choose_28 rfl rfl ?_
      refine j_aload_n d_Ra_choose_29 rfl rfl ?_
      refine j_iload_n d_Ra_choose_30 rfl rfl ?_
      refine q_a (s_Ra_choose_31 rfl (by decide)) rfl (Nat.le_of_ble_eq_true rfl) (Nat.le_of_ble_eq_true rfl) ?_
      refine c_Ra_policyOf hj1 e1 ?_
      refine j_putr d_Ra_choose_34 f_Ra_65 (by decide) rfl rfl (by decide) ?_
      refine j_iload_n d_Ra_choose_37 rfl rfl ?_
      refine j_iret d_Ra_choose_38 rfl ?_
      rw [r_gp_p]
      exact q_i1 (hF _ _ _ r_mo.rf (hC.k hj1)) rfl
set_option maxRecDepth 100000 in
set_option maxHeartbeats 4000000 in
theorem c_Ra_skew {G : r_X} {d : Nat} {h : r_HI} {p q : Nat} {z : r_HL} {F : Int32 → r_HI → r_HR → r_HL → Prop} {Z : a_Z} {x y : Int32} (hC : p_C h p q Z) (ho : a_zok Z) (hF : ∀ h' p' q', r_mo h h' → p_C h' p' q' (s_skew Z x y).2 → F (s_skew Z x y).1 h' (r_gp p' q') z) : r_Ci G m_Ra_skew (d + 20) 61 [.ref (G.2.1 + 0), .int x, .int y] 61 h (r_gp p q) z F := by
  obtain ⟨hP, ⟨hD, hK, hW, hS⟩, hpr, hld, hik, hpo, hkd, hqo, hkept⟩ := id hC
  obtain ⟨op, ⟨od, ok, otk, ow, os, okd⟩, o3, o4, o5, o6, o7⟩ := id ho
  obtain ⟨od1, od2, od3, od4⟩ := id od
  obtain ⟨ok1, ok2, ok3, ok4⟩ := id ok
  have os1 := os.1
  have op1 := op.1
  rcases ixc x Z.2.1.1.1 with ⟨ix1, hr1⟩ | ⟨r, hj1, e1, ix1, t1⟩
  · have hs : s_skew Z x y = (-101, Z) := by simp [s_skew, ix1]
    rw [hs] at hF
    refine r_C_of (by decide +kernel) (Nat.le_of_ble_eq_true rfl) ?_
    refine j_ls (ls' := [(0, _), (1, _), (2, _)]) rfl ?_
    refine j_aload_n d_Ra_skew_0 rfl rfl ?_
    refine j_getr d_Ra_skew_1 f_Ra_19 rfl rfl (by decide) rfl ?_
    refine j_iload_n d_Ra_skew_4 rfl rfl ?_
    refine q_i (s_Ra_skew_5 rfl (by decide)) rfl (Nat.le_of_ble_eq_true rfl) (Nat.le_of_ble_eq_true rfl) ?_
    refine c_Di_hasN (R := Z.2.1.1.1) (by omega) hD.1 hr1 ?_
    refine j_if_ne (tgt := 14) d_Ra_skew_8 rfl (fun bq1 => False.elim (bq1 rfl)) (fun bq1 => ?_)
    refine j_bipush (v := (-101)) d_Ra_skew_11 (by decide) ?_
    refine j_iret d_Ra_skew_13 rfl ?_
    exact q_i1 (hF _ _ _ r_mo.rf hC) rfl
  · rcases ixc y 24 with ⟨ix2, hr2⟩ | ⟨v, hj2, e2, ix2, t2⟩
    · rcases hr2 with hr2 | hr2
      · have hs : s_skew Z x y = (-102, Z) := by simp [s_skew, ix1, ix2]
        rw [hs] at hF
        refine r_C_of (by decide +kernel) (Nat.le_of_ble_eq_true rfl) ?_
        refine j_ls (ls' := [(0, _), (1, _), (2, _)]) rfl ?_
        refine j_aload_n d_Ra_skew_0 rfl rfl ?_
        refine j_getr d_Ra_skew_1 f_Ra_19 rfl rfl (by decide) rfl ?_
        refine j_iload_n d_Ra_skew_4 rfl rfl ?_
        refine q_i (s_Ra_skew_5 rfl (by decide)) rfl (Nat.le_of_ble_eq_true rfl) (Nat.le_of_ble_eq_true rfl) ?_
        refine c_Di_hasY (R := Z.2.1.1.1) (by omega) hD.1 e1 hj1 ?_
        refine j_if_ne (tgt := 14) d_Ra_skew_8 rfl (fun bq1 => ?_) (fun bq1 => False.elim (absurd bq1 (by decide)))
        refine j_iload_n d_Ra_skew_14 rfl rfl ?_
        refine j_if_lt (tgt := 24) d_Ra_skew_15 rfl (fun bq2 => ?_) (fun bq2 => False.elim (bq2 ((xlt (n := 0) (by decide)).mpr (by omega))))
        refine j_bipush (v := (-102)) d_Ra_skew_24 (by decide) ?_
        refine j_iret d_Ra_skew_26 rfl ?_
        exact q_i1 (hF _ _ _ r_mo.rf hC) rfl
      · have hs : s_skew Z x y = (-102, Z) := by simp [s_skew, ix1, ix2]
        rw [hs] at hF
        refine r_C_of (by decide +kernel) (Nat.le_of_ble_eq_true rfl) ?_
        refine j_ls (ls' := [(0, _), (1, _), (2, _)]) rfl ?_
        refine j_aload_n d_Ra_skew_0 rfl rfl ?_
        refine j_getr d_Ra_skew_1 f_Ra_19 rfl rfl (by decide) rfl ?_
        refine j_iload_n d_Ra_skew_4 rfl rfl ?_
        refine q_i (s_Ra_skew_5 rfl (by decide)) rfl (Nat.le_of_ble_eq_true rfl) (Nat.le_of_ble_eq_true rfl) ?_
        refine c_Di_hasY (R := Z.2.1.1.1) (by omega) hD.1 e1 hj1 ?_
        refine j_if_ne (tgt := 14) d_Ra_skew_8 rfl (fun bq1 => ?_) (fun bq1 => False.elim (absurd bq1 (by decide)))
        refine j_iload_n d_Ra_skew_14 rfl rfl ?_
        refine j_if_lt (tgt := 24) d_Ra_skew_15 rfl (fun bq2 => False.elim (absurd ((xlt (n := 0) (by decide)).mp bq2) (by omega))) (fun bq2 => ?_)
        refine j_iload_n d_Ra_skew_18 rfl rfl ?_
        refine j_bipush (v := 24) d_Ra_skew_19 (by decide) ?_
        refine j_icmp_lt (tgt := 27) d_Ra_skew_21 rfl (fun bq3 => False.elim (absurd ((xlt (n := 24) (by decide)).mp bq3) (by omega))) (fun bq3 => ?_)
        refine j_bipush (v := (-102)) d_Ra_skew_24 (by decide) ?_
        refine j_iret d_Ra_skew_26 rfl ?_
        exact q_i1 (hF _ _ _ r_mo.rf hC) rfl
    · have hs : s_skew Z x y = (nI (Z.2.1.1.2.2.2.2 r), z_D Z (Z.2.1.1.1, Z.2.1.1.2.1, Z.2.1.1.2.2.1, Z.2.1.1.2.2.2.1, va_up Z.2.1.1.2.2.2.2 r v)) := by simp [s_skew, ix1, ix2]
      rw [hs] at hF
      refine r_C_of (by decide +kernel) (Nat.le_of_ble_eq_true rfl) ?_
      refine j_ls (ls' := [(0, _), (1, _), (2, _)]) rfl ?_
      refine j_aload_n d_Ra_skew_0 rfl rfl ?_
      refine j_getr d_Ra_skew_1 f_Ra_19 rfl rfl (by decide) rfl ?_
      refine j_iload_n d_Ra_skew_4 rfl rfl ?_
      refine q_i (s_Ra_skew_5 rfl (by decide)) rfl (Nat.le_of_ble_eq_true rfl) (Nat.le_of_ble_eq_true rfl) ?_
      refine c_Di_hasY (R := Z.2.1.1.1) (by omega) hD.1 e1 hj1 ?_
      refine j_if_ne (tgt := 14) d_Ra_skew_8 rfl (fun bq1 => ?_) (fun bq1 => False.elim (absurd bq1 (by decide)))
      refine j_iload_n d_Ra_skew_14 rfl rfl ?_
      refine j_if_lt (tgt := 24) d_Ra_skew_15 rfl (fun bq2 => False.elim (absurd ((xlt (n := 0) (by decide)).mp bq2) (by omega))) (fun bq2 => ?_)
      refine j_iload_n d_Ra_skew_18 rfl rfl ?_
      refine j_bipush (v := 24) d_Ra_skew_19 (by decide) ?_
      refine j_icmp_lt (tgt := 27) d_Ra_skew_21 rfl (fun bq3 => ?_) (fun bq3 => False.elim (bq3 ((xlt (n := 24) (by decide)).mpr (by omega))))
      refine j_aload_n d_Ra_skew_27 rfl rfl ?_
      refine j_getr d_Ra_skew_28 f_Ra_19 rfl rfl (by decide) rfl ?_
      refine j_getr d_Ra_skew_31 f_Ra_153 rfl rfl (by decide) rfl ?_
      refine j_iload_n d_Ra_skew_34 rfl rfl ?_
      refine q_i s_Ra_skew_35 rfl (Nat.le_of_ble_eq_true rfl) (Nat.le_of_ble_eq_true rfl) ?_
      refine c_Ra_av (j := r) rfl (by decide) e1 (by omega) (hD.2.2.2 r hj1).2.1 ?_
      refine j_istore_n (ls' := [(3, _), (0, _), (1, _), (2, _)]) d_Ra_skew_38 rfl (by decide) rfl ?_
      refine j_aload_n d_Ra_skew_39 rfl rfl ?_
      refine j_getr d_Ra_skew_40 f_Ra_19 rfl rfl (by decide) rfl ?_
      refine j_getr d_Ra_skew_43 f_Ra_153 rfl rfl (by decide) rfl ?_
      refine j_iload_n d_Ra_skew_46 rfl rfl ?_
      refine j_iload_n d_Ra_skew_47 rfl rfl ?_
      refine q_v s_Ra_skew_48 rfl (Nat.le_of_ble_eq_true rfl) (Nat.le_of_ble_eq_true rfl) ?_
      refine c_Ra_put (j := r) rfl (by decide) e1 (by omega) ?_
      refine j_iload_n d_Ra_skew_51 rfl rfl ?_
      refine j_iret d_Ra_skew_52 rfl ?_
      have q1 : r_ex [3, 4, 5, 6] h (r_up h 5 r y) := r_ex.rf.up (by decide)
      refine q_i1 (hF _ _ _ (q1.mo (by decide)) (hC.D q1 ?_)) rfl
      refine ⟨hD.1, hD.2.1, hD.2.2.1, fun i hi => ?_⟩
      obtain ⟨g1, g2, g3⟩ := hD.2.2.2 i hi
      refine ⟨g1, ?_, g3⟩
      show r_up h 5 r y 5 i = nI (va_up Z.2.1.1.2.2.2.2 r v i)
      rw [r_up_k]
      by_cases e9 : i = r
      · subst e9
        simp [upd, va_up]
        exact e2
      · simp only [upd, va_up, if_neg e9]
        exact g2
set_option maxRecDepth 100000 in
set_option maxHeartbeats 4000000 in
theorem c_Ra_gear {G : r_X} {d : Nat} {h : r_HI} {p q : Nat} {z : r_HL} {F : Int32 → r_HI → r_HR → r_HL → Prop} {Z : a_Z} {x y : Int32} (hC : p_C h p q Z) (ho : a_zok Z) (hF : ∀ h' p' q', r_mo h h' → p_C h' p' q' (s_gear Z x y).2 → F (s_gear Z x y).1 h' (r_gp p' q') z) : r_Ci G m_Ra_gear (d + 20) 61 [.ref (G.2.1 + 0), .int x, .int y] 61 h (r_gp p q) z F := by
  obtain ⟨hP, ⟨hD, hK, hW, hS⟩, hpr, hld, hik, hpo, hkd, hqo, hkept⟩ := id hC
  obtain ⟨op, ⟨od, ok, otk, ow, os, okd⟩, o3, o4, o5, o6, o7⟩ := id ho
  obtain ⟨od1, od2, od3, od4⟩ := id od
  obtain ⟨ok1, ok2, ok3, ok4⟩ := id ok
  have os1 := os.1
  have op1 := op.1
  rcases ixc x 10 with ⟨ix1, hr1⟩ | ⟨c, hj1, e1, ix1, t1⟩
  · rcases hr1 with hr1 | hr1
    · have hs : s_gear Z x y = (-102, Z) := by simp [s_gear, ix1]
      rw [hs] at hF
      refine r_C_of (by decide +kernel) (Nat.le_of_ble_eq_true rfl) ?_
      refine j_ls (ls' := [(0, _), (1, _), (2, _)]) rfl ?_
      refine j_iload_n d_Ra_gear_0 rfl rfl ?_
      refine j_if_lt (tgt := 21) d_Ra_gear_1 rfl (fun bq1 => ?_) (fun bq1 => False.elim (bq1 ((xlt (n := 0) (by decide)).mpr (by omega))))
      refine j_bipush (v := (-102)) d_Ra_gear_21 (by decide) ?_
      refine j_iret d_Ra_gear_23 rfl ?_
      exact q_i1 (hF _ _ _ r_mo.rf hC) rfl
    · have hs : s_gear Z x y = (-102, Z) := by simp [s_gear, ix1]
      rw [hs] at hF
      refine r_C_of (by decide +kernel) (Nat.le_of_ble_eq_true rfl) ?_
      refine j_ls (ls' := [(0, _), (1, _), (2, _)]) rfl ?_
      refine j_iload_n d_Ra_gear_0 rfl rfl ?_
      refine j_if_lt (tgt := 21) d_Ra_gear_1 rfl (fun bq1 => False.elim (absurd ((xlt (n := 0) (by decide)).mp bq1) (by omega))) (fun bq1 => ?_)
      refine j_iload_n d_Ra_gear_4 rfl rfl ?_
      refine j_bipush (v := 9) d_Ra_gear_5 (by decide) ?_
      refine j_icmp_gt (tgt := 21) d_Ra_gear_7 rfl (fun bq2 => ?_) (fun bq2 => False.elim (bq2 ((nlx (n := 9) (by decide)).mpr (by omega))))
      refine j_bipush (v := (-102)) d_Ra_gear_21 (by decide) ?_
      refine j_iret d_Ra_gear_23 rfl ?_
      exact q_i1 (hF _ _ _ r_mo.rf hC) rfl
  · rcases ixc y 10 with ⟨ix2, hr2⟩ | ⟨v, hj2, e2, ix2, t2⟩
    · rcases hr2 with hr2 | hr2
      · have hs : s_gear Z x y = (-102, Z) := by simp [s_gear, ix1, ix2]
        rw [hs] at hF
        refine r_C_of (by decide +kernel) (Nat.le_of_ble_eq_true rfl) ?_
        refine j_ls (ls' := [(0, _), (1, _), (2, _)]) rfl ?_
        refine j_iload_n d_Ra_gear_0 rfl rfl ?_
        refine j_if_lt (tgt := 21) d_Ra_gear_1 rfl (fun bq1 => False.elim (absurd ((xlt (n := 0) (by decide)).mp bq1) (by omega))) (fun bq1 => ?_)
        refine j_iload_n d_Ra_gear_4 rfl rfl ?_
        refine j_bipush (v := 9) d_Ra_gear_5 (by decide) ?_
        refine j_icmp_gt (tgt := 21) d_Ra_gear_7 rfl (fun bq2 => False.elim (absurd ((nlx (n := 9) (by decide)).mp bq2) (by omega))) (fun bq2 => ?_)
        refine j_iload_n d_Ra_gear_10 rfl rfl ?_
        refine j_iconst (v := 1) d_Ra_gear_11 rfl ?_
        refine j_icmp_lt (tgt := 21) d_Ra_gear_12 rfl (fun bq3 => ?_) (fun bq3 => False.elim (bq3 ((xlt (n := 1) (by decide)).mpr (by omega))))
        refine j_bipush (v := (-102)) d_Ra_gear_21 (by decide) ?_
        refine j_iret d_Ra_gear_23 rfl ?_
        exact q_i1 (hF _ _ _ r_mo.rf hC) rfl
      · have hs : s_gear Z x y = (-102, Z) := by simp [s_gear, ix1, ix2]
        rw [hs] at hF
        refine r_C_of (by decide +kernel) (Nat.le_of_ble_eq_true rfl) ?_
        refine j_ls (ls' := [(0, _), (1, _), (2, _)]) rfl ?_
        refine j_iload_n d_Ra_gear_0 rfl rfl ?_
        refine j_if_lt (tgt := 21) d_Ra_gear_1 rfl (fun bq1 => False.elim (absurd ((xlt (n := 0) (by decide)).mp bq1) (by omega))) (fun bq1 => ?_)
        refine j_iload_n d_Ra_gear_4 rfl rfl ?_
        refine j_bipush (v := 9) d_Ra_gear_5 (by decide) ?_
        refine j_icmp_gt (tgt := 21) d_Ra_gear_7 rfl (fun bq2 => False.elim (absurd ((nlx (n := 9) (by decide)).mp bq2) (by omega))) (fun bq2 => ?_)
        refine j_iload_n d_Ra_gear_10 rfl rfl ?_
        refine j_iconst (v := 1) d_Ra_gear_11 rfl ?_
        refine j_icmp_lt (tgt := 21) d_Ra_gear_12 rfl (fun bq3 => False.elim (absurd ((xlt (n := 1) (by decide)).mp bq3) (by omega))) (fun bq3 => ?_)
        refine j_iload_n d_Ra_gear_15 rfl rfl ?_
        refine j_bipush (v := 9) d_Ra_gear_16 (by decide) ?_
        refine j_icmp_le (tgt := 24) d_Ra_gear_18 rfl (fun bq4 => False.elim (absurd ((xle (n := 9) (by decide)).mp bq4) (by omega))) (fun bq4 => ?_)
        refine j_bipush (v := (-102)) d_Ra_gear_21 (by decide) ?_
        refine j_iret d_Ra_gear_23 rfl ?_
        exact q_i1 (hF _ _ _ r_mo.rf hC) rfl
    · by_cases c0 : v = 0
      · have hs : s_gear Z x y = (-102, Z) := by simp [s_gear, ix1, ix2, c0]
        rw [hs] at hF
        refine r_C_of (by decide +kernel) (Nat.le_of_ble_eq_true rfl) ?_
        refine j_ls (ls' := [(0, _), (1, _), (2, _)]) rfl ?_
        refine j_iload_n d_Ra_gear_0 rfl rfl ?_
        refine j_if_lt (tgt := 21) d_Ra_gear_1 rfl (fun bq1 => False.elim (absurd ((xlt (n := 0) (by decide)).mp bq1) (by omega))) (fun bq1 => ?_)
        refine j_iload_n d_Ra_gear_4 rfl rfl ?_
        refine j_bipush (v := 9) d_Ra_gear_5 (by decide) ?_
        refine j_icmp_gt (tgt := 21) d_Ra_gear_7 rfl (fun bq2 => False.elim (absurd ((nlx (n := 9) (by decide)).mp bq2) (by omega))) (fun bq2 => ?_)
        refine j_iload_n d_Ra_gear_10 rfl rfl ?_
        refine j_iconst (v := 1) d_Ra_gear_11 rfl ?_
        refine j_icmp_lt (tgt := 21) d_Ra_gear_12 rfl (fun bq3 => ?_) (fun bq3 => False.elim (bq3 ((xlt (n := 1) (by decide)).mpr (by omega))))
        refine j_bipush (v := (-102)) d_Ra_gear_21 (by decide) ?_
        refine j_iret d_Ra_gear_23 rfl ?_
        exact q_i1 (hF _ _ _ r_mo.rf hC) rfl
      · by_cases hR : Z.2.1.1.1 = 0
        · have hs : s_gear Z x y = (-103, Z) := by simp [s_gear, ix1, ix2, c0, hR]
          rw [hs] at hF
          refine r_C_of (by decide +kernel) (Nat.le_of_ble_eq_true rfl) ?_
          refine j_ls (ls' := [(0, _), (1, _), (2, _)]) rfl ?_
          refine j_iload_n d_Ra_gear_0 rfl rfl ?_
          refine j_if_lt (tgt := 21) d_Ra_gear_1 rfl (fun bq1 => False.elim (absurd ((xlt (n := 0) (by decide)).mp bq1) (by omega))) (fun bq1 => ?_)
          refine j_iload_n d_Ra_gear_4 rfl rfl ?_
          refine j_bipush (v := 9) d_Ra_gear_5 (by decide) ?_
          refine j_icmp_gt (tgt := 21) d_Ra_gear_7 rfl (fun bq2 => False.elim (absurd ((nlx (n := 9) (by decide)).mp bq2) (by omega))) (fun bq2 => ?_)
          refine j_iload_n d_Ra_gear_10 rfl rfl ?_
          refine j_iconst (v := 1) d_Ra_gear_11 rfl ?_
          refine j_icmp_lt (tgt := 21) d_Ra_gear_12 rfl (fun bq3 => False.elim (absurd ((xlt (n := 1) (by decide)).mp bq3) (by omega))) (fun bq3 => ?_)
          refine j_iload_n d_Ra_gear_15 rfl rfl ?_
          refine j_bipush (v := 9) d_Ra_gear_16 (by decide) ?_
          refine j_icmp_le (tgt := 24) d_Ra_gear_18 rfl (fun bq4 => ?_) (fun bq4 => False.elim (bq4 ((xle (n := 9) (by decide)).mpr (by omega))))
          refine j_aload_n d_Ra_gear_24 rfl rfl ?_
          refine q_i (s_Ra_gear_25 rfl (by decide)) rfl (Nat.le_of_ble_eq_true rfl) (Nat.le_of_ble_eq_true rfl) ?_
          refine c_hpN hR hD.1 ?_
          refine j_if_ne (tgt := 34) d_Ra_gear_28 rfl (fun bq5 => False.elim (bq5 rfl)) (fun bq5 => ?_)
          refine j_bipush (v := (-103)) d_Ra_gear_31 (by decide) ?_
          refine j_iret d_Ra_gear_33 rfl ?_
          exact q_i1 (hF _ _ _ r_mo.rf hC) rfl
        · have hs : s_gear Z x y = (nI Z.2.1.1.2.2.1, z_D Z (Z.2.1.1.1, c, v, Z.2.1.1.2.2.2)) := by simp [s_gear, ix1, ix2, c0, hR]
          rw [hs] at hF
          refine r_C_of (by decide +kernel) (Nat.le_of_ble_eq_true rfl) ?_
          refine j_ls (ls' := [(0, _), (1, _), (2, _)]) rfl ?_
          refine j_iload_n d_Ra_gear_0 rfl rfl ?_
          refine j_if_lt (tgt := 21) d_Ra_gear_1 rfl (fun bq1 => False.elim (absurd ((xlt (n := 0) (by decide)).mp bq1) (by omega))) (fun bq1 => ?_)
          refine j_iload_n d_Ra_gear_4 rfl rfl ?_
          refine j_bipush (v := 9) d_Ra_gear_5 (by decide) ?_
          refine j_icmp_gt (tgt := 21) d_Ra_gear_7 rfl (fun bq2 => False.elim (absurd ((nlx (n := 9) (by decide)).mp bq2) (by omega))) (fun bq2 => ?_)
          refine j_iload_n d_Ra_gear_10 rfl rfl ?_
          refine j_iconst (v := 1) d_Ra_gear_11 rfl ?_
          refine j_icmp_lt (tgt := 21) d_Ra_gear_12 rfl (fun bq3 => False.elim (absurd ((xlt (n := 1) (by decide)).mp bq3) (by omega))) (fun bq3 => ?_)
          refine j_iload_n d_Ra_gear_15 rfl rfl ?_
          refine j_bipush (v := 9) d_Ra_gear_16 (by decide) ?_
          refine j_icmp_le (tgt := 24) d_Ra_gear_18 rfl (fun bq4 => ?_) (fun bq4 => False.elim (bq4 ((xle (n := 9) (by decide)).mpr (by omega))))
          refine j_aload_n d_Ra_gear_24 rfl rfl ?_
          refine q_i (s_Ra_gear_25 rfl (by decide)) rfl (Nat.le_of_ble_eq_true rfl) (Nat.le_of_ble_eq_true rfl) ?_
          refine c_hpY (by omega) od1 hD.1 ?_
          refine j_if_ne (tgt := 34) d_Ra_gear_28 rfl (fun bq5 => ?_) (fun bq5 => False.elim (absurd bq5 (by decide)))
          refine j_aload_n d_Ra_gear_34 rfl rfl ?_
          refine j_getr d_Ra_gear_35 f_Ra_19 rfl rfl (by decide) rfl ?_
          refine j_geti d_Ra_gear_38 f_Ra_216 rfl rfl (by decide) ?_
          rw [hD.2.2.1]
          refine j_istore_n (ls' := [(3, _), (0, _), (1, _), (2, _)]) d_Ra_gear_41 rfl (by decide) rfl ?_
          refine j_aload_n d_Ra_gear_42 rfl rfl ?_
          refine j_getr d_Ra_gear_43 f_Ra_19 rfl rfl (by decide) rfl ?_
          refine j_iload_n d_Ra_gear_46 rfl rfl ?_
          refine j_puti d_Ra_gear_47 f_Ra_219 (by decide) rfl rfl (by decide) ?_
          refine j_aload_n d_Ra_gear_50 rfl rfl ?_
          refine j_getr d_Ra_gear_51 f_Ra_19 rfl rfl (by decide) rfl ?_
          refine j_iload_n d_Ra_gear_54 rfl rfl ?_
          refine j_puti d_Ra_gear_55 f_Ra_216 (by decide) rfl rfl (by decide) ?_
          refine j_iload_n d_Ra_gear_58 rfl rfl ?_
          refine j_iret d_Ra_gear_59 rfl ?_
          have q1 : r_ex [3, 4, 5, 6] h (r_up (r_up h 3 4 x) 3 5 y) := (r_ex.rf.up (by decide)).up (by decide)
          refine q_i1 (hF _ _ _ (q1.mo (by decide)) (hC.D q1 ?_)) rfl
          exact ⟨hD.1, e1, e2, hD.2.2.2⟩
