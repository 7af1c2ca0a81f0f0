/-! ===== the model's state ===== -/
def p_G (h : r_HI) (P : a_P) : Prop := h 47 1 = nI P.1 ∧ ∀ i, i < P.1 → h 48 i = nI (P.2 i)
def p_Wm (h : r_HI) (k : Nat) (wt : Nat → Nat) : Prop := ∀ j, j < 6 → h k j = nI (wt j)
def p_Sm (h : r_HI) (j k : Nat) (S : a_S) : Prop := h 47 j = nI S.1 ∧ ∀ i, i < S.1 → h k (2 * i) = nI (S.2.1 i) ∧ h k (2 * i + 1) = nI (S.2.2 i)
def z_w (D : a_D) (K : a_K) : a_K := (K.1, K.2.1, if D.1 = 0 then 0 else K.2.2.1, K.2.2.2)
theorem z_w_eq {D : a_D} {K : a_K} (h : ¬ D.1 = 0) : z_w D K = K := by
  unfold z_w
  rw [if_neg h]
def p_kp (h : r_HI) (V : a_V) : Prop := h 47 28 = nI V.2.2.2.2 ∧ h 47 29 = nI V.1.2.1 ∧ h 47 30 = nI V.1.2.2.1 ∧ h 47 31 = nI V.2.1.1 ∧ h 47 32 = nI V.2.1.2.1 ∧ h 47 33 = nI V.2.1.2.2.1 ∧ h 47 34 = nI V.2.1.2.2.2.1 ∧ (∀ i, i < V.1.1 → h 57 i = nI (V.1.2.2.2.2 i)) ∧ p_A h 58 V.2.1 ∧ p_Wm h 59 V.2.2.1 ∧ p_Sm h 35 60 V.2.2.2.1
def p_kk (h : r_HI) (Z : a_Z) : Prop := ∃ k : Int, h 47 27 = iI k ∧ -1 ≤ k ∧ k ≤ Z.2.2.1 ∧ (Z.2.2.2.2.1 = 0 → k < Z.2.2.1) ∧ (Z.2.2.2.2.1 = 1 → k = Z.2.2.1)
/-- the model's cells hold a state -/
def p_M (h : r_HI) (Z : a_Z) : Prop := p_G h Z.1 ∧ p_N h Z.2.1.1 ∧ p_J h (z_w Z.2.1.1 Z.2.1.2.1) ∧ h 47 6 = nI Z.2.1.2.2.2.2 ∧ p_Wm h 55 Z.2.1.2.2.1 ∧ p_Sm h 24 56 Z.2.1.2.2.2.1 ∧ h 47 11 = nI Z.2.2.1 ∧ h 47 20 = nI Z.2.2.2.1 ∧ p_kk h Z ∧ (Z.2.2.2.2.1 = 1 → p_kp h Z.2.2.2.2.2)
theorem p_G.ey {A J : List Nat} {h h' : r_HI} {P : a_P} (hG : p_G h P) (e : r_ey A J h h') (h1 : 48 ∉ A) (h2 : 1 ∉ J) : p_G h' P := by
  unfold p_G
  rw [e.2 1 h2, e.1 48 h1 (by decide)]
  exact hG
theorem p_Wm.ey {A J : List Nat} {h h' : r_HI} {k : Nat} {wt : Nat → Nat} (hW : p_Wm h k wt) (e : r_ey A J h h') (h1 : k ∉ A) (h7 : k ≠ 47) : p_Wm h' k wt := by
  unfold p_Wm
  rw [e.1 k h1 h7]
  exact hW
theorem p_Sm.ey {A J : List Nat} {h h' : r_HI} {j k : Nat} {S : a_S} (hS : p_Sm h j k S) (e : r_ey A J h h') (h1 : k ∉ A) (h7 : k ≠ 47) (h2 : j ∉ J) : p_Sm h' j k S := by
  unfold p_Sm
  rw [e.1 k h1 h7, e.2 j h2]
  exact hS
theorem p_kp.ey {A J : List Nat} {h h' : r_HI} {V : a_V} (hk : p_kp h V) (e : r_ey A J h h') (hA : 57 ∉ A ∧ 58 ∉ A ∧ 59 ∉ A ∧ 60 ∉ A) (hJ : 28 ∉ J ∧ 29 ∉ J ∧ 30 ∉ J ∧ 31 ∉ J ∧ 32 ∉ J ∧ 33 ∉ J ∧ 34 ∉ J ∧ 35 ∉ J) : p_kp h' V := by
  obtain ⟨a1, a2, a3, a4⟩ := hA
  obtain ⟨b1, b2, b3, b4, b5, b6, b7, b8⟩ := hJ
  unfold p_kp p_A p_Wm p_Sm
  rw [e.2 28 b1, e.2 29 b2, e.2 30 b3, e.2 31 b4, e.2 32 b5, e.2 33 b6, e.2 34 b7, e.2 35 b8, e.1 57 a1 (by decide), e.1 58 a2 (by decide), e.1 59 a3 (by decide), e.1 60 a4 (by decide)]
  exact hk
theorem p_kk.ey {A J : List Nat} {h h' : r_HI} {Z : a_Z} (hk : p_kk h Z) (e : r_ey A J h h') (hJ : 27 ∉ J) : p_kk h' Z := by
  obtain ⟨k, h1, h2⟩ := hk
  exact ⟨k, by rw [e.2 27 hJ]; exact h1, h2⟩
def r_As : List Nat := [52, 53, 54]
def r_Js : List Nat := [2, 15, 16, 17, 18, 26]
theorem r_ml.rf {h : r_HI} : r_ml h h := fun _ _ => rfl
theorem p_M.scr {h h' : r_HI} {Z : a_Z} (hM : p_M h Z) (e : r_ey r_As r_Js h h') : p_M h' Z := by
  obtain ⟨m1, m2, m3, m4, m5, m6, m7, m8, m9, m10⟩ := hM
  exact ⟨m1.ey e (by decide) (by decide), m2.ey e (by decide) (by decide) (by decide) (by decide) (by decide), m3.ey e (by decide) (by decide) (by decide) (by decide) (by decide), by rw [e.2 6 (by decide)]; exact m4, m5.ey e (by decide) (by decide), m6.ey e (by decide) (by decide) (by decide), by rw [e.2 11 (by decide)]; exact m7, by rw [e.2 20 (by decide)]; exact m8, m9.ey e (by decide), fun f => (m10 f).ey e (by decide) (by decide)⟩
theorem p_M.P {h h' : r_HI} {Z : a_Z} {P : a_P} (hM : p_M h Z) (e : r_ey [48] [1] h h') (hP : p_G h' P) : p_M h' (z_P Z P) := by
  obtain ⟨m1, m2, m3, m4, m5, m6, m7, m8, m9, m10⟩ := hM
  exact ⟨hP, m2.ey e (by decide) (by decide) (by decide) (by decide) (by decide), m3.ey e (by decide) (by decide) (by decide) (by decide) (by decide), by rw [e.2 6 (by decide)]; exact m4, m5.ey e (by decide) (by decide), m6.ey e (by decide) (by decide) (by decide), by rw [e.2 11 (by decide)]; exact m7, by rw [e.2 20 (by decide)]; exact m8, m9.ey e (by decide), fun f => (m10 f).ey e (by decide) (by decide)⟩
def r_Jk : List Nat := [2, 7, 8, 9, 10, 15, 16, 17, 18, 26]
theorem p_M.K {h h' : r_HI} {Z : a_Z} {K : a_K} (hM : p_M h Z) (hR : ¬ Z.2.1.1.1 = 0) (e : r_ey [51, 52, 53, 54] r_Jk h h') (hJ : p_J h' K) : p_M h' (z_K Z K) := by
  obtain ⟨m1, m2, m3, m4, m5, m6, m7, m8, m9, m10⟩ := hM
  exact ⟨m1.ey e (by decide) (by decide), m2.ey e (by decide) (by decide) (by decide) (by decide) (by decide), by show p_J h' (z_w Z.2.1.1 K); rw [z_w_eq hR]; exact hJ, by rw [e.2 6 (by decide)]; exact m4, m5.ey e (by decide) (by decide), m6.ey e (by decide) (by decide) (by decide), by rw [e.2 11 (by decide)]; exact m7, by rw [e.2 20 (by decide)]; exact m8, m9.ey e (by decide), fun f => (m10 f).ey e (by decide) (by decide)⟩
theorem p_M.k {h : r_HI} {Z : a_Z} {k : Nat} (hM : p_M h Z) : p_M (r_up h 47 6 (nI k)) (z_k Z k) := by
  obtain ⟨m1, m2, m3, m4, m5, m6, m7, m8, m9, m10⟩ := hM
  have e : r_ey [] [6] h (r_up h 47 6 (nI k)) := r_ey.rf.fl (by decide)
  exact ⟨m1.ey e (by decide) (by decide), m2.ey e (by decide) (by decide) (by decide) (by decide) (by decide), m3.ey e (by decide) (by decide) (by decide) (by decide) (by decide), rfl, m5.ey e (by decide) (by decide), m6.ey e (by decide) (by decide) (by decide), m7, m8, m9.ey e (by decide), fun f => (m10 f).ey e (by decide) (by decide)⟩
theorem p_M.ld {h : r_HI} {Z : a_Z} {v : Nat} (hM : p_M h Z) : p_M (r_up h 47 20 (nI v)) (Z.1, Z.2.1, Z.2.2.1, v, Z.2.2.2.2) := by
  obtain ⟨m1, m2, m3, m4, m5, m6, m7, m8, m9, m10⟩ := hM
  have e : r_ey [] [20] h (r_up h 47 20 (nI v)) := r_ey.rf.fl (by decide)
  exact ⟨m1.ey e (by decide) (by decide), m2.ey e (by decide) (by decide) (by decide) (by decide) (by decide), m3.ey e (by decide) (by decide) (by decide) (by decide) (by decide), m4, m5.ey e (by decide) (by decide), m6.ey e (by decide) (by decide) (by decide), m7, rfl, m9.ey e (by decide), fun f => (m10 f).ey e (by decide) (by decide)⟩
theorem p_M.D {h h' : r_HI} {Z : a_Z} {D : a_D} (hM : p_M h Z) (e : r_ey [50] [4, 5] h h') (hN : p_N h' D) (hR : D.1 = Z.2.1.1.1) : p_M h' (z_D Z D) := by
  obtain ⟨m1, m2, m3, m4, m5, m6, m7, m8, m9, m10⟩ := hM
  have hw : z_w D Z.2.1.2.1 = z_w Z.2.1.1 Z.2.1.2.1 := by unfold z_w; rw [hR]
  exact ⟨m1.ey e (by decide) (by decide), hN, by show p_J h' (z_w D Z.2.1.2.1); rw [hw]; exact m3.ey e (by decide) (by decide) (by decide) (by decide) (by decide), by rw [e.2 6 (by decide)]; exact m4, m5.ey e (by decide) (by decide), m6.ey e (by decide) (by decide) (by decide), by rw [e.2 11 (by decide)]; exact m7, by rw [e.2 20 (by decide)]; exact m8, m9.ey e (by decide), fun f => (m10 f).ey e (by decide) (by decide)⟩
theorem p_M.W {h h' : r_HI} {Z : a_Z} {w : Nat → Nat} (hM : p_M h Z) (e : r_ey [55] [] h h') (hW : p_Wm h' 55 w) : p_M h' (z_W Z w) := by
  obtain ⟨m1, m2, m3, m4, m5, m6, m7, m8, m9, m10⟩ := hM
  exact ⟨m1.ey e (by decide) (by decide), m2.ey e (by decide) (by decide) (by decide) (by decide) (by decide), m3.ey e (by decide) (by decide) (by decide) (by decide) (by decide), by rw [e.2 6 (by decide)]; exact m4, hW, m6.ey e (by decide) (by decide) (by decide), by rw [e.2 11 (by decide)]; exact m7, by rw [e.2 20 (by decide)]; exact m8, m9.ey e (by decide), fun f => (m10 f).ey e (by decide) (by decide)⟩
theorem p_M.S {h h' : r_HI} {Z : a_Z} {S : a_S} (hM : p_M h Z) (e : r_ey [56] [24] h h') (hS : p_Sm h' 24 56 S) : p_M h' (z_S Z S) := by
  obtain ⟨m1, m2, m3, m4, m5, m6, m7, m8, m9, m10⟩ := hM
  exact ⟨m1.ey e (by decide) (by decide), m2.ey e (by decide) (by decide) (by decide) (by decide) (by decide), m3.ey e (by decide) (by decide) (by decide) (by decide) (by decide), by rw [e.2 6 (by decide)]; exact m4, m5.ey e (by decide) (by decide), hS, by rw [e.2 11 (by decide)]; exact m7, by rw [e.2 20 (by decide)]; exact m8, m9.ey e (by decide), fun f => (m10 f).ey e (by decide) (by decide)⟩
set_option maxRecDepth 100000 in
set_option maxHeartbeats 4000000 in
theorem c_Mo_letter {G : r_X} {d : Nat} {h : r_HI} {p q : Nat} {z : r_HL} {F : Int32 → r_HI → r_HR → r_HL → Prop} {Z : a_Z} {x : Int32} (hM : p_M h Z) (ho : a_zok Z) (hF : ∀ h', r_ml h h' → p_M h' (s_letter Z x).2 → F (s_letter Z x).1 h' (r_gp p q) z) : r_Ci G m_Mo_letter (d + 20) 61 [.ref (G.2.1 + 47), .int x] 61 h (r_gp p q) z F := by
  obtain ⟨mG, mN, mJ0, m6, mW, mS, m11, m20, mkk, mkp⟩ := id hM
  obtain ⟨op, ⟨od, ok, otk, ow, os, okd⟩, o3, o4, o5, o6, o7⟩ := id ho
  obtain ⟨od1, od2, od3, od4⟩ := id od
  obtain ⟨ok1, ok2, ok3, ok4⟩ := id ok
  have os1 := os.1
  have op1 := op.1
  rcases ixc x 127 with ⟨ix1, hr1⟩ | ⟨c, hj1, e1, ix1, t1⟩
  · have hs : s_letter Z x = (-102, Z) := by simp [s_letter, ix1]
    rw [hs] at hF
    refine r_C_of (by decide +kernel) (Nat.le_of_ble_eq_true rfl) ?_
    refine j_ls (ls' := [(0, _), (1, _)]) rfl ?_
    refine j_iload_n d_Mo_letter_0 rfl rfl ?_
    refine j_i2l d_Mo_letter_1 ?_
    refine j_lconst (v := 1) d_Mo_letter_2 rfl ?_
    refine j_ldc2 d_Mo_letter_3 k_Mo_53 ?_
    refine q_i s_Mo_letter_6 rfl (Nat.le_of_ble_eq_true rfl) (Nat.le_of_ble_eq_true rfl) ?_
    refine c_inN 1 126 rfl rfl (by omega) ?_
    refine j_if_ne (tgt := 15) d_Mo_letter_9 rfl (fun bq1 => False.elim (bq1 rfl)) (fun bq1 => ?_)
    refine j_bipush (v := (-102)) d_Mo_letter_12 (by decide) ?_
    refine j_iret d_Mo_letter_14 rfl ?_
    exact q_i1 (hF _ r_ml.rf hM) rfl
  · by_cases c0 : c = 0
    · have hs : s_letter Z x = (-102, Z) := by simp [s_letter, ix1, c0]
      rw [hs] at hF
      refine r_C_of (by decide +kernel) (Nat.le_of_ble_eq_true rfl) ?_
      refine j_ls (ls' := [(0, _), (1, _)]) rfl ?_
      refine j_iload_n d_Mo_letter_0 rfl rfl ?_
      refine j_i2l d_Mo_letter_1 ?_
      refine j_lconst (v := 1) d_Mo_letter_2 rfl ?_
      refine j_ldc2 d_Mo_letter_3 k_Mo_53 ?_
      refine q_i s_Mo_letter_6 rfl (Nat.le_of_ble_eq_true rfl) (Nat.le_of_ble_eq_true rfl) ?_
      refine c_inN 1 126 rfl rfl (by omega) ?_
      refine j_if_ne (tgt := 15) d_Mo_letter_9 rfl (fun bq1 => False.elim (bq1 rfl)) (fun bq1 => ?_)
      refine j_bipush (v := (-102)) d_Mo_letter_12 (by decide) ?_
      refine j_iret d_Mo_letter_14 rfl ?_
      exact q_i1 (hF _ r_ml.rf hM) rfl
    · by_cases c28 : 28 ≤ Z.1.1
      · have hs : s_letter Z x = (-104, Z) := by simp [s_letter, ix1, c0, c28]
        rw [hs] at hF
        refine r_C_of (by decide +kernel) (Nat.le_of_ble_eq_true rfl) ?_
        refine j_ls (ls' := [(0, _), (1, _)]) rfl ?_
        refine j_iload_n d_Mo_letter_0 rfl rfl ?_
        refine j_i2l d_Mo_letter_1 ?_
        refine j_lconst (v := 1) d_Mo_letter_2 rfl ?_
        refine j_ldc2 d_Mo_letter_3 k_Mo_53 ?_
        refine q_i s_Mo_letter_6 rfl (Nat.le_of_ble_eq_true rfl) (Nat.le_of_ble_eq_true rfl) ?_
        refine c_inY 1 126 rfl rfl (by omega) ?_
        refine j_if_ne (tgt := 15) d_Mo_letter_9 rfl (fun bq1 => ?_) (fun bq1 => False.elim (absurd bq1 (by decide)))
        refine j_aload_n d_Mo_letter_15 rfl rfl ?_
        refine j_geti d_Mo_letter_16 f_Mo_59 rfl rfl (by decide) ?_
        refine j_bipush (v := 28) d_Mo_letter_19 (by decide) ?_
        refine j_icmp_ne (tgt := 27) d_Mo_letter_21 rfl (fun bq2 => False.elim (bq2 (by rw [mG.1, show Z.1.1 = 28 by omega]; rfl))) (fun bq2 => ?_)
        refine j_bipush (v := (-104)) d_Mo_letter_24 (by decide) ?_
        refine j_iret d_Mo_letter_26 rfl ?_
        exact q_i1 (hF _ r_ml.rf hM) rfl
      · have hs : s_letter Z x = (nI (Z.1.1 + 1), z_P Z (Z.1.1 + 1, va_up Z.1.2 Z.1.1 c)) := by simp [s_letter, ix1, c0, c28]
        rw [hs] at hF
        refine r_C_of (by decide +kernel) (Nat.le_of_ble_eq_true rfl) ?_
        refine j_ls (ls' := [(0, _), (1, _)]) rfl ?_
        refine j_iload_n d_Mo_letter_0 rfl rfl ?_
        refine j_i2l d_Mo_letter_1 ?_
        refine j_lconst (v := 1) d_Mo_letter_2 rfl ?_
        refine j_ldc2 d_Mo_letter_3 k_Mo_53 ?_
        refine q_i s_Mo_letter_6 rfl (Nat.le_of_ble_eq_true rfl) (Nat.le_of_ble_eq_true rfl) ?_
        refine c_inY 1 126 rfl rfl (by omega) ?_
        refine j_if_ne (tgt := 15) d_Mo_letter_9 rfl (fun bq1 => ?_) (fun bq1 => False.elim (absurd bq1 (by decide)))
        refine j_aload_n d_Mo_letter_15 rfl rfl ?_
        refine j_geti d_Mo_letter_16 f_Mo_59 rfl rfl (by decide) ?_
        refine j_bipush (v := 28) d_Mo_letter_19 (by decide) ?_
        refine j_icmp_ne (tgt := 27) d_Mo_letter_21 rfl (fun bq2 => ?_) (fun bq2 => False.elim (absurd ((nI_eq (b := 28) (by omega) (by omega)).mp (mG.1.symm.trans bq2)) (by omega)))
        refine j_aload_n d_Mo_letter_27 rfl rfl ?_
        refine j_getr d_Mo_letter_28 f_Mo_7 rfl rfl (by decide) rfl ?_
        refine j_aload_n d_Mo_letter_31 rfl rfl ?_
        refine j_geti d_Mo_letter_32 f_Mo_59 rfl rfl (by decide) ?_
        refine j_iload_n d_Mo_letter_35 rfl rfl ?_
        refine j_iap d_Mo_letter_36 rfl (by decide) (j := Z.1.1) (mG.1) (by omega) (by decide) ?_
        refine j_aload_n d_Mo_letter_37 rfl rfl ?_
        refine j_dup d_Mo_letter_38 rfl ?_
        refine j_geti d_Mo_letter_39 f_Mo_59 rfl rfl (by decide) ?_
        refine j_iconst (v := 1) d_Mo_letter_42 rfl ?_
        refine j_iadd d_Mo_letter_43 ?_
        refine j_st (st' := [.int (h 47 1 + 1), .ref (G.2.1 + 47)]) rfl ?_
        rw [mG.1, nI_1]
        refine j_puti d_Mo_letter_44 f_Mo_59 (by decide) rfl rfl (by decide) ?_
        refine j_aload_n d_Mo_letter_47 rfl rfl ?_
        refine j_geti d_Mo_letter_48 f_Mo_59 rfl rfl (by decide) ?_
        refine j_iret d_Mo_letter_51 rfl ?_
        have y1 : r_ey [48] [1] h (r_up (r_up h 48 Z.1.1 x) 47 1 (nI (Z.1.1 + 1))) := (r_ey.rf.up (by decide) (by decide)).fl (by decide)
        refine q_i1 (hF _ (y1.ml (by decide)) (hM.P y1 ⟨rfl, fun i hi => ?_⟩)) rfl
        have hi : i < Z.1.1 + 1 := hi
        show r_up h 48 Z.1.1 x 48 i = nI (va_up Z.1.2 Z.1.1 c i)
        rw [r_up_k]
        by_cases e9 : i = Z.1.1
        · rw [e9, pk_us, e1]
          simp [va_up]
        · rw [pk_un e9]
          simp only [va_up, if_neg e9]
          exact mG.2 i (by omega)
set_option maxRecDepth 100000 in
set_option maxHeartbeats 4000000 in
theorem c_Mo_blank {G : r_X} {d : Nat} {h : r_HI} {p q : Nat} {z : r_HL} {F : Int32 → r_HI → r_HR → r_HL → Prop} {Z : a_Z} (hM : p_M h Z) (ho : a_zok Z) (hF : ∀ h', r_ml h h' → p_M h' (s_blank Z).2 → F (s_blank Z).1 h' (r_gp p q) z) : r_Ci G m_Mo_blank (d + 20) 61 [.ref (G.2.1 + 47)] 61 h (r_gp p q) z F := by
  obtain ⟨mG, mN, mJ0, m6, mW, mS, m11, m20, mkk, mkp⟩ := id hM
  obtain ⟨op, ⟨od, ok, otk, ow, os, okd⟩, o3, o4, o5, o6, o7⟩ := id ho
  obtain ⟨od1, od2, od3, od4⟩ := id od
  obtain ⟨ok1, ok2, ok3, ok4⟩ := id ok
  have os1 := os.1
  have op1 := op.1
  have hs : s_blank Z = (nI Z.1.1, z_P Z (0, Z.1.2)) := by simp [s_blank, s_blank]
  rw [hs] at hF
  refine r_C_of (by decide +kernel) (Nat.le_of_ble_eq_true rfl) ?_
  refine j_ls (ls' := [(0, _)]) rfl ?_
  refine j_aload_n d_Mo_blank_0 rfl rfl ?_
  refine j_geti d_Mo_blank_1 f_Mo_59 rfl rfl (by decide) ?_
  refine j_istore_n (ls' := [(1, _), (0, _)]) d_Mo_blank_4 rfl (by decide) rfl ?_
  refine j_aload_n d_Mo_blank_5 rfl rfl ?_
  refine j_iconst (v := 0) d_Mo_blank_6 rfl ?_
  refine j_puti d_Mo_blank_7 f_Mo_59 (by decide) rfl rfl (by decide) ?_
  refine j_iload_n d_Mo_blank_10 rfl rfl ?_
  refine j_iret d_Mo_blank_11 rfl ?_
  have y1 : r_ey [48] [1] h (r_up h 47 1 0) := r_ey.rf.fl (by decide)
  exact q_i1 (hF _ (y1.ml (by decide)) (hM.P y1 ⟨rfl, fun i hi => absurd hi (Nat.not_lt_zero i)⟩)) mG.1
set_option maxRecDepth 100000 in
set_option maxHeartbeats 4000000 in
theorem c_Mo_tellRing {G : r_X} {d : Nat} {h : r_HI} {p q : Nat} {z : r_HL} {F : Int32 → r_HI → r_HR → r_HL → Prop} {Z : a_Z} {x w : Int32} (hM : p_M h Z) (ho : a_zok Z) {r : Nat} (hj1 : r < Z.2.1.1.1) (e1 : x = nI r) (hF : F (s_ring Z x w) h (r_gp p q) z) : r_Ci G m_Mo_tellRing (d + 2) 61 [.ref (G.2.1 + 47), .int x, .int w] 61 h (r_gp p q) z F := by
  obtain ⟨mG, mN, mJ0, m6, mW, mS, m11, m20, mkk, mkp⟩ := id hM
  obtain ⟨op, ⟨od, ok, otk, ow, os, okd⟩, o3, o4, o5, o6, o7⟩ := id ho
  obtain ⟨od1, od2, od3, od4⟩ := id od
  obtain ⟨ok1, ok2, ok3, ok4⟩ := id ok
  have os1 := os.1
  have op1 := op.1
  have hR : ¬ Z.2.1.1.1 = 0 := by omega
  have hJ : p_J h Z.2.1.2.1 := by rw [← z_w_eq (K := Z.2.1.2.1) hR]; exact mJ0
  have ix1 : a_ix x Z.2.1.1.1 = some r := by rw [e1]; exact a_ix_nI hj1 (by omega)
  refine r_C_of (by decide +kernel) (Nat.le_of_ble_eq_true rfl) ?_
  refine j_ls (ls' := [(0, _), (1, _), (2, _)]) rfl ?_
  refine j_iload_n d_Mo_tellRing_0 rfl rfl ?_
  rcases (show w.toInt < 0 ∨ 4 < w.toInt ∨ w.toInt = 0 ∨ w.toInt = 1 ∨ w.toInt = 2 ∨ w.toInt = 3 ∨ w.toInt = 4 by omega) with t9 | t9 | t9 | t9 | t9 | t9 | t9
  · refine j_tabOut (tgt := 72) d_Mo_tellRing_1 (Or.inl t9) rfl ?_
    refine j_bipush (v := (-102)) d_Mo_tellRing_72 (by decide) ?_
    refine j_iret d_Mo_tellRing_74 rfl ?_
    have hs : s_ring Z x w = -102 := by simp [s_ring, ix1, a_ix_no (x := w) (n := 5) (by omega)]
    rw [hs] at hF
    exact q_i1 hF rfl
  · refine j_tabOut (tgt := 72) d_Mo_tellRing_1 (Or.inr t9) rfl ?_
    refine j_bipush (v := (-102)) d_Mo_tellRing_72 (by decide) ?_
    refine j_iret d_Mo_tellRing_74 rfl ?_
    have hs : s_ring Z x w = -102 := by simp [s_ring, ix1, a_ix_no (x := w) (n := 5) (by omega)]
    rw [hs] at hF
    exact q_i1 hF rfl
  · refine j_tabIn (off := 35) (tgt := 36) d_Mo_tellRing_1 (by rw [t9]; decide) (by rw [t9]; decide) (by rw [t9]; rfl) rfl ?_
    refine j_aload_n d_Mo_tellRing_36 rfl rfl ?_
    refine j_getr d_Mo_tellRing_37 f_Mo_13 rfl rfl (by decide) rfl ?_
    refine j_iload_n d_Mo_tellRing_40 rfl rfl ?_
    refine j_iav d_Mo_tellRing_41 rfl (by decide) (j := r) (e1) (by omega) (by decide) ((mN.2.2.2 r hj1).1) ?_
    refine j_iret d_Mo_tellRing_42 rfl ?_
    have hs : s_ring Z x w = nI (Z.2.1.1.2.2.2.1 r) := by simp [s_ring, ix1, a_ix_of (x := w) (n := 5) (j := 0) (by omega) (by decide)]
    rw [hs] at hF
    exact q_i1 hF rfl
  · refine j_tabIn (off := 42) (tgt := 43) d_Mo_tellRing_1 (by rw [t9]; decide) (by rw [t9]; decide) (by rw [t9]; rfl) rfl ?_
    refine j_aload_n d_Mo_tellRing_43 rfl rfl ?_
    refine j_getr d_Mo_tellRing_44 f_Mo_16 rfl rfl (by decide) rfl ?_
    refine j_iload_n d_Mo_tellRing_47 rfl rfl ?_
    refine j_iav d_Mo_tellRing_48 rfl (by decide) (j := r) (e1) (by omega) (by decide) ((mN.2.2.2 r hj1).2) ?_
    refine j_iret d_Mo_tellRing_49 rfl ?_
    have hs : s_ring Z x w = nI (Z.2.1.1.2.2.2.2 r) := by simp [s_ring, ix1, a_ix_of (x := w) (n := 5) (j := 1) (by omega) (by decide)]
    rw [hs] at hF
    exact q_i1 hF rfl
  · refine j_tabIn (off := 49) (tgt := 50) d_Mo_tellRing_1 (by rw [t9]; decide) (by rw [t9]; decide) (by rw [t9]; rfl) rfl ?_
    refine j_aload_n d_Mo_tellRing_50 rfl rfl ?_
    refine j_iload_n d_Mo_tellRing_51 rfl rfl ?_
    refine q_i (s_Mo_tellRing_52 rfl (by decide)) rfl (Nat.le_of_ble_eq_true rfl) (Nat.le_of_ble_eq_true rfl) ?_
    refine c_Mo_lasts mN od hj1 e1 ?_
    refine j_iret d_Mo_tellRing_55 rfl ?_
    have hs : s_ring Z x w = nI (24 / Z.2.1.1.2.2.2.1 r) := by simp [s_ring, ix1, a_ix_of (x := w) (n := 5) (j := 2) (by omega) (by decide)]
    rw [hs] at hF
    exact q_i1 hF rfl
  · refine j_tabIn (off := 55) (tgt := 56) d_Mo_tellRing_1 (by rw [t9]; decide) (by rw [t9]; decide) (by rw [t9]; rfl) rfl ?_
    refine j_aload_n d_Mo_tellRing_56 rfl rfl ?_
    refine j_iload_n d_Mo_tellRing_57 rfl rfl ?_
    refine q_i (s_Mo_tellRing_58 rfl (by decide)) rfl (Nat.le_of_ble_eq_true rfl) (Nat.le_of_ble_eq_true rfl) ?_
    refine c_Mo_askedOn hJ ok3 (fun i hi => Nat.lt_of_lt_of_le (ok4 i hi).1 od1) (r := r) (by omega) e1 ?_
    refine j_iret d_Mo_tellRing_61 rfl ?_
    have hs : s_ring Z x w = a_bits Z.2.1.2.1.2.2.2.2.1 r Z.2.1.2.1.2.2.2.1 := by simp [s_ring, ix1, a_ix_of (x := w) (n := 5) (j := 3) (by omega) (by decide)]
    rw [hs] at hF
    exact q_i1 hF rfl
  · refine j_tabIn (off := 61) (tgt := 62) d_Mo_tellRing_1 (by rw [t9]; decide) (by rw [t9]; decide) (by rw [t9]; rfl) rfl ?_
    refine j_aload_n d_Mo_tellRing_62 rfl rfl ?_
    refine j_aload_n d_Mo_tellRing_63 rfl rfl ?_
    refine j_geti d_Mo_tellRing_64 f_Mo_108 rfl rfl (by decide) ?_
    refine j_iload_n d_Mo_tellRing_67 rfl rfl ?_
    refine q_i (s_Mo_tellRing_68 rfl (by decide)) rfl (Nat.le_of_ble_eq_true rfl) (Nat.le_of_ble_eq_true rfl) ?_
    refine c_Mo_travel mN od (x := Z.2.1.2.1.2.1) (y := r) (by omega) (by omega) hJ.2.1 e1 ?_
    refine j_iret d_Mo_tellRing_71 rfl ?_
    have hs : s_ring Z x w = nI (a_tr Z.2.1.1 Z.2.1.2.1.2.1 r) := by simp [s_ring, ix1, a_ix_of (x := w) (n := 5) (j := 4) (by omega) (by decide)]
    rw [hs] at hF
    exact q_i1 hF rfl
set_option maxRecDepth 100000 in
set_option maxHeartbeats 4000000 in
theorem c_Mo_ring {G : r_X} {d : Nat} {h : r_HI} {p q : Nat} {z : r_HL} {F : Int32 → r_HI → r_HR → r_HL → Prop} {Z : a_Z} {x w : Int32} (hM : p_M h Z) (ho : a_zok Z) (hF : ∀ h', r_ey r_As r_Js h h' → F (s_ring Z x w) h' (r_gp p q) z) : r_Ci G m_Mo_ring (d + 20) 61 [.ref (G.2.1 + 47), .int x, .int w] 61 h (r_gp p q) z F := by
  obtain ⟨mG, mN, mJ0, m6, mW, mS, m11, m20, mkk, mkp⟩ := id hM
  obtain ⟨op, ⟨od, ok, otk, ow, os, okd⟩, o3, o4, o5, o6, o7⟩ := id ho
  obtain ⟨od1, od2, od3, od4⟩ := id od
  obtain ⟨ok1, ok2, ok3, ok4⟩ := id ok
  have os1 := os.1
  have op1 := op.1
  rcases ixc x Z.2.1.1.1 with ⟨ix1, hr1⟩ | ⟨r, hj1, e1, ix1, t1⟩
  · have hs : s_ring Z x w = -101 := by simp [s_ring, ix1]
    rw [hs] at hF
    refine r_C_of (by decide +kernel) (Nat.le_of_ble_eq_true rfl) ?_
    refine j_ls (ls' := [(0, _), (1, _), (2, _)]) rfl ?_
    refine j_aload_n d_Mo_ring_0 rfl rfl ?_
    refine j_iload_n d_Mo_ring_1 rfl rfl ?_
    refine q_i (s_Mo_ring_2 rfl (by decide)) rfl (Nat.le_of_ble_eq_true rfl) (Nat.le_of_ble_eq_true rfl) ?_
    refine c_Mo_isRingN mN od hr1 ?_
    refine j_if_eq (tgt := 17) d_Mo_ring_5 rfl (fun bq1 => ?_) (fun bq1 => False.elim (bq1 rfl))
    refine j_bipush (v := (-101)) d_Mo_ring_17 (by decide) ?_
    refine j_iret d_Mo_ring_19 rfl ?_
    exact q_i1 (hF _ r_ey.rf) rfl
  · refine r_C_of (by decide +kernel) (Nat.le_of_ble_eq_true rfl) ?_
    refine j_ls (ls' := [(0, _), (1, _), (2, _)]) rfl ?_
    refine j_aload_n d_Mo_ring_0 rfl rfl ?_
    refine j_iload_n d_Mo_ring_1 rfl rfl ?_
    refine q_i (s_Mo_ring_2 rfl (by decide)) rfl (Nat.le_of_ble_eq_true rfl) (Nat.le_of_ble_eq_true rfl) ?_
    refine c_Mo_isRingY mN od hj1 e1 ?_
    refine j_if_eq (tgt := 17) d_Mo_ring_5 rfl (fun bq1 => False.elim (absurd bq1 (by decide))) (fun bq1 => ?_)
    refine j_aload_n d_Mo_ring_8 rfl rfl ?_
    refine j_iload_n d_Mo_ring_9 rfl rfl ?_
    refine j_iload_n d_Mo_ring_10 rfl rfl ?_
    refine q_i (s_Mo_ring_11 rfl (by decide)) rfl (Nat.le_of_ble_eq_true rfl) (Nat.le_of_ble_eq_true rfl) ?_
    refine c_Mo_tellRing hM ho hj1 e1 ?_
    refine j_goto (tgt := 19) d_Mo_ring_14 rfl ?_
    refine j_iret d_Mo_ring_19 rfl ?_
    exact q_i1 (hF _ r_ey.rf) rfl
set_option maxRecDepth 100000 in
set_option maxHeartbeats 4000000 in
theorem c_Mo_tellAsked {G : r_X} {d : Nat} {h : r_HI} {p q : Nat} {z : r_HL} {F : Int32 → r_HI → r_HR → r_HL → Prop} {Z : a_Z} {x w : Int32} (hM : p_M h Z) (ho : a_zok Z) {r v : Nat} (hj1 : r < Z.2.1.2.1.2.2.2.1) (e1 : x = nI r) (hv : v < 4) (e2 : w = nI v) (hF : ∀ h', r_ey r_As r_Js h h' → F (s_asked Z x w) h' (r_gp p q) z) : r_Ci G m_Mo_tellAsked (d + 4) 61 [.ref (G.2.1 + 47), .int x, .int w] 61 h (r_gp p q) z F := by
  obtain ⟨mG, mN, mJ0, m6, mW, mS, m11, m20, mkk, mkp⟩ := id hM
  obtain ⟨op, ⟨od, ok, otk, ow, os, okd⟩, o3, o4, o5, o6, o7⟩ := id ho
  obtain ⟨od1, od2, od3, od4⟩ := id od
  obtain ⟨ok1, ok2, ok3, ok4⟩ := id ok
  have os1 := os.1
  have op1 := op.1
  have hR : ¬ Z.2.1.1.1 = 0 := by
    have := (ok4 r hj1).1
    omega
  have hJ : p_J h Z.2.1.2.1 := by rw [← z_w_eq (K := Z.2.1.2.1) hR]; exact mJ0
  have ix1 : a_ix x Z.2.1.2.1.2.2.2.1 = some r := by rw [e1]; exact a_ix_nI hj1 (by omega)
  have ix2 : a_ix w 4 = some v := by rw [e2]; exact a_ix_nI hv (by omega)
  subst e1
  subst e2
  rcases (show v = 0 ∨ v = 1 ∨ v = 2 ∨ v = 3 by omega) with e | e | e | e
  · subst e
    have hs : s_asked Z (nI r) (nI 0) = nI (Z.2.1.2.1.2.2.2.2.1 r) := by simp [s_asked, ix1, ix2]
    rw [hs] at hF
    refine r_C_of (by decide +kernel) (Nat.le_of_ble_eq_true rfl) ?_
    refine j_ls (ls' := [(0, _), (1, _), (2, _)]) rfl ?_
    refine j_aload_n d_Mo_tellAsked_0 rfl rfl ?_
    refine q_v (s_Mo_tellAsked_1 rfl (by decide)) rfl (Nat.le_of_ble_eq_true rfl) (Nat.le_of_ble_eq_true rfl) ?_
    refine c_Mo_begin hJ ok3 (fun h1 y1 t1 => ?_)
    refine j_iload_n d_Mo_tellAsked_4 rfl rfl ?_
    refine j_iconst (v := 3) d_Mo_tellAsked_5 rfl ?_
    refine j_icmp_ge (tgt := 22) d_Mo_tellAsked_6 rfl (fun bq1 => False.elim (nI_ge (a := 0) (b := 3) (by decide) (by decide) bq1)) (fun bq1 => ?_)
    refine j_aload_n d_Mo_tellAsked_9 rfl rfl ?_
    refine j_getr d_Mo_tellAsked_10 f_Mo_19 rfl rfl (by decide) rfl ?_
    refine j_iconst (v := 3) d_Mo_tellAsked_13 rfl ?_
    refine j_iload_n d_Mo_tellAsked_14 rfl rfl ?_
    refine j_imul d_Mo_tellAsked_15 ?_
    refine j_iload_n d_Mo_tellAsked_16 rfl rfl ?_
    refine j_iadd d_Mo_tellAsked_17 ?_
    refine j_iav d_Mo_tellAsked_18 rfl (by decide) (j := 3 * r) (by rw [m3_0]; exact nI_add _ 0) (by omega) (by decide) ((show h1 51 (3 * r) = nI (Z.2.1.2.1.2.2.2.2.1 r) by rw [y1.1 51 (by decide) (by decide)]; exact (hJ.2.2.2.2 r hj1).1)) ?_
    refine j_goto (tgt := 27) d_Mo_tellAsked_19 rfl ?_
    refine j_iret d_Mo_tellAsked_27 rfl ?_
    exact q_i1 (hF _ (y1.mono (by decide) (by decide))) rfl
  · subst e
    have hs : s_asked Z (nI r) (nI 1) = nI (Z.2.1.2.1.2.2.2.2.2.1 r) := by simp [s_asked, ix1, ix2]
    rw [hs] at hF
    refine r_C_of (by decide +kernel) (Nat.le_of_ble_eq_true rfl) ?_
    refine j_ls (ls' := [(0, _), (1, _), (2, _)]) rfl ?_
    refine j_aload_n d_Mo_tellAsked_0 rfl rfl ?_
    refine q_v (s_Mo_tellAsked_1 rfl (by decide)) rfl (Nat.le_of_ble_eq_true rfl) (Nat.le_of_ble_eq_true rfl) ?_
    refine c_Mo_begin hJ ok3 (fun h1 y1 t1 => ?_)
    refine j_iload_n d_Mo_tellAsked_4 rfl rfl ?_
    refine j_iconst (v := 3) d_Mo_tellAsked_5 rfl ?_
    refine j_icmp_ge (tgt := 22) d_Mo_tellAsked_6 rfl (fun bq1 => False.elim (nI_ge (a := 1) (b := 3) (by decide) (by decide) bq1)) (fun bq1 => ?_)
    refine j_aload_n d_Mo_tellAsked_9 rfl rfl ?_
    refine j_getr d_Mo_tellAsked_10 f_Mo_19 rfl rfl (by decide) rfl ?_
    refine j_iconst (v := 3) d_Mo_tellAsked_13 rfl ?_
    refine j_iload_n d_Mo_tellAsked_14 rfl rfl ?_
    refine j_imul d_Mo_tellAsked_15 ?_
    refine j_iload_n d_Mo_tellAsked_16 rfl rfl ?_
    refine j_iadd d_Mo_tellAsked_17 ?_
    refine j_iav d_Mo_tellAsked_18 rfl (by decide) (j := 3 * r + 1) (by rw [m3_0]; exact nI_add _ 1) (by omega) (by decide) ((show h1 51 (3 * r + 1) = nI (Z.2.1.2.1.2.2.2.2.2.1 r) by rw [y1.1 51 (by decide) (by decide)]; exact (hJ.2.2.2.2 r hj1).2.1)) ?_
    refine j_goto (tgt := 27) d_Mo_tellAsked_19 rfl ?_
    refine j_iret d_Mo_tellAsked_27 rfl ?_
    exact q_i1 (hF _ (y1.mono (by decide) (by decide))) rfl
  · subst e
    have hs : s_asked Z (nI r) (nI 2) = nI (Z.2.1.2.1.2.2.2.2.2.2 r) := by simp [s_asked, ix1, ix2]
    rw [hs] at hF
    refine r_C_of (by decide +kernel) (Nat.le_of_ble_eq_true rfl) ?_
    refine j_ls (ls' := [(0, _), (1, _), (2, _)]) rfl ?_
    refine j_aload_n d_Mo_tellAsked_0 rfl rfl ?_
    refine q_v (s_Mo_tellAsked_1 rfl (by decide)) rfl (Nat.le_of_ble_eq_true rfl) (Nat.le_of_ble_eq_true rfl) ?_
    refine c_Mo_begin hJ ok3 (fun h1 y1 t1 => ?_)
    refine j_iload_n d_Mo_tellAsked_4 rfl rfl ?_
    refine j_iconst (v := 3) d_Mo_tellAsked_5 rfl ?_
    refine j_icmp_ge (tgt := 22) d_Mo_tellAsked_6 rfl (fun bq1 => False.elim (nI_ge (a := 2) (b := 3) (by decide) (by decide) bq1)) (fun bq1 => ?_)
    refine j_aload_n d_Mo_tellAsked_9 rfl rfl ?_
    refine j_getr d_Mo_tellAsked_10 f_Mo_19 rfl rfl (by decide) rfl ?_
    refine j_iconst (v := 3) d_Mo_tellAsked_13 rfl ?_
    refine j_iload_n d_Mo_tellAsked_14 rfl rfl ?_
    refine j_imul d_Mo_tellAsked_15 ?_
    refine j_iload_n d_Mo_tellAsked_16 rfl rfl ?_
    refine j_iadd d_Mo_tellAsked_17 ?_
    refine j_iav d_Mo_tellAsked_18 rfl (by decide) (j := 3 * r + 2) (by rw [m3_0]; exact nI_add _ 2) (by omega) (by decide) ((show h1 51 (3 * r + 2) = nI (Z.2.1.2.1.2.2.2.2.2.2 r) by rw [y1.1 51 (by decide) (by decide)]; exact (hJ.2.2.2.2 r hj1).2.2)) ?_
    refine j_goto (tgt := 27) d_Mo_tellAsked_19 rfl ?_
    refine j_iret d_Mo_tellAsked_27 rfl ?_
    exact q_i1 (hF _ (y1.mono (by decide) (by decide))) rfl
  · subst e
    have hs : s_asked Z (nI r) (nI 3) = nI (a_dn Z.2.1.1 Z.2.1.2.1.1 Z.2.1.2.1.2.1 (Z.2.1.2.1.2.2.2.2.1 r) (Z.2.1.2.1.2.2.2.2.2.1 r)) := by simp [s_asked, ix1, ix2]
    rw [hs] at hF
    refine r_C_of (by decide +kernel) (Nat.le_of_ble_eq_true rfl) ?_
    refine j_ls (ls' := [(0, _), (1, _), (2, _)]) rfl ?_
    refine j_aload_n d_Mo_tellAsked_0 rfl rfl ?_
    refine q_v (s_Mo_tellAsked_1 rfl (by decide)) rfl (Nat.le_of_ble_eq_true rfl) (Nat.le_of_ble_eq_true rfl) ?_
    refine c_Mo_begin hJ ok3 (fun h1 y1 t1 => ?_)
    refine j_iload_n d_Mo_tellAsked_4 rfl rfl ?_
    refine j_iconst (v := 3) d_Mo_tellAsked_5 rfl ?_
    refine j_icmp_ge (tgt := 22) d_Mo_tellAsked_6 rfl (fun bq1 => ?_) (fun bq1 => False.elim (bq1 (nI_le (a := 3) (b := 3) (by decide) (by decide))))
    refine j_aload_n d_Mo_tellAsked_22 rfl rfl ?_
    refine j_iload_n d_Mo_tellAsked_23 rfl rfl ?_
    refine q_i (s_Mo_tellAsked_24 rfl (by decide)) rfl (Nat.le_of_ble_eq_true rfl) (Nat.le_of_ble_eq_true rfl) ?_
    refine c_Mo_doneThen (mN.ey y1 (by decide) (by decide) (by decide) (by decide) (by decide)) od t1 ok (by omega) hj1 rfl ?_
    refine j_iret d_Mo_tellAsked_27 rfl ?_
    exact q_i1 (hF _ (y1.mono (by decide) (by decide))) rfl
set_option maxRecDepth 100000 in
set_option maxHeartbeats 4000000 in
theorem c_Mo_asked {G : r_X} {d : Nat} {h : r_HI} {p q : Nat} {z : r_HL} {F : Int32 → r_HI → r_HR → r_HL → Prop} {Z : a_Z} {x w : Int32} (hM : p_M h Z) (ho : a_zok Z) (hF : ∀ h', r_ey r_As r_Js h h' → F (s_asked Z x w) h' (r_gp p q) z) : r_Ci G m_Mo_asked (d + 20) 61 [.ref (G.2.1 + 47), .int x, .int w] 61 h (r_gp p q) z F := by
  obtain ⟨mG, mN, mJ0, m6, mW, mS, m11, m20, mkk, mkp⟩ := id hM
  obtain ⟨op, ⟨od, ok, otk, ow, os, okd⟩, o3, o4, o5, o6, o7⟩ := id ho
  obtain ⟨od1, od2, od3, od4⟩ := id od
  obtain ⟨ok1, ok2, ok3, ok4⟩ := id ok
  have os1 := os.1
  have op1 := op.1
  have t9 : (h 47 10 - 1).toInt64.toInt = (Z.2.1.2.1.2.2.2.1 : Int) - 1 := by
    rw [Int32.toInt_toInt64, mJ0.2.2.2.1]
    exact pk_sub_toInt (a := Z.2.1.2.1.2.2.2.1) (b := 1) (by omega) (by decide)
  rcases ixc x Z.2.1.2.1.2.2.2.1 with ⟨ix1, hr1⟩ | ⟨r, hj1, e1, ix1, t1⟩
  · have hs : s_asked Z x w = -101 := by simp [s_asked, ix1]
    rw [hs] at hF
    refine r_C_of (by decide +kernel) (Nat.le_of_ble_eq_true rfl) ?_
    refine j_ls (ls' := [(0, _), (1, _), (2, _)]) rfl ?_
    refine j_iload_n d_Mo_asked_0 rfl rfl ?_
    refine j_i2l d_Mo_asked_1 ?_
    refine j_lconst (v := 0) d_Mo_asked_2 rfl ?_
    refine j_aload_n d_Mo_asked_3 rfl rfl ?_
    refine j_geti d_Mo_asked_4 f_Mo_114 rfl rfl (by decide) ?_
    refine j_iconst (v := 1) d_Mo_asked_7 rfl ?_
    refine j_isub d_Mo_asked_8 ?_
    refine j_i2l d_Mo_asked_9 ?_
    refine q_i s_Mo_asked_10 rfl (Nat.le_of_ble_eq_true rfl) (Nat.le_of_ble_eq_true rfl) ?_
    refine c_inN 0 ((Z.2.1.2.1.2.2.2.1 : Int) - 1) rfl t9 (by omega) ?_
    refine j_if_ne (tgt := 19) d_Mo_asked_13 rfl (fun bq1 => False.elim (bq1 rfl)) (fun bq1 => ?_)
    refine j_bipush (v := (-101)) d_Mo_asked_16 (by decide) ?_
    refine j_iret d_Mo_asked_18 rfl ?_
    exact q_i1 (hF _ r_ey.rf) rfl
  · rcases ixc w 4 with ⟨ix2, hr2⟩ | ⟨v, hj2, e2, ix2, t2⟩
    · have hs : s_asked Z x w = -102 := by simp [s_asked, ix1, ix2]
      rw [hs] at hF
      refine r_C_of (by decide +kernel) (Nat.le_of_ble_eq_true rfl) ?_
      refine j_ls (ls' := [(0, _), (1, _), (2, _)]) rfl ?_
      refine j_iload_n d_Mo_asked_0 rfl rfl ?_
      refine j_i2l d_Mo_asked_1 ?_
      refine j_lconst (v := 0) d_Mo_asked_2 rfl ?_
      refine j_aload_n d_Mo_asked_3 rfl rfl ?_
      refine j_geti d_Mo_asked_4 f_Mo_114 rfl rfl (by decide) ?_
      refine j_iconst (v := 1) d_Mo_asked_7 rfl ?_
      refine j_isub d_Mo_asked_8 ?_
      refine j_i2l d_Mo_asked_9 ?_
      refine q_i s_Mo_asked_10 rfl (Nat.le_of_ble_eq_true rfl) (Nat.le_of_ble_eq_true rfl) ?_
      refine c_inY 0 ((Z.2.1.2.1.2.2.2.1 : Int) - 1) rfl t9 (by omega) ?_
      refine j_if_ne (tgt := 19) d_Mo_asked_13 rfl (fun bq1 => ?_) (fun bq1 => False.elim (absurd bq1 (by decide)))
      refine j_iload_n d_Mo_asked_19 rfl rfl ?_
      refine j_i2l d_Mo_asked_20 ?_
      refine j_lconst (v := 0) d_Mo_asked_21 rfl ?_
      refine j_ldc2 d_Mo_asked_22 k_Mo_177 ?_
      refine q_i s_Mo_asked_25 rfl (Nat.le_of_ble_eq_true rfl) (Nat.le_of_ble_eq_true rfl) ?_
      refine c_inN 0 3 rfl rfl (by omega) ?_
      refine j_if_eq (tgt := 40) d_Mo_asked_28 rfl (fun bq2 => ?_) (fun bq2 => False.elim (bq2 rfl))
      refine j_bipush (v := (-102)) d_Mo_asked_40 (by decide) ?_
      refine j_iret d_Mo_asked_42 rfl ?_
      exact q_i1 (hF _ r_ey.rf) rfl
    · refine r_C_of (by decide +kernel) (Nat.le_of_ble_eq_true rfl) ?_
      refine j_ls (ls' := [(0, _), (1, _), (2, _)]) rfl ?_
      refine j_iload_n d_Mo_asked_0 rfl rfl ?_
      refine j_i2l d_Mo_asked_1 ?_
      refine j_lconst (v := 0) d_Mo_asked_2 rfl ?_
      refine j_aload_n d_Mo_asked_3 rfl rfl ?_
      refine j_geti d_Mo_asked_4 f_Mo_114 rfl rfl (by decide) ?_
      refine j_iconst (v := 1) d_Mo_asked_7 rfl ?_
      refine j_isub d_Mo_asked_8 ?_
      refine j_i2l d_Mo_asked_9 ?_
      refine q_i s_Mo_asked_10 rfl (Nat.le_of_ble_eq_true rfl) (Nat.le_of_ble_eq_true rfl) ?_
      refine c_inY 0 ((Z.2.1.2.1.2.2.2.1 : Int) - 1) rfl t9 (by omega) ?_
      refine j_if_ne (tgt := 19) d_Mo_asked_13 rfl (fun bq1 => ?_) (fun bq1 => False.elim (absurd bq1 (by decide)))
      refine j_iload_n d_Mo_asked_19 rfl rfl ?_
      refine j_i2l d_Mo_asked_20 ?_
      refine j_lconst (v := 0) d_Mo_asked_21 rfl ?_
      refine j_ldc2 d_Mo_asked_22 k_Mo_177 ?_
      refine q_i s_Mo_asked_25 rfl (Nat.le_of_ble_eq_true rfl) (Nat.le_of_ble_eq_true rfl) ?_
      refine c_inY 0 3 rfl rfl (by omega) ?_
      refine j_if_eq (tgt := 40) d_Mo_asked_28 rfl (fun bq2 => False.elim (absurd bq2 (by decide))) (fun bq2 => ?_)
      refine j_aload_n d_Mo_asked_31 rfl rfl ?_
      refine j_iload_n d_Mo_asked_32 rfl rfl ?_
      refine j_iload_n d_Mo_asked_33 rfl rfl ?_
      refine q_i (s_Mo_asked_34 rfl (by decide)) rfl (Nat.le_of_ble_eq_true rfl) (Nat.le_of_ble_eq_true rfl) ?_
      refine c_Mo_tellAsked hM ho hj1 e1 hj2 e2 (fun h1 y1 => ?_)
      refine j_goto (tgt := 42) d_Mo_asked_37 rfl ?_
      refine j_iret d_Mo_asked_42 rfl ?_
      exact q_i1 (hF _ y1) rfl
