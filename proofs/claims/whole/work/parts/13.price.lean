/-- the policies' places, and their kinds -/
def r_pol (P : Nat) : Prop := 19 ≤ P ∧ P ≤ 24
def r_kd (P : Nat) : Nat := ([0, 1, 2, 3, 4, 0] : List Nat).getD (P - 19) 0
theorem r_pol.cases {P : Nat} (h : r_pol P) : P = 19 ∨ P = 20 ∨ P = 21 ∨ P = 22 ∨ P = 23 ∨ P = 24 := by
  unfold r_pol at h
  omega
theorem a_dsI {x y : Nat} (hx : x < 1000) (hy : y < 1000) : (if 0 ≤ nI x - nI y then nI x - nI y else -(nI x - nI y)) = nI (a_ds x y) := by
  simp only [iI_n, iI_sub, iI_neg]
  unfold a_ds
  have e0 : (0 : Int32) = iI 0 := rfl
  by_cases h : x < y
  · rw [if_neg (by rw [e0, iI_le (by decide) (by decide) (by omega) (by omega)]; omega), if_pos h]
    congr 1
    omega
  · rw [if_pos (by rw [e0, iI_le (by decide) (by decide) (by omega) (by omega)]; omega), if_neg h]
    congr 1
    omega
set_option maxRecDepth 100000 in
set_option maxHeartbeats 4000000 in
theorem c_Dk_has_7 {G : r_X} {d : Nat} {h : r_HI} {p q : Nat} {z : r_HL} {F : Int32 → r_HI → r_HR → r_HL → Prop} {x : Int32} (hF : F (if 0 ≤ x ∧ x < h 7 4 then 1 else 0) h (r_gp p q) z) : r_Ci G m_Dk_has (d) 61 [.ref (G.2.1 + 7), .int x] 61 h (r_gp p q) z F := by
  refine r_C_of (by decide +kernel) (Nat.le_of_ble_eq_true rfl) ?_
  refine j_ls (ls' := [(0, _), (1, _)]) rfl ?_
  refine j_iload_n d_Dk_has_0 rfl rfl ?_
  refine j_if_lt (tgt := 16) d_Dk_has_1 rfl (fun bq1 => ?_) (fun bq1 => ?_)
  · refine j_iconst (v := 0) d_Dk_has_16 rfl ?_
    refine j_zret d_Dk_has_17 rfl (by decide) ?_
    exact q_i1 hF (by first | rw [if_pos ‹_›] | rw [if_neg ‹_›] | (simp only [Int32.lt_iff_toInt_lt, Int32.le_iff_toInt_le] at *; first | rw [if_pos (by omega)] | rw [if_neg (by omega)]))
  · refine j_iload_n d_Dk_has_4 rfl rfl ?_
    refine j_aload_n d_Dk_has_5 rfl rfl ?_
    refine j_geti d_Dk_has_6 f_Dk_21 rfl rfl (by decide) ?_
    refine j_icmp_ge (tgt := 16) d_Dk_has_9 rfl (fun bq2 => ?_) (fun bq2 => ?_)
    · refine j_iconst (v := 0) d_Dk_has_16 rfl ?_
      refine j_zret d_Dk_has_17 rfl (by decide) ?_
      exact q_i1 hF (by first | rw [if_pos ‹_›] | rw [if_neg ‹_›] | (simp only [Int32.lt_iff_toInt_lt, Int32.le_iff_toInt_le] at *; first | rw [if_pos (by omega)] | rw [if_neg (by omega)]))
    · refine j_iconst (v := 1) d_Dk_has_12 rfl ?_
      refine j_goto (tgt := 17) d_Dk_has_13 rfl ?_
      refine j_zret d_Dk_has_17 rfl (by decide) ?_
      exact q_i1 hF (by first | rw [if_pos ‹_›] | rw [if_neg ‹_›] | (simp only [Int32.lt_iff_toInt_lt, Int32.le_iff_toInt_le] at *; first | rw [if_pos (by omega)] | rw [if_neg (by omega)]))
set_option maxRecDepth 100000 in
set_option maxHeartbeats 4000000 in
theorem c_Dk_doneAt_7 {G : r_X} {d : Nat} {h : r_HI} {p q : Nat} {z : r_HL} {F : Int32 → r_HI → r_HR → r_HL → Prop} {D : a_D} (hD : p_D h 3 D) (ho : a_dok D) {K : a_K} (hK : p_K h 7 K) (hk : a_kok D K) {i : Nat} {a1 : Int32} (ht : K.1 < 2 ^ 27) (hi : i < K.2.2.2.1) (e1 : a1 = nI i) (hF : F (nI (a_dn D K.1 K.2.1 (K.2.2.2.2.1 i) (K.2.2.2.2.2.1 i))) h (r_gp p q) z) : r_Ci G m_Dk_doneAt (d + 2) 61 [.ref (G.2.1 + 7), .int a1] 61 h (r_gp p q) z F := by
  subst e1
  have hri : h 8 i = nI (K.2.2.2.2.1 i) := (hK.2.2.2.2 i hi).1
  have hpi : h 9 i = nI (K.2.2.2.2.2.1 i) := (hK.2.2.2.2 i hi).2.1
  have hsi : h 10 i = nI (K.2.2.2.2.2.2 i) := (hK.2.2.2.2 i hi).2.2
  obtain ⟨ha10, hw1, hn7, hall⟩ := id hk
  obtain ⟨hr1, hp1, hs1⟩ := hall i hi
  have h10 := ho.1
  refine r_C_of (by decide +kernel) (Nat.le_of_ble_eq_true rfl) ?_
  refine j_ls (ls' := [(0, _), (1, _)]) rfl ?_
  refine j_aload_n d_Dk_doneAt_0 rfl rfl ?_
  refine j_getr d_Dk_doneAt_1 f_Dk_38 rfl rfl (by decide) rfl ?_
  refine j_aload_n d_Dk_doneAt_4 rfl rfl ?_
  refine j_geti d_Dk_doneAt_5 f_Dk_25 rfl rfl (by decide) ?_
  refine j_aload_n d_Dk_doneAt_8 rfl rfl ?_
  refine j_geti d_Dk_doneAt_9 f_Dk_28 rfl rfl (by decide) ?_
  refine j_aload_n d_Dk_doneAt_12 rfl rfl ?_
  refine j_getr d_Dk_doneAt_13 f_Dk_9 rfl rfl (by decide) rfl ?_
  refine j_iload_n d_Dk_doneAt_16 rfl rfl ?_
  refine q_i s_Dk_doneAt_17 rfl (Nat.le_of_ble_eq_true rfl) (Nat.le_of_ble_eq_true rfl) ?_
  refine c_Ra_av (j := i) rfl (by decide) rfl (by omega) hri ?_
  refine j_aload_n d_Dk_doneAt_20 rfl rfl ?_
  refine j_getr d_Dk_doneAt_21 f_Dk_15 rfl rfl (by decide) rfl ?_
  refine j_iload_n d_Dk_doneAt_24 rfl rfl ?_
  refine q_i s_Dk_doneAt_25 rfl (Nat.le_of_ble_eq_true rfl) (Nat.le_of_ble_eq_true rfl) ?_
  refine c_Ra_av (j := i) rfl (by decide) rfl (by omega) hpi ?_
  refine q_i (s_Dk_doneAt_28 rfl (by decide)) rfl (Nat.le_of_ble_eq_true rfl) (Nat.le_of_ble_eq_true rfl) ?_
  refine c_Di_doneAt hD ho ht ha10 hr1 hp1 hK.2.1 hK.2.2.1 rfl rfl ?_
  refine j_iret d_Dk_doneAt_31 rfl ?_
  exact q_i1 hF rfl
set_option maxRecDepth 100000 in
set_option maxHeartbeats 4000000 in
theorem l_Dk_bitsOn {G : r_X} {d : Nat} {h : r_HI} {p q : Nat} {z : r_HL} {F : Int32 → r_HI → r_HR → r_HL → Prop} {D : a_D} (hD : p_D h 3 D) (ho : a_dok D) {K : a_K} (hK : p_K h 7 K) (hk : a_kok D K) {r : Nat} (hr : r < 10) (hF : F (a_bits K.2.2.2.2.1 r K.2.2.2.1) h (r_gp p q) z) : ∀ (e i : Nat) (v s : Int32), e + i = K.2.2.2.1 → v = nI i → s = a_bits K.2.2.2.2.1 r i → r_TM G m_Dk_bitsOn (d + 1) 61 61 (fun v h' g' z' => ∃ r, v = some (.int r) ∧ F r h' g' z') 4 [(0, .ref (G.2.1 + 7)), (1, .int (nI r)), (2, .int s), (3, .int v)] [] 61 h (r_gp p q) z := by
  intro e
  induction e with
  | zero =>
    intro i v s he hv hs
    subst hv
    subst hs
    have hn7 := hk.2.2.1
    refine j_iload_n d_Dk_bitsOn_4 rfl rfl ?_
    refine j_aload_n d_Dk_bitsOn_5 rfl rfl ?_
    refine j_geti d_Dk_bitsOn_6 f_Dk_21 rfl rfl (by decide) ?_
    refine j_icmp_ge (tgt := 42) d_Dk_bitsOn_9 rfl (fun bq1 => ?_) (fun bq1 => False.elim (bq1 (by rw [hK.1]; exact nI_le (by omega) (by omega))))
    refine j_iload_n d_Dk_bitsOn_42 rfl rfl ?_
    refine j_iret d_Dk_bitsOn_43 rfl ?_
    exact q_i1 hF (by rw [show i = K.2.2.2.1 by omega])
  | succ e ih =>
    intro i v s he hv hs
    subst hv
    have hi : i < K.2.2.2.1 := by omega
    have hri : h 8 i = nI (K.2.2.2.2.1 i) := (hK.2.2.2.2 i hi).1
    have hpi : h 9 i = nI (K.2.2.2.2.2.1 i) := (hK.2.2.2.2 i hi).2.1
    have hsi : h 10 i = nI (K.2.2.2.2.2.2 i) := (hK.2.2.2.2 i hi).2.2
    obtain ⟨ha10, hw1, hn7, hall⟩ := id hk
    obtain ⟨hr1, hp1, hs1⟩ := hall i hi
    have h10 := ho.1
    refine j_iload_n d_Dk_bitsOn_4 rfl rfl ?_
    refine j_aload_n d_Dk_bitsOn_5 rfl rfl ?_
    refine j_geti d_Dk_bitsOn_6 f_Dk_21 rfl rfl (by decide) ?_
    refine j_icmp_ge (tgt := 42) d_Dk_bitsOn_9 rfl (fun bq1 => False.elim (nI_ge (by omega) (by omega) (hK.1 ▸ bq1))) (fun bq1 => ?_)
    refine j_iload_n d_Dk_bitsOn_12 rfl rfl ?_
    refine j_bipush (v := 7) d_Dk_bitsOn_13 (by decide) ?_
    refine j_icmp_ge (tgt := 42) d_Dk_bitsOn_15 rfl (fun bq2 => False.elim (nI_ge (b := 7) (by omega) (by omega) bq2)) (fun bq2 => ?_)
    refine j_aload_n d_Dk_bitsOn_18 rfl rfl ?_
    refine j_getr d_Dk_bitsOn_19 f_Dk_9 rfl rfl (by decide) rfl ?_
    refine j_iload_n d_Dk_bitsOn_22 rfl rfl ?_
    refine q_i s_Dk_bitsOn_23 rfl (Nat.le_of_ble_eq_true rfl) (Nat.le_of_ble_eq_true rfl) ?_
    refine c_Ra_av (j := i) rfl (by decide) rfl (by omega) hri ?_
    refine j_iload_n d_Dk_bitsOn_26 rfl rfl ?_
    refine j_icmp_ne (tgt := 36) d_Dk_bitsOn_27 rfl (fun bq3 => ?_) (fun bq3 => ?_)
    · refine j_iinc (ls' := [(3, _), (0, _), (1, _), (2, _)]) d_Dk_bitsOn_36 rfl (by decide) rfl ?_
      refine j_goto (tgt := 4) d_Dk_bitsOn_39 rfl ?_
      refine j_pick [1, 2, 3, 0] (ls' := [(0, _), (1, _), (2, _), (3, _)]) rfl ?_
      refine ih (i + 1) _ _ (by omega) (nI_inc i) ?_
      rw [hs, a_bits]
      first
        | rw [if_neg (fun e9 => bq3 (by rw [e9]))]
        | rw [if_pos ((nI_eq (by omega) (by omega)).mp bq3)]
    · refine j_iload_n d_Dk_bitsOn_30 rfl rfl ?_
      refine j_iconst (v := 1) d_Dk_bitsOn_31 rfl ?_
      refine j_iload_n d_Dk_bitsOn_32 rfl rfl ?_
      refine j_ishl d_Dk_bitsOn_33 ?_
      refine j_ior d_Dk_bitsOn_34 ?_
      refine j_istore_n (ls' := [(2, _), (0, _), (1, _), (3, _)]) d_Dk_bitsOn_35 rfl (by decide) rfl ?_
      refine j_iinc (ls' := [(3, _), (2, _), (0, _), (1, _)]) d_Dk_bitsOn_36 rfl (by decide) rfl ?_
      refine j_goto (tgt := 4) d_Dk_bitsOn_39 rfl ?_
      refine j_pick [2, 3, 1, 0] (ls' := [(0, _), (1, _), (2, _), (3, _)]) rfl ?_
      refine ih (i + 1) _ _ (by omega) (nI_inc i) ?_
      rw [hs, a_bits]
      first
        | rw [if_neg (fun e9 => bq3 (by rw [e9]))]
        | rw [if_pos ((nI_eq (by omega) (by omega)).mp bq3)]
set_option maxRecDepth 100000 in
set_option maxHeartbeats 4000000 in
theorem c_Dk_bitsOn_7 {G : r_X} {d : Nat} {h : r_HI} {p q : Nat} {z : r_HL} {F : Int32 → r_HI → r_HR → r_HL → Prop} {D : a_D} (hD : p_D h 3 D) (ho : a_dok D) {K : a_K} (hK : p_K h 7 K) (hk : a_kok D K) {r : Nat} {a1 : Int32} (hr : r < 10) (e1 : a1 = nI r) (hF : F (a_bits K.2.2.2.2.1 r K.2.2.2.1) h (r_gp p q) z) : r_Ci G m_Dk_bitsOn (d + 1) 61 [.ref (G.2.1 + 7), .int a1] 61 h (r_gp p q) z F := by
  subst e1
  refine r_C_of (by decide +kernel) (Nat.le_of_ble_eq_true rfl) ?_
  refine j_ls (ls' := [(0, _), (1, _)]) rfl ?_
  refine j_iconst (v := 0) d_Dk_bitsOn_0 rfl ?_
  refine j_istore_n (ls' := [(2, _), (0, _), (1, _)]) d_Dk_bitsOn_1 rfl (by decide) rfl ?_
  refine j_iconst (v := 0) d_Dk_bitsOn_2 rfl ?_
  refine j_istore_n (ls' := [(3, _), (2, _), (0, _), (1, _)]) d_Dk_bitsOn_3 rfl (by decide) rfl ?_
  refine j_pick [2, 3, 1, 0] (ls' := [(0, _), (1, _), (2, _), (3, _)]) rfl ?_
  exact l_Dk_bitsOn hD ho hK hk hr hF K.2.2.2.1 0 _ _ (by omega) rfl rfl
set_option maxRecDepth 100000 in
set_option maxHeartbeats 4000000 in
theorem c_Fi_price {G : r_X} {d : Nat} {h : r_HI} {p q : Nat} {z : r_HL} {F : Int32 → r_HI → r_HR → r_HL → Prop} {a x : Nat} {y : Int32} (hF : F y h (r_gp p q) z) : r_Ci G m_Fi_price (d) 61 [.ref a, .ref x, .int y] 61 h (r_gp p q) z F := by
  refine r_C_of (by decide +kernel) (Nat.le_of_ble_eq_true rfl) ?_
  refine j_ls (ls' := [(0, _), (1, _), (2, _)]) rfl ?_
  refine j_iload_n d_Fi_price_0 rfl rfl ?_
  refine j_iret d_Fi_price_1 rfl ?_
  exact q_i1 hF rfl
set_option maxRecDepth 100000 in
set_option maxHeartbeats 4000000 in
theorem c_Ne_price_7 {G : r_X} {d : Nat} {h : r_HI} {p q : Nat} {z : r_HL} {F : Int32 → r_HI → r_HR → r_HL → Prop} {D : a_D} (hD : p_D h 3 D) (ho : a_dok D) {K : a_K} (hK : p_K h 7 K) (hk : a_kok D K) {P i : Nat} {a1 : Int32} (hi : i < K.2.2.2.1) (e1 : a1 = nI i) (hF : F (nI (a_pr D K 1 i)) h (r_gp p q) z) : r_Ci G m_Ne_price (d + 1) 61 [.ref (G.2.1 + P), .ref (G.2.1 + 7), .int a1] 61 h (r_gp p q) z F := by
  subst e1
  have hri : h 8 i = nI (K.2.2.2.2.1 i) := (hK.2.2.2.2 i hi).1
  have hpi : h 9 i = nI (K.2.2.2.2.2.1 i) := (hK.2.2.2.2 i hi).2.1
  have hsi : h 10 i = nI (K.2.2.2.2.2.2 i) := (hK.2.2.2.2 i hi).2.2
  obtain ⟨ha10, hw1, hn7, hall⟩ := id hk
  obtain ⟨hr1, hp1, hs1⟩ := hall i hi
  have h10 := ho.1
  refine r_C_of (by decide +kernel) (Nat.le_of_ble_eq_true rfl) ?_
  refine j_ls (ls' := [(0, _), (1, _), (2, _)]) rfl ?_
  refine j_aload_n d_Ne_price_0 rfl rfl ?_
  refine j_getr d_Ne_price_1 f_Ne_9 rfl rfl (by decide) rfl ?_
  refine j_iload_n d_Ne_price_4 rfl rfl ?_
  refine q_i s_Ne_price_5 rfl (Nat.le_of_ble_eq_true rfl) (Nat.le_of_ble_eq_true rfl) ?_
  refine c_Ra_av (j := i) rfl (by decide) rfl (by omega) hri ?_
  refine j_aload_n d_Ne_price_8 rfl rfl ?_
  refine j_geti d_Ne_price_9 f_Ne_19 rfl rfl (by decide) ?_
  refine j_isub d_Ne_price_12 ?_
  refine q_i s_Ne_price_13 rfl (Nat.le_of_ble_eq_true rfl) (Nat.le_of_ble_eq_true rfl) ?_
  refine c_Jm_abs ?_
  refine j_iret d_Ne_price_16 rfl ?_
  exact q_i1 hF (by rw [hK.2.2.1]; exact a_dsI (by omega) (by omega))
theorem a_ah1 {K : a_K} {i : Nat} (c1 : nI K.2.2.1 = 0) (c2 : nI K.2.1 < nI (K.2.2.2.2.1 i)) (hw : K.2.2.1 ≤ 1) (h1 : K.2.1 < 1000) (h2 : K.2.2.2.2.1 i < 1000) : (0 : Int32) = if a_ah K i then 1 else 0 := by
  rw [show (0 : Int32) = nI 0 from rfl, nI_eq (by omega) (by omega)] at c1
  rw [nI_ltI (by omega) (by omega)] at c2
  simp only [a_ah]
  split
  · rename_i hh
    first | omega | (simp; omega)
  · rename_i hh
    first | omega | (simp; omega)
theorem a_ah2 {K : a_K} {i : Nat} (c1 : nI K.2.2.1 = 0) (c2 : ¬ nI K.2.1 < nI (K.2.2.2.2.1 i)) (hw : K.2.2.1 ≤ 1) (h1 : K.2.1 < 1000) (h2 : K.2.2.2.2.1 i < 1000) : (1 : Int32) = if a_ah K i then 1 else 0 := by
  rw [show (0 : Int32) = nI 0 from rfl, nI_eq (by omega) (by omega)] at c1
  rw [nI_ltI (by omega) (by omega)] at c2
  simp only [a_ah]
  split
  · rename_i hh
    first | omega | (simp; omega)
  · rename_i hh
    first | omega | (simp; omega)
theorem a_ah3 {K : a_K} {i : Nat} (c1 : ¬ nI K.2.2.1 = 0) (c2 : nI (K.2.2.2.2.1 i) < nI K.2.1) (hw : K.2.2.1 ≤ 1) (h1 : K.2.1 < 1000) (h2 : K.2.2.2.2.1 i < 1000) : (0 : Int32) = if a_ah K i then 1 else 0 := by
  rw [show (0 : Int32) = nI 0 from rfl, nI_eq (by omega) (by omega)] at c1
  rw [nI_ltI (by omega) (by omega)] at c2
  simp only [a_ah]
  split
  · rename_i hh
    first | omega | (simp; omega)
  · rename_i hh
    first | omega | (simp; omega)
theorem a_ah4 {K : a_K} {i : Nat} (c1 : ¬ nI K.2.2.1 = 0) (c2 : ¬ nI (K.2.2.2.2.1 i) < nI K.2.1) (hw : K.2.2.1 ≤ 1) (h1 : K.2.1 < 1000) (h2 : K.2.2.2.2.1 i < 1000) : (1 : Int32) = if a_ah K i then 1 else 0 := by
  rw [show (0 : Int32) = nI 0 from rfl, nI_eq (by omega) (by omega)] at c1
  rw [nI_ltI (by omega) (by omega)] at c2
  simp only [a_ah]
  split
  · rename_i hh
    first | omega | (simp; omega)
  · rename_i hh
    first | omega | (simp; omega)
set_option maxRecDepth 100000 in
set_option maxHeartbeats 4000000 in
theorem c_Sw_isAhead_7 {G : r_X} {d : Nat} {h : r_HI} {p q : Nat} {z : r_HL} {F : Int32 → r_HI → r_HR → r_HL → Prop} {D : a_D} (hD : p_D h 3 D) (ho : a_dok D) {K : a_K} (hK : p_K h 7 K) (hk : a_kok D K) {i : Nat} {a1 : Int32} (hi : i < K.2.2.2.1) (e1 : a1 = nI i) (hF : F (if a_ah K i then 1 else 0) h (r_gp p q) z) : r_Ci G m_Sw_isAhead (d + 1) 61 [.ref (G.2.1 + 7), .int a1] 61 h (r_gp p q) z F := by
  subst e1
  have hri : h 8 i = nI (K.2.2.2.2.1 i) := (hK.2.2.2.2 i hi).1
  have hpi : h 9 i = nI (K.2.2.2.2.2.1 i) := (hK.2.2.2.2 i hi).2.1
  have hsi : h 10 i = nI (K.2.2.2.2.2.2 i) := (hK.2.2.2.2 i hi).2.2
  obtain ⟨ha10, hw1, hn7, hall⟩ := id hk
  obtain ⟨hr1, hp1, hs1⟩ := hall i hi
  have h10 := ho.1
  refine r_C_of (by decide +kernel) (Nat.le_of_ble_eq_true rfl) ?_
  refine j_ls (ls' := [(0, _), (1, _)]) rfl ?_
  refine j_aload_n d_Sw_isAhead_0 rfl rfl ?_
  refine j_getr d_Sw_isAhead_1 f_Sw_9 rfl rfl (by decide) rfl ?_
  refine j_iload_n d_Sw_isAhead_4 rfl rfl ?_
  refine q_i s_Sw_isAhead_5 rfl (Nat.le_of_ble_eq_true rfl) (Nat.le_of_ble_eq_true rfl) ?_
  refine c_Ra_av (j := i) rfl (by decide) rfl (by omega) hri ?_
  refine j_istore_n (ls' := [(2, _), (0, _), (1, _)]) d_Sw_isAhead_8 rfl (by decide) rfl ?_
  refine j_aload_n d_Sw_isAhead_9 rfl rfl ?_
  refine j_getz d_Sw_isAhead_10 f_Sw_35 rfl rfl (by decide) ?_
  refine j_if_eq (tgt := 32) d_Sw_isAhead_13 rfl (fun bq1 => ?_) (fun bq1 => ?_)
  · refine j_iload_n d_Sw_isAhead_32 rfl rfl ?_
    refine j_aload_n d_Sw_isAhead_33 rfl rfl ?_
    refine j_geti d_Sw_isAhead_34 f_Sw_19 rfl rfl (by decide) ?_
    refine j_icmp_gt (tgt := 44) d_Sw_isAhead_37 rfl (fun bq2 => ?_) (fun bq2 => ?_)
    · refine j_iconst (v := 0) d_Sw_isAhead_44 rfl ?_
      refine j_zret d_Sw_isAhead_45 rfl (by decide) ?_
      exact q_i1 hF (by rw [hK.2.2.2.1] at bq1; rw [hK.2.2.1] at bq2; first | exact a_ah1 bq1 bq2 hw1 (by omega) (by omega) | exact a_ah2 bq1 bq2 hw1 (by omega) (by omega) | exact a_ah3 bq1 bq2 hw1 (by omega) (by omega) | exact a_ah4 bq1 bq2 hw1 (by omega) (by omega))
    · refine j_iconst (v := 1) d_Sw_isAhead_40 rfl ?_
      refine j_goto (tgt := 45) d_Sw_isAhead_41 rfl ?_
      refine j_zret d_Sw_isAhead_45 rfl (by decide) ?_
      exact q_i1 hF (by rw [hK.2.2.2.1] at bq1; rw [hK.2.2.1] at bq2; first | exact a_ah1 bq1 bq2 hw1 (by omega) (by omega) | exact a_ah2 bq1 bq2 hw1 (by omega) (by omega) | exact a_ah3 bq1 bq2 hw1 (by omega) (by omega) | exact a_ah4 bq1 bq2 hw1 (by omega) (by omega))
  · refine j_iload_n d_Sw_isAhead_16 rfl rfl ?_
    refine j_aload_n d_Sw_isAhead_17 rfl rfl ?_
    refine j_geti d_Sw_isAhead_18 f_Sw_19 rfl rfl (by decide) ?_
    refine j_icmp_lt (tgt := 28) d_Sw_isAhead_21 rfl (fun bq2 => ?_) (fun bq2 => ?_)
    · refine j_iconst (v := 0) d_Sw_isAhead_28 rfl ?_
      refine j_goto (tgt := 45) d_Sw_isAhead_29 rfl ?_
      refine j_zret d_Sw_isAhead_45 rfl (by decide) ?_
      exact q_i1 hF (by rw [hK.2.2.2.1] at bq1; rw [hK.2.2.1] at bq2; first | exact a_ah1 bq1 bq2 hw1 (by omega) (by omega) | exact a_ah2 bq1 bq2 hw1 (by omega) (by omega) | exact a_ah3 bq1 bq2 hw1 (by omega) (by omega) | exact a_ah4 bq1 bq2 hw1 (by omega) (by omega))
    · refine j_iconst (v := 1) d_Sw_isAhead_24 rfl ?_
      refine j_goto (tgt := 45) d_Sw_isAhead_25 rfl ?_
      refine j_zret d_Sw_isAhead_45 rfl (by decide) ?_
      exact q_i1 hF (by rw [hK.2.2.2.1] at bq1; rw [hK.2.2.1] at bq2; first | exact a_ah1 bq1 bq2 hw1 (by omega) (by omega) | exact a_ah2 bq1 bq2 hw1 (by omega) (by omega) | exact a_ah3 bq1 bq2 hw1 (by omega) (by omega) | exact a_ah4 bq1 bq2 hw1 (by omega) (by omega))
set_option maxRecDepth 100000 in
set_option maxHeartbeats 4000000 in
theorem c_Sw_price_7 {G : r_X} {d : Nat} {h : r_HI} {p q : Nat} {z : r_HL} {F : Int32 → r_HI → r_HR → r_HL → Prop} {D : a_D} (hD : p_D h 3 D) (ho : a_dok D) {K : a_K} (hK : p_K h 7 K) (hk : a_kok D K) {P i : Nat} {a1 : Int32} (hi : i < K.2.2.2.1) (e1 : a1 = nI i) (hF : F (nI (a_pr D K 2 i)) h (r_gp p q) z) : r_Ci G m_Sw_price (d + 2) 61 [.ref (G.2.1 + P), .ref (G.2.1 + 7), .int a1] 61 h (r_gp p q) z F := by
  subst e1
  have hri : h 8 i = nI (K.2.2.2.2.1 i) := (hK.2.2.2.2 i hi).1
  have hpi : h 9 i = nI (K.2.2.2.2.2.1 i) := (hK.2.2.2.2 i hi).2.1
  have hsi : h 10 i = nI (K.2.2.2.2.2.2 i) := (hK.2.2.2.2 i hi).2.2
  obtain ⟨ha10, hw1, hn7, hall⟩ := id hk
  obtain ⟨hr1, hp1, hs1⟩ := hall i hi
  have h10 := ho.1
  refine r_C_of (by decide +kernel) (Nat.le_of_ble_eq_true rfl) ?_
  refine j_ls (ls' := [(0, _), (1, _), (2, _)]) rfl ?_
  refine j_aload_n d_Sw_price_0 rfl rfl ?_
  refine j_getr d_Sw_price_1 f_Sw_9 rfl rfl (by decide) rfl ?_
  refine j_iload_n d_Sw_price_4 rfl rfl ?_
  refine q_i s_Sw_price_5 rfl (Nat.le_of_ble_eq_true rfl) (Nat.le_of_ble_eq_true rfl) ?_
  refine c_Ra_av (j := i) rfl (by decide) rfl (by omega) hri ?_
  refine j_aload_n d_Sw_price_8 rfl rfl ?_
  refine j_geti d_Sw_price_9 f_Sw_19 rfl rfl (by decide) ?_
  refine j_isub d_Sw_price_12 ?_
  refine q_i s_Sw_price_13 rfl (Nat.le_of_ble_eq_true rfl) (Nat.le_of_ble_eq_true rfl) ?_
  refine c_Jm_abs ?_
  rw [hK.2.2.1, a_dsI (by omega) (by omega)]
  refine j_istore_n (ls' := [(3, _), (0, _), (1, _), (2, _)]) d_Sw_price_16 rfl (by decide) rfl ?_
  refine j_aload_n d_Sw_price_17 rfl rfl ?_
  refine j_iload_n d_Sw_price_18 rfl rfl ?_
  refine q_i s_Sw_price_19 rfl (Nat.le_of_ble_eq_true rfl) (Nat.le_of_ble_eq_true rfl) ?_
  refine c_Sw_isAhead_7 hD ho hK hk hi rfl ?_
  refine j_if_eq (tgt := 29) d_Sw_price_22 rfl (fun bq1 => ?_) (fun bq1 => ?_)
  · refine j_bipush (v := 10) d_Sw_price_29 (by decide) ?_
    refine j_iload_n d_Sw_price_31 rfl rfl ?_
    refine j_iadd d_Sw_price_32 ?_
    refine j_iret d_Sw_price_33 rfl ?_
    exact q_i1 hF (by first | (have c4 : ¬ a_ah K i = true := t10.mp bq1; show nI 10 + _ = nI (if a_ah K i = true then _ else _); rw [if_neg c4, nI_add]) | (have c4 : a_ah K i = true := Decidable.byContradiction (fun e9 => bq1 (t10.mpr e9)); show _ = nI (if a_ah K i = true then _ else _); rw [if_pos c4]))
  · refine j_iload_n d_Sw_price_25 rfl rfl ?_
    refine j_goto (tgt := 33) d_Sw_price_26 rfl ?_
    refine j_iret d_Sw_price_33 rfl ?_
    exact q_i1 hF (by first | (have c4 : ¬ a_ah K i = true := t10.mp bq1; show nI 10 + _ = nI (if a_ah K i = true then _ else _); rw [if_neg c4, nI_add]) | (have c4 : a_ah K i = true := Decidable.byContradiction (fun e9 => bq1 (t10.mpr e9)); show _ = nI (if a_ah K i = true then _ else _); rw [if_pos c4]))
set_option maxRecDepth 100000 in
set_option maxHeartbeats 4000000 in
theorem c_Sw_turns_7 {G : r_X} {d : Nat} {h : r_HI} {p q : Nat} {z : r_HL} {F : Int32 → r_HI → r_HR → r_HL → Prop} {D : a_D} (hD : p_D h 3 D) (ho : a_dok D) {K : a_K} (hK : p_K h 7 K) (hk : a_kok D K) {P i : Nat} {a1 : Int32} (hi : i < K.2.2.2.1) (e1 : a1 = nI i) (hF : F (if a_ah K i then 0 else 1) h (r_gp p q) z) : r_Ci G m_Sw_turns (d + 2) 61 [.ref (G.2.1 + P), .ref (G.2.1 + 7), .int a1] 61 h (r_gp p q) z F := by
  subst e1
  have hri : h 8 i = nI (K.2.2.2.2.1 i) := (hK.2.2.2.2 i hi).1
  have hpi : h 9 i = nI (K.2.2.2.2.2.1 i) := (hK.2.2.2.2 i hi).2.1
  have hsi : h 10 i = nI (K.2.2.2.2.2.2 i) := (hK.2.2.2.2 i hi).2.2
  obtain ⟨ha10, hw1, hn7, hall⟩ := id hk
  obtain ⟨hr1, hp1, hs1⟩ := hall i hi
  have h10 := ho.1
  refine r_C_of (by decide +kernel) (Nat.le_of_ble_eq_true rfl) ?_
  refine j_ls (ls' := [(0, _), (1, _), (2, _)]) rfl ?_
  refine j_aload_n d_Sw_turns_0 rfl rfl ?_
  refine j_iload_n d_Sw_turns_1 rfl rfl ?_
  refine q_i s_Sw_turns_2 rfl (Nat.le_of_ble_eq_true rfl) (Nat.le_of_ble_eq_true rfl) ?_
  refine c_Sw_isAhead_7 hD ho hK hk hi rfl ?_
  refine j_if_ne (tgt := 12) d_Sw_turns_5 rfl (fun bq1 => ?_) (fun bq1 => ?_)
  · refine j_iconst (v := 0) d_Sw_turns_12 rfl ?_
    refine j_zret d_Sw_turns_13 rfl (by decide) ?_
    exact q_i1 hF (by first | (have c4 : ¬ a_ah K i = true := t10.mp bq1; rw [if_neg c4]) | (have c4 : a_ah K i = true := Decidable.byContradiction (fun e9 => bq1 (t10.mpr e9)); rw [if_pos c4]))
  · refine j_iconst (v := 1) d_Sw_turns_8 rfl ?_
    refine j_goto (tgt := 13) d_Sw_turns_9 rfl ?_
    refine j_zret d_Sw_turns_13 rfl (by decide) ?_
    exact q_i1 hF (by first | (have c4 : ¬ a_ah K i = true := t10.mp bq1; rw [if_neg c4]) | (have c4 : a_ah K i = true := Decidable.byContradiction (fun e9 => bq1 (t10.mpr e9)); rw [if_pos c4]))
set_option maxRecDepth 100000 in
set_option maxHeartbeats 4000000 in
theorem c_Ro_price_7 {G : r_X} {d : Nat} {h : r_HI} {p q : Nat} {z : r_HL} {F : Int32 → r_HI → r_HR → r_HL → Prop} {D : a_D} (hD : p_D h 3 D) (ho : a_dok D) {K : a_K} (hK : p_K h 7 K) (hk : a_kok D K) {P i : Nat} {a1 : Int32} (hi : i < K.2.2.2.1) (e1 : a1 = nI i) (hF : F (nI (a_pr D K 3 i)) h (r_gp p q) z) : r_Ci G m_Ro_price (d + 1) 61 [.ref (G.2.1 + P), .ref (G.2.1 + 7), .int a1] 61 h (r_gp p q) z F := by
  subst e1
  have hri : h 8 i = nI (K.2.2.2.2.1 i) := (hK.2.2.2.2 i hi).1
  have hpi : h 9 i = nI (K.2.2.2.2.2.1 i) := (hK.2.2.2.2 i hi).2.1
  have hsi : h 10 i = nI (K.2.2.2.2.2.2 i) := (hK.2.2.2.2 i hi).2.2
  obtain ⟨ha10, hw1, hn7, hall⟩ := id hk
  obtain ⟨hr1, hp1, hs1⟩ := hall i hi
  have h10 := ho.1
  refine r_C_of (by decide +kernel) (Nat.le_of_ble_eq_true rfl) ?_
  refine j_ls (ls' := [(0, _), (1, _), (2, _)]) rfl ?_
  refine j_aload_n d_Ro_price_0 rfl rfl ?_
  refine j_getr d_Ro_price_1 f_Ro_9 rfl rfl (by decide) rfl ?_
  refine j_iload_n d_Ro_price_4 rfl rfl ?_
  refine q_i s_Ro_price_5 rfl (Nat.le_of_ble_eq_true rfl) (Nat.le_of_ble_eq_true rfl) ?_
  refine c_Ra_av (j := i) rfl (by decide) rfl (by omega) hri ?_
  refine j_istore_n (ls' := [(3, _), (0, _), (1, _), (2, _)]) d_Ro_price_8 rfl (by decide) rfl ?_
  refine j_iload_n d_Ro_price_9 rfl rfl ?_
  refine j_aload_n d_Ro_price_10 rfl rfl ?_
  refine j_geti d_Ro_price_11 f_Ro_19 rfl rfl (by decide) ?_
  refine j_icmp_lt (tgt := 26) d_Ro_price_14 rfl (fun bq1 => ?_) (fun bq1 => ?_)
  · refine j_bipush (v := 10) d_Ro_price_26 (by decide) ?_
    refine j_iload_n d_Ro_price_28 rfl rfl ?_
    refine j_iadd d_Ro_price_29 ?_
    refine j_iret d_Ro_price_30 rfl ?_
    exact q_i1 hF (by rw [hK.2.2.1] at bq1; first | (have c4 := (nI_ltI (by omega) (by omega)).mp bq1; show nI 10 + _ = nI (if K.2.1 ≤ K.2.2.2.2.1 i then _ else _); rw [if_neg (by omega), nI_add]) | (have c4 : ¬ K.2.2.2.2.1 i < K.2.1 := fun e9 => bq1 ((nI_ltI (by omega) (by omega)).mpr e9); show _ = nI (if K.2.1 ≤ K.2.2.2.2.1 i then _ else _); rw [hK.2.2.1, if_pos (by omega), pk_sub (by omega)]))
  · refine j_iload_n d_Ro_price_17 rfl rfl ?_
    refine j_aload_n d_Ro_price_18 rfl rfl ?_
    refine j_geti d_Ro_price_19 f_Ro_19 rfl rfl (by decide) ?_
    refine j_isub d_Ro_price_22 ?_
    refine j_goto (tgt := 30) d_Ro_price_23 rfl ?_
    refine j_iret d_Ro_price_30 rfl ?_
    exact q_i1 hF (by rw [hK.2.2.1] at bq1; first | (have c4 := (nI_ltI (by omega) (by omega)).mp bq1; show nI 10 + _ = nI (if K.2.1 ≤ K.2.2.2.2.1 i then _ else _); rw [if_neg (by omega), nI_add]) | (have c4 : ¬ K.2.2.2.2.1 i < K.2.1 := fun e9 => bq1 ((nI_ltI (by omega) (by omega)).mpr e9); show _ = nI (if K.2.1 ≤ K.2.2.2.2.1 i then _ else _); rw [hK.2.2.1, if_pos (by omega), pk_sub (by omega)]))
set_option maxRecDepth 100000 in
set_option maxHeartbeats 4000000 in
theorem c_So_price_7 {G : r_X} {d : Nat} {h : r_HI} {p q : Nat} {z : r_HL} {F : Int32 → r_HI → r_HR → r_HL → Prop} {D : a_D} (hD : p_D h 3 D) (ho : a_dok D) {K : a_K} (hK : p_K h 7 K) (hk : a_kok D K) {P i : Nat} {a1 : Int32} (hi : i < K.2.2.2.1) (e1 : a1 = nI i) (ht : K.1 < 2 ^ 27) (hF : F (nI (a_pr D K 4 i)) h (r_gp p q) z) : r_Ci G m_So_price (d + 2) 61 [.ref (G.2.1 + P), .ref (G.2.1 + 7), .int a1] 61 h (r_gp p q) z F := by
  subst e1
  have hri : h 8 i = nI (K.2.2.2.2.1 i) := (hK.2.2.2.2 i hi).1
  have hpi : h 9 i = nI (K.2.2.2.2.2.1 i) := (hK.2.2.2.2 i hi).2.1
  have hsi : h 10 i = nI (K.2.2.2.2.2.2 i) := (hK.2.2.2.2 i hi).2.2
  obtain ⟨ha10, hw1, hn7, hall⟩ := id hk
  obtain ⟨hr1, hp1, hs1⟩ := hall i hi
  have h10 := ho.1
  refine r_C_of (by decide +kernel) (Nat.le_of_ble_eq_true rfl) ?_
  refine j_ls (ls' := [(0, _), (1, _), (2, _)]) rfl ?_
  refine j_aload_n d_So_price_0 rfl rfl ?_
  refine j_getr d_So_price_1 f_So_9 rfl rfl (by decide) rfl ?_
  refine j_aload_n d_So_price_4 rfl rfl ?_
  refine j_geti d_So_price_5 f_So_15 rfl rfl (by decide) ?_
  refine j_aload_n d_So_price_8 rfl rfl ?_
  refine j_geti d_So_price_9 f_So_19 rfl rfl (by decide) ?_
  refine j_aload_n d_So_price_12 rfl rfl ?_
  refine j_getr d_So_price_13 f_So_22 rfl rfl (by decide) rfl ?_
  refine j_iload_n d_So_price_16 rfl rfl ?_
  refine q_i s_So_price_17 rfl (Nat.le_of_ble_eq_true rfl) (Nat.le_of_ble_eq_true rfl) ?_
  refine c_Ra_av (j := i) rfl (by decide) rfl (by omega) hri ?_
  refine j_aload_n d_So_price_20 rfl rfl ?_
  refine j_getr d_So_price_21 f_So_30 rfl rfl (by decide) rfl ?_
  refine j_iload_n d_So_price_24 rfl rfl ?_
  refine q_i s_So_price_25 rfl (Nat.le_of_ble_eq_true rfl) (Nat.le_of_ble_eq_true rfl) ?_
  refine c_Ra_av (j := i) rfl (by decide) rfl (by omega) hpi ?_
  refine q_i (s_So_price_28 rfl (by decide)) rfl (Nat.le_of_ble_eq_true rfl) (Nat.le_of_ble_eq_true rfl) ?_
  refine c_Di_doneAt hD ho ht ha10 hr1 hp1 hK.2.1 hK.2.2.1 rfl rfl ?_
  refine j_iret d_So_price_31 rfl ?_
  exact q_i1 hF rfl
set_option maxRecDepth 100000 in
set_option maxHeartbeats 4000000 in
theorem c_Dk_has_40 {G : r_X} {d : Nat} {h : r_HI} {p q : Nat} {z : r_HL} {F : Int32 → r_HI → r_HR → r_HL → Prop} {x : Int32} (hF : F (if 0 ≤ x ∧ x < h 40 4 then 1 else 0) h (r_gp p q) z) : r_Ci G m_Dk_has (d) 61 [.ref (G.2.1 + 40), .int x] 61 h (r_gp p q) z F := by
  refine r_C_of (by decide +kernel) (Nat.le_of_ble_eq_true rfl) ?_
  refine j_ls (ls' := [(0, _), (1, _)]) rfl ?_
  refine j_iload_n d_Dk_has_0 rfl rfl ?_
  refine j_if_lt (tgt := 16) d_Dk_has_1 rfl (fun bq1 => ?_) (fun bq1 => ?_)
  · refine j_iconst (v := 0) d_Dk_has_16 rfl ?_
    refine j_zret d_Dk_has_17 rfl (by decide) ?_
    exact q_i1 hF (by first | rw [if_pos ‹_›] | rw [if_neg ‹_›] | (simp only [Int32.lt_iff_toInt_lt, Int32.le_iff_toInt_le] at *; first | rw [if_pos (by omega)] | rw [if_neg (by omega)]))
  · refine j_iload_n d_Dk_has_4 rfl rfl ?_
    refine j_aload_n d_Dk_has_5 rfl rfl ?_
    refine j_geti d_Dk_has_6 f_Dk_21 rfl rfl (by decide) ?_
    refine j_icmp_ge (tgt := 16) d_Dk_has_9 rfl (fun bq2 => ?_) (fun bq2 => ?_)
    · refine j_iconst (v := 0) d_Dk_has_16 rfl ?_
      refine j_zret d_Dk_has_17 rfl (by decide) ?_
      exact q_i1 hF (by first | rw [if_pos ‹_›] | rw [if_neg ‹_›] | (simp only [Int32.lt_iff_toInt_lt, Int32.le_iff_toInt_le] at *; first | rw [if_pos (by omega)] | rw [if_neg (by omega)]))
    · refine j_iconst (v := 1) d_Dk_has_12 rfl ?_
      refine j_goto (tgt := 17) d_Dk_has_13 rfl ?_
      refine j_zret d_Dk_has_17 rfl (by decide) ?_
      exact q_i1 hF (by first | rw [if_pos ‹_›] | rw [if_neg ‹_›] | (simp only [Int32.lt_iff_toInt_lt, Int32.le_iff_toInt_le] at *; first | rw [if_pos (by omega)] | rw [if_neg (by omega)]))
set_option maxRecDepth 100000 in
set_option maxHeartbeats 4000000 in
theorem c_Ne_price_40 {G : r_X} {d : Nat} {h : r_HI} {p q : Nat} {z : r_HL} {F : Int32 → r_HI → r_HR → r_HL → Prop} {D : a_D} (hD : p_D h 3 D) (ho : a_dok D) {K : a_K} (hK : p_K h 40 K) (hk : a_kok D K) {P i : Nat} {a1 : Int32} (hi : i < K.2.2.2.1) (e1 : a1 = nI i) (hF : F (nI (a_pr D K 1 i)) h (r_gp p q) z) : r_Ci G m_Ne_price (d + 1) 61 [.ref (G.2.1 + P), .ref (G.2.1 + 40), .int a1] 61 h (r_gp p q) z F := by
  subst e1
  have hri : h 41 i = nI (K.2.2.2.2.1 i) := (hK.2.2.2.2 i hi).1
  have hpi : h 42 i = nI (K.2.2.2.2.2.1 i) := (hK.2.2.2.2 i hi).2.1
  have hsi : h 43 i = nI (K.2.2.2.2.2.2 i) := (hK.2.2.2.2 i hi).2.2
  obtain ⟨ha10, hw1, hn7, hall⟩ := id hk
  obtain ⟨hr1, hp1, hs1⟩ := hall i hi
  have h10 := ho.1
  refine r_C_of (by decide +kernel) (Nat.le_of_ble_eq_true rfl) ?_
  refine j_ls (ls' := [(0, _), (1, _), (2, _)]) rfl ?_
  refine j_aload_n d_Ne_price_0 rfl rfl ?_
  refine j_getr d_Ne_price_1 f_Ne_9 rfl rfl (by decide) rfl ?_
  refine j_iload_n d_Ne_price_4 rfl rfl ?_
  refine q_i s_Ne_price_5 rfl (Nat.le_of_ble_eq_true rfl) (Nat.le_of_ble_eq_true rfl) ?_
  refine c_Ra_av (j := i) rfl (by decide) rfl (by omega) hri ?_
  refine j_aload_n d_Ne_price_8 rfl rfl ?_
  refine j_geti d_Ne_price_9 f_Ne_19 rfl rfl (by decide) ?_
  refine j_isub d_Ne_price_12 ?_
  refine q_i s_Ne_price_13 rfl (Nat.le_of_ble_eq_true rfl) (Nat.le_of_ble_eq_true rfl) ?_
  refine c_Jm_abs ?_
  refine j_iret d_Ne_price_16 rfl ?_
  exact q_i1 hF (by rw [hK.2.2.1]; exact a_dsI (by omega) (by omega))
set_option maxRecDepth 100000 in
set_option maxHeartbeats 4000000 in
theorem c_Sw_isAhead_40 {G : r_X} {d : Nat} {h : r_HI} {p q : Nat} {z : r_HL} {F : Int32 → r_HI → r_HR → r_HL → Prop} {D : a_D} (hD : p_D h 3 D) (ho : a_dok D) {K : a_K} (hK : p_K h 40 K) (hk : a_kok D K) {i : Nat} {a1 : Int32} (hi : i < K.2.2.2.1) (e1 : a1 = nI i) (hF : F (if a_ah K i then 1 else 0) h (r_gp p q) z) : r_Ci G m_Sw_isAhead (d + 1) 61 [.ref (G.2.1 + 40), .int a1] 61 h (r_gp p q) z F := by
  subst e1
  have hri : h 41 i = nI (K.2.2.2.2.1 i) := (hK.2.2.2.2 i hi).1
  have hpi : h 42 i = nI (K.2.2.2.2.2.1 i) := (hK.2.2.2.2 i hi).2.1
  have hsi : h 43 i = nI (K.2.2.2.2.2.2 i) := (hK.2.2.2.2 i hi).2.2
  obtain ⟨ha10, hw1, hn7, hall⟩ := id hk
  obtain ⟨hr1, hp1, hs1⟩ := hall i hi
  have h10 := ho.1
  refine r_C_of (by decide +kernel) (Nat.le_of_ble_eq_true rfl) ?_
  refine j_ls (ls' := [(0, _), (1, _)]) rfl ?_
  refine j_aload_n d_Sw_isAhead_0 rfl rfl ?_
  refine j_getr d_Sw_isAhead_1 f_Sw_9 rfl rfl (by decide) rfl ?_
  refine j_iload_n d_Sw_isAhead_4 rfl rfl ?_
  refine q_i s_Sw_isAhead_5 rfl (Nat.le_of_ble_eq_true rfl) (Nat.le_of_ble_eq_true rfl) ?_
  refine c_Ra_av (j := i) rfl (by decide) rfl (by omega) hri ?_
  refine j_istore_n (ls' := [(2, _), (0, _), (1, _)]) d_Sw_isAhead_8 rfl (by decide) rfl ?_
  refine j_aload_n d_Sw_isAhead_9 rfl rfl ?_
  refine j_getz d_Sw_isAhead_10 f_Sw_35 rfl rfl (by decide) ?_
  refine j_if_eq (tgt := 32) d_Sw_isAhead_13 rfl (fun bq1 => ?_) (fun bq1 => ?_)
  · refine j_iload_n d_Sw_isAhead_32 rfl rfl ?_
    refine j_aload_n d_Sw_isAhead_33 rfl rfl ?_
    refine j_geti d_Sw_isAhead_34 f_Sw_19 rfl rfl (by decide) ?_
    refine j_icmp_gt (tgt := 44) d_Sw_isAhead_37 rfl (fun bq2 => ?_) (fun bq2 => ?_)
    · refine j_iconst (v := 0) d_Sw_isAhead_44 rfl ?_
      refine j_zret d_Sw_isAhead_45 rfl (by decide) ?_
      exact q_i1 hF (by rw [hK.2.2.2.1] at bq1; rw [hK.2.2.1] at bq2; first | exact a_ah1 bq1 bq2 hw1 (by omega) (by omega) | exact a_ah2 bq1 bq2 hw1 (by omega) (by omega) | exact a_ah3 bq1 bq2 hw1 (by omega) (by omega) | exact a_ah4 bq1 bq2 hw1 (by omega) (by omega))
    · refine j_iconst (v := 1) d_Sw_isAhead_40 rfl ?_
      refine j_goto (tgt := 45) d_Sw_isAhead_41 rfl ?_
      refine j_zret d_Sw_isAhead_45 rfl (by decide) ?_
      exact q_i1 hF (by rw [hK.2.2.2.1] at bq1; rw [hK.2.2.1] at bq2; first | exact a_ah1 bq1 bq2 hw1 (by omega) (by omega) | exact a_ah2 bq1 bq2 hw1 (by omega) (by omega) | exact a_ah3 bq1 bq2 hw1 (by omega) (by omega) | exact a_ah4 bq1 bq2 hw1 (by omega) (by omega))
  · refine j_iload_n d_Sw_isAhead_16 rfl rfl ?_
    refine j_aload_n d_Sw_isAhead_17 rfl rfl ?_
    refine j_geti d_Sw_isAhead_18 f_Sw_19 rfl rfl (by decide) ?_
    refine j_icmp_lt (tgt := 28) d_Sw_isAhead_21 rfl (fun bq2 => ?_) (fun bq2 => ?_)
    · refine j_iconst (v := 0) d_Sw_isAhead_28 rfl ?_
      refine j_goto (tgt := 45) d_Sw_isAhead_29 rfl ?_
      refine j_zret d_Sw_isAhead_45 rfl (by decide) ?_
      exact q_i1 hF (by rw [hK.2.2.2.1] at bq1; rw [hK.2.2.1] at bq2; first | exact a_ah1 bq1 bq2 hw1 (by omega) (by omega) | exact a_ah2 bq1 bq2 hw1 (by omega) (by omega) | exact a_ah3 bq1 bq2 hw1 (by omega) (by omega) | exact a_ah4 bq1 bq2 hw1 (by omega) (by omega))
    · refine j_iconst (v := 1) d_Sw_isAhead_24 rfl ?_
      refine j_goto (tgt := 45) d_Sw_isAhead_25 rfl ?_
      refine j_zret d_Sw_isAhead_45 rfl (by decide) ?_
      exact q_i1 hF (by rw [hK.2.2.2.1] at bq1; rw [hK.2.2.1] at bq2; first | exact a_ah1 bq1 bq2 hw1 (by omega) (by omega) | exact a_ah2 bq1 bq2 hw1 (by omega) (by omega) | exact a_ah3 bq1 bq2 hw1 (by omega) (by omega) | exact a_ah4 bq1 bq2 hw1 (by omega) (by omega))
set_option maxRecDepth 100000 in
set_option maxHeartbeats 4000000 in
theorem c_Sw_price_40 {G : r_X} {d : Nat} {h : r_HI} {p q : Nat} {z : r_HL} {F : Int32 → r_HI → r_HR → r_HL → Prop} {D : a_D} (hD : p_D h 3 D) (ho : a_dok D) {K : a_K} (hK : p_K h 40 K) (hk : a_kok D K) {P i : Nat} {a1 : Int32} (hi : i < K.2.2.2.1) (e1 : a1 = nI i) (hF : F (nI (a_pr D K 2 i)) h (r_gp p q) z) : r_Ci G m_Sw_price (d + 2) 61 [.ref (G.2.1 + P), .ref (G.2.1 + 40), .int a1] 61 h (r_gp p q) z F := by
  subst e1
  have hri : h 41 i = nI (K.2.2.2.2.1 i) := (hK.2.2.2.2 i hi).1
  have hpi : h 42 i = nI (K.2.2.2.2.2.1 i) := (hK.2.2.2.2 i hi).2.1
  have hsi : h 43 i = nI (K.2.2.2.2.2.2 i) := (hK.2.2.2.2 i hi).2.2
  obtain ⟨ha10, hw1, hn7, hall⟩ := id hk
  obtain ⟨hr1, hp1, hs1⟩ := hall i hi
  have h10 := ho.1
  refine r_C_of (by decide +kernel) (Nat.le_of_ble_eq_true rfl) ?_
  refine j_ls (ls' := [(0, _), (1, _), (2, _)]) rfl ?_
  refine j_aload_n d_Sw_price_0 rfl rfl ?_
  refine j_getr d_Sw_price_1 f_Sw_9 rfl rfl (by decide) rfl ?_
  refine j_iload_n d_Sw_price_4 rfl rfl ?_
  refine q_i s_Sw_price_5 rfl (Nat.le_of_ble_eq_true rfl) (Nat.le_of_ble_eq_true rfl) ?_
  refine c_Ra_av (j := i) rfl (by decide) rfl (by omega) hri ?_
  refine j_aload_n d_Sw_price_8 rfl rfl ?_
  refine j_geti d_Sw_price_9 f_Sw_19 rfl rfl (by decide) ?_
  refine j_isub d_Sw_price_12 ?_
  refine q_i s_Sw_price_13 rfl (Nat.le_of_ble_eq_true rfl) (Nat.le_of_ble_eq_true rfl) ?_
  refine c_Jm_abs ?_
  rw [hK.2.2.1, a_dsI (by omega) (by omega)]
  refine j_istore_n (ls' := [(3, _), (0, _), (1, _), (2, _)]) d_Sw_price_16 rfl (by decide) rfl ?_
  refine j_aload_n d_Sw_price_17 rfl rfl ?_
  refine j_iload_n d_Sw_price_18 rfl rfl ?_
  refine q_i s_Sw_price_19 rfl (Nat.le_of_ble_eq_true rfl) (Nat.le_of_ble_eq_true rfl) ?_
  refine c_Sw_isAhead_40 hD ho hK hk hi rfl ?_
  refine j_if_eq (tgt := 29) d_Sw_price_22 rfl (fun bq1 => ?_) (fun bq1 => ?_)
  · refine j_bipush (v := 10) d_Sw_price_29 (by decide) ?_
    refine j_iload_n d_Sw_price_31 rfl rfl ?_
    refine j_iadd d_Sw_price_32 ?_
    refine j_iret d_Sw_price_33 rfl ?_
    exact q_i1 hF (by first | (have c4 : ¬ a_ah K i = true := t10.mp bq1; show nI 10 + _ = nI (if a_ah K i = true then _ else _); rw [if_neg c4, nI_add]) | (have c4 : a_ah K i = true := Decidable.byContradiction (fun e9 => bq1 (t10.mpr e9)); show _ = nI (if a_ah K i = true then _ else _); rw [if_pos c4]))
  · refine j_iload_n d_Sw_price_25 rfl rfl ?_
    refine j_goto (tgt := 33) d_Sw_price_26 rfl ?_
    refine j_iret d_Sw_price_33 rfl ?_
    exact q_i1 hF (by first | (have c4 : ¬ a_ah K i = true := t10.mp bq1; show nI 10 + _ = nI (if a_ah K i = true then _ else _); rw [if_neg c4, nI_add]) | (have c4 : a_ah K i = true := Decidable.byContradiction (fun e9 => bq1 (t10.mpr e9)); show _ = nI (if a_ah K i = true then _ else _); rw [if_pos c4]))
set_option maxRecDepth 100000 in
set_option maxHeartbeats 4000000 in
theorem c_Sw_turns_40 {G : r_X} {d : Nat} {h : r_HI} {p q : Nat} {z : r_HL} {F : Int32 → r_HI → r_HR → r_HL → Prop} {D : a_D} (hD : p_D h 3 D) (ho : a_dok D) {K : a_K} (hK : p_K h 40 K) (hk : a_kok D K) {P i : Nat} {a1 : Int32} (hi : i < K.2.2.2.1) (e1 : a1 = nI i) (hF : F (if a_ah K i then 0 else 1) h (r_gp p q) z) : r_Ci G m_Sw_turns (d + 2) 61 [.ref (G.2.1 + P), .ref (G.2.1 + 40), .int a1] 61 h (r_gp p q) z F := by
  subst e1
  have hri : h 41 i = nI (K.2.2.2.2.1 i) := (hK.2.2.2.2 i hi).1
  have hpi : h 42 i = nI (K.2.2.2.2.2.1 i) := (hK.2.2.2.2 i hi).2.1
  have hsi : h 43 i = nI (K.2.2.2.2.2.2 i) := (hK.2.2.2.2 i hi).2.2
  obtain ⟨ha10, hw1, hn7, hall⟩ := id hk
  obtain ⟨hr1, hp1, hs1⟩ := hall i hi
  have h10 := ho.1
  refine r_C_of (by decide +kernel) (Nat.le_of_ble_eq_true rfl) ?_
  refine j_ls (ls' := [(0, _), (1, _), (2, _)]) rfl ?_
  refine j_aload_n d_Sw_turns_0 rfl rfl ?_
  refine j_iload_n d_Sw_turns_1 rfl rfl ?_
  refine q_i s_Sw_turns_2 rfl (Nat.le_of_ble_eq_true rfl) (Nat.le_of_ble_eq_true rfl) ?_
  refine c_Sw_isAhead_40 hD ho hK hk hi rfl ?_
  refine j_if_ne (tgt := 12) d_Sw_turns_5 rfl (fun bq1 => ?_) (fun bq1 => ?_)
  · refine j_iconst (v := 0) d_Sw_turns_12 rfl ?_
    refine j_zret d_Sw_turns_13 rfl (by decide) ?_
    exact q_i1 hF (by first | (have c4 : ¬ a_ah K i = true := t10.mp bq1; rw [if_neg c4]) | (have c4 : a_ah K i = true := Decidable.byContradiction (fun e9 => bq1 (t10.mpr e9)); rw [if_pos c4]))
  · refine j_iconst (v := 1) d_Sw_turns_8 rfl ?_
    refine j_goto (tgt := 13) d_Sw_turns_9 rfl ?_
    refine j_zret d_Sw_turns_13 rfl (by decide) ?_
    exact q_i1 hF (by first | (have c4 : ¬ a_ah K i = true := t10.mp bq1; rw [if_neg c4]) | (have c4 : a_ah K i = true := Decidable.byContradiction (fun e9 => bq1 (t10.mpr e9)); rw [if_pos c4]))
set_option maxRecDepth 100000 in
set_option maxHeartbeats 4000000 in
theorem c_Ro_price_40 {G : r_X} {d : Nat} {h : r_HI} {p q : Nat} {z : r_HL} {F : Int32 → r_HI → r_HR → r_HL → Prop} {D : a_D} (hD : p_D h 3 D) (ho : a_dok D) {K : a_K} (hK : p_K h 40 K) (hk : a_kok D K) {P i : Nat} {a1 : Int32} (hi : i < K.2.2.2.1) (e1 : a1 = nI i) (hF : F (nI (a_pr D K 3 i)) h (r_gp p q) z) : r_Ci G m_Ro_price (d + 1) 61 [.ref (G.2.1 + P), .ref (G.2.1 + 40), .int a1] 61 h (r_gp p q) z F := by
  subst e1
  have hri : h 41 i = nI (K.2.2.2.2.1 i) := (hK.2.2.2.2 i hi).1
  have hpi : h 42 i = nI (K.2.2.2.2.2.1 i) := (hK.2.2.2.2 i hi).2.1
  have hsi : h 43 i = nI (K.2.2.2.2.2.2 i) := (hK.2.2.2.2 i hi).2.2
  obtain ⟨ha10, hw1, hn7, hall⟩ := id hk
  obtain ⟨hr1, hp1, hs1⟩ := hall i hi
  have h10 := ho.1
  refine r_C_of (by decide +kernel) (Nat.le_of_ble_eq_true rfl) ?_
  refine j_ls (ls' := [(0, _), (1, _), (2, _)]) rfl ?_
  refine j_aload_n d_Ro_price_0 rfl rfl ?_
  refine j_getr d_Ro_price_1 f_Ro_9 rfl rfl (by decide) rfl ?_
  refine j_iload_n d_Ro_price_4 rfl rfl ?_
  refine q_i s_Ro_price_5 rfl (Nat.le_of_ble_eq_true rfl) (Nat.le_of_ble_eq_true rfl) ?_
  refine c_Ra_av (j := i) rfl (by decide) rfl (by omega) hri ?_
  refine j_istore_n (ls' := [(3, _), (0, _), (1, _), (2, _)]) d_Ro_price_8 rfl (by decide) rfl ?_
  refine j_iload_n d_Ro_price_9 rfl rfl ?_
  refine j_aload_n d_Ro_price_10 rfl rfl ?_
  refine j_geti d_Ro_price_11 f_Ro_19 rfl rfl (by decide) ?_
  refine j_icmp_lt (tgt := 26) d_Ro_price_14 rfl (fun bq1 => ?_) (fun bq1 => ?_)
  · refine j_bipush (v := 10) d_Ro_price_26 (by decide) ?_
    refine j_iload_n d_Ro_price_28 rfl rfl ?_
    refine j_iadd d_Ro_price_29 ?_
    refine j_iret d_Ro_price_30 rfl ?_
    exact q_i1 hF (by rw [hK.2.2.1] at bq1; first | (have c4 := (nI_ltI (by omega) (by omega)).mp bq1; show nI 10 + _ = nI (if K.2.1 ≤ K.2.2.2.2.1 i then _ else _); rw [if_neg (by omega), nI_add]) | (have c4 : ¬ K.2.2.2.2.1 i < K.2.1 := fun e9 => bq1 ((nI_ltI (by omega) (by omega)).mpr e9); show _ = nI (if K.2.1 ≤ K.2.2.2.2.1 i then _ else _); rw [hK.2.2.1, if_pos (by omega), pk_sub (by omega)]))
  · refine j_iload_n d_Ro_price_17 rfl rfl ?_
    refine j_aload_n d_Ro_price_18 rfl rfl ?_
    refine j_geti d_Ro_price_19 f_Ro_19 rfl rfl (by decide) ?_
    refine j_isub d_Ro_price_22 ?_
    refine j_goto (tgt := 30) d_Ro_price_23 rfl ?_
    refine j_iret d_Ro_price_30 rfl ?_
    exact q_i1 hF (by rw [hK.2.2.1] at bq1; first | (have c4 := (nI_ltI (by omega) (by omega)).mp bq1; show nI 10 + _ = nI (if K.2.1 ≤ K.2.2.2.2.1 i then _ else _); rw [if_neg (by omega), nI_add]) | (have c4 : ¬ K.2.2.2.2.1 i < K.2.1 := fun e9 => bq1 ((nI_ltI (by omega) (by omega)).mpr e9); show _ = nI (if K.2.1 ≤ K.2.2.2.2.1 i then _ else _); rw [hK.2.2.1, if_pos (by omega), pk_sub (by omega)]))
set_option maxRecDepth 100000 in
set_option maxHeartbeats 4000000 in
theorem c_So_price_40 {G : r_X} {d : Nat} {h : r_HI} {p q : Nat} {z : r_HL} {F : Int32 → r_HI → r_HR → r_HL → Prop} {D : a_D} (hD : p_D h 3 D) (ho : a_dok D) {K : a_K} (hK : p_K h 40 K) (hk : a_kok D K) {P i : Nat} {a1 : Int32} (hi : i < K.2.2.2.1) (e1 : a1 = nI i) (ht : K.1 < 2 ^ 27) (hF : F (nI (a_pr D K 4 i)) h (r_gp p q) z) : r_Ci G m_So_price (d + 2) 61 [.ref (G.2.1 + P), .ref (G.2.1 + 40), .int a1] 61 h (r_gp p q) z F := by
  subst e1
  have hri : h 41 i = nI (K.2.2.2.2.1 i) := (hK.2.2.2.2 i hi).1
  have hpi : h 42 i = nI (K.2.2.2.2.2.1 i) := (hK.2.2.2.2 i hi).2.1
  have hsi : h 43 i = nI (K.2.2.2.2.2.2 i) := (hK.2.2.2.2 i hi).2.2
  obtain ⟨ha10, hw1, hn7, hall⟩ := id hk
  obtain ⟨hr1, hp1, hs1⟩ := hall i hi
  have h10 := ho.1
  refine r_C_of (by decide +kernel) (Nat.le_of_ble_eq_true rfl) ?_
  refine j_ls (ls' := [(0, _), (1, _), (2, _)]) rfl ?_
  refine j_aload_n d_So_price_0 rfl rfl ?_
  refine j_getr d_So_price_1 f_So_9 rfl rfl (by decide) rfl ?_
  refine j_aload_n d_So_price_4 rfl rfl ?_
  refine j_geti d_So_price_5 f_So_15 rfl rfl (by decide) ?_
  refine j_aload_n d_So_price_8 rfl rfl ?_
  refine j_geti d_So_price_9 f_So_19 rfl rfl (by decide) ?_
  refine j_aload_n d_So_price_12 rfl rfl ?_
  refine j_getr d_So_price_13 f_So_22 rfl rfl (by decide) rfl ?_
  refine j_iload_n d_So_price_16 rfl rfl ?_
  refine q_i s_So_price_17 rfl (Nat.le_of_ble_eq_true rfl) (Nat.le_of_ble_eq_true rfl) ?_
  refine c_Ra_av (j := i) rfl (by decide) rfl (by omega) hri ?_
  refine j_aload_n d_So_price_20 rfl rfl ?_
  refine j_getr d_So_price_21 f_So_30 rfl rfl (by decide) rfl ?_
  refine j_iload_n d_So_price_24 rfl rfl ?_
  refine q_i s_So_price_25 rfl (Nat.le_of_ble_eq_true rfl) (Nat.le_of_ble_eq_true rfl) ?_
  refine c_Ra_av (j := i) rfl (by decide) rfl (by omega) hpi ?_
  refine q_i (s_So_price_28 rfl (by decide)) rfl (Nat.le_of_ble_eq_true rfl) (Nat.le_of_ble_eq_true rfl) ?_
  refine c_Di_doneAt hD ho ht ha10 hr1 hp1 hK.2.1 hK.2.2.1 rfl rfl ?_
  refine j_iret d_So_price_31 rfl ?_
  exact q_i1 hF rfl
