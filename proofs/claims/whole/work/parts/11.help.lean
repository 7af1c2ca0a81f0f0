theorem r_pk_le {a m k : Nat} (h : r_pk a = (k, m)) : m ≤ 896 := by
  have h1 : ∀ a, (r_pk a).2 ≤ 896 := by
    intro a
    by_cases ha : a < 61
    · exact (show ∀ a, a < 61 → (r_pk a).2 ≤ 896 by decide +kernel) a ha
    · have e : r_pk a = (9, 0) := by
        unfold r_pk
        rw [List.getD_eq_getElem?_getD, List.getElem?_eq_none (by simp; omega)]
        rfl
      rw [e]; decide
  have h2 := h1 a
  rw [h] at h2
  exact h2
theorem nI_inc (i : Nat) : nI i + Int32.ofInt 1 = nI (i + 1) := nI_1 i
set_option maxRecDepth 100000 in
set_option maxHeartbeats 4000000 in
theorem c_Ra_at {G : r_X} {d : Nat} {h : r_HI} {g : r_HR} {z : r_HL} {F : Int32 → r_HI → r_HR → r_HL → Prop} {a m j : Nat} {i : Int32} (hp : r_pk a = (1, m)) (ha : a < 61) (hi : i = nI j) (hj : j < m) (hF : F (h a j) h g z) : r_Ci G m_Ra_at (d) 61 [.ref (G.2.1 + a), .int i] 61 h g z F := by
  have hm := r_pk_le hp
  refine r_C_of (by decide +kernel) (Nat.le_of_ble_eq_true rfl) ?_
  refine j_ls (ls' := [(0, _), (1, _)]) rfl ?_
  refine j_iload_n d_Ra_at_0 rfl rfl ?_
  refine j_if_lt (tgt := 16) d_Ra_at_1 rfl (fun bq1 => absurd bq1 (by rw [hi]; exact nI_pos (by omega))) (fun bq1 => ?_)
  refine j_iload_n d_Ra_at_4 rfl rfl ?_
  refine j_aload_n d_Ra_at_5 rfl rfl ?_
  refine j_alen d_Ra_at_6 hp ha rfl ?_
  refine j_icmp_ge (tgt := 16) d_Ra_at_7 rfl (fun bq2 => absurd bq2 (by rw [hi]; exact nI_ge hj (by omega))) (fun bq2 => ?_)
  refine j_aload_n d_Ra_at_10 rfl rfl ?_
  refine j_iload_n d_Ra_at_11 rfl rfl ?_
  refine j_iald d_Ra_at_12 hp ha (by rw [hi]; exact nI_ix hj (by omega)) ?_
  refine j_goto (tgt := 17) d_Ra_at_13 rfl ?_
  refine j_iret d_Ra_at_17 rfl ?_
  exact q_i1 hF (by rw [hi, nI_cl (by omega)])
set_option maxRecDepth 100000 in
set_option maxHeartbeats 4000000 in
theorem c_Ra_put {G : r_X} {d : Nat} {h : r_HI} {g : r_HR} {z : r_HL} {F : r_HI → r_HR → r_HL → Prop} {a m j : Nat} {i v : Int32} (hp : r_pk a = (1, m)) (ha : a < 61) (hi : i = nI j) (hj : j < m) (hF : F (r_up h a j v) g z) : r_Cv G m_Ra_put (d) 61 [.ref (G.2.1 + a), .int i, .int v] 61 h g z F := by
  have hm := r_pk_le hp
  refine r_C_of (by decide +kernel) (Nat.le_of_ble_eq_true rfl) ?_
  refine j_ls (ls' := [(0, _), (1, _), (2, _)]) rfl ?_
  refine j_iload_n d_Ra_put_0 rfl rfl ?_
  refine j_if_lt (tgt := 14) d_Ra_put_1 rfl (fun bq1 => absurd bq1 (by rw [hi]; exact nI_pos (by omega))) (fun bq1 => ?_)
  refine j_iload_n d_Ra_put_4 rfl rfl ?_
  refine j_aload_n d_Ra_put_5 rfl rfl ?_
  refine j_alen d_Ra_put_6 hp ha rfl ?_
  refine j_icmp_ge (tgt := 14) d_Ra_put_7 rfl (fun bq2 => absurd bq2 (by rw [hi]; exact nI_ge hj (by omega))) (fun bq2 => ?_)
  refine j_aload_n d_Ra_put_10 rfl rfl ?_
  refine j_iload_n d_Ra_put_11 rfl rfl ?_
  refine j_iload_n d_Ra_put_12 rfl rfl ?_
  refine j_iast d_Ra_put_13 hp ha (by rw [hi]; exact nI_ix hj (by omega)) ?_
  refine j_vret d_Ra_put_14 rfl ?_
  exact q_v1 hF (by rw [hi, nI_cl (by omega)])
set_option maxRecDepth 100000 in
set_option maxHeartbeats 4000000 in
theorem c_Ra_av {G : r_X} {d : Nat} {h : r_HI} {g : r_HR} {z : r_HL} {F : Int32 → r_HI → r_HR → r_HL → Prop} {a m j : Nat} {i v : Int32} (hp : r_pk a = (1, m)) (ha : a < 61) (hi : i = nI j) (hj : j < m) (hv : h a j = v) (hF : F v h g z) : r_Ci G m_Ra_at (d) 61 [.ref (G.2.1 + a), .int i] 61 h g z F := by
  exact c_Ra_at hp ha hi hj (hv ▸ hF)
set_option maxRecDepth 100000 in
set_option maxHeartbeats 4000000 in
theorem l_Ra_copyRow {G : r_X} {d : Nat} {g : r_HR} {z : r_HL} {F : r_HI → r_HR → r_HL → Prop} {s t m : Nat} (hs : r_pk s = (1, m)) (ht : r_pk t = (1, m)) (hsn : s < 61) (htn : t < 61) (hne : s ≠ t) : ∀ (e i : Nat) (x : Int32) (h : r_HI), e + i = m → x = nI i → F (r_rw h t (fun j => if i ≤ j ∧ j < m then h s j else h t j)) g z → r_TM G m_Ra_copyRow (d) 61 61 (fun v h' g' z' => v = none ∧ F h' g' z') 2 [(0, .ref (G.2.1 + s)), (1, .ref (G.2.1 + t)), (2, .int x)] [] 61 h g z := by
  have hm := r_pk_le hs
  intro e
  induction e with
  | zero =>
    intro i x h hi hx hF
    subst hx
    refine j_iload_n d_Ra_copyRow_2 rfl rfl ?_
    refine j_aload_n d_Ra_copyRow_3 rfl rfl ?_
    refine j_alen d_Ra_copyRow_4 hs hsn rfl ?_
    refine j_icmp_ge (tgt := 26) d_Ra_copyRow_5 rfl (fun bq1 => ?_) (fun bq1 => False.elim (bq1 (nI_le (by omega) (by omega))))
    refine j_vret d_Ra_copyRow_26 rfl ?_
    exact q_v1 hF (by rw [show (fun j => if i ≤ j ∧ j < m then h s j else h t j) = h t from funext fun j => if_neg (by omega)]; exact r_rw_self.symm)
  | succ e ih =>
    intro i x h hi hx hF
    subst hx
    refine j_iload_n d_Ra_copyRow_2 rfl rfl ?_
    refine j_aload_n d_Ra_copyRow_3 rfl rfl ?_
    refine j_alen d_Ra_copyRow_4 hs hsn rfl ?_
    refine j_icmp_ge (tgt := 26) d_Ra_copyRow_5 rfl (fun bq1 => absurd bq1 (nI_ge (by omega) (by omega))) (fun bq1 => ?_)
    refine j_iload_n d_Ra_copyRow_8 rfl rfl ?_
    refine j_aload_n d_Ra_copyRow_9 rfl rfl ?_
    refine j_alen d_Ra_copyRow_10 ht htn rfl ?_
    refine j_icmp_ge (tgt := 26) d_Ra_copyRow_11 rfl (fun bq2 => absurd bq2 (nI_ge (by omega) (by omega))) (fun bq2 => ?_)
    refine j_aload_n d_Ra_copyRow_14 rfl rfl ?_
    refine j_iload_n d_Ra_copyRow_15 rfl rfl ?_
    refine j_aload_n d_Ra_copyRow_16 rfl rfl ?_
    refine j_iload_n d_Ra_copyRow_17 rfl rfl ?_
    refine j_iald d_Ra_copyRow_18 hs hsn (nI_ix (by omega) (by omega)) ?_
    refine j_iast d_Ra_copyRow_19 ht htn (nI_ix (by omega) (by omega)) ?_
    refine j_iinc (ls' := [(2, _), (0, _), (1, _)]) d_Ra_copyRow_20 rfl (by decide) rfl ?_
    refine j_goto (tgt := 2) d_Ra_copyRow_23 rfl ?_
    refine j_pick [1, 2, 0] (ls' := [(0, _), (1, _), (2, _)]) rfl ?_
    refine j_h (h' := r_up h t i (h s i)) (by rw [nI_cl (by omega)]) ?_
    refine ih (i + 1) _ _ (by omega) (nI_inc i) ?_
    refine cast (congrArg (fun q => F q g z) ?_) hF
    funext a
    by_cases ea : a = t
    · subst ea
      rw [r_rw_k, r_rw_k]
      funext j
      rw [r_up_ne hne, r_up_k]
      by_cases e1 : j = i
      · subst e1
        rw [if_pos ⟨Nat.le_refl _, by omega⟩, if_neg (by omega)]
        simp [upd]
      · by_cases e2 : i ≤ j ∧ j < m
        · rw [if_pos e2, if_pos ⟨by omega, e2.2⟩]
        · rw [if_neg e2, if_neg (by omega)]
          simp [upd, e1]
    · rw [r_rw_ne ea, r_rw_ne ea, r_up_ne ea]
set_option maxRecDepth 100000 in
set_option maxHeartbeats 4000000 in
theorem c_Ra_copyRow {G : r_X} {d : Nat} {h : r_HI} {g : r_HR} {z : r_HL} {F : r_HI → r_HR → r_HL → Prop} {s t m : Nat} (hs : r_pk s = (1, m)) (ht : r_pk t = (1, m)) (hsn : s < 61) (htn : t < 61) (hne : s ≠ t) (hF : F (r_rw h t (fun j => if j < m then h s j else h t j)) g z) : r_Cv G m_Ra_copyRow (d) 61 [.ref (G.2.1 + s), .ref (G.2.1 + t)] 61 h g z F := by
  refine r_C_of (by decide +kernel) (Nat.le_of_ble_eq_true rfl) ?_
  refine j_ls (ls' := [(0, _), (1, _)]) rfl ?_
  refine j_iconst (v := 0) d_Ra_copyRow_0 rfl ?_
  refine j_istore_n (ls' := [(2, _), (0, _), (1, _)]) d_Ra_copyRow_1 rfl (by decide) rfl ?_
  refine j_pick [1, 2, 0] (ls' := [(0, _), (1, _), (2, _)]) rfl ?_
  exact l_Ra_copyRow hs ht hsn htn hne m 0 _ _ (by omega) rfl (by rw [show (fun j => if 0 ≤ j ∧ j < m then h s j else h t j) = (fun j => if j < m then h s j else h t j) from funext fun j => by simp]; exact hF)
set_option maxRecDepth 100000 in
set_option maxHeartbeats 4000000 in
theorem c_Ra_isKind {G : r_X} {d : Nat} {h : r_HI} {g : r_HR} {z : r_HL} {F : Int32 → r_HI → r_HR → r_HL → Prop} {x : Int32} (hF : F (if 0 ≤ x ∧ x < 5 then 1 else 0) h g z) : r_Ci G m_Ra_isKind (d) 61 [.int x] 61 h g z F := by
  refine r_C_of (by decide +kernel) (Nat.le_of_ble_eq_true rfl) ?_
  refine j_ls (ls' := [(0, _)]) rfl ?_
  refine j_iload_n d_Ra_isKind_0 rfl rfl ?_
  refine j_if_lt (tgt := 13) d_Ra_isKind_1 rfl (fun bq1 => ?_) (fun bq1 => ?_)
  · refine j_iconst (v := 0) d_Ra_isKind_13 rfl ?_
    refine j_zret d_Ra_isKind_14 rfl (by decide) ?_
    exact q_i1 hF (by first | rw [if_pos ‹_›] | rw [if_neg ‹_›] | (rw [if_pos]; omega) | (simp only [Int32.lt_iff_toInt_lt, Int32.le_iff_toInt_le] at *; first | rw [if_pos (by omega)] | rw [if_neg (by omega)]))
  · refine j_iload_n d_Ra_isKind_4 rfl rfl ?_
    refine j_iconst (v := 5) d_Ra_isKind_5 rfl ?_
    refine j_icmp_ge (tgt := 13) d_Ra_isKind_6 rfl (fun bq2 => ?_) (fun bq2 => ?_)
    · refine j_iconst (v := 0) d_Ra_isKind_13 rfl ?_
      refine j_zret d_Ra_isKind_14 rfl (by decide) ?_
      exact q_i1 hF (by first | rw [if_pos ‹_›] | rw [if_neg ‹_›] | (rw [if_pos]; omega) | (simp only [Int32.lt_iff_toInt_lt, Int32.le_iff_toInt_le] at *; first | rw [if_pos (by omega)] | rw [if_neg (by omega)]))
    · refine j_iconst (v := 1) d_Ra_isKind_9 rfl ?_
      refine j_goto (tgt := 14) d_Ra_isKind_10 rfl ?_
      refine j_zret d_Ra_isKind_14 rfl (by decide) ?_
      exact q_i1 hF (by first | rw [if_pos ‹_›] | rw [if_neg ‹_›] | (rw [if_pos]; omega) | (simp only [Int32.lt_iff_toInt_lt, Int32.le_iff_toInt_le] at *; first | rw [if_pos (by omega)] | rw [if_neg (by omega)]))
set_option maxRecDepth 100000 in
set_option maxHeartbeats 4000000 in
theorem c_Ra_hasPlate {G : r_X} {d : Nat} {h : r_HI} {p q : Nat} {z : r_HL} {F : Int32 → r_HI → r_HR → r_HL → Prop} (hF : F (if 0 < h 3 3 then 1 else 0) h (r_gp p q) z) : r_Ci G m_Ra_hasPlate (d) 61 [.ref (G.2.1 + 0)] 61 h (r_gp p q) z F := by
  refine r_C_of (by decide +kernel) (Nat.le_of_ble_eq_true rfl) ?_
  refine j_ls (ls' := [(0, _)]) rfl ?_
  refine j_aload_n d_Ra_hasPlate_0 rfl rfl ?_
  refine j_getr d_Ra_hasPlate_1 f_Ra_19 rfl rfl (by decide) rfl ?_
  refine j_geti d_Ra_hasPlate_4 f_Ra_140 rfl rfl (by decide) ?_
  refine j_if_le (tgt := 14) d_Ra_hasPlate_7 rfl (fun bq1 => ?_) (fun bq1 => ?_)
  · refine j_iconst (v := 0) d_Ra_hasPlate_14 rfl ?_
    refine j_zret d_Ra_hasPlate_15 rfl (by decide) ?_
    exact q_i1 hF (by first | rw [if_pos ‹_›] | rw [if_neg ‹_›] | (rw [if_pos]; omega) | (simp only [Int32.lt_iff_toInt_lt, Int32.le_iff_toInt_le] at *; first | rw [if_pos (by omega)] | rw [if_neg (by omega)]))
  · refine j_iconst (v := 1) d_Ra_hasPlate_10 rfl ?_
    refine j_goto (tgt := 15) d_Ra_hasPlate_11 rfl ?_
    refine j_zret d_Ra_hasPlate_15 rfl (by decide) ?_
    exact q_i1 hF (by first | rw [if_pos ‹_›] | rw [if_neg ‹_›] | (rw [if_pos]; omega) | (simp only [Int32.lt_iff_toInt_lt, Int32.le_iff_toInt_le] at *; first | rw [if_pos (by omega)] | rw [if_neg (by omega)]))
