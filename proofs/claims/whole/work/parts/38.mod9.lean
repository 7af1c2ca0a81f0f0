def m_all (n gap th one : Nat) : Nat → Nat → Nat → Nat
  | 0, _, now => now
  | m + 1, j, now => m_all n gap th one m (j + 1) (now + th + ((j * gap % n * one + 24 - (now + th) % 24) % 24 + one))
def m_cm : Nat → Nat → Nat → Nat
  | 0, x, _ => x
  | m + 1, x, y => if y = 0 then x else m_cm m y (x % y)
def m_ap (n th : Nat) : Nat → Nat → Nat × Nat → Nat × Nat
  | 0, _, b => b
  | m + 1, gap, b => m_ap n th m (gap + 1) (if m_cm 12 n gap = 1 ∧ m_all n gap th (24 / n) (n - 1) 1 (24 / n) < b.2 then (gap, m_all n gap th (24 / n) (n - 1) 1 (24 / n)) else b)
theorem m_ap_eq {n th : Nat} (h : n ∈ a_pls) (ht : th < 24) : (m_ap n th (n - 1) 1 (0, 1000000)).1 = a_ap n th 0 ∧ (m_ap n th (n - 1) 1 (0, 1000000)).2 = a_ap n th 1 := (show ∀ n ∈ a_pls, ∀ th, th < 24 → (m_ap n th (n - 1) 1 (0, 1000000)).1 = a_ap n th 0 ∧ (m_ap n th (n - 1) 1 (0, 1000000)).2 = a_ap n th 1 by decide +kernel) n h th ht
theorem m_all_le {n gap th one : Nat} (h1 : th < 24) (h2 : one ≤ 12) : ∀ m j now, m_all n gap th one m j now ≤ now + 60 * m
  | 0, _, now => by unfold m_all; omega
  | m + 1, j, now => by
    unfold m_all
    have := m_all_le (n := n) (gap := gap) h1 h2 m (j + 1) (now + th + ((j * gap % n * one + 24 - (now + th) % 24) % 24 + one))
    omega
set_option maxRecDepth 100000 in
set_option maxHeartbeats 4000000 in
theorem l_Mo_common {G : r_X} {d : Nat} {h : r_HI} {p q : Nat} {z : r_HL} {F : Int32 → r_HI → r_HR → r_HL → Prop} {a1 a2 : Int32} : ∀ (m x y : Nat), y ≤ m → x < 1000 ∧ y < 1000 → F (nI (m_cm m x y)) h (r_gp p q) z → r_TM G m_Mo_common (d) 61 61 (fun v h' g' z' => ∃ r, v = some (.int r) ∧ F r h' g' z') 4 [(0, .int a1), (1, .int a2), (2, .int (nI x)), (3, .int (nI y))] [] 61 h (r_gp p q) z := by
  intro m
  induction m with
  | zero =>
    intro x y hy hx hF
    refine j_iload_n d_Mo_common_4 rfl rfl ?_
    refine j_if_le (tgt := 21) d_Mo_common_5 rfl (fun bq1 => ?_) (fun bq1 => False.elim (bq1 (by rw [show y = 0 by omega]; decide)))
    refine j_iload_n d_Mo_common_21 rfl rfl ?_
    refine j_iret d_Mo_common_22 rfl ?_
    exact q_i1 hF rfl
  | succ m ih =>
    intro x y hy hx hF
    by_cases e0 : y = 0
    · refine j_iload_n d_Mo_common_4 rfl rfl ?_
      refine j_if_le (tgt := 21) d_Mo_common_5 rfl (fun bq1 => ?_) (fun bq1 => False.elim (bq1 (by rw [e0]; decide)))
      refine j_iload_n d_Mo_common_21 rfl rfl ?_
      refine j_iret d_Mo_common_22 rfl ?_
      exact q_i1 hF (by rw [m_cm, if_pos e0])
    · refine j_iload_n d_Mo_common_4 rfl rfl ?_
      refine j_if_le (tgt := 21) d_Mo_common_5 rfl (fun bq1 => False.elim (nI_nle (n := y) (by omega) (by omega) bq1)) (fun bq1 => ?_)
      refine j_iload_n d_Mo_common_8 rfl rfl ?_
      refine j_iload_n d_Mo_common_9 rfl rfl ?_
      refine j_irem d_Mo_common_10 (nI_ne0 (by omega) (by omega)) ?_
      rw [pk_rem (by omega) (by omega) (by omega)]
      refine j_istore (ls' := [(4, _), (0, _), (1, _), (2, _), (3, _)]) d_Mo_common_11 (by decide) rfl ?_
      refine j_iload_n d_Mo_common_13 rfl rfl ?_
      refine j_istore_n (ls' := [(2, _), (4, _), (0, _), (1, _), (3, _)]) d_Mo_common_14 rfl (by decide) rfl ?_
      refine j_iload d_Mo_common_15 rfl ?_
      refine j_istore_n (ls' := [(3, _), (2, _), (4, _), (0, _), (1, _)]) d_Mo_common_17 rfl (by decide) rfl ?_
      refine j_goto (tgt := 4) d_Mo_common_18 rfl ?_
      refine j_pick [3, 4, 1, 0] (ls' := [(0, _), (1, _), (2, _), (3, _)]) rfl ?_
      exact ih y (x % y) (by have := Nat.mod_lt x (show 0 < y by omega); omega) ⟨hx.2, Nat.lt_of_le_of_lt (Nat.mod_le x y) hx.1⟩ (by rw [m_cm, if_neg e0] at hF; exact hF)
set_option maxRecDepth 100000 in
set_option maxHeartbeats 4000000 in
theorem c_Mo_common {G : r_X} {d : Nat} {h : r_HI} {p q : Nat} {z : r_HL} {F : Int32 → r_HI → r_HR → r_HL → Prop} {x y : Nat} {a1 a2 : Int32} (hy : y ≤ 12) (hx : x < 1000) (e1 : a1 = nI x) (e2 : a2 = nI y) (hF : F (nI (m_cm 12 x y)) h (r_gp p q) z) : r_Ci G m_Mo_common (d) 61 [.int a1, .int a2] 61 h (r_gp p q) z F := by
  subst e1
  subst e2
  refine r_C_of (by decide +kernel) (Nat.le_of_ble_eq_true rfl) ?_
  refine j_ls (ls' := [(0, _), (1, _)]) rfl ?_
  refine j_iload_n d_Mo_common_0 rfl rfl ?_
  refine j_istore_n (ls' := [(2, _), (0, _), (1, _)]) d_Mo_common_1 rfl (by decide) rfl ?_
  refine j_iload_n d_Mo_common_2 rfl rfl ?_
  refine j_istore_n (ls' := [(3, _), (2, _), (0, _), (1, _)]) d_Mo_common_3 rfl (by decide) rfl ?_
  refine j_pick [2, 3, 1, 0] (ls' := [(0, _), (1, _), (2, _), (3, _)]) rfl ?_
  exact l_Mo_common 12 x y hy ⟨hx, by omega⟩ hF
set_option maxRecDepth 100000 in
set_option maxHeartbeats 4000000 in
theorem l_Mo_allBy {G : r_X} {d : Nat} {h : r_HI} {p q : Nat} {z : r_HL} {F : Int32 → r_HI → r_HR → r_HL → Prop} {n gap th : Nat} (hn : n ∈ a_pls) (hg : gap < 12) (ht : th < 24) : ∀ (e j : Nat) (v : Int32) (now : Nat), e + j = n → v = nI j → now ≤ 24 + 60 * j → F (nI (m_all n gap th (24 / n) e j now)) h (r_gp p q) z → r_TM G m_Mo_allBy (d) 61 61 (fun v h' g' z' => ∃ r, v = some (.int r) ∧ F r h' g' z') 13 [(0, .ref (G.2.1 + 47)), (1, .int (nI n)), (2, .int (nI gap)), (3, .int (nI th)), (4, .int (nI (24 / n))), (5, .int (nI now)), (6, .int v)] [] 61 h (r_gp p q) z := by
  obtain ⟨p1, p2, p3, p4, p5⟩ := a_pl hn
  intro e
  induction e with
  | zero =>
    intro j v now he hv hb hF
    subst hv
    refine j_iload d_Mo_allBy_13 rfl ?_
    refine j_iload_n d_Mo_allBy_15 rfl rfl ?_
    refine j_icmp_ge (tgt := 64) d_Mo_allBy_16 rfl (fun bq1 => ?_) (fun bq1 => False.elim (bq1 (nI_le (by omega) (by omega))))
    refine j_iload d_Mo_allBy_64 rfl ?_
    refine j_iret d_Mo_allBy_66 rfl ?_
    exact q_i1 hF rfl
  | succ e ih =>
    intro j v now he hv hb hF
    subst hv
    have hjg : j * gap ≤ 12 * 12 := Nat.mul_le_mul (by omega) (by omega)
    have hm := Nat.mod_lt (j * gap) (show 0 < n by omega)
    have hbe : j * gap % n * (24 / n) ≤ 12 * 12 := Nat.mul_le_mul (by omega) (by omega)
    refine j_iload d_Mo_allBy_13 rfl ?_
    refine j_iload_n d_Mo_allBy_15 rfl rfl ?_
    refine j_icmp_ge (tgt := 64) d_Mo_allBy_16 rfl (fun bq1 => False.elim (nI_ge (by omega) (by omega) bq1)) (fun bq1 => ?_)
    refine j_iload d_Mo_allBy_19 rfl ?_
    refine j_iload_n d_Mo_allBy_21 rfl rfl ?_
    refine j_iadd d_Mo_allBy_22 ?_
    rw [nI_add]
    refine j_istore (ls' := [(5, _), (0, _), (1, _), (2, _), (3, _), (4, _), (6, _)]) d_Mo_allBy_23 (by decide) rfl ?_
    refine j_iload d_Mo_allBy_25 rfl ?_
    refine j_iload_n d_Mo_allBy_27 rfl rfl ?_
    refine j_imul d_Mo_allBy_28 ?_
    refine j_iload_n d_Mo_allBy_29 rfl rfl ?_
    refine j_irem d_Mo_allBy_30 (nI_ne0 (by omega) (by omega)) ?_
    refine j_iload d_Mo_allBy_31 rfl ?_
    refine j_imul d_Mo_allBy_33 ?_
    rw [pk_mul, pk_rem (by omega) (by omega) (by omega), pk_mul]
    refine j_istore (ls' := [(7, _), (5, _), (0, _), (1, _), (2, _), (3, _), (4, _), (6, _)]) d_Mo_allBy_34 (by decide) rfl ?_
    refine j_iload d_Mo_allBy_36 rfl ?_
    refine j_iload d_Mo_allBy_38 rfl ?_
    refine j_bipush (v := 24) d_Mo_allBy_40 (by decide) ?_
    refine j_iadd d_Mo_allBy_42 ?_
    refine j_iload d_Mo_allBy_43 rfl ?_
    refine j_bipush (v := 24) d_Mo_allBy_45 (by decide) ?_
    refine j_irem d_Mo_allBy_47 (by decide) ?_
    refine j_isub d_Mo_allBy_48 ?_
    refine j_bipush (v := 24) d_Mo_allBy_49 (by decide) ?_
    refine j_irem d_Mo_allBy_51 (by decide) ?_
    refine j_iload d_Mo_allBy_52 rfl ?_
    refine j_iadd d_Mo_allBy_54 ?_
    refine j_iadd d_Mo_allBy_55 ?_
    rw [show (24 : Int32) = nI 24 from rfl, pk_rem (a := now + th) (by omega) (by decide) (by decide), nI_add, pk_sub (by omega), pk_rem (a := (j * gap % n * (24 / n)) + 24 - (now + th) % 24) (by omega) (by decide) (by decide), nI_add, nI_add]
    refine j_istore (ls' := [(5, _), (7, _), (0, _), (1, _), (2, _), (3, _), (4, _), (6, _)]) d_Mo_allBy_56 (by decide) rfl ?_
    refine j_iinc (ls' := [(6, _), (5, _), (7, _), (0, _), (1, _), (2, _), (3, _), (4, _)]) d_Mo_allBy_58 rfl (by decide) rfl ?_
    refine j_goto (tgt := 13) d_Mo_allBy_61 rfl ?_
    refine j_pick [3, 4, 5, 6, 7, 1, 0] (ls' := [(0, _), (1, _), (2, _), (3, _), (4, _), (5, _), (6, _)]) rfl ?_
    exact ih (j + 1) _ _ (by omega) (nI_inc j) (by omega) hF
set_option maxRecDepth 100000 in
set_option maxHeartbeats 4000000 in
theorem c_Mo_allBy {G : r_X} {d : Nat} {h : r_HI} {p q : Nat} {z : r_HL} {F : Int32 → r_HI → r_HR → r_HL → Prop} {n gap th : Nat} (hn : n ∈ a_pls) (hg : gap < 12) (ht : th < 24) {a1 a2 a3 : Int32} (e1 : a1 = nI n) (e2 : a2 = nI gap) (e3 : a3 = nI th) (hF : F (nI (m_all n gap th (24 / n) (n - 1) 1 (24 / n))) h (r_gp p q) z) : r_Ci G m_Mo_allBy (d) 61 [.ref (G.2.1 + 47), .int a1, .int a2, .int a3] 61 h (r_gp p q) z F := by
  obtain ⟨p1, p2, p3, p4, p5⟩ := a_pl hn
  subst e1
  subst e2
  subst e3
  refine r_C_of (by decide +kernel) (Nat.le_of_ble_eq_true rfl) ?_
  refine j_ls (ls' := [(0, _), (1, _), (2, _), (3, _)]) rfl ?_
  refine j_bipush (v := 24) d_Mo_allBy_0 (by decide) ?_
  refine j_iload_n d_Mo_allBy_2 rfl rfl ?_
  refine j_idiv d_Mo_allBy_3 (nI_ne0 (by omega) (by omega)) ?_
  rw [show (24 : Int32) / nI n = nI (24 / n) from pk_div (a := 24) (by decide) (by omega) (by omega)]
  refine j_istore (ls' := [(4, _), (0, _), (1, _), (2, _), (3, _)]) d_Mo_allBy_4 (by decide) rfl ?_
  refine j_iload d_Mo_allBy_6 rfl ?_
  refine j_istore (ls' := [(5, _), (4, _), (0, _), (1, _), (2, _), (3, _)]) d_Mo_allBy_8 (by decide) rfl ?_
  refine j_iconst (v := 1) d_Mo_allBy_10 rfl ?_
  refine j_istore (ls' := [(6, _), (5, _), (4, _), (0, _), (1, _), (2, _), (3, _)]) d_Mo_allBy_11 (by decide) rfl ?_
  refine j_pick [3, 4, 5, 6, 2, 1, 0] (ls' := [(0, _), (1, _), (2, _), (3, _), (4, _), (5, _), (6, _)]) rfl ?_
  exact l_Mo_allBy hn hg ht (n - 1) 1 _ _ (by omega) rfl (by omega) hF
theorem m_cm_lt {x y : Nat} : ∀ m, ∀ x y, x < 1000 → y < 1000 → m_cm m x y < 1000
  | 0, x, y, h, _ => h
  | m + 1, x, y, h, h2 => by
    unfold m_cm
    split
    · exact h
    · exact m_cm_lt (x := x) (y := y) m y (x % y) h2 (Nat.lt_of_le_of_lt (Nat.mod_le x y) h)
set_option maxRecDepth 100000 in
set_option maxHeartbeats 4000000 in
theorem l_Mo_apartOf {G : r_X} {d : Nat} {h : r_HI} {p q : Nat} {z : r_HL} {F : Int32 → r_HI → r_HR → r_HL → Prop} {D : a_D} (hN : p_N h D) (ho : a_dok D) {r th : Nat} (hr : r < D.1) (hn : (D.2.2.2.1 r) ∈ a_pls) (ht : th < 24) {a3 : Int32} : ∀ (e gap : Nat) (v : Int32) (b : Nat × Nat), e + gap = (D.2.2.2.1 r) → v = nI gap → b.2 ≤ 1000000 → (∀ v, r_TM G m_Mo_apartOf (d + 1) 61 61 (fun v h' g' z' => ∃ r, v = some (.int r) ∧ F r h' g' z') 72 [(0, .ref (G.2.1 + 47)), (1, .int (nI r)), (2, .int (nI th)), (3, .int a3), (4, .int (nI (m_ap (D.2.2.2.1 r) th e gap b).1)), (5, .int (nI (m_ap (D.2.2.2.1 r) th e gap b).2)), (6, .int v)] [] 61 h (r_gp p q) z) → r_TM G m_Mo_apartOf (d + 1) 61 61 (fun v h' g' z' => ∃ r, v = some (.int r) ∧ F r h' g' z') 10 [(0, .ref (G.2.1 + 47)), (1, .int (nI r)), (2, .int (nI th)), (3, .int a3), (4, .int (nI b.1)), (5, .int (nI b.2)), (6, .int v)] [] 61 h (r_gp p q) z := by
  obtain ⟨p1, p2, p3, p4, p5⟩ := a_pl hn
  have h10 := ho.1
  intro e
  induction e with
  | zero =>
    intro gap v b he hv hb kk
    subst hv
    refine j_iload d_Mo_apartOf_10 rfl ?_
    refine j_aload_n d_Mo_apartOf_12 rfl rfl ?_
    refine j_getr d_Mo_apartOf_13 f_Mo_13 rfl rfl (by decide) rfl ?_
    refine j_iload_n d_Mo_apartOf_16 rfl rfl ?_
    refine j_iav d_Mo_apartOf_17 rfl (by decide) (j := r) (rfl) (by omega) (by decide) ((hN.2.2.2 r hr).1) ?_
    refine j_icmp_ge (tgt := 72) d_Mo_apartOf_18 rfl (fun bq1 => ?_) (fun bq1 => False.elim (bq1 (nI_le (by omega) (by omega))))
    exact kk _
  | succ e ih =>
    intro gap v b he hv hb kk
    subst hv
    have hal := m_all_le (n := (D.2.2.2.1 r)) (gap := gap) ht p5 ((D.2.2.2.1 r) - 1) 1 (24 / (D.2.2.2.1 r))
    have hcm := m_cm_lt (x := 0) (y := 0) 12 (D.2.2.2.1 r) gap (by omega) (by omega)
    by_cases c1 : m_cm 12 (D.2.2.2.1 r) gap = 1
    · by_cases c2 : m_all (D.2.2.2.1 r) gap th (24 / (D.2.2.2.1 r)) ((D.2.2.2.1 r) - 1) 1 (24 / (D.2.2.2.1 r)) < b.2
      · refine j_iload d_Mo_apartOf_10 rfl ?_
        refine j_aload_n d_Mo_apartOf_12 rfl rfl ?_
        refine j_getr d_Mo_apartOf_13 f_Mo_13 rfl rfl (by decide) rfl ?_
        refine j_iload_n d_Mo_apartOf_16 rfl rfl ?_
        refine j_iav d_Mo_apartOf_17 rfl (by decide) (j := r) (rfl) (by omega) (by decide) ((hN.2.2.2 r hr).1) ?_
        refine j_icmp_ge (tgt := 72) d_Mo_apartOf_18 rfl (fun bq1 => False.elim (nI_ge (by omega) (by omega) bq1)) (fun bq1 => ?_)
        refine j_aload_n d_Mo_apartOf_21 rfl rfl ?_
        refine j_aload_n d_Mo_apartOf_22 rfl rfl ?_
        refine j_getr d_Mo_apartOf_23 f_Mo_13 rfl rfl (by decide) rfl ?_
        refine j_iload_n d_Mo_apartOf_26 rfl rfl ?_
        refine j_iav d_Mo_apartOf_27 rfl (by decide) (j := r) (rfl) (by omega) (by decide) ((hN.2.2.2 r hr).1) ?_
        refine j_iload d_Mo_apartOf_28 rfl ?_
        refine j_iload_n d_Mo_apartOf_30 rfl rfl ?_
        refine q_i (s_Mo_apartOf_31 rfl (by decide)) rfl (Nat.le_of_ble_eq_true rfl) (Nat.le_of_ble_eq_true rfl) ?_
        refine c_Mo_allBy hn (gap := gap) (by omega) ht rfl rfl rfl ?_
        refine j_istore (ls' := [(7, _), (0, _), (1, _), (2, _), (3, _), (4, _), (5, _), (6, _)]) d_Mo_apartOf_34 (by decide) rfl ?_
        refine j_aload_n d_Mo_apartOf_36 rfl rfl ?_
        refine j_getr d_Mo_apartOf_37 f_Mo_13 rfl rfl (by decide) rfl ?_
        refine j_iload_n d_Mo_apartOf_40 rfl rfl ?_
        refine j_iav d_Mo_apartOf_41 rfl (by decide) (j := r) (rfl) (by omega) (by decide) ((hN.2.2.2 r hr).1) ?_
        refine j_iload d_Mo_apartOf_42 rfl ?_
        refine q_i s_Mo_apartOf_44 rfl (Nat.le_of_ble_eq_true rfl) (Nat.le_of_ble_eq_true rfl) ?_
        refine c_Mo_common (y := gap) (by omega) (by omega) rfl rfl ?_
        refine j_iconst (v := 1) d_Mo_apartOf_47 rfl ?_
        refine j_icmp_ne (tgt := 66) d_Mo_apartOf_48 rfl (fun bq2 => False.elim (bq2 (congrArg nI c1))) (fun bq2 => ?_)
        refine j_iload d_Mo_apartOf_51 rfl ?_
        refine j_iload d_Mo_apartOf_53 rfl ?_
        refine j_icmp_ge (tgt := 66) d_Mo_apartOf_55 rfl (fun bq3 => False.elim (nI_ge c2 (by omega) bq3)) (fun bq3 => ?_)
        refine j_iload d_Mo_apartOf_58 rfl ?_
        refine j_istore (ls' := [(4, _), (7, _), (0, _), (1, _), (2, _), (3, _), (5, _), (6, _)]) d_Mo_apartOf_60 (by decide) rfl ?_
        refine j_iload d_Mo_apartOf_62 rfl ?_
        refine j_istore (ls' := [(5, _), (4, _), (7, _), (0, _), (1, _), (2, _), (3, _), (6, _)]) d_Mo_apartOf_64 (by decide) rfl ?_
        refine j_iinc (ls' := [(6, _), (5, _), (4, _), (7, _), (0, _), (1, _), (2, _), (3, _)]) d_Mo_apartOf_66 rfl (by decide) rfl ?_
        refine j_goto (tgt := 10) d_Mo_apartOf_69 rfl ?_
        refine j_pick [4, 5, 6, 7, 2, 1, 0] (ls' := [(0, _), (1, _), (2, _), (3, _), (4, _), (5, _), (6, _)]) rfl ?_
        have e9 : m_ap (D.2.2.2.1 r) th (e + 1) gap b = m_ap (D.2.2.2.1 r) th e (gap + 1) (gap, m_all (D.2.2.2.1 r) gap th (24 / (D.2.2.2.1 r)) ((D.2.2.2.1 r) - 1) 1 (24 / (D.2.2.2.1 r))) := by rw [m_ap, if_pos ⟨c1, c2⟩]
        rw [e9] at kk
        exact ih (gap + 1) _ _ (by omega) (nI_inc gap) (show m_all (D.2.2.2.1 r) gap th (24 / (D.2.2.2.1 r)) ((D.2.2.2.1 r) - 1) 1 (24 / (D.2.2.2.1 r)) ≤ 1000000 by omega) kk
      · refine j_iload d_Mo_apartOf_10 rfl ?_
        refine j_aload_n d_Mo_apartOf_12 rfl rfl ?_
        refine j_getr d_Mo_apartOf_13 f_Mo_13 rfl rfl (by decide) rfl ?_
        refine j_iload_n d_Mo_apartOf_16 rfl rfl ?_
        refine j_iav d_Mo_apartOf_17 rfl (by decide) (j := r) (rfl) (by omega) (by decide) ((hN.2.2.2 r hr).1) ?_
        refine j_icmp_ge (tgt := 72) d_Mo_apartOf_18 rfl (fun bq1 => False.elim (nI_ge (by omega) (by omega) bq1)) (fun bq1 => ?_)
        refine j_aload_n d_Mo_apartOf_21 rfl rfl ?_
        refine j_aload_n d_Mo_apartOf_22 rfl rfl ?_
        refine j_getr d_Mo_apartOf_23 f_Mo_13 rfl rfl (by decide) rfl ?_
        refine j_iload_n d_Mo_apartOf_26 rfl rfl ?_
        refine j_iav d_Mo_apartOf_27 rfl (by decide) (j := r) (rfl) (by omega) (by decide) ((hN.2.2.2 r hr).1) ?_
        refine j_iload d_Mo_apartOf_28 rfl ?_
        refine j_iload_n d_Mo_apartOf_30 rfl rfl ?_
        refine q_i (s_Mo_apartOf_31 rfl (by decide)) rfl (Nat.le_of_ble_eq_true rfl) (Nat.le_of_ble_eq_true rfl) ?_
        refine c_Mo_allBy hn (gap := gap) (by omega) ht rfl rfl rfl ?_
        refine j_istore (ls' := [(7, _), (0, _), (1, _), (2, _), (3, _), (4, _), (5, _), (6, _)]) d_Mo_apartOf_34 (by decide) rfl ?_
        refine j_aload_n d_Mo_apartOf_36 rfl rfl ?_
        refine j_getr d_Mo_apartOf_37 f_Mo_13 rfl rfl (by decide) rfl ?_
        refine j_iload_n d_Mo_apartOf_40 rfl rfl ?_
        refine j_iav d_Mo_apartOf_41 rfl (by decide) (j := r) (rfl) (by omega) (by decide) ((hN.2.2.2 r hr).1) ?_
        refine j_iload d_Mo_apartOf_42 rfl ?_
        refine q_i s_Mo_apartOf_44 rfl (Nat.le_of_ble_eq_true rfl) (Nat.le_of_ble_eq_true rfl) ?_
        refine c_Mo_common (y := gap) (by omega) (by omega) rfl rfl ?_
        refine j_iconst (v := 1) d_Mo_apartOf_47 rfl ?_
        refine j_icmp_ne (tgt := 66) d_Mo_apartOf_48 rfl (fun bq2 => False.elim (bq2 (congrArg nI c1))) (fun bq2 => ?_)
        refine j_iload d_Mo_apartOf_51 rfl ?_
        refine j_iload d_Mo_apartOf_53 rfl ?_
        refine j_icmp_ge (tgt := 66) d_Mo_apartOf_55 rfl (fun bq3 => ?_) (fun bq3 => False.elim (bq3 (nI_le (by omega) (by omega))))
        refine j_iinc (ls' := [(6, _), (7, _), (0, _), (1, _), (2, _), (3, _), (4, _), (5, _)]) d_Mo_apartOf_66 rfl (by decide) rfl ?_
        refine j_goto (tgt := 10) d_Mo_apartOf_69 rfl ?_
        refine j_pick [2, 3, 4, 5, 6, 7, 0] (ls' := [(0, _), (1, _), (2, _), (3, _), (4, _), (5, _), (6, _)]) rfl ?_
        have e9 : m_ap (D.2.2.2.1 r) th (e + 1) gap b = m_ap (D.2.2.2.1 r) th e (gap + 1) b := by rw [m_ap, if_neg (fun q => c2 q.2)]
        rw [e9] at kk
        exact ih (gap + 1) _ _ (by omega) (nI_inc gap) hb kk
    · refine j_iload d_Mo_apartOf_10 rfl ?_
      refine j_aload_n d_Mo_apartOf_12 rfl rfl ?_
      refine j_getr d_Mo_apartOf_13 f_Mo_13 rfl rfl (by decide) rfl ?_
      refine j_iload_n d_Mo_apartOf_16 rfl rfl ?_
      refine j_iav d_Mo_apartOf_17 rfl (by decide) (j := r) (rfl) (by omega) (by decide) ((hN.2.2.2 r hr).1) ?_
      refine j_icmp_ge (tgt := 72) d_Mo_apartOf_18 rfl (fun bq1 => False.elim (nI_ge (by omega) (by omega) bq1)) (fun bq1 => ?_)
      refine j_aload_n d_Mo_apartOf_21 rfl rfl ?_
      refine j_aload_n d_Mo_apartOf_22 rfl rfl ?_
      refine j_getr d_Mo_apartOf_23 f_Mo_13 rfl rfl (by decide) rfl ?_
      refine j_iload_n d_Mo_apartOf_26 rfl rfl ?_
      refine j_iav d_Mo_apartOf_27 rfl (by decide) (j := r) (rfl) (by omega) (by decide) ((hN.2.2.2 r hr).1) ?_
      refine j_iload d_Mo_apartOf_28 rfl ?_
      refine j_iload_n d_Mo_apartOf_30 rfl rfl ?_
      refine q_i (s_Mo_apartOf_31 rfl (by decide)) rfl (Nat.le_of_ble_eq_true rfl) (Nat.le_of_ble_eq_true rfl) ?_
      refine c_Mo_allBy hn (gap := gap) (by omega) ht rfl rfl rfl ?_
      refine j_istore (ls' := [(7, _), (0, _), (1, _), (2, _), (3, _), (4, _), (5, _), (6, _)]) d_Mo_apartOf_34 (by decide) rfl ?_
      refine j_aload_n d_Mo_apartOf_36 rfl rfl ?_
      refine j_getr d_Mo_apartOf_37 f_Mo_13 rfl rfl (by decide) rfl ?_
      refine j_iload_n d_Mo_apartOf_40 rfl rfl ?_
      refine j_iav d_Mo_apartOf_41 rfl (by decide) (j := r) (rfl) (by omega) (by decide) ((hN.2.2.2 r hr).1) ?_
      refine j_iload d_Mo_apartOf_42 rfl ?_
      refine q_i s_Mo_apartOf_44 rfl (Nat.le_of_ble_eq_true rfl) (Nat.le_of_ble_eq_true rfl) ?_
      refine c_Mo_common (y := gap) (by omega) (by omega) rfl rfl ?_
      refine j_iconst (v := 1) d_Mo_apartOf_47 rfl ?_
      refine j_icmp_ne (tgt := 66) d_Mo_apartOf_48 rfl (fun bq2 => ?_) (fun bq2 => False.elim (c1 ((nI_eq (b := 1) (by omega) (by omega)).mp bq2)))
      refine j_iinc (ls' := [(6, _), (7, _), (0, _), (1, _), (2, _), (3, _), (4, _), (5, _)]) d_Mo_apartOf_66 rfl (by decide) rfl ?_
      refine j_goto (tgt := 10) d_Mo_apartOf_69 rfl ?_
      refine j_pick [2, 3, 4, 5, 6, 7, 0] (ls' := [(0, _), (1, _), (2, _), (3, _), (4, _), (5, _), (6, _)]) rfl ?_
      have e9 : m_ap (D.2.2.2.1 r) th (e + 1) gap b = m_ap (D.2.2.2.1 r) th e (gap + 1) b := by rw [m_ap, if_neg (fun q => c1 q.1)]
      rw [e9] at kk
      exact ih (gap + 1) _ _ (by omega) (nI_inc gap) hb kk
set_option maxRecDepth 100000 in
set_option maxHeartbeats 4000000 in
theorem c_Mo_apartOf {G : r_X} {d : Nat} {h : r_HI} {p q : Nat} {z : r_HL} {F : Int32 → r_HI → r_HR → r_HL → Prop} {D : a_D} (hN : p_N h D) (ho : a_dok D) {r th v : Nat} {a1 a2 a3 : Int32} (hr : r < D.1) (ht : th < 24) (hv : v < 2) (e1 : a1 = nI r) (e2 : a2 = nI th) (e3 : a3 = nI v) (hF : F (nI (a_ap (D.2.2.2.1 r) th v)) h (r_gp p q) z) : r_Ci G m_Mo_apartOf (d + 1) 61 [.ref (G.2.1 + 47), .int a1, .int a2, .int a3] 61 h (r_gp p q) z F := by
  obtain ⟨p1, p2, p3, p4, p5⟩ := a_pl (ho.2.2.2 r hr).1
  have hm := m_ap_eq (ho.2.2.2 r hr).1 ht
  subst e1
  subst e2
  subst e3
  rcases (show v = 0 ∨ v = 1 by omega) with e | e
  · subst e
    refine r_C_of (by decide +kernel) (Nat.le_of_ble_eq_true rfl) ?_
    refine j_ls (ls' := [(0, _), (1, _), (2, _), (3, _)]) rfl ?_
    refine j_iconst (v := 0) d_Mo_apartOf_0 rfl ?_
    refine j_istore (ls' := [(4, _), (0, _), (1, _), (2, _), (3, _)]) d_Mo_apartOf_1 (by decide) rfl ?_
    refine j_ldc d_Mo_apartOf_3 k_Mo_216 ?_
    refine j_istore (ls' := [(5, _), (4, _), (0, _), (1, _), (2, _), (3, _)]) d_Mo_apartOf_5 (by decide) rfl ?_
    refine j_iconst (v := 1) d_Mo_apartOf_7 rfl ?_
    refine j_istore (ls' := [(6, _), (5, _), (4, _), (0, _), (1, _), (2, _), (3, _)]) d_Mo_apartOf_8 (by decide) rfl ?_
    refine j_pick [3, 4, 5, 6, 2, 1, 0] (ls' := [(0, _), (1, _), (2, _), (3, _), (4, _), (5, _), (6, _)]) rfl ?_
    refine l_Mo_apartOf hN ho hr (ho.2.2.2 r hr).1 ht ((D.2.2.2.1 r) - 1) 1 _ (0, 1000000) (by omega) rfl (Nat.le_refl _) (fun v => ?_)
    refine j_iload_n d_Mo_apartOf_72 rfl rfl ?_
    refine j_if_ne (tgt := 81) d_Mo_apartOf_73 rfl (fun bq1 => False.elim (bq1 rfl)) (fun bq1 => ?_)
    refine j_iload d_Mo_apartOf_76 rfl ?_
    refine j_goto (tgt := 83) d_Mo_apartOf_78 rfl ?_
    refine j_iret d_Mo_apartOf_83 rfl ?_
    exact q_i1 hF (congrArg nI hm.1)
  · subst e
    refine r_C_of (by decide +kernel) (Nat.le_of_ble_eq_true rfl) ?_
    refine j_ls (ls' := [(0, _), (1, _), (2, _), (3, _)]) rfl ?_
    refine j_iconst (v := 0) d_Mo_apartOf_0 rfl ?_
    refine j_istore (ls' := [(4, _), (0, _), (1, _), (2, _), (3, _)]) d_Mo_apartOf_1 (by decide) rfl ?_
    refine j_ldc d_Mo_apartOf_3 k_Mo_216 ?_
    refine j_istore (ls' := [(5, _), (4, _), (0, _), (1, _), (2, _), (3, _)]) d_Mo_apartOf_5 (by decide) rfl ?_
    refine j_iconst (v := 1) d_Mo_apartOf_7 rfl ?_
    refine j_istore (ls' := [(6, _), (5, _), (4, _), (0, _), (1, _), (2, _), (3, _)]) d_Mo_apartOf_8 (by decide) rfl ?_
    refine j_pick [3, 4, 5, 6, 2, 1, 0] (ls' := [(0, _), (1, _), (2, _), (3, _), (4, _), (5, _), (6, _)]) rfl ?_
    refine l_Mo_apartOf hN ho hr (ho.2.2.2 r hr).1 ht ((D.2.2.2.1 r) - 1) 1 _ (0, 1000000) (by omega) rfl (Nat.le_refl _) (fun v => ?_)
    refine j_iload_n d_Mo_apartOf_72 rfl rfl ?_
    refine j_if_ne (tgt := 81) d_Mo_apartOf_73 rfl (fun bq1 => ?_) (fun bq1 => False.elim (absurd bq1 (by decide)))
    refine j_iload d_Mo_apartOf_81 rfl ?_
    refine j_iret d_Mo_apartOf_83 rfl ?_
    exact q_i1 hF (congrArg nI hm.2)
set_option maxRecDepth 100000 in
set_option maxHeartbeats 4000000 in
theorem c_Mo_apart {G : r_X} {d : Nat} {h : r_HI} {p q : Nat} {z : r_HL} {F : Int32 → r_HI → r_HR → r_HL → Prop} {Z : a_Z} {x y w : Int32} (hM : p_M h Z) (ho : a_zok Z) (hF : ∀ h', r_ey r_As r_Js h h' → F (s_apart Z x y w) h' (r_gp p q) z) : r_Ci G m_Mo_apart (d + 20) 61 [.ref (G.2.1 + 47), .int x, .int y, .int w] 61 h (r_gp p q) z F := by
  obtain ⟨mG, mN, mJ0, m6, mW, mS, m11, m20, mkk, mkp⟩ := id hM
  obtain ⟨op, ⟨od, ok, otk, ow, os, okd⟩, o3, o4, o5, o6, o7⟩ := id ho
  obtain ⟨od1, od2, od3, od4⟩ := id od
  obtain ⟨ok1, ok2, ok3, ok4⟩ := id ok
  have os1 := os.1
  have op1 := op.1
  rcases ixc x Z.2.1.1.1 with ⟨ix1, hr1⟩ | ⟨r, hj1, e1, ix1, t1⟩
  · have hs : s_apart Z x y w = -101 := by simp [s_apart, ix1]
    rw [hs] at hF
    refine r_C_of (by decide +kernel) (Nat.le_of_ble_eq_true rfl) ?_
    refine j_ls (ls' := [(0, _), (1, _), (2, _), (3, _)]) rfl ?_
    refine j_aload_n d_Mo_apart_0 rfl rfl ?_
    refine j_iload_n d_Mo_apart_1 rfl rfl ?_
    refine q_i (s_Mo_apart_2 rfl (by decide)) rfl (Nat.le_of_ble_eq_true rfl) (Nat.le_of_ble_eq_true rfl) ?_
    refine c_Mo_isRingN mN od hr1 ?_
    refine j_if_ne (tgt := 11) d_Mo_apart_5 rfl (fun bq1 => False.elim (bq1 rfl)) (fun bq1 => ?_)
    refine j_bipush (v := (-101)) d_Mo_apart_8 (by decide) ?_
    refine j_iret d_Mo_apart_10 rfl ?_
    exact q_i1 (hF _ r_ey.rf) rfl
  · rcases ixc y 24 with ⟨ix2, hr2⟩ | ⟨t, hj2, e2, ix2, t2⟩
    · have hs : s_apart Z x y w = -102 := by simp [s_apart, ix1, ix2]
      rw [hs] at hF
      refine r_C_of (by decide +kernel) (Nat.le_of_ble_eq_true rfl) ?_
      refine j_ls (ls' := [(0, _), (1, _), (2, _), (3, _)]) rfl ?_
      refine j_aload_n d_Mo_apart_0 rfl rfl ?_
      refine j_iload_n d_Mo_apart_1 rfl rfl ?_
      refine q_i (s_Mo_apart_2 rfl (by decide)) rfl (Nat.le_of_ble_eq_true rfl) (Nat.le_of_ble_eq_true rfl) ?_
      refine c_Mo_isRingY mN od hj1 e1 ?_
      refine j_if_ne (tgt := 11) d_Mo_apart_5 rfl (fun bq1 => ?_) (fun bq1 => False.elim (absurd bq1 (by decide)))
      refine j_iload_n d_Mo_apart_11 rfl rfl ?_
      refine j_i2l d_Mo_apart_12 ?_
      refine j_lconst (v := 0) d_Mo_apart_13 rfl ?_
      refine j_ldc2 d_Mo_apart_14 k_Mo_209 ?_
      refine q_i s_Mo_apart_17 rfl (Nat.le_of_ble_eq_true rfl) (Nat.le_of_ble_eq_true rfl) ?_
      refine c_inN 0 23 rfl rfl (by omega) ?_
      refine j_if_eq (tgt := 43) d_Mo_apart_20 rfl (fun bq2 => ?_) (fun bq2 => False.elim (bq2 rfl))
      refine j_bipush (v := (-102)) d_Mo_apart_43 (by decide) ?_
      refine j_iret d_Mo_apart_45 rfl ?_
      exact q_i1 (hF _ r_ey.rf) rfl
    · rcases ixc w 2 with ⟨ix3, hr3⟩ | ⟨v, hj3, e3, ix3, t3⟩
      · have hs : s_apart Z x y w = -102 := by simp [s_apart, ix1, ix2, ix3]
        rw [hs] at hF
        refine r_C_of (by decide +kernel) (Nat.le_of_ble_eq_true rfl) ?_
        refine j_ls (ls' := [(0, _), (1, _), (2, _), (3, _)]) rfl ?_
        refine j_aload_n d_Mo_apart_0 rfl rfl ?_
        refine j_iload_n d_Mo_apart_1 rfl rfl ?_
        refine q_i (s_Mo_apart_2 rfl (by decide)) rfl (Nat.le_of_ble_eq_true rfl) (Nat.le_of_ble_eq_true rfl) ?_
        refine c_Mo_isRingY mN od hj1 e1 ?_
        refine j_if_ne (tgt := 11) d_Mo_apart_5 rfl (fun bq1 => ?_) (fun bq1 => False.elim (absurd bq1 (by decide)))
        refine j_iload_n d_Mo_apart_11 rfl rfl ?_
        refine j_i2l d_Mo_apart_12 ?_
        refine j_lconst (v := 0) d_Mo_apart_13 rfl ?_
        refine j_ldc2 d_Mo_apart_14 k_Mo_209 ?_
        refine q_i s_Mo_apart_17 rfl (Nat.le_of_ble_eq_true rfl) (Nat.le_of_ble_eq_true rfl) ?_
        refine c_inY 0 23 rfl rfl (by omega) ?_
        refine j_if_eq (tgt := 43) d_Mo_apart_20 rfl (fun bq2 => False.elim (absurd bq2 (by decide))) (fun bq2 => ?_)
        refine j_iload_n d_Mo_apart_23 rfl rfl ?_
        refine j_i2l d_Mo_apart_24 ?_
        refine j_lconst (v := 0) d_Mo_apart_25 rfl ?_
        refine j_lconst (v := 1) d_Mo_apart_26 rfl ?_
        refine q_i s_Mo_apart_27 rfl (Nat.le_of_ble_eq_true rfl) (Nat.le_of_ble_eq_true rfl) ?_
        refine c_inN 0 1 rfl rfl (by omega) ?_
        refine j_if_eq (tgt := 43) d_Mo_apart_30 rfl (fun bq3 => ?_) (fun bq3 => False.elim (bq3 rfl))
        refine j_bipush (v := (-102)) d_Mo_apart_43 (by decide) ?_
        refine j_iret d_Mo_apart_45 rfl ?_
        exact q_i1 (hF _ r_ey.rf) rfl
      · have hs : s_apart Z x y w = nI (a_ap (Z.2.1.1.2.2.2.1 r) t v) := by simp [s_apart, ix1, ix2, ix3]
        rw [hs] at hF
        refine r_C_of (by decide +kernel) (Nat.le_of_ble_eq_true rfl) ?_
        refine j_ls (ls' := [(0, _), (1, _), (2, _), (3, _)]) rfl ?_
        refine j_aload_n d_Mo_apart_0 rfl rfl ?_
        refine j_iload_n d_Mo_apart_1 rfl rfl ?_
        refine q_i (s_Mo_apart_2 rfl (by decide)) rfl (Nat.le_of_ble_eq_true rfl) (Nat.le_of_ble_eq_true rfl) ?_
        refine c_Mo_isRingY mN od hj1 e1 ?_
        refine j_if_ne (tgt := 11) d_Mo_apart_5 rfl (fun bq1 => ?_) (fun bq1 => False.elim (absurd bq1 (by decide)))
        refine j_iload_n d_Mo_apart_11 rfl rfl ?_
        refine j_i2l d_Mo_apart_12 ?_
        refine j_lconst (v := 0) d_Mo_apart_13 rfl ?_
        refine j_ldc2 d_Mo_apart_14 k_Mo_209 ?_
        refine q_i s_Mo_apart_17 rfl (Nat.le_of_ble_eq_true rfl) (Nat.le_of_ble_eq_true rfl) ?_
        refine c_inY 0 23 rfl rfl (by omega) ?_
        refine j_if_eq (tgt := 43) d_Mo_apart_20 rfl (fun bq2 => False.elim (absurd bq2 (by decide))) (fun bq2 => ?_)
        refine j_iload_n d_Mo_apart_23 rfl rfl ?_
        refine j_i2l d_Mo_apart_24 ?_
        refine j_lconst (v := 0) d_Mo_apart_25 rfl ?_
        refine j_lconst (v := 1) d_Mo_apart_26 rfl ?_
        refine q_i s_Mo_apart_27 rfl (Nat.le_of_ble_eq_true rfl) (Nat.le_of_ble_eq_true rfl) ?_
        refine c_inY 0 1 rfl rfl (by omega) ?_
        refine j_if_eq (tgt := 43) d_Mo_apart_30 rfl (fun bq3 => False.elim (absurd bq3 (by decide))) (fun bq3 => ?_)
        refine j_aload_n d_Mo_apart_33 rfl rfl ?_
        refine j_iload_n d_Mo_apart_34 rfl rfl ?_
        refine j_iload_n d_Mo_apart_35 rfl rfl ?_
        refine j_iload_n d_Mo_apart_36 rfl rfl ?_
        refine q_i (s_Mo_apart_37 rfl (by decide)) rfl (Nat.le_of_ble_eq_true rfl) (Nat.le_of_ble_eq_true rfl) ?_
        refine c_Mo_apartOf mN od hj1 hj2 hj3 e1 e2 e3 ?_
        refine j_goto (tgt := 45) d_Mo_apart_40 rfl ?_
        refine j_iret d_Mo_apart_45 rfl ?_
        exact q_i1 (hF _ r_ey.rf) rfl
