theorem m_bs_0 {y : List Nat} (h : m_bs y < 1) : y = [] := by
  cases y with
  | nil => rfl
  | cons i y =>
    have := Nat.two_pow_pos i
    have h : m_bs y + 2 ^ i < 1 := h
    omega
theorem m_cp.nxt {D : a_D} {K : a_K} {h : r_HI} {s : Nat} (hc : m_cp D K s (K.2.2.2.1 * K.2.2.2.1) h) : m_cp D K (s + 1) 0 h := by
  intro j y h1 h2
  rcases h2 with h2 | h2 | ⟨-, l, y', -, h2⟩
  · exact hc j y h1 (Or.inl h2)
  · by_cases c : m_bs y < s
    · exact hc j y h1 (Or.inr (Or.inl c))
    · cases y with
      | nil => exact hc j [] h1 (Or.inl rfl)
      | cons l y' =>
        refine hc j (l :: y') h1 (Or.inr (Or.inr ⟨by omega, l, y', rfl, ?_⟩))
        have hj := h1.1
        have hl := h1.2.2.1
        have := Nat.mul_le_mul_right K.2.2.2.1 (show l + 1 ≤ K.2.2.2.1 by omega)
        rw [Nat.add_mul] at this
        omega
  · exact absurd h2 (Nat.not_lt_zero _)
theorem a_hb_0 {j : Nat} : a_hb 0 j = false := by simp [a_hb]
set_option maxRecDepth 100000 in
set_option maxHeartbeats 4000000 in
theorem l_ls3 {G : r_X} {d : Nat} {h : r_HI} {p q : Nat} {z : r_HL} {F : r_HI → r_HR → r_HL → Prop} {D : a_D} (hN : p_N h D) (ho : a_dok D) {K : a_K} (hJ : p_J h K) (hk : a_kok D K) (ht : K.1 ≤ 100000) (hF : ∀ h', r_ey [53] [] h h' → m_sn D K h' → m_cp D K (2 ^ K.2.2.2.1) 0 h' → F h' (r_gp p q) z) : ∀ (e s : Nat) (v : Int32) (h1 : r_HI), e + s = 2 ^ K.2.2.2.1 → v = nI s → r_ey [53] [] h h1 → m_sn D K h1 → m_cp D K s 0 h1 → r_TM G m_Mo_laySoonest (d + 2) 61 61 (fun v h' g' z' => v = none ∧ F h' g' z') 84 [(0, .ref (G.2.1 + 47)), (1, .int v)] [] 61 h1 (r_gp p q) z := by
  have hn7 := hk.2.2.1
  have h27 : 2 ^ K.2.2.2.1 ≤ 2 ^ 7 := Nat.pow_le_pow_right (by decide) hn7
  intro e
  induction e with
  | zero =>
    intro s v h1 he hv hy hsn hcp
    subst hv
    have hJ1 : p_J h1 K := hJ.ey hy (by decide) (by decide) (by decide) (by decide) (by decide)
    refine j_iload_n d_Mo_laySoonest_84 rfl rfl ?_
    refine j_iconst (v := 1) d_Mo_laySoonest_85 rfl ?_
    refine j_aload_n d_Mo_laySoonest_86 rfl rfl ?_
    refine j_geti d_Mo_laySoonest_87 f_Mo_114 rfl rfl (by decide) ?_
    refine j_ishl d_Mo_laySoonest_90 ?_
    refine j_icmp_ge (tgt := 251) d_Mo_laySoonest_91 rfl (fun bq1 => ?_) (fun bq1 => False.elim (bq1 (by rw [hJ1.2.2.2.1, nI_bit (by omega)]; exact nI_le (by omega) (by omega))))
    refine j_vret d_Mo_laySoonest_251 rfl ?_
    have e0 : s = 2 ^ K.2.2.2.1 := by omega
    subst e0
    exact ⟨rfl, hF _ hy hsn hcp⟩
  | succ e ih =>
    intro s v h1 he hv hy hsn hcp
    subst hv
    have hJ1 : p_J h1 K := hJ.ey hy (by decide) (by decide) (by decide) (by decide) (by decide)
    refine j_iload_n d_Mo_laySoonest_84 rfl rfl ?_
    refine j_iconst (v := 1) d_Mo_laySoonest_85 rfl ?_
    refine j_aload_n d_Mo_laySoonest_86 rfl rfl ?_
    refine j_geti d_Mo_laySoonest_87 f_Mo_114 rfl rfl (by decide) ?_
    refine j_ishl d_Mo_laySoonest_90 ?_
    refine j_icmp_ge (tgt := 251) d_Mo_laySoonest_91 rfl (fun bq1 => False.elim (nI_ge (a := s) (b := 2 ^ K.2.2.2.1) (by omega) (by omega) (by have t9 : 1 <<< (h1 47 10 &&& 31) ≤ nI s := bq1; rw [hJ1.2.2.2.1, nI_bit (by omega)] at t9; exact t9))) (fun bq1 => ?_)
    refine j_iconst (v := 0) d_Mo_laySoonest_94 rfl ?_
    refine j_istore_n (ls' := [(2, _), (0, _), (1, _)]) d_Mo_laySoonest_95 rfl (by decide) rfl ?_
    refine j_pick [1, 2, 0] (ls' := [(0, _), (1, _), (2, _)]) rfl ?_
    refine l_ls4 hN ho hJ hk ht (s := s) (by omega) (fun h2 v2 y2 s2 c2 => ?_) (K.2.2.2.1 * K.2.2.2.1) 0 _ h1 (by omega) rfl hy hsn hcp
    refine j_iinc (ls' := [(1, _), (0, _), (2, _)]) d_Mo_laySoonest_245 rfl (by decide) rfl ?_
    refine j_goto (tgt := 84) d_Mo_laySoonest_248 rfl ?_
    refine j_pick [1, 0] (ls' := [(0, _), (1, _)]) rfl ?_
    exact ih (s + 1) _ h2 (by omega) (nI_inc s) y2 s2 c2.nxt
set_option maxRecDepth 100000 in
set_option maxHeartbeats 4000000 in
theorem c_Mo_laySoonest {G : r_X} {d : Nat} {h : r_HI} {p q : Nat} {z : r_HL} {F : r_HI → r_HR → r_HL → Prop} {D : a_D} (hN : p_N h D) (ho : a_dok D) {K : a_K} (hJ : p_J h K) (hk : a_kok D K) (ht : K.1 ≤ 100000) (hF : ∀ h', r_ey [53] [] h h' → m_sn D K h' → m_cp D K (2 ^ K.2.2.2.1) 0 h' → F h' (r_gp p q) z) : r_Cv G m_Mo_laySoonest (d + 2) 61 [.ref (G.2.1 + 47)] 61 h (r_gp p q) z F := by
  have hn7 := hk.2.2.1
  refine r_C_of (by decide +kernel) (Nat.le_of_ble_eq_true rfl) ?_
  refine j_ls (ls' := [(0, _)]) rfl ?_
  refine j_iconst (v := 0) d_Mo_laySoonest_0 rfl ?_
  refine j_istore_n (ls' := [(1, _), (0, _)]) d_Mo_laySoonest_1 rfl (by decide) rfl ?_
  refine j_pick [1, 0] (ls' := [(0, _), (1, _)]) rfl ?_
  refine l_ls1 (fun h1 v1 y1 r1 => ?_) 896 0 _ _ (by omega) rfl r_ey.rf (fun j hj => absurd hj (Nat.not_lt_zero j))
  refine j_iconst (v := 0) d_Mo_laySoonest_23 rfl ?_
  refine j_istore_n (ls' := [(1, _), (0, _)]) d_Mo_laySoonest_24 rfl (by decide) rfl ?_
  refine j_pick [1, 0] (ls' := [(0, _), (1, _)]) rfl ?_
  refine l_ls2 hN ho hJ hk ht (fun h2 v2 y2 r2 => ?_) K.2.2.2.1 0 _ h1 (by omega) rfl y1 (fun S j hS hj => by rw [r1 _ (by omega), if_neg (fun q => absurd q.2 (Nat.not_lt_zero j))])
  refine j_iconst (v := 1) d_Mo_laySoonest_82 rfl ?_
  refine j_istore_n (ls' := [(1, _), (0, _)]) d_Mo_laySoonest_83 rfl (by decide) rfl ?_
  refine j_pick [1, 0] (ls' := [(0, _), (1, _)]) rfl ?_
  refine l_ls3 hN ho hJ hk ht hF (2 ^ K.2.2.2.1 - 1) 1 _ h2 (by have := Nat.two_pow_pos K.2.2.2.1; omega) rfl y2 (fun S j hS hj => ?_) (fun j y q1 q2 => ?_)
  · refine ⟨_, r2 S j hS hj, ?_⟩
    by_cases c : S = 2 ^ j ∧ j < K.2.2.2.1
    · rw [if_pos c]
      exact Or.inr ⟨[], ⟨c.2, a_hb_0, trivial⟩, by show 0 + 2 ^ j = S; rw [c.1, Nat.zero_add], rfl⟩
    · rw [if_neg c]
      exact Or.inl rfl
  · have hy0 : y = [] := by
      rcases q2 with q2 | q2 | ⟨-, l, y', -, q2⟩
      · exact q2
      · exact m_bs_0 q2
      · exact absurd q2 (Nat.not_lt_zero _)
    subst hy0
    have hj := q1.1
    have hp : 2 ^ j ≤ 2 ^ 6 := Nat.pow_le_pow_right (by decide) (by omega)
    refine ⟨_, (show h2 53 (7 * (0 + 2 ^ j) + j) = _ by rw [Nat.zero_add]; exact r2 (2 ^ j) j (by omega) (by omega)), ?_⟩
    rw [if_pos ⟨rfl, hj⟩]
    exact Nat.le_refl _
