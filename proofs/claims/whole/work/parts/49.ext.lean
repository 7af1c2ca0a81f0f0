theorem m_cp.ext {D : a_D} {K : a_K} {h : r_HI} {s k l i : Nat} (hc : m_cp D K s k h) (hi : i < K.2.2.2.1) (hk : l * K.2.2.2.1 + i = k) (hp : ∀ y, m_vd K.2.2.2.1 (i :: l :: y) → m_bs (l :: y) = s → ∃ v, h 53 (7 * m_bs (i :: l :: y) + i) = nI v ∧ v ≤ (m_rv D K (i :: l :: y)).1) : m_cp D K s (k + 1) h := by
  intro j y h1 h2
  rcases h2 with h2 | h2 | ⟨e, l', y', h2, h3⟩
  · exact hc j y h1 (Or.inl h2)
  · exact hc j y h1 (Or.inr (Or.inl h2))
  · by_cases c : l' * K.2.2.2.1 + j < k
    · exact hc j y h1 (Or.inr (Or.inr ⟨e, l', y', h2, c⟩))
    · have hj := h1.1
      have e1 : l' * K.2.2.2.1 + j = l * K.2.2.2.1 + i := by omega
      have e2 : j = i := by
        have := congrArg (· % K.2.2.2.1) e1
        simp only [Nat.mul_add_mod_self_right, Nat.mod_eq_of_lt hj, Nat.mod_eq_of_lt hi] at this
        exact this
      subst e2
      have e3 : l' = l := Nat.eq_of_mul_eq_mul_right (show 0 < K.2.2.2.1 by omega) (by omega)
      subst e3
      subst h2
      exact hp y' h1 e
theorem i7 (a b : Nat) : (7 : Int32) * nI a + nI b = nI (7 * a + b) := (congrArg (· + nI b) (pk_mul 7 a)).trans (nI_add _ _)
