def m_sn (D : a_D) (K : a_K) (h : r_HI) : Prop := ∀ S j, S < 128 → j < 7 → ∃ v, h 53 (7 * S + j) = nI v ∧ (v = 1000000 ∨ ∃ y, m_vd K.2.2.2.1 (j :: y) ∧ m_bs (j :: y) = S ∧ v = (m_rv D K (j :: y)).1)
def m_cp (D : a_D) (K : a_K) (s k : Nat) (h : r_HI) : Prop := ∀ j y, m_vd K.2.2.2.1 (j :: y) → (y = [] ∨ m_bs y < s ∨ (m_bs y = s ∧ ∃ l y', y = l :: y' ∧ l * K.2.2.2.1 + j < k)) → ∃ v, h 53 (7 * m_bs (j :: y) + j) = nI v ∧ v ≤ (m_rv D K (j :: y)).1
theorem m_vd_mem {n : Nat} : ∀ {y : List Nat}, m_vd n y → ∀ i ∈ y, i < n
  | [], _, i, hi => absurd hi List.not_mem_nil
  | j :: y, h, i, hi => by
    rcases List.mem_cons.mp hi with e | hi
    · rw [e]; exact h.1
    · exact m_vd_mem h.2.2 i hi
theorem m_pop_le {s : Nat} : m_pop s ≤ 7 := by unfold m_pop; omega
theorem m_rv_bd {D : a_D} {K : a_K} (ho : a_dok D) (hk : a_kok D K) (ht : K.1 ≤ 100000) {y : List Nat} (hv : m_vd K.2.2.2.1 y) : (m_rv D K y).1 < 1000000 ∧ (m_rv D K y).2 < 10 := by
  have h1 := a_ef_bd ho hk (x := y.reverse) (fun i hi => m_vd_mem hv i (List.mem_reverse.mp hi))
  have h2 := (m_vd_bs hk.2.2.1 hv).2
  have h3 := m_pop_le (s := m_bs y)
  rw [m_rv_ef]
  rw [List.length_reverse] at h1
  exact ⟨by omega, h1.2⟩
/-- one cell made less keeps what is known -/
theorem m_sn.up {D : a_D} {K : a_K} {h : r_HI} (hs : m_sn D K h) {S j v : Nat} (hS : S < 128) (hj : j < 7) (hy : ∃ y, m_vd K.2.2.2.1 (j :: y) ∧ m_bs (j :: y) = S ∧ v = (m_rv D K (j :: y)).1) : m_sn D K (r_up h 53 (7 * S + j) (nI v)) := by
  intro S' j' hS' hj'
  rw [r_up_k]
  by_cases e : S' = S ∧ j' = j
  · rw [e.1, e.2, pk_us]
    exact ⟨v, rfl, Or.inr hy⟩
  · rw [pk_un (by omega)]
    exact hs S' j' hS' hj'
theorem m_cp.up {D : a_D} {K : a_K} {h : r_HI} {s k : Nat} (hn : K.2.2.2.1 ≤ 7) (hc : m_cp D K s k h) {S j v : Nat} (hj : j < 7) (hv : ∀ u, u < 2 ^ 31 → h 53 (7 * S + j) = nI u → v ≤ u) (hvb : v < 2 ^ 31) (hb : ∀ y, m_vd K.2.2.2.1 y → (m_rv D K y).1 < 1000000) : m_cp D K s k (r_up h 53 (7 * S + j) (nI v)) := by
  intro j' y h1 h2
  obtain ⟨u, g1, g2⟩ := hc j' y h1 h2
  have h3 := hb _ h1
  have h4 := h1.1
  rw [r_up_k]
  by_cases e : m_bs (j' :: y) = S ∧ j' = j
  · rw [e.1, e.2] at g1
    rw [e.1, e.2, pk_us]
    have := hv u (by omega) g1
    refine ⟨v, rfl, ?_⟩
    rw [← e.2]
    omega
  · rw [pk_un (by omega)]
    exact ⟨u, g1, g2⟩
