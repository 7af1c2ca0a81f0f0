/-! ===== the model's table of sets: the mathematics ===== -/
theorem a_dn_mono {D : a_D} {t t' x r p : Nat} (h : t ≤ t') : a_dn D t x r p ≤ a_dn D t' x r p := by
  unfold a_dn
  have h1 : t + a_tr D x r ≤ t' + a_tr D x r := by omega
  revert h1
  generalize t + a_tr D x r = T
  generalize t' + a_tr D x r = T'
  generalize D.2.2.2.2 r + p * a_ls D r = c
  intro h1
  omega
/-- the bits of an order, told from its end -/
def m_bs : List Nat → Nat
  | [] => 0
  | i :: y => m_bs y + 2 ^ i
def m_vd (n : Nat) : List Nat → Prop
  | [] => True
  | i :: y => i < n ∧ a_hb (m_bs y) i = false ∧ m_vd n y
def m_rv (D : a_D) (K : a_K) : List Nat → Nat × Nat
  | [] => (K.1, K.2.1)
  | i :: y => (a_dn D (m_rv D K y).1 (m_rv D K y).2 (K.2.2.2.2.1 i) (K.2.2.2.2.2.1 i), K.2.2.2.2.1 i)
theorem m_rv_ef {D : a_D} {K : a_K} : ∀ y : List Nat, m_rv D K y = a_ef D K y.reverse
  | [] => rfl
  | i :: y => by
    rw [List.reverse_cons, a_ef_app, ← m_rv_ef y]
    rfl
def m_pop (s : Nat) : Nat := s % 2 + s / 2 % 2 + s / 4 % 2 + s / 8 % 2 + s / 16 % 2 + s / 32 % 2 + s / 64 % 2
def m_bitb (n s i : Nat) : Bool := a_hb s i || (decide (s + 2 ^ i < 2 ^ n) && decide (m_pop (s + 2 ^ i) = m_pop s + 1))
theorem m_bit0 : ∀ n, n < 8 → ∀ s, s < 2 ^ n → ∀ i, i < n → m_bitb n s i = true := by decide +kernel
theorem m_bit {s i n : Nat} (hn : n ≤ 7) (hs : s < 2 ^ n) (hi : i < n) (h : a_hb s i = false) : s + 2 ^ i < 2 ^ n ∧ m_pop (s + 2 ^ i) = m_pop s + 1 ∧ s < s + 2 ^ i := by
  have h1 := m_bit0 n (by omega) s hs i hi
  unfold m_bitb at h1
  rw [h] at h1
  simp only [Bool.false_or, Bool.and_eq_true, decide_eq_true_eq] at h1
  have := Nat.two_pow_pos i
  exact ⟨h1.1, h1.2, by omega⟩
theorem m_vd_bs {n : Nat} (hn : n ≤ 7) : ∀ {y : List Nat}, m_vd n y → m_bs y < 2 ^ n ∧ m_pop (m_bs y) = y.length
  | [], _ => ⟨Nat.two_pow_pos n, rfl⟩
  | i :: y, h => by
    obtain ⟨h1, h2, h3⟩ := h
    obtain ⟨g1, g2⟩ := m_vd_bs hn h3
    obtain ⟨k1, k2, -⟩ := m_bit hn g1 h1 h2
    exact ⟨k1, by show m_pop (m_bs y + 2 ^ i) = y.length + 1; omega⟩
theorem m_full {n s : Nat} (hn : n ≤ 7) (hs : s < 2 ^ n) : m_pop s = n ↔ s = 2 ^ n - 1 := (show ∀ n, n < 8 → ∀ s, s < 2 ^ n → (m_pop s = n ↔ s = 2 ^ n - 1) by decide +kernel) n (by omega) s hs
/-- the orders of a_pc are those that are told so -/
theorem m_pc_vd {n : Nat} : ∀ (m used : Nat) (pre x : List Nat), used = m_bs pre.reverse → m_vd n pre.reverse → x ∈ a_pc n m used pre → m_vd n x.reverse ∧ x.length = pre.length + m
  | 0, used, pre, x, _, hv, h => by
    rw [List.mem_singleton.mp h]
    exact ⟨hv, rfl⟩
  | m + 1, used, pre, x, hu, hv, h => by
    obtain ⟨r, h1, h2⟩ := List.mem_flatMap.mp h
    have hr : r < n := by
      have := (List.mem_range'_1.mp h1).2
      omega
    by_cases e : a_hb used r = true
    · rw [if_pos e] at h2
      exact absurd h2 List.not_mem_nil
    · rw [if_neg e] at h2
      have e2 : a_hb used r = false := by
        cases q : a_hb used r with
        | false => rfl
        | true => exact absurd q e
      have h3 := m_pc_vd m (used + 2 ^ r) (pre ++ [r]) x (by rw [List.reverse_append]; show _ = m_bs pre.reverse + 2 ^ r; rw [hu]) (by rw [List.reverse_append]; exact ⟨hr, hu ▸ e2, hv⟩) h2
      refine ⟨h3.1, ?_⟩
      rw [h3.2, List.length_append]
      show pre.length + 1 + m = _
      omega
theorem m_vd_suf {n : Nat} : ∀ {a b : List Nat}, m_vd n (a ++ b) → m_vd n b
  | [], _, h => h
  | _ :: a, _, h => m_vd_suf (a := a) h.2.2
theorem m_vd_pc {n : Nat} : ∀ (m : Nat) (pre suf : List Nat), suf.length = m → m_vd n (pre ++ suf).reverse → pre ++ suf ∈ a_pc n m (m_bs pre.reverse) pre
  | 0, pre, suf, hs, _ => by
    rw [List.length_eq_zero_iff.mp hs, List.append_nil]
    exact List.mem_singleton.mpr rfl
  | m + 1, pre, [], hs, _ => by cases hs
  | m + 1, pre, r :: suf, hs, hv => by
    have h1 : m_vd n (r :: pre.reverse) := by
      have h2 : (pre ++ r :: suf).reverse = suf.reverse ++ (r :: pre.reverse) := by simp
      rw [h2] at hv
      exact m_vd_suf hv
    obtain ⟨g1, g2, g3⟩ := h1
    refine List.mem_flatMap.mpr ⟨r, List.mem_range'_1.mpr ⟨Nat.zero_le _, by omega⟩, ?_⟩
    rw [if_neg (by rw [g2]; decide)]
    have h4 := m_vd_pc m (pre ++ [r]) suf (by simpa using hs) (by simpa using hv)
    have h5 : m_bs (pre ++ [r]).reverse = m_bs pre.reverse + 2 ^ r := by rw [List.reverse_append]; rfl
    rw [h5] at h4
    simpa using h4
