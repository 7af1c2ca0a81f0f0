/-! ===== the states that can be: they stay so ===== -/
def z_I (Z : a_Z) (k : Nat) : Prop := a_zok Z ∧ Z.2.2.1 ≤ k
theorem a_ix_lt {x : Int32} {n c : Nat} (h : a_ix x n = some c) : c < n := by
  unfold a_ix at h
  split at h
  · injection h with h
    omega
  · cases h
theorem z_I.P {Z : a_Z} {k : Nat} {P : a_P} (h : z_I Z k) (hp : a_pok P) : z_I (z_P Z P) k := by
  obtain ⟨⟨h1, h2⟩, h3⟩ := h
  exact ⟨⟨hp, h2⟩, h3⟩
theorem z_I.V {Z : a_Z} {k : Nat} {V : a_V} (h : z_I Z k) (hv : a_vok V) (hR : V.1.1 = Z.2.1.1.1) (hpl : V.1.2.2.2.1 = Z.2.1.1.2.2.2.1) : z_I (z_V Z V) k := by
  obtain ⟨⟨h1, h2, h3, h4, h5, h6, h7⟩, h8⟩ := h
  refine ⟨⟨h1, hv, h3, h4, h5, ?_, fun f => ?_⟩, h8⟩
  · show V.1.1 = 0 ∨ 4 ≤ V.1.1
    rw [hR]
    exact h6
  · obtain ⟨g1, g2, g3, g4⟩ := h7 f
    exact ⟨by show 0 < V.1.1; omega, g2, g3.trans hR.symm, g4.trans hpl.symm⟩
theorem z_I.K {Z : a_Z} {k : Nat} {K : a_K} (h : z_I Z k) (hk : a_kok Z.2.1.1 K) (ht : K.1 ≤ 100000) : z_I (z_K Z K) k := by
  obtain ⟨v1, v2, v3, v4, v5, v6⟩ := h.1.2.1
  exact h.V ⟨v1, hk, ht, v4, v5, v6⟩ rfl rfl
theorem z_I.D {Z : a_Z} {k : Nat} {D : a_D} (h : z_I Z k) (hd : a_dok D) (hR : D.1 = Z.2.1.1.1) (hpl : D.2.2.2.1 = Z.2.1.1.2.2.2.1) : z_I (z_D Z D) k := by
  obtain ⟨v1, v2, v3, v4, v5, v6⟩ := h.1.2.1
  refine h.V ⟨hd, ?_, v3, v4, v5, v6⟩ hR hpl
  obtain ⟨a1, a2, a3, a4⟩ := v2
  refine ⟨a1, a2, a3, fun i hi => ?_⟩
  rw [hR, hpl]
  exact a4 i hi
theorem z_I.W {Z : a_Z} {k : Nat} {w : Nat → Nat} (h : z_I Z k) (hw : a_wok w) : z_I (z_W Z w) k := by
  obtain ⟨v1, v2, v3, v4, v5, v6⟩ := h.1.2.1
  exact h.V ⟨v1, v2, v3, hw, v5, v6⟩ rfl rfl
theorem z_I.S {Z : a_Z} {k : Nat} {S : a_S} (h : z_I Z k) (hs : a_sok S) : z_I (z_S Z S) k := by
  obtain ⟨v1, v2, v3, v4, v5, v6⟩ := h.1.2.1
  exact h.V ⟨v1, v2, v3, v4, hs, v6⟩ rfl rfl
theorem z_I.k {Z : a_Z} {k j : Nat} (h : z_I Z k) (hj : j < 5) : z_I (z_k Z j) k := by
  obtain ⟨v1, v2, v3, v4, v5, v6⟩ := h.1.2.1
  exact h.V ⟨v1, v2, v3, v4, v5, hj⟩ rfl rfl
theorem va_up_at {f : Nat → Nat} {n c i : Nat} : va_up f n c i = if i = n then c else f i := by simp [va_up]
theorem zi_letter {Z : a_Z} {k : Nat} {x : Int32} (h : z_I Z k) : z_I (s_letter Z x).2 k := by
  unfold s_letter
  split
  · exact h
  · rename_i c hc
    have h127 := a_ix_lt hc
    split
    · exact h
    · split
      · exact h
      · obtain ⟨p1, p2⟩ := h.1.1
        refine h.P ⟨by show Z.1.1 + 1 ≤ 28; omega, fun i hi => ?_⟩
        have hi : i < Z.1.1 + 1 := hi
        show va_up Z.1.2 Z.1.1 c i < 127
        rw [va_up_at]
        split
        · exact h127
        · exact p2 i (by omega)
theorem zi_blank {Z : a_Z} {k : Nat} (h : z_I Z k) : z_I (s_blank Z).2 k := h.P ⟨Nat.zero_le _, fun i hi => absurd hi (Nat.not_lt_zero i)⟩
theorem zi_plate {Z : a_Z} {k : Nat} (h : z_I Z k) (hk : k < 536870912) : z_I (s_plate Z).2 (k + 1) := by
  unfold s_plate
  split
  · rename_i hb
    obtain ⟨E, hv⟩ := a_vp_of h.1.1 (a_ipb_iff.mp hb)
    have hd := a_rd_ok hv
    obtain ⟨v1, v2, v3, v4, v5, v6, v7, v8, v9, v10, v11⟩ := id hv
    have hko : a_ko (Z.1.2 (Z.1.1 - 1)) < 5 := by rw [v4]; exact v11
    rw [v5]
    have h2 := h.2
    refine ⟨⟨⟨Nat.zero_le _, fun i hi => absurd hi (Nat.not_lt_zero i)⟩, ⟨hd, ⟨show 0 < 10 by decide, show 1 ≤ 1 by decide, show 0 ≤ 7 by decide, fun i hi => absurd hi (Nat.not_lt_zero i)⟩, show 0 ≤ 100000 by decide, fun _ _ => Nat.zero_le _, ⟨Nat.zero_le _, fun i hi => absurd hi (Nat.not_lt_zero i)⟩, hko⟩, by show Z.2.2.1 + 1 ≤ _; omega, h.1.2.2.2.1, Nat.zero_le _, Or.inr (by show 4 ≤ E / 2; omega), fun f => absurd (show (0 : Nat) = 1 from f) (by decide)⟩, by show Z.2.2.1 + 1 ≤ _; omega⟩
  · exact ⟨h.1, Nat.le_succ_of_le h.2⟩
theorem zi_ask {Z : a_Z} {k : Nat} {x y : Int32} (h : z_I Z k) : z_I (s_ask Z x y).2 k := by
  unfold s_ask
  split
  · exact h
  · rename_i r hr
    split
    · exact h
    · rename_i w hw
      split
      · exact h
      · exact h.K (a_ask_ok h.1.2.1.2.1 (by omega) (a_ix_lt hr) (a_ix_lt hw)) h.1.2.1.2.2.1
theorem zi_serve {Z : a_Z} {k : Nat} (h : z_I Z k) : z_I (s_serve Z).2 k := by
  unfold s_serve
  split
  · exact h
  · rename_i hn
    split
    · exact h
    · rename_i h5
      refine h.K (a_fo_ok h.1.2.1.1 h.1.2.1.2.1 (a_nx_lt (by omega))) ?_
      exact Nat.le_of_not_lt h5
theorem zi_read {Z : a_Z} {k : Nat} {x : Int32} (h : z_I Z k) : z_I (s_read Z x).2 k := by
  unfold s_read
  split
  · exact h
  · rename_i i hi
    split
    · exact h
    · rename_i h5
      exact h.K (a_kok.fin h.1.2.1.1 h.1.2.1.2.1 (a_ix_lt hi)) (Nat.le_of_not_lt h5)
theorem zi_pass {Z : a_Z} {k : Nat} {x : Int32} (h : z_I Z k) : z_I (s_pass Z x).2 k := by
  unfold s_pass
  split
  · exact h
  · rename_i t ht
    split
    · exact h
    · split
      · exact h
      · split
        · exact h
        · rename_i h5
          obtain ⟨a1, a2, a3, a4⟩ := h.1.2.1.2.1
          refine h.K ⟨a1, a2, a3, fun i hi => ?_⟩ (by show Z.2.1.2.1.1 + t ≤ 100000; omega)
          obtain ⟨b1, b2, b3⟩ := a4 i hi
          exact ⟨b1, b2, Nat.le_trans b3 (Nat.le_add_right _ t)⟩
theorem zi_choose {Z : a_Z} {k : Nat} {x : Int32} (h : z_I Z k) : z_I (s_choose Z x).2 k := by
  unfold s_choose
  split
  · exact h
  · rename_i j hj
    split
    · exact h
    · exact h.k (a_ix_lt hj)
theorem zi_skew {Z : a_Z} {k : Nat} {x y : Int32} (h : z_I Z k) : z_I (s_skew Z x y).2 k := by
  unfold s_skew
  split
  · exact h
  · rename_i r hr
    split
    · exact h
    · rename_i v hv
      obtain ⟨d1, d2, d3, d4⟩ := h.1.2.1.1
      refine h.D ⟨d1, d2, d3, fun i hi => ⟨(d4 i hi).1, ?_⟩⟩ rfl rfl
      show va_up Z.2.1.1.2.2.2.2 r v i < 24
      rw [va_up_at]
      split
      · exact a_ix_lt hv
      · exact (d4 i hi).2
theorem zi_gear {Z : a_Z} {k : Nat} {x y : Int32} (h : z_I Z k) : z_I (s_gear Z x y).2 k := by
  unfold s_gear
  split
  · exact h
  · rename_i s hs
    split
    · exact h
    · rename_i t ht
      split
      · exact h
      · split
        · exact h
        · obtain ⟨d1, d2, d3, d4⟩ := h.1.2.1.1
          have := a_ix_lt hs
          have := a_ix_lt ht
          exact h.D ⟨d1, by show s ≤ 9; omega, by show t ≤ 9; omega, d4⟩ rfl rfl
theorem zi_least {Z : a_Z} {k : Nat} {x : Int32} (h : z_I Z k) : z_I (s_least Z x).2 k := by
  unfold s_least
  split
  · exact h
  · split
    · exact h
    · split
      · exact h
      · rename_i h9
        obtain ⟨⟨h1, h2, h3, h4, h5⟩, h8⟩ := h
        exact ⟨⟨h1, h2, h3, by show Z.2.2.2.1 + 1 ≤ 16; omega, h5⟩, h8⟩
theorem zi_weigh {Z : a_Z} {k : Nat} {x y : Int32} (h : z_I Z k) : z_I (s_weigh Z x y).2 k := by
  unfold s_weigh
  split
  · exact h
  · rename_i r hr
    split
    · exact h
    · split
      · exact h
      · rename_i v hv
        refine h.W (fun j hj => ?_)
        rw [va_up_at]
        split
        · have := a_ix_lt hv
          omega
        · exact h.1.2.1.2.2.2.1 j hj
theorem zi_see {Z : a_Z} {k : Nat} {x y : Int32} (h : z_I Z k) : z_I (s_see Z x y).2 k := by
  unfold s_see
  split
  · exact h
  · rename_i r hr
    split
    · exact h
    · split
      · exact h
      · rename_i t ht
        split
        · exact h
        · split
          · exact h
          · obtain ⟨s1, s2⟩ := h.1.2.1.2.2.2.2.1
            have h1 := a_ix_lt hr
            have h2 := a_ix_lt ht
            refine h.S ⟨by show Z.2.1.2.2.2.1.1 + 1 ≤ 6; omega, fun i hi => ?_⟩
            have hi : i < Z.2.1.2.2.2.1.1 + 1 := hi
            show va_up _ _ _ i ≤ 9 ∧ va_up _ _ _ i ≤ 99
            rw [va_up_at, va_up_at]
            by_cases e : i = Z.2.1.2.2.2.1.1
            · rw [if_pos e, if_pos e]
              omega
            · rw [if_neg e, if_neg e]
              exact s2 i (by omega)
theorem zi_forget {Z : a_Z} {k : Nat} (h : z_I Z k) : z_I (s_forget Z).2 k := h.S ⟨Nat.zero_le _, fun i hi => absurd hi (Nat.not_lt_zero i)⟩
theorem zi_image {Z : a_Z} {k : Nat} (h : z_I Z k) : z_I (s_image Z).2 k := by
  unfold s_image
  split
  · exact h
  · obtain ⟨⟨h1, h2, h3, h4, h5, h6, h7⟩, h8⟩ := h
    exact ⟨⟨h1, h2, h3, h4, Nat.le_refl 1, h6, fun _ => ⟨by show 0 < Z.2.1.1.1; omega, h2, rfl, rfl⟩⟩, h8⟩
theorem zi_restore {Z : a_Z} {k : Nat} (h : z_I Z k) : z_I (s_restore Z).2 k := by
  unfold s_restore
  split
  · exact h
  · have h5 := h.1.2.2.2.2.1
    obtain ⟨g1, g2, g3, g4⟩ := h.1.2.2.2.2.2.2 (by omega)
    exact h.V g2 g3 g4
/-- the state behind the constructors -/
def z_0 : a_Z := ((0, fun _ => 0), ((0, 0, 0, (fun _ => 0), (fun _ => 0)), a_K0, (fun _ => 0), (0, (fun _ => 0), (fun _ => 0)), 0), 0, 0, 0, ((0, 0, 0, (fun _ => 0), (fun _ => 0)), a_K0, (fun _ => 0), (0, (fun _ => 0), (fun _ => 0)), 0))
theorem zi_0 : z_I z_0 0 := ⟨⟨⟨Nat.zero_le _, fun i hi => absurd hi (Nat.not_lt_zero i)⟩, ⟨⟨by decide, by decide, by decide, fun i hi => absurd hi (Nat.not_lt_zero i)⟩, ⟨by decide, by decide, by decide, fun i hi => absurd hi (Nat.not_lt_zero i)⟩, by decide, fun _ _ => Nat.zero_le _, ⟨Nat.zero_le _, fun i hi => absurd hi (Nat.not_lt_zero i)⟩, by decide⟩, Nat.zero_le _, Nat.zero_le _, Nat.zero_le _, Or.inl rfl, fun f => absurd (show (0 : Nat) = 1 from f) (by decide)⟩, Nat.zero_le _⟩
