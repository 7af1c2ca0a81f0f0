theorem r_lk_no : ∀ {ps : List (Int × Int)} {df k : Int}, (∀ q ∈ ps, q.1 ≠ k) → Op.lookupswitch.offset ps df k = df
  | [], _, _, _ => rfl
  | (a, o) :: r, df, k, h => by
    have h1 : a ≠ k := h (a, o) List.mem_cons_self
    show (if a = k then o else Op.lookupswitch.offset r df k) = df
    rw [if_neg h1]
    exact r_lk_no (fun q hq => h q (List.mem_cons_of_mem _ hq))
/-- how many places a sign tells; 0: none -/
def a_po (c : Nat) : Nat := if c = 50 then 2 else if c = 51 then 3 else if c = 52 then 4 else if c = 54 then 6 else if c = 56 then 8 else if c = 99 then 12 else 0
/-- which kind a letter tells; 5: none -/
def a_ko (c : Nat) : Nat := if c = 102 then 0 else if c = 110 then 1 else if c = 115 then 2 else if c = 114 then 3 else if c = 111 then 4 else 5
def a_fr (i c : Nat) : Bool := if i % 2 = 1 then decide (97 ≤ c ∧ c < 121) else if c = 59 then decide (8 ≤ i) else decide (i < 20 ∧ a_po c ≠ 0)
def a_ta (k c : Nat) : Bool := if k = 1 then decide (48 ≤ c ∧ c ≤ 57) else if k = 2 then decide (49 ≤ c ∧ c ≤ 57) else if k = 3 then decide (c = 59) else if k = 4 then decide (a_ko c < 5) else false
def a_g (e i c : Nat) : Bool := if e = 0 then a_fr i c else a_ta (i - e) c
/-- the first fault from i on, of r letters, with where the rings ended (0: not yet) -/
def a_fl (lt : Nat → Nat) : Nat → Nat → Nat → Nat × Nat
  | 0, i, e => (i, e)
  | r + 1, i, e => if a_g e i (lt i) then a_fl lt r (i + 1) (if e = 0 ∧ lt i = 59 then i else e) else (i, e)
/-- where the first semicolon is, of r letters from i on; 28: there is none -/
def a_re (lt : Nat → Nat) : Nat → Nat → Nat
  | 0, _ => 28
  | r + 1, i => if lt i = 59 then i else a_re lt r (i + 1)
/-- the page: how many letters, which -/
abbrev a_P : Type := Nat × (Nat → Nat)
def p_P (h : r_HI) (P : a_P) : Prop := h 1 1 = nI P.1 ∧ ∀ i, i < P.1 → h 2 i = nI (P.2 i)
def a_pok (P : a_P) : Prop := P.1 ≤ 28 ∧ ∀ i, i < P.1 → P.2 i < 127
theorem p_P.ex {A : List Nat} {h h' : r_HI} {P : a_P} (e : r_ex A h h') (hP : p_P h P) (h0 : 1 ∉ A) (h1 : 2 ∉ A) : p_P h' P := by
  unfold p_P
  rw [e 1 h0, e 2 h1]
  exact hP
theorem a_po_mem {c : Nat} (h : a_po c ≠ 0) : a_po c ∈ a_pls := by
  unfold a_po at h ⊢
  repeat' split
  all_goals first | decide | simp_all
theorem a_po_le (c : Nat) : a_po c ≤ 12 := by unfold a_po; (repeat' split) <;> decide
theorem a_ko_le (c : Nat) : a_ko c ≤ 5 := by unfold a_ko; (repeat' split) <;> decide
theorem a_po_no {c : Nat} (h : c ≠ 50 ∧ c ≠ 51 ∧ c ≠ 52 ∧ c ≠ 54 ∧ c ≠ 56 ∧ c ≠ 99) : a_po c = 0 := by
  obtain ⟨h1, h2, h3, h4, h5, h6⟩ := h
  simp [a_po, h1, h2, h3, h4, h5, h6]
theorem a_ko_no {c : Nat} (h : c ≠ 102 ∧ c ≠ 110 ∧ c ≠ 115 ∧ c ≠ 114 ∧ c ≠ 111) : a_ko c = 5 := by
  obtain ⟨h1, h2, h3, h4, h5⟩ := h
  simp [a_ko, h1, h2, h3, h4, h5]
set_option maxRecDepth 100000 in
set_option maxHeartbeats 4000000 in
theorem c_Pa_placesOf {G : r_X} {d : Nat} {h : r_HI} {p q : Nat} {z : r_HL} {F : Int32 → r_HI → r_HR → r_HL → Prop} {c : Nat} {a1 : Int32} (hc : c < 127) (e1 : a1 = nI c) (hF : F (if a_po c = 0 then -1 else nI (a_po c)) h (r_gp p q) z) : r_Ci G m_Pa_placesOf (d) 61 [.int a1] 61 h (r_gp p q) z F := by
  subst e1
  refine r_C_of (by decide +kernel) (Nat.le_of_ble_eq_true rfl) ?_
  refine j_ls (ls' := [(0, _)]) rfl ?_
  refine j_iload_n d_Pa_placesOf_0 rfl rfl ?_
  rcases (show (nI c).toInt = 50 ∨ (nI c).toInt = 51 ∨ (nI c).toInt = 52 ∨ (nI c).toInt = 54 ∨ (nI c).toInt = 56 ∨ (nI c).toInt = 99 ∨ ((nI c).toInt ≠ 50 ∧ (nI c).toInt ≠ 51 ∧ (nI c).toInt ≠ 52 ∧ (nI c).toInt ≠ 54 ∧ (nI c).toInt ≠ 56 ∧ (nI c).toInt ≠ 99) by omega) with t9 | t9 | t9 | t9 | t9 | t9 | t9
  · refine j_lookup (off := 59) (tgt := 60) d_Pa_placesOf_1 (by decide) (by rw [t9]; rfl) rfl ?_
    refine j_iconst (v := 2) d_Pa_placesOf_60 rfl ?_
    refine j_iret d_Pa_placesOf_61 rfl ?_
    have e9 := nI_toInt (n := c) (by omega)
    rw [e9] at t9
    first
      | (obtain rfl : c = 50 := by omega
         exact q_i1 hF rfl)
      | (obtain rfl : c = 51 := by omega
         exact q_i1 hF rfl)
      | (obtain rfl : c = 52 := by omega
         exact q_i1 hF rfl)
      | (obtain rfl : c = 54 := by omega
         exact q_i1 hF rfl)
      | (obtain rfl : c = 56 := by omega
         exact q_i1 hF rfl)
      | (obtain rfl : c = 99 := by omega
         exact q_i1 hF rfl)
      | exact q_i1 hF (by rw [if_pos (a_po_no (by omega))])
  · refine j_lookup (off := 61) (tgt := 62) d_Pa_placesOf_1 (by decide) (by rw [t9]; rfl) rfl ?_
    refine j_iconst (v := 3) d_Pa_placesOf_62 rfl ?_
    refine j_iret d_Pa_placesOf_63 rfl ?_
    have e9 := nI_toInt (n := c) (by omega)
    rw [e9] at t9
    first
      | (obtain rfl : c = 50 := by omega
         exact q_i1 hF rfl)
      | (obtain rfl : c = 51 := by omega
         exact q_i1 hF rfl)
      | (obtain rfl : c = 52 := by omega
         exact q_i1 hF rfl)
      | (obtain rfl : c = 54 := by omega
         exact q_i1 hF rfl)
      | (obtain rfl : c = 56 := by omega
         exact q_i1 hF rfl)
      | (obtain rfl : c = 99 := by omega
         exact q_i1 hF rfl)
      | exact q_i1 hF (by rw [if_pos (a_po_no (by omega))])
  · refine j_lookup (off := 63) (tgt := 64) d_Pa_placesOf_1 (by decide) (by rw [t9]; rfl) rfl ?_
    refine j_iconst (v := 4) d_Pa_placesOf_64 rfl ?_
    refine j_iret d_Pa_placesOf_65 rfl ?_
    have e9 := nI_toInt (n := c) (by omega)
    rw [e9] at t9
    first
      | (obtain rfl : c = 50 := by omega
         exact q_i1 hF rfl)
      | (obtain rfl : c = 51 := by omega
         exact q_i1 hF rfl)
      | (obtain rfl : c = 52 := by omega
         exact q_i1 hF rfl)
      | (obtain rfl : c = 54 := by omega
         exact q_i1 hF rfl)
      | (obtain rfl : c = 56 := by omega
         exact q_i1 hF rfl)
      | (obtain rfl : c = 99 := by omega
         exact q_i1 hF rfl)
      | exact q_i1 hF (by rw [if_pos (a_po_no (by omega))])
  · refine j_lookup (off := 65) (tgt := 66) d_Pa_placesOf_1 (by decide) (by rw [t9]; rfl) rfl ?_
    refine j_bipush (v := 6) d_Pa_placesOf_66 (by decide) ?_
    refine j_iret d_Pa_placesOf_68 rfl ?_
    have e9 := nI_toInt (n := c) (by omega)
    rw [e9] at t9
    first
      | (obtain rfl : c = 50 := by omega
         exact q_i1 hF rfl)
      | (obtain rfl : c = 51 := by omega
         exact q_i1 hF rfl)
      | (obtain rfl : c = 52 := by omega
         exact q_i1 hF rfl)
      | (obtain rfl : c = 54 := by omega
         exact q_i1 hF rfl)
      | (obtain rfl : c = 56 := by omega
         exact q_i1 hF rfl)
      | (obtain rfl : c = 99 := by omega
         exact q_i1 hF rfl)
      | exact q_i1 hF (by rw [if_pos (a_po_no (by omega))])
  · refine j_lookup (off := 68) (tgt := 69) d_Pa_placesOf_1 (by decide) (by rw [t9]; rfl) rfl ?_
    refine j_bipush (v := 8) d_Pa_placesOf_69 (by decide) ?_
    refine j_iret d_Pa_placesOf_71 rfl ?_
    have e9 := nI_toInt (n := c) (by omega)
    rw [e9] at t9
    first
      | (obtain rfl : c = 50 := by omega
         exact q_i1 hF rfl)
      | (obtain rfl : c = 51 := by omega
         exact q_i1 hF rfl)
      | (obtain rfl : c = 52 := by omega
         exact q_i1 hF rfl)
      | (obtain rfl : c = 54 := by omega
         exact q_i1 hF rfl)
      | (obtain rfl : c = 56 := by omega
         exact q_i1 hF rfl)
      | (obtain rfl : c = 99 := by omega
         exact q_i1 hF rfl)
      | exact q_i1 hF (by rw [if_pos (a_po_no (by omega))])
  · refine j_lookup (off := 71) (tgt := 72) d_Pa_placesOf_1 (by decide) (by rw [t9]; rfl) rfl ?_
    refine j_bipush (v := 12) d_Pa_placesOf_72 (by decide) ?_
    refine j_iret d_Pa_placesOf_74 rfl ?_
    have e9 := nI_toInt (n := c) (by omega)
    rw [e9] at t9
    first
      | (obtain rfl : c = 50 := by omega
         exact q_i1 hF rfl)
      | (obtain rfl : c = 51 := by omega
         exact q_i1 hF rfl)
      | (obtain rfl : c = 52 := by omega
         exact q_i1 hF rfl)
      | (obtain rfl : c = 54 := by omega
         exact q_i1 hF rfl)
      | (obtain rfl : c = 56 := by omega
         exact q_i1 hF rfl)
      | (obtain rfl : c = 99 := by omega
         exact q_i1 hF rfl)
      | exact q_i1 hF (by rw [if_pos (a_po_no (by omega))])
  · refine j_lookup (off := 74) (tgt := 75) d_Pa_placesOf_1 (by decide) (r_lk_no (by simp; omega)) rfl ?_
    refine j_iconst (v := (-1)) d_Pa_placesOf_75 rfl ?_
    refine j_iret d_Pa_placesOf_76 rfl ?_
    have e9 := nI_toInt (n := c) (by omega)
    rw [e9] at t9
    first
      | (obtain rfl : c = 50 := by omega
         exact q_i1 hF rfl)
      | (obtain rfl : c = 51 := by omega
         exact q_i1 hF rfl)
      | (obtain rfl : c = 52 := by omega
         exact q_i1 hF rfl)
      | (obtain rfl : c = 54 := by omega
         exact q_i1 hF rfl)
      | (obtain rfl : c = 56 := by omega
         exact q_i1 hF rfl)
      | (obtain rfl : c = 99 := by omega
         exact q_i1 hF rfl)
      | exact q_i1 hF (by rw [if_pos (a_po_no (by omega))])
set_option maxRecDepth 100000 in
set_option maxHeartbeats 4000000 in
theorem c_Pa_kindOf {G : r_X} {d : Nat} {h : r_HI} {p q : Nat} {z : r_HL} {F : Int32 → r_HI → r_HR → r_HL → Prop} {c : Nat} {a1 : Int32} (hc : c < 127) (e1 : a1 = nI c) (hF : F (if a_ko c = 5 then -1 else nI (a_ko c)) h (r_gp p q) z) : r_Ci G m_Pa_kindOf (d) 61 [.int a1] 61 h (r_gp p q) z F := by
  subst e1
  refine r_C_of (by decide +kernel) (Nat.le_of_ble_eq_true rfl) ?_
  refine j_ls (ls' := [(0, _)]) rfl ?_
  refine j_iload_n d_Pa_kindOf_0 rfl rfl ?_
  rcases (show (nI c).toInt < 102 ∨ 115 < (nI c).toInt ∨ (nI c).toInt = 102 ∨ (nI c).toInt = 103 ∨ (nI c).toInt = 104 ∨ (nI c).toInt = 105 ∨ (nI c).toInt = 106 ∨ (nI c).toInt = 107 ∨ (nI c).toInt = 108 ∨ (nI c).toInt = 109 ∨ (nI c).toInt = 110 ∨ (nI c).toInt = 111 ∨ (nI c).toInt = 112 ∨ (nI c).toInt = 113 ∨ (nI c).toInt = 114 ∨ (nI c).toInt = 115 by omega) with t9 | t9 | t9 | t9 | t9 | t9 | t9 | t9 | t9 | t9 | t9 | t9 | t9 | t9 | t9 | t9
  · refine j_tabOut (tgt := 82) d_Pa_kindOf_1 (Or.inl t9) rfl ?_
    refine j_iconst (v := (-1)) d_Pa_kindOf_82 rfl ?_
    refine j_iret d_Pa_kindOf_83 rfl ?_
    have e9 := nI_toInt (n := c) (by omega)
    rw [e9] at t9
    first
      | (obtain rfl : c = 102 := by omega
         exact q_i1 hF rfl)
      | (obtain rfl : c = 110 := by omega
         exact q_i1 hF rfl)
      | (obtain rfl : c = 115 := by omega
         exact q_i1 hF rfl)
      | (obtain rfl : c = 114 := by omega
         exact q_i1 hF rfl)
      | (obtain rfl : c = 111 := by omega
         exact q_i1 hF rfl)
      | exact q_i1 hF (by rw [if_pos (a_ko_no (by omega))])
  · refine j_tabOut (tgt := 82) d_Pa_kindOf_1 (Or.inr t9) rfl ?_
    refine j_iconst (v := (-1)) d_Pa_kindOf_82 rfl ?_
    refine j_iret d_Pa_kindOf_83 rfl ?_
    have e9 := nI_toInt (n := c) (by omega)
    rw [e9] at t9
    first
      | (obtain rfl : c = 102 := by omega
         exact q_i1 hF rfl)
      | (obtain rfl : c = 110 := by omega
         exact q_i1 hF rfl)
      | (obtain rfl : c = 115 := by omega
         exact q_i1 hF rfl)
      | (obtain rfl : c = 114 := by omega
         exact q_i1 hF rfl)
      | (obtain rfl : c = 111 := by omega
         exact q_i1 hF rfl)
      | exact q_i1 hF (by rw [if_pos (a_ko_no (by omega))])
  · refine j_tabIn (off := 71) (tgt := 72) d_Pa_kindOf_1 (by rw [t9]; decide) (by rw [t9]; decide) (by rw [t9]; rfl) rfl ?_
    refine j_iconst (v := 0) d_Pa_kindOf_72 rfl ?_
    refine j_iret d_Pa_kindOf_73 rfl ?_
    have e9 := nI_toInt (n := c) (by omega)
    rw [e9] at t9
    first
      | (obtain rfl : c = 102 := by omega
         exact q_i1 hF rfl)
      | (obtain rfl : c = 110 := by omega
         exact q_i1 hF rfl)
      | (obtain rfl : c = 115 := by omega
         exact q_i1 hF rfl)
      | (obtain rfl : c = 114 := by omega
         exact q_i1 hF rfl)
      | (obtain rfl : c = 111 := by omega
         exact q_i1 hF rfl)
      | exact q_i1 hF (by rw [if_pos (a_ko_no (by omega))])
  · refine j_tabIn (off := 81) (tgt := 82) d_Pa_kindOf_1 (by rw [t9]; decide) (by rw [t9]; decide) (by rw [t9]; rfl) rfl ?_
    refine j_iconst (v := (-1)) d_Pa_kindOf_82 rfl ?_
    refine j_iret d_Pa_kindOf_83 rfl ?_
    have e9 := nI_toInt (n := c) (by omega)
    rw [e9] at t9
    first
      | (obtain rfl : c = 102 := by omega
         exact q_i1 hF rfl)
      | (obtain rfl : c = 110 := by omega
         exact q_i1 hF rfl)
      | (obtain rfl : c = 115 := by omega
         exact q_i1 hF rfl)
      | (obtain rfl : c = 114 := by omega
         exact q_i1 hF rfl)
      | (obtain rfl : c = 111 := by omega
         exact q_i1 hF rfl)
      | exact q_i1 hF (by rw [if_pos (a_ko_no (by omega))])
  · refine j_tabIn (off := 81) (tgt := 82) d_Pa_kindOf_1 (by rw [t9]; decide) (by rw [t9]; decide) (by rw [t9]; rfl) rfl ?_
    refine j_iconst (v := (-1)) d_Pa_kindOf_82 rfl ?_
    refine j_iret d_Pa_kindOf_83 rfl ?_
    have e9 := nI_toInt (n := c) (by omega)
    rw [e9] at t9
    first
      | (obtain rfl : c = 102 := by omega
         exact q_i1 hF rfl)
      | (obtain rfl : c = 110 := by omega
         exact q_i1 hF rfl)
      | (obtain rfl : c = 115 := by omega
         exact q_i1 hF rfl)
      | (obtain rfl : c = 114 := by omega
         exact q_i1 hF rfl)
      | (obtain rfl : c = 111 := by omega
         exact q_i1 hF rfl)
      | exact q_i1 hF (by rw [if_pos (a_ko_no (by omega))])
  · refine j_tabIn (off := 81) (tgt := 82) d_Pa_kindOf_1 (by rw [t9]; decide) (by rw [t9]; decide) (by rw [t9]; rfl) rfl ?_
    refine j_iconst (v := (-1)) d_Pa_kindOf_82 rfl ?_
    refine j_iret d_Pa_kindOf_83 rfl ?_
    have e9 := nI_toInt (n := c) (by omega)
    rw [e9] at t9
    first
      | (obtain rfl : c = 102 := by omega
         exact q_i1 hF rfl)
      | (obtain rfl : c = 110 := by omega
         exact q_i1 hF rfl)
      | (obtain rfl : c = 115 := by omega
         exact q_i1 hF rfl)
      | (obtain rfl : c = 114 := by omega
         exact q_i1 hF rfl)
      | (obtain rfl : c = 111 := by omega
         exact q_i1 hF rfl)
      | exact q_i1 hF (by rw [if_pos (a_ko_no (by omega))])
  · refine j_tabIn (off := 81) (tgt := 82) d_Pa_kindOf_1 (by rw [t9]; decide) (by rw [t9]; decide) (by rw [t9]; rfl) rfl ?_
    refine j_iconst (v := (-1)) d_Pa_kindOf_82 rfl ?_
    refine j_iret d_Pa_kindOf_83 rfl ?_
    have e9 := nI_toInt (n := c) (by omega)
    rw [e9] at t9
    first
      | (obtain rfl : c = 102 := by omega
         exact q_i1 hF rfl)
      | (obtain rfl : c = 110 := by omega
         exact q_i1 hF rfl)
      | (obtain rfl : c = 115 := by omega
         exact q_i1 hF rfl)
      | (obtain rfl : c = 114 := by omega
         exact q_i1 hF rfl)
      | (obtain rfl : c = 111 := by omega
         exact q_i1 hF rfl)
      | exact q_i1 hF (by rw [if_pos (a_ko_no (by omega))])
  · refine j_tabIn (off := 81) (tgt := 82) d_Pa_kindOf_1 (by rw [t9]; decide) (by rw [t9]; decide) (by rw [t9]; rfl) rfl ?_
    refine j_iconst (v := (-1)) d_Pa_kindOf_82 rfl ?_
    refine j_iret d_Pa_kindOf_83 rfl ?_
    have e9 := nI_toInt (n := c) (by omega)
    rw [e9] at t9
    first
      | (obtain rfl : c = 102 := by omega
         exact q_i1 hF rfl)
      | (obtain rfl : c = 110 := by omega
         exact q_i1 hF rfl)
      | (obtain rfl : c = 115 := by omega
         exact q_i1 hF rfl)
      | (obtain rfl : c = 114 := by omega
         exact q_i1 hF rfl)
      | (obtain rfl : c = 111 := by omega
         exact q_i1 hF rfl)
      | exact q_i1 hF (by rw [if_pos (a_ko_no (by omega))])
  · refine j_tabIn (off := 81) (tgt := 82) d_Pa_kindOf_1 (by rw [t9]; decide) (by rw [t9]; decide) (by rw [t9]; rfl) rfl ?_
    refine j_iconst (v := (-1)) d_Pa_kindOf_82 rfl ?_
    refine j_iret d_Pa_kindOf_83 rfl ?_
    have e9 := nI_toInt (n := c) (by omega)
    rw [e9] at t9
    first
      | (obtain rfl : c = 102 := by omega
         exact q_i1 hF rfl)
      | (obtain rfl : c = 110 := by omega
         exact q_i1 hF rfl)
      | (obtain rfl : c = 115 := by omega
         exact q_i1 hF rfl)
      | (obtain rfl : c = 114 := by omega
         exact q_i1 hF rfl)
      | (obtain rfl : c = 111 := by omega
         exact q_i1 hF rfl)
      | exact q_i1 hF (by rw [if_pos (a_ko_no (by omega))])
  · refine j_tabIn (off := 81) (tgt := 82) d_Pa_kindOf_1 (by rw [t9]; decide) (by rw [t9]; decide) (by rw [t9]; rfl) rfl ?_
    refine j_iconst (v := (-1)) d_Pa_kindOf_82 rfl ?_
    refine j_iret d_Pa_kindOf_83 rfl ?_
    have e9 := nI_toInt (n := c) (by omega)
    rw [e9] at t9
    first
      | (obtain rfl : c = 102 := by omega
         exact q_i1 hF rfl)
      | (obtain rfl : c = 110 := by omega
         exact q_i1 hF rfl)
      | (obtain rfl : c = 115 := by omega
         exact q_i1 hF rfl)
      | (obtain rfl : c = 114 := by omega
         exact q_i1 hF rfl)
      | (obtain rfl : c = 111 := by omega
         exact q_i1 hF rfl)
      | exact q_i1 hF (by rw [if_pos (a_ko_no (by omega))])
  · refine j_tabIn (off := 73) (tgt := 74) d_Pa_kindOf_1 (by rw [t9]; decide) (by rw [t9]; decide) (by rw [t9]; rfl) rfl ?_
    refine j_iconst (v := 1) d_Pa_kindOf_74 rfl ?_
    refine j_iret d_Pa_kindOf_75 rfl ?_
    have e9 := nI_toInt (n := c) (by omega)
    rw [e9] at t9
    first
      | (obtain rfl : c = 102 := by omega
         exact q_i1 hF rfl)
      | (obtain rfl : c = 110 := by omega
         exact q_i1 hF rfl)
      | (obtain rfl : c = 115 := by omega
         exact q_i1 hF rfl)
      | (obtain rfl : c = 114 := by omega
         exact q_i1 hF rfl)
      | (obtain rfl : c = 111 := by omega
         exact q_i1 hF rfl)
      | exact q_i1 hF (by rw [if_pos (a_ko_no (by omega))])
  · refine j_tabIn (off := 79) (tgt := 80) d_Pa_kindOf_1 (by rw [t9]; decide) (by rw [t9]; decide) (by rw [t9]; rfl) rfl ?_
    refine j_iconst (v := 4) d_Pa_kindOf_80 rfl ?_
    refine j_iret d_Pa_kindOf_81 rfl ?_
    have e9 := nI_toInt (n := c) (by omega)
    rw [e9] at t9
    first
      | (obtain rfl : c = 102 := by omega
         exact q_i1 hF rfl)
      | (obtain rfl : c = 110 := by omega
         exact q_i1 hF rfl)
      | (obtain rfl : c = 115 := by omega
         exact q_i1 hF rfl)
      | (obtain rfl : c = 114 := by omega
         exact q_i1 hF rfl)
      | (obtain rfl : c = 111 := by omega
         exact q_i1 hF rfl)
      | exact q_i1 hF (by rw [if_pos (a_ko_no (by omega))])
  · refine j_tabIn (off := 81) (tgt := 82) d_Pa_kindOf_1 (by rw [t9]; decide) (by rw [t9]; decide) (by rw [t9]; rfl) rfl ?_
    refine j_iconst (v := (-1)) d_Pa_kindOf_82 rfl ?_
    refine j_iret d_Pa_kindOf_83 rfl ?_
    have e9 := nI_toInt (n := c) (by omega)
    rw [e9] at t9
    first
      | (obtain rfl : c = 102 := by omega
         exact q_i1 hF rfl)
      | (obtain rfl : c = 110 := by omega
         exact q_i1 hF rfl)
      | (obtain rfl : c = 115 := by omega
         exact q_i1 hF rfl)
      | (obtain rfl : c = 114 := by omega
         exact q_i1 hF rfl)
      | (obtain rfl : c = 111 := by omega
         exact q_i1 hF rfl)
      | exact q_i1 hF (by rw [if_pos (a_ko_no (by omega))])
  · refine j_tabIn (off := 81) (tgt := 82) d_Pa_kindOf_1 (by rw [t9]; decide) (by rw [t9]; decide) (by rw [t9]; rfl) rfl ?_
    refine j_iconst (v := (-1)) d_Pa_kindOf_82 rfl ?_
    refine j_iret d_Pa_kindOf_83 rfl ?_
    have e9 := nI_toInt (n := c) (by omega)
    rw [e9] at t9
    first
      | (obtain rfl : c = 102 := by omega
         exact q_i1 hF rfl)
      | (obtain rfl : c = 110 := by omega
         exact q_i1 hF rfl)
      | (obtain rfl : c = 115 := by omega
         exact q_i1 hF rfl)
      | (obtain rfl : c = 114 := by omega
         exact q_i1 hF rfl)
      | (obtain rfl : c = 111 := by omega
         exact q_i1 hF rfl)
      | exact q_i1 hF (by rw [if_pos (a_ko_no (by omega))])
  · refine j_tabIn (off := 77) (tgt := 78) d_Pa_kindOf_1 (by rw [t9]; decide) (by rw [t9]; decide) (by rw [t9]; rfl) rfl ?_
    refine j_iconst (v := 3) d_Pa_kindOf_78 rfl ?_
    refine j_iret d_Pa_kindOf_79 rfl ?_
    have e9 := nI_toInt (n := c) (by omega)
    rw [e9] at t9
    first
      | (obtain rfl : c = 102 := by omega
         exact q_i1 hF rfl)
      | (obtain rfl : c = 110 := by omega
         exact q_i1 hF rfl)
      | (obtain rfl : c = 115 := by omega
         exact q_i1 hF rfl)
      | (obtain rfl : c = 114 := by omega
         exact q_i1 hF rfl)
      | (obtain rfl : c = 111 := by omega
         exact q_i1 hF rfl)
      | exact q_i1 hF (by rw [if_pos (a_ko_no (by omega))])
  · refine j_tabIn (off := 75) (tgt := 76) d_Pa_kindOf_1 (by rw [t9]; decide) (by rw [t9]; decide) (by rw [t9]; rfl) rfl ?_
    refine j_iconst (v := 2) d_Pa_kindOf_76 rfl ?_
    refine j_iret d_Pa_kindOf_77 rfl ?_
    have e9 := nI_toInt (n := c) (by omega)
    rw [e9] at t9
    first
      | (obtain rfl : c = 102 := by omega
         exact q_i1 hF rfl)
      | (obtain rfl : c = 110 := by omega
         exact q_i1 hF rfl)
      | (obtain rfl : c = 115 := by omega
         exact q_i1 hF rfl)
      | (obtain rfl : c = 114 := by omega
         exact q_i1 hF rfl)
      | (obtain rfl : c = 111 := by omega
         exact q_i1 hF rfl)
      | exact q_i1 hF (by rw [if_pos (a_ko_no (by omega))])
theorem b1t {b : Bool} (h : b = true) : (1 : Int32) = if b = true then 1 else 0 := by rw [h]; rfl
theorem b0f {b : Bool} (h : b = false) : (0 : Int32) = if b = true then 1 else 0 := by rw [h]; rfl
theorem a_pom {c : Nat} : (if a_po c = 0 then (-1 : Int32) else nI (a_po c)) = -1 ↔ a_po c = 0 := by
  have h := a_po_le c
  by_cases e : a_po c = 0
  · simp [e]
  · rw [if_neg e]
    exact ⟨fun q => absurd q (nI_m1 (by omega)), fun q => absurd q e⟩
theorem a_kom {c : Nat} : (if a_ko c = 5 then (-1 : Int32) else nI (a_ko c)) = -1 ↔ a_ko c = 5 := by
  have h := a_ko_le c
  by_cases e : a_ko c = 5
  · simp [e]
  · rw [if_neg e]
    exact ⟨fun q => absurd q (nI_m1 (by omega)), fun q => absurd q e⟩
set_option maxRecDepth 100000 in
set_option maxHeartbeats 4000000 in
theorem c_Pa_fitsRings {G : r_X} {d : Nat} {h : r_HI} {p q : Nat} {z : r_HL} {F : Int32 → r_HI → r_HR → r_HL → Prop} {i c : Nat} {a1 a2 : Int32} (hi : i < 28) (hc : c < 127) (e1 : a1 = nI i) (e2 : a2 = nI c) (hF : F (if a_fr i c then 1 else 0) h (r_gp p q) z) : r_Ci G m_Pa_fitsRings (d + 1) 61 [.int a1, .int a2] 61 h (r_gp p q) z F := by
  subst e1
  subst e2
  have him := Nat.mod_lt i (show 0 < 2 by decide)
  refine r_C_of (by decide +kernel) (Nat.le_of_ble_eq_true rfl) ?_
  refine j_ls (ls' := [(0, _), (1, _)]) rfl ?_
  refine j_iload_n d_Pa_fitsRings_0 rfl rfl ?_
  refine j_iconst (v := 2) d_Pa_fitsRings_1 rfl ?_
  refine j_irem d_Pa_fitsRings_2 (by decide) ?_
  rw [show nI i - nI i / 2 * 2 = nI (i % 2) from pk_rem (d := 2) (by omega) (by omega) (by omega)]
  refine j_iconst (v := 1) d_Pa_fitsRings_3 rfl ?_
  refine j_icmp_ne (tgt := 25) d_Pa_fitsRings_4 rfl (fun bq1 => ?_) (fun bq1 => ?_)
  · refine j_iload_n d_Pa_fitsRings_25 rfl rfl ?_
    refine j_bipush (v := 59) d_Pa_fitsRings_26 (by decide) ?_
    refine j_icmp_ne (tgt := 43) d_Pa_fitsRings_28 rfl (fun bq2 => ?_) (fun bq2 => ?_)
    · refine j_iload_n d_Pa_fitsRings_43 rfl rfl ?_
      refine j_bipush (v := 20) d_Pa_fitsRings_44 (by decide) ?_
      refine j_icmp_ge (tgt := 61) d_Pa_fitsRings_46 rfl (fun bq3 => ?_) (fun bq3 => ?_)
      · refine j_iconst (v := 0) d_Pa_fitsRings_61 rfl ?_
        refine j_zret d_Pa_fitsRings_62 rfl (by decide) ?_
        first | refine q_i1 hF (b1t ?_) | refine q_i1 hF (b0f ?_)
        all_goals unfold a_fr
        first
          | (have g1 := (nI_eq (b := 1) (by omega) (by omega)).mp bq1
             have g2 := (nI_ltI (b := 97) (by omega) (by omega)).mp bq2
             rw [if_pos g1]; simp; omega)
          | (have g1 := (nI_eq (b := 1) (by omega) (by omega)).mp bq1
             have g2 := (nI_leI (a := 121) (by omega) (by omega)).mp bq3
             rw [if_pos g1]; simp; omega)
          | (have g1 := (nI_eq (b := 1) (by omega) (by omega)).mp bq1
             have g2 : ¬ c < 97 := fun e => bq2 ((nI_ltI (b := 97) (by omega) (by omega)).mpr e)
             have g3 : ¬ 121 ≤ c := fun e => bq3 ((nI_leI (a := 121) (by omega) (by omega)).mpr e)
             rw [if_pos g1]; simp; omega)
          | (have g1 : ¬ i % 2 = 1 := fun e => bq1 (by rw [e]; rfl)
             have g2 := (nI_eq (b := 59) (by omega) (by omega)).mp bq2
             have g3 := (nI_ltI (b := 8) (by omega) (by omega)).mp bq3
             rw [if_neg g1, if_pos g2]; simp; omega)
          | (have g1 : ¬ i % 2 = 1 := fun e => bq1 (by rw [e]; rfl)
             have g2 := (nI_eq (b := 59) (by omega) (by omega)).mp bq2
             have g3 : ¬ i < 8 := fun e => bq3 ((nI_ltI (b := 8) (by omega) (by omega)).mpr e)
             rw [if_neg g1, if_pos g2]; simp; omega)
          | (have g1 : ¬ i % 2 = 1 := fun e => bq1 (by rw [e]; rfl)
             have g2 : ¬ c = 59 := fun e => bq2 (by rw [e]; rfl)
             have g3 := (nI_leI (a := 20) (by omega) (by omega)).mp bq3
             rw [if_neg g1, if_neg g2]; simp; omega)
          | (have g1 : ¬ i % 2 = 1 := fun e => bq1 (by rw [e]; rfl)
             have g2 : ¬ c = 59 := fun e => bq2 (by rw [e]; rfl)
             have g3 := a_pom.mp bq4
             rw [if_neg g1, if_neg g2]; simp [g3])
          | (have g1 : ¬ i % 2 = 1 := fun e => bq1 (by rw [e]; rfl)
             have g2 : ¬ c = 59 := fun e => bq2 (by rw [e]; rfl)
             have g3 : ¬ 20 ≤ i := fun e => bq3 ((nI_leI (a := 20) (by omega) (by omega)).mpr e)
             have g4 : ¬ a_po c = 0 := fun e => bq4 (a_pom.mpr e)
             rw [if_neg g1, if_neg g2]; simp [g4]; omega)
      · refine j_iload_n d_Pa_fitsRings_49 rfl rfl ?_
        refine q_i s_Pa_fitsRings_50 rfl (Nat.le_of_ble_eq_true rfl) (Nat.le_of_ble_eq_true rfl) ?_
        refine c_Pa_placesOf hc rfl ?_
        refine j_iconst (v := (-1)) d_Pa_fitsRings_53 rfl ?_
        refine j_icmp_eq (tgt := 61) d_Pa_fitsRings_54 rfl (fun bq4 => ?_) (fun bq4 => ?_)
        · refine j_iconst (v := 0) d_Pa_fitsRings_61 rfl ?_
          refine j_zret d_Pa_fitsRings_62 rfl (by decide) ?_
          first | refine q_i1 hF (b1t ?_) | refine q_i1 hF (b0f ?_)
          all_goals unfold a_fr
          first
            | (have g1 := (nI_eq (b := 1) (by omega) (by omega)).mp bq1
               have g2 := (nI_ltI (b := 97) (by omega) (by omega)).mp bq2
               rw [if_pos g1]; simp; omega)
            | (have g1 := (nI_eq (b := 1) (by omega) (by omega)).mp bq1
               have g2 := (nI_leI (a := 121) (by omega) (by omega)).mp bq3
               rw [if_pos g1]; simp; omega)
            | (have g1 := (nI_eq (b := 1) (by omega) (by omega)).mp bq1
               have g2 : ¬ c < 97 := fun e => bq2 ((nI_ltI (b := 97) (by omega) (by omega)).mpr e)
               have g3 : ¬ 121 ≤ c := fun e => bq3 ((nI_leI (a := 121) (by omega) (by omega)).mpr e)
               rw [if_pos g1]; simp; omega)
            | (have g1 : ¬ i % 2 = 1 := fun e => bq1 (by rw [e]; rfl)
               have g2 := (nI_eq (b := 59) (by omega) (by omega)).mp bq2
               have g3 := (nI_ltI (b := 8) (by omega) (by omega)).mp bq3
               rw [if_neg g1, if_pos g2]; simp; omega)
            | (have g1 : ¬ i % 2 = 1 := fun e => bq1 (by rw [e]; rfl)
               have g2 := (nI_eq (b := 59) (by omega) (by omega)).mp bq2
               have g3 : ¬ i < 8 := fun e => bq3 ((nI_ltI (b := 8) (by omega) (by omega)).mpr e)
               rw [if_neg g1, if_pos g2]; simp; omega)
            | (have g1 : ¬ i % 2 = 1 := fun e => bq1 (by rw [e]; rfl)
               have g2 : ¬ c = 59 := fun e => bq2 (by rw [e]; rfl)
               have g3 := (nI_leI (a := 20) (by omega) (by omega)).mp bq3
               rw [if_neg g1, if_neg g2]; simp; omega)
            | (have g1 : ¬ i % 2 = 1 := fun e => bq1 (by rw [e]; rfl)
               have g2 : ¬ c = 59 := fun e => bq2 (by rw [e]; rfl)
               have g3 := a_pom.mp bq4
               rw [if_neg g1, if_neg g2]; simp [g3])
            | (have g1 : ¬ i % 2 = 1 := fun e => bq1 (by rw [e]; rfl)
               have g2 : ¬ c = 59 := fun e => bq2 (by rw [e]; rfl)
               have g3 : ¬ 20 ≤ i := fun e => bq3 ((nI_leI (a := 20) (by omega) (by omega)).mpr e)
               have g4 : ¬ a_po c = 0 := fun e => bq4 (a_pom.mpr e)
               rw [if_neg g1, if_neg g2]; simp [g4]; omega)
        · refine j_iconst (v := 1) d_Pa_fitsRings_57 rfl ?_
          refine j_goto (tgt := 62) d_Pa_fitsRings_58 rfl ?_
          refine j_zret d_Pa_fitsRings_62 rfl (by decide) ?_
          first | refine q_i1 hF (b1t ?_) | refine q_i1 hF (b0f ?_)
          all_goals unfold a_fr
          first
            | (have g1 := (nI_eq (b := 1) (by omega) (by omega)).mp bq1
               have g2 := (nI_ltI (b := 97) (by omega) (by omega)).mp bq2
               rw [if_pos g1]; simp; omega)
            | (have g1 := (nI_eq (b := 1) (by omega) (by omega)).mp bq1
               have g2 := (nI_leI (a := 121) (by omega) (by omega)).mp bq3
               rw [if_pos g1]; simp; omega)
            | (have g1 := (nI_eq (b := 1) (by omega) (by omega)).mp bq1
               have g2 : ¬ c < 97 := fun e => bq2 ((nI_ltI (b := 97) (by omega) (by omega)).mpr e)
               have g3 : ¬ 121 ≤ c := fun e => bq3 ((nI_leI (a := 121) (by omega) (by omega)).mpr e)
               rw [if_pos g1]; simp; omega)
            | (have g1 : ¬ i % 2 = 1 := fun e => bq1 (by rw [e]; rfl)
               have g2 := (nI_eq (b := 59) (by omega) (by omega)).mp bq2
               have g3 := (nI_ltI (b := 8) (by omega) (by omega)).mp bq3
               rw [if_neg g1, if_pos g2]; simp; omega)
            | (have g1 : ¬ i % 2 = 1 := fun e => bq1 (by rw [e]; rfl)
               have g2 := (nI_eq (b := 59) (by omega) (by omega)).mp bq2
               have g3 : ¬ i < 8 := fun e => bq3 ((nI_ltI (b := 8) (by omega) (by omega)).mpr e)
               rw [if_neg g1, if_pos g2]; simp; omega)
            | (have g1 : ¬ i % 2 = 1 := fun e => bq1 (by rw [e]; rfl)
               have g2 : ¬ c = 59 := fun e => bq2 (by rw [e]; rfl)
               have g3 := (nI_leI (a := 20) (by omega) (by omega)).mp bq3
               rw [if_neg g1, if_neg g2]; simp; omega)
            | (have g1 : ¬ i % 2 = 1 := fun e => bq1 (by rw [e]; rfl)
               have g2 : ¬ c = 59 := fun e => bq2 (by rw [e]; rfl)
               have g3 := a_pom.mp bq4
               rw [if_neg g1, if_neg g2]; simp [g3])
            | (have g1 : ¬ i % 2 = 1 := fun e => bq1 (by rw [e]; rfl)
               have g2 : ¬ c = 59 := fun e => bq2 (by rw [e]; rfl)
               have g3 : ¬ 20 ≤ i := fun e => bq3 ((nI_leI (a := 20) (by omega) (by omega)).mpr e)
               have g4 : ¬ a_po c = 0 := fun e => bq4 (a_pom.mpr e)
               rw [if_neg g1, if_neg g2]; simp [g4]; omega)
    · refine j_iload_n d_Pa_fitsRings_31 rfl rfl ?_
      refine j_bipush (v := 8) d_Pa_fitsRings_32 (by decide) ?_
      refine j_icmp_lt (tgt := 41) d_Pa_fitsRings_34 rfl (fun bq3 => ?_) (fun bq3 => ?_)
      · refine j_iconst (v := 0) d_Pa_fitsRings_41 rfl ?_
        refine j_zret d_Pa_fitsRings_42 rfl (by decide) ?_
        first | refine q_i1 hF (b1t ?_) | refine q_i1 hF (b0f ?_)
        all_goals unfold a_fr
        first
          | (have g1 := (nI_eq (b := 1) (by omega) (by omega)).mp bq1
             have g2 := (nI_ltI (b := 97) (by omega) (by omega)).mp bq2
             rw [if_pos g1]; simp; omega)
          | (have g1 := (nI_eq (b := 1) (by omega) (by omega)).mp bq1
             have g2 := (nI_leI (a := 121) (by omega) (by omega)).mp bq3
             rw [if_pos g1]; simp; omega)
          | (have g1 := (nI_eq (b := 1) (by omega) (by omega)).mp bq1
             have g2 : ¬ c < 97 := fun e => bq2 ((nI_ltI (b := 97) (by omega) (by omega)).mpr e)
             have g3 : ¬ 121 ≤ c := fun e => bq3 ((nI_leI (a := 121) (by omega) (by omega)).mpr e)
             rw [if_pos g1]; simp; omega)
          | (have g1 : ¬ i % 2 = 1 := fun e => bq1 (by rw [e]; rfl)
             have g2 := (nI_eq (b := 59) (by omega) (by omega)).mp bq2
             have g3 := (nI_ltI (b := 8) (by omega) (by omega)).mp bq3
             rw [if_neg g1, if_pos g2]; simp; omega)
          | (have g1 : ¬ i % 2 = 1 := fun e => bq1 (by rw [e]; rfl)
             have g2 := (nI_eq (b := 59) (by omega) (by omega)).mp bq2
             have g3 : ¬ i < 8 := fun e => bq3 ((nI_ltI (b := 8) (by omega) (by omega)).mpr e)
             rw [if_neg g1, if_pos g2]; simp; omega)
          | (have g1 : ¬ i % 2 = 1 := fun e => bq1 (by rw [e]; rfl)
             have g2 : ¬ c = 59 := fun e => bq2 (by rw [e]; rfl)
             have g3 := (nI_leI (a := 20) (by omega) (by omega)).mp bq3
             rw [if_neg g1, if_neg g2]; simp; omega)
          | (have g1 : ¬ i % 2 = 1 := fun e => bq1 (by rw [e]; rfl)
             have g2 : ¬ c = 59 := fun e => bq2 (by rw [e]; rfl)
             have g3 := a_pom.mp bq4
             rw [if_neg g1, if_neg g2]; simp [g3])
          | (have g1 : ¬ i % 2 = 1 := fun e => bq1 (by rw [e]; rfl)
             have g2 : ¬ c = 59 := fun e => bq2 (by rw [e]; rfl)
             have g3 : ¬ 20 ≤ i := fun e => bq3 ((nI_leI (a := 20) (by omega) (by omega)).mpr e)
             have g4 : ¬ a_po c = 0 := fun e => bq4 (a_pom.mpr e)
             rw [if_neg g1, if_neg g2]; simp [g4]; omega)
      · refine j_iconst (v := 1) d_Pa_fitsRings_37 rfl ?_
        refine j_goto (tgt := 42) d_Pa_fitsRings_38 rfl ?_
        refine j_zret d_Pa_fitsRings_42 rfl (by decide) ?_
        first | refine q_i1 hF (b1t ?_) | refine q_i1 hF (b0f ?_)
        all_goals unfold a_fr
        first
          | (have g1 := (nI_eq (b := 1) (by omega) (by omega)).mp bq1
             have g2 := (nI_ltI (b := 97) (by omega) (by omega)).mp bq2
             rw [if_pos g1]; simp; omega)
          | (have g1 := (nI_eq (b := 1) (by omega) (by omega)).mp bq1
             have g2 := (nI_leI (a := 121) (by omega) (by omega)).mp bq3
             rw [if_pos g1]; simp; omega)
          | (have g1 := (nI_eq (b := 1) (by omega) (by omega)).mp bq1
             have g2 : ¬ c < 97 := fun e => bq2 ((nI_ltI (b := 97) (by omega) (by omega)).mpr e)
             have g3 : ¬ 121 ≤ c := fun e => bq3 ((nI_leI (a := 121) (by omega) (by omega)).mpr e)
             rw [if_pos g1]; simp; omega)
          | (have g1 : ¬ i % 2 = 1 := fun e => bq1 (by rw [e]; rfl)
             have g2 := (nI_eq (b := 59) (by omega) (by omega)).mp bq2
             have g3 := (nI_ltI (b := 8) (by omega) (by omega)).mp bq3
             rw [if_neg g1, if_pos g2]; simp; omega)
          | (have g1 : ¬ i % 2 = 1 := fun e => bq1 (by rw [e]; rfl)
             have g2 := (nI_eq (b := 59) (by omega) (by omega)).mp bq2
             have g3 : ¬ i < 8 := fun e => bq3 ((nI_ltI (b := 8) (by omega) (by omega)).mpr e)
             rw [if_neg g1, if_pos g2]; simp; omega)
          | (have g1 : ¬ i % 2 = 1 := fun e => bq1 (by rw [e]; rfl)
             have g2 : ¬ c = 59 := fun e => bq2 (by rw [e]; rfl)
             have g3 := (nI_leI (a := 20) (by omega) (by omega)).mp bq3
             rw [if_neg g1, if_neg g2]; simp; omega)
          | (have g1 : ¬ i % 2 = 1 := fun e => bq1 (by rw [e]; rfl)
             have g2 : ¬ c = 59 := fun e => bq2 (by rw [e]; rfl)
             have g3 := a_pom.mp bq4
             rw [if_neg g1, if_neg g2]; simp [g3])
          | (have g1 : ¬ i % 2 = 1 := fun e => bq1 (by rw [e]; rfl)
             have g2 : ¬ c = 59 := fun e => bq2 (by rw [e]; rfl)
             have g3 : ¬ 20 ≤ i := fun e => bq3 ((nI_leI (a := 20) (by omega) (by omega)).mpr e)
             have g4 : ¬ a_po c = 0 := fun e => bq4 (a_pom.mpr e)
             rw [if_neg g1, if_neg g2]; simp [g4]; omega)
  · refine j_iload_n d_Pa_fitsRings_7 rfl rfl ?_
    refine j_bipush (v := 97) d_Pa_fitsRings_8 (by decide) ?_
    refine j_icmp_lt (tgt := 23) d_Pa_fitsRings_10 rfl (fun bq2 => ?_) (fun bq2 => ?_)
    · refine j_iconst (v := 0) d_Pa_fitsRings_23 rfl ?_
      refine j_zret d_Pa_fitsRings_24 rfl (by decide) ?_
      first | refine q_i1 hF (b1t ?_) | refine q_i1 hF (b0f ?_)
      all_goals unfold a_fr
      first
        | (have g1 := (nI_eq (b := 1) (by omega) (by omega)).mp bq1
           have g2 := (nI_ltI (b := 97) (by omega) (by omega)).mp bq2
           rw [if_pos g1]; simp; omega)
        | (have g1 := (nI_eq (b := 1) (by omega) (by omega)).mp bq1
           have g2 := (nI_leI (a := 121) (by omega) (by omega)).mp bq3
           rw [if_pos g1]; simp; omega)
        | (have g1 := (nI_eq (b := 1) (by omega) (by omega)).mp bq1
           have g2 : ¬ c < 97 := fun e => bq2 ((nI_ltI (b := 97) (by omega) (by omega)).mpr e)
           have g3 : ¬ 121 ≤ c := fun e => bq3 ((nI_leI (a := 121) (by omega) (by omega)).mpr e)
           rw [if_pos g1]; simp; omega)
        | (have g1 : ¬ i % 2 = 1 := fun e => bq1 (by rw [e]; rfl)
           have g2 := (nI_eq (b := 59) (by omega) (by omega)).mp bq2
           have g3 := (nI_ltI (b := 8) (by omega) (by omega)).mp bq3
           rw [if_neg g1, if_pos g2]; simp; omega)
        | (have g1 : ¬ i % 2 = 1 := fun e => bq1 (by rw [e]; rfl)
           have g2 := (nI_eq (b := 59) (by omega) (by omega)).mp bq2
           have g3 : ¬ i < 8 := fun e => bq3 ((nI_ltI (b := 8) (by omega) (by omega)).mpr e)
           rw [if_neg g1, if_pos g2]; simp; omega)
        | (have g1 : ¬ i % 2 = 1 := fun e => bq1 (by rw [e]; rfl)
           have g2 : ¬ c = 59 := fun e => bq2 (by rw [e]; rfl)
           have g3 := (nI_leI (a := 20) (by omega) (by omega)).mp bq3
           rw [if_neg g1, if_neg g2]; simp; omega)
        | (have g1 : ¬ i % 2 = 1 := fun e => bq1 (by rw [e]; rfl)
           have g2 : ¬ c = 59 := fun e => bq2 (by rw [e]; rfl)
           have g3 := a_pom.mp bq4
           rw [if_neg g1, if_neg g2]; simp [g3])
        | (have g1 : ¬ i % 2 = 1 := fun e => bq1 (by rw [e]; rfl)
           have g2 : ¬ c = 59 := fun e => bq2 (by rw [e]; rfl)
           have g3 : ¬ 20 ≤ i := fun e => bq3 ((nI_leI (a := 20) (by omega) (by omega)).mpr e)
           have g4 : ¬ a_po c = 0 := fun e => bq4 (a_pom.mpr e)
           rw [if_neg g1, if_neg g2]; simp [g4]; omega)
    · refine j_iload_n d_Pa_fitsRings_13 rfl rfl ?_
      refine j_bipush (v := 121) d_Pa_fitsRings_14 (by decide) ?_
      refine j_icmp_ge (tgt := 23) d_Pa_fitsRings_16 rfl (fun bq3 => ?_) (fun bq3 => ?_)
      · refine j_iconst (v := 0) d_Pa_fitsRings_23 rfl ?_
        refine j_zret d_Pa_fitsRings_24 rfl (by decide) ?_
        first | refine q_i1 hF (b1t ?_) | refine q_i1 hF (b0f ?_)
        all_goals unfold a_fr
        first
          | (have g1 := (nI_eq (b := 1) (by omega) (by omega)).mp bq1
             have g2 := (nI_ltI (b := 97) (by omega) (by omega)).mp bq2
             rw [if_pos g1]; simp; omega)
          | (have g1 := (nI_eq (b := 1) (by omega) (by omega)).mp bq1
             have g2 := (nI_leI (a := 121) (by omega) (by omega)).mp bq3
             rw [if_pos g1]; simp; omega)
          | (have g1 := (nI_eq (b := 1) (by omega) (by omega)).mp bq1
             have g2 : ¬ c < 97 := fun e => bq2 ((nI_ltI (b := 97) (by omega) (by omega)).mpr e)
             have g3 : ¬ 121 ≤ c := fun e => bq3 ((nI_leI (a := 121) (by omega) (by omega)).mpr e)
             rw [if_pos g1]; simp; omega)
          | (have g1 : ¬ i % 2 = 1 := fun e => bq1 (by rw [e]; rfl)
             have g2 := (nI_eq (b := 59) (by omega) (by omega)).mp bq2
             have g3 := (nI_ltI (b := 8) (by omega) (by omega)).mp bq3
             rw [if_neg g1, if_pos g2]; simp; omega)
          | (have g1 : ¬ i % 2 = 1 := fun e => bq1 (by rw [e]; rfl)
             have g2 := (nI_eq (b := 59) (by omega) (by omega)).mp bq2
             have g3 : ¬ i < 8 := fun e => bq3 ((nI_ltI (b := 8) (by omega) (by omega)).mpr e)
             rw [if_neg g1, if_pos g2]; simp; omega)
          | (have g1 : ¬ i % 2 = 1 := fun e => bq1 (by rw [e]; rfl)
             have g2 : ¬ c = 59 := fun e => bq2 (by rw [e]; rfl)
             have g3 := (nI_leI (a := 20) (by omega) (by omega)).mp bq3
             rw [if_neg g1, if_neg g2]; simp; omega)
          | (have g1 : ¬ i % 2 = 1 := fun e => bq1 (by rw [e]; rfl)
             have g2 : ¬ c = 59 := fun e => bq2 (by rw [e]; rfl)
             have g3 := a_pom.mp bq4
             rw [if_neg g1, if_neg g2]; simp [g3])
          | (have g1 : ¬ i % 2 = 1 := fun e => bq1 (by rw [e]; rfl)
             have g2 : ¬ c = 59 := fun e => bq2 (by rw [e]; rfl)
             have g3 : ¬ 20 ≤ i := fun e => bq3 ((nI_leI (a := 20) (by omega) (by omega)).mpr e)
             have g4 : ¬ a_po c = 0 := fun e => bq4 (a_pom.mpr e)
             rw [if_neg g1, if_neg g2]; simp [g4]; omega)
      · refine j_iconst (v := 1) d_Pa_fitsRings_19 rfl ?_
        refine j_goto (tgt := 24) d_Pa_fitsRings_20 rfl ?_
        refine j_zret d_Pa_fitsRings_24 rfl (by decide) ?_
        first | refine q_i1 hF (b1t ?_) | refine q_i1 hF (b0f ?_)
        all_goals unfold a_fr
        first
          | (have g1 := (nI_eq (b := 1) (by omega) (by omega)).mp bq1
             have g2 := (nI_ltI (b := 97) (by omega) (by omega)).mp bq2
             rw [if_pos g1]; simp; omega)
          | (have g1 := (nI_eq (b := 1) (by omega) (by omega)).mp bq1
             have g2 := (nI_leI (a := 121) (by omega) (by omega)).mp bq3
             rw [if_pos g1]; simp; omega)
          | (have g1 := (nI_eq (b := 1) (by omega) (by omega)).mp bq1
             have g2 : ¬ c < 97 := fun e => bq2 ((nI_ltI (b := 97) (by omega) (by omega)).mpr e)
             have g3 : ¬ 121 ≤ c := fun e => bq3 ((nI_leI (a := 121) (by omega) (by omega)).mpr e)
             rw [if_pos g1]; simp; omega)
          | (have g1 : ¬ i % 2 = 1 := fun e => bq1 (by rw [e]; rfl)
             have g2 := (nI_eq (b := 59) (by omega) (by omega)).mp bq2
             have g3 := (nI_ltI (b := 8) (by omega) (by omega)).mp bq3
             rw [if_neg g1, if_pos g2]; simp; omega)
          | (have g1 : ¬ i % 2 = 1 := fun e => bq1 (by rw [e]; rfl)
             have g2 := (nI_eq (b := 59) (by omega) (by omega)).mp bq2
             have g3 : ¬ i < 8 := fun e => bq3 ((nI_ltI (b := 8) (by omega) (by omega)).mpr e)
             rw [if_neg g1, if_pos g2]; simp; omega)
          | (have g1 : ¬ i % 2 = 1 := fun e => bq1 (by rw [e]; rfl)
             have g2 : ¬ c = 59 := fun e => bq2 (by rw [e]; rfl)
             have g3 := (nI_leI (a := 20) (by omega) (by omega)).mp bq3
             rw [if_neg g1, if_neg g2]; simp; omega)
          | (have g1 : ¬ i % 2 = 1 := fun e => bq1 (by rw [e]; rfl)
             have g2 : ¬ c = 59 := fun e => bq2 (by rw [e]; rfl)
             have g3 := a_pom.mp bq4
             rw [if_neg g1, if_neg g2]; simp [g3])
          | (have g1 : ¬ i % 2 = 1 := fun e => bq1 (by rw [e]; rfl)
             have g2 : ¬ c = 59 := fun e => bq2 (by rw [e]; rfl)
             have g3 : ¬ 20 ≤ i := fun e => bq3 ((nI_leI (a := 20) (by omega) (by omega)).mpr e)
             have g4 : ¬ a_po c = 0 := fun e => bq4 (a_pom.mpr e)
             rw [if_neg g1, if_neg g2]; simp [g4]; omega)
set_option maxRecDepth 100000 in
set_option maxHeartbeats 4000000 in
theorem c_Pa_fitsTail {G : r_X} {d : Nat} {h : r_HI} {p q : Nat} {z : r_HL} {F : Int32 → r_HI → r_HR → r_HL → Prop} {i c : Nat} {a1 a2 : Int32} (hi : i < 28) (hc : c < 127) (e1 : a1 = nI i) (e2 : a2 = nI c) (hF : F (if a_ta i c then 1 else 0) h (r_gp p q) z) : r_Ci G m_Pa_fitsTail (d + 1) 61 [.int a1, .int a2] 61 h (r_gp p q) z F := by
  subst e1
  subst e2
  refine r_C_of (by decide +kernel) (Nat.le_of_ble_eq_true rfl) ?_
  refine j_ls (ls' := [(0, _), (1, _)]) rfl ?_
  refine j_iload_n d_Pa_fitsTail_0 rfl rfl ?_
  rcases (show (nI i).toInt < 1 ∨ 4 < (nI i).toInt ∨ (nI i).toInt = 1 ∨ (nI i).toInt = 2 ∨ (nI i).toInt = 3 ∨ (nI i).toInt = 4 by omega) with t9 | t9 | t9 | t9 | t9 | t9
  · refine j_tabOut (tgt := 94) d_Pa_fitsTail_1 (Or.inl t9) rfl ?_
    refine j_iconst (v := 0) d_Pa_fitsTail_94 rfl ?_
    refine j_zret d_Pa_fitsTail_95 rfl (by decide) ?_
    first | refine q_i1 hF (b1t ?_) | refine q_i1 hF (b0f ?_)
    have e9 := nI_toInt (n := i) (by omega)
    rw [e9] at t9
    first
      | (have e7 : i = 1 := by omega
         subst e7
         have g2 := (nI_ltI (b := 48) (by omega) (by omega)).mp bq1
         simp [a_ta]
         omega)
      | (have e7 : i = 1 := by omega
         subst e7
         have g2 := (nI_ltI (a := 57) (by omega) (by omega)).mp bq2
         simp [a_ta]
         omega)
      | (have e7 : i = 1 := by omega
         subst e7
         have g2 : ¬ c < 48 := fun e => bq1 ((nI_ltI (b := 48) (by omega) (by omega)).mpr e)
         have g3 : ¬ 57 < c := fun e => bq2 ((nI_ltI (a := 57) (by omega) (by omega)).mpr e)
         simp [a_ta]
         omega)
      | (have e7 : i = 2 := by omega
         subst e7
         have g2 := (nI_ltI (b := 49) (by omega) (by omega)).mp bq1
         simp [a_ta]
         omega)
      | (have e7 : i = 2 := by omega
         subst e7
         have g2 := (nI_ltI (a := 57) (by omega) (by omega)).mp bq2
         simp [a_ta]
         omega)
      | (have e7 : i = 2 := by omega
         subst e7
         have g2 : ¬ c < 49 := fun e => bq1 ((nI_ltI (b := 49) (by omega) (by omega)).mpr e)
         have g3 : ¬ 57 < c := fun e => bq2 ((nI_ltI (a := 57) (by omega) (by omega)).mpr e)
         simp [a_ta]
         omega)
      | (have e7 : i = 3 := by omega
         subst e7
         have g2 := (nI_eq (b := 59) (by omega) (by omega)).mp bq1
         simp [a_ta, g2])
      | (have e7 : i = 3 := by omega
         subst e7
         have g2 : ¬ c = 59 := fun e => bq1 (by rw [e]; rfl)
         simp [a_ta, g2])
      | (have e7 : i = 4 := by omega
         subst e7
         have g2 := a_kom.mp bq1
         simp [a_ta, g2])
      | (have e7 : i = 4 := by omega
         subst e7
         have hk5 := a_ko_le c
         have g2 : ¬ a_ko c = 5 := fun e => bq1 (a_kom.mpr e)
         have g3 : a_ko c < 5 := by omega
         simp [a_ta, g3])
      | (unfold a_ta
         rw [if_neg (by omega), if_neg (by omega), if_neg (by omega), if_neg (by omega)])
  · refine j_tabOut (tgt := 94) d_Pa_fitsTail_1 (Or.inr t9) rfl ?_
    refine j_iconst (v := 0) d_Pa_fitsTail_94 rfl ?_
    refine j_zret d_Pa_fitsTail_95 rfl (by decide) ?_
    first | refine q_i1 hF (b1t ?_) | refine q_i1 hF (b0f ?_)
    have e9 := nI_toInt (n := i) (by omega)
    rw [e9] at t9
    first
      | (have e7 : i = 1 := by omega
         subst e7
         have g2 := (nI_ltI (b := 48) (by omega) (by omega)).mp bq1
         simp [a_ta]
         omega)
      | (have e7 : i = 1 := by omega
         subst e7
         have g2 := (nI_ltI (a := 57) (by omega) (by omega)).mp bq2
         simp [a_ta]
         omega)
      | (have e7 : i = 1 := by omega
         subst e7
         have g2 : ¬ c < 48 := fun e => bq1 ((nI_ltI (b := 48) (by omega) (by omega)).mpr e)
         have g3 : ¬ 57 < c := fun e => bq2 ((nI_ltI (a := 57) (by omega) (by omega)).mpr e)
         simp [a_ta]
         omega)
      | (have e7 : i = 2 := by omega
         subst e7
         have g2 := (nI_ltI (b := 49) (by omega) (by omega)).mp bq1
         simp [a_ta]
         omega)
      | (have e7 : i = 2 := by omega
         subst e7
         have g2 := (nI_ltI (a := 57) (by omega) (by omega)).mp bq2
         simp [a_ta]
         omega)
      | (have e7 : i = 2 := by omega
         subst e7
         have g2 : ¬ c < 49 := fun e => bq1 ((nI_ltI (b := 49) (by omega) (by omega)).mpr e)
         have g3 : ¬ 57 < c := fun e => bq2 ((nI_ltI (a := 57) (by omega) (by omega)).mpr e)
         simp [a_ta]
         omega)
      | (have e7 : i = 3 := by omega
         subst e7
         have g2 := (nI_eq (b := 59) (by omega) (by omega)).mp bq1
         simp [a_ta, g2])
      | (have e7 : i = 3 := by omega
         subst e7
         have g2 : ¬ c = 59 := fun e => bq1 (by rw [e]; rfl)
         simp [a_ta, g2])
      | (have e7 : i = 4 := by omega
         subst e7
         have g2 := a_kom.mp bq1
         simp [a_ta, g2])
      | (have e7 : i = 4 := by omega
         subst e7
         have hk5 := a_ko_le c
         have g2 : ¬ a_ko c = 5 := fun e => bq1 (a_kom.mpr e)
         have g3 : a_ko c < 5 := by omega
         simp [a_ta, g3])
      | (unfold a_ta
         rw [if_neg (by omega), if_neg (by omega), if_neg (by omega), if_neg (by omega)])
  · refine j_tabIn (off := 31) (tgt := 32) d_Pa_fitsTail_1 (by rw [t9]; decide) (by rw [t9]; decide) (by rw [t9]; rfl) rfl ?_
    refine j_iload_n d_Pa_fitsTail_32 rfl rfl ?_
    refine j_bipush (v := 48) d_Pa_fitsTail_33 (by decide) ?_
    refine j_icmp_lt (tgt := 48) d_Pa_fitsTail_35 rfl (fun bq1 => ?_) (fun bq1 => ?_)
    · refine j_iconst (v := 0) d_Pa_fitsTail_48 rfl ?_
      refine j_zret d_Pa_fitsTail_49 rfl (by decide) ?_
      first | refine q_i1 hF (b1t ?_) | refine q_i1 hF (b0f ?_)
      have e9 := nI_toInt (n := i) (by omega)
      rw [e9] at t9
      first
        | (have e7 : i = 1 := by omega
           subst e7
           have g2 := (nI_ltI (b := 48) (by omega) (by omega)).mp bq1
           simp [a_ta]
           omega)
        | (have e7 : i = 1 := by omega
           subst e7
           have g2 := (nI_ltI (a := 57) (by omega) (by omega)).mp bq2
           simp [a_ta]
           omega)
        | (have e7 : i = 1 := by omega
           subst e7
           have g2 : ¬ c < 48 := fun e => bq1 ((nI_ltI (b := 48) (by omega) (by omega)).mpr e)
           have g3 : ¬ 57 < c := fun e => bq2 ((nI_ltI (a := 57) (by omega) (by omega)).mpr e)
           simp [a_ta]
           omega)
        | (have e7 : i = 2 := by omega
           subst e7
           have g2 := (nI_ltI (b := 49) (by omega) (by omega)).mp bq1
           simp [a_ta]
           omega)
        | (have e7 : i = 2 := by omega
           subst e7
           have g2 := (nI_ltI (a := 57) (by omega) (by omega)).mp bq2
           simp [a_ta]
           omega)
        | (have e7 : i = 2 := by omega
           subst e7
           have g2 : ¬ c < 49 := fun e => bq1 ((nI_ltI (b := 49) (by omega) (by omega)).mpr e)
           have g3 : ¬ 57 < c := fun e => bq2 ((nI_ltI (a := 57) (by omega) (by omega)).mpr e)
           simp [a_ta]
           omega)
        | (have e7 : i = 3 := by omega
           subst e7
           have g2 := (nI_eq (b := 59) (by omega) (by omega)).mp bq1
           simp [a_ta, g2])
        | (have e7 : i = 3 := by omega
           subst e7
           have g2 : ¬ c = 59 := fun e => bq1 (by rw [e]; rfl)
           simp [a_ta, g2])
        | (have e7 : i = 4 := by omega
           subst e7
           have g2 := a_kom.mp bq1
           simp [a_ta, g2])
        | (have e7 : i = 4 := by omega
           subst e7
           have hk5 := a_ko_le c
           have g2 : ¬ a_ko c = 5 := fun e => bq1 (a_kom.mpr e)
           have g3 : a_ko c < 5 := by omega
           simp [a_ta, g3])
        | (unfold a_ta
           rw [if_neg (by omega), if_neg (by omega), if_neg (by omega), if_neg (by omega)])
    · refine j_iload_n d_Pa_fitsTail_38 rfl rfl ?_
      refine j_bipush (v := 57) d_Pa_fitsTail_39 (by decide) ?_
      refine j_icmp_gt (tgt := 48) d_Pa_fitsTail_41 rfl (fun bq2 => ?_) (fun bq2 => ?_)
      · refine j_iconst (v := 0) d_Pa_fitsTail_48 rfl ?_
        refine j_zret d_Pa_fitsTail_49 rfl (by decide) ?_
        first | refine q_i1 hF (b1t ?_) | refine q_i1 hF (b0f ?_)
        have e9 := nI_toInt (n := i) (by omega)
        rw [e9] at t9
        first
          | (have e7 : i = 1 := by omega
             subst e7
             have g2 := (nI_ltI (b := 48) (by omega) (by omega)).mp bq1
             simp [a_ta]
             omega)
          | (have e7 : i = 1 := by omega
             subst e7
             have g2 := (nI_ltI (a := 57) (by omega) (by omega)).mp bq2
             simp [a_ta]
             omega)
          | (have e7 : i = 1 := by omega
             subst e7
             have g2 : ¬ c < 48 := fun e => bq1 ((nI_ltI (b := 48) (by omega) (by omega)).mpr e)
             have g3 : ¬ 57 < c := fun e => bq2 ((nI_ltI (a := 57) (by omega) (by omega)).mpr e)
             simp [a_ta]
             omega)
          | (have e7 : i = 2 := by omega
             subst e7
             have g2 := (nI_ltI (b := 49) (by omega) (by omega)).mp bq1
             simp [a_ta]
             omega)
          | (have e7 : i = 2 := by omega
             subst e7
             have g2 := (nI_ltI (a := 57) (by omega) (by omega)).mp bq2
             simp [a_ta]
             omega)
          | (have e7 : i = 2 := by omega
             subst e7
             have g2 : ¬ c < 49 := fun e => bq1 ((nI_ltI (b := 49) (by omega) (by omega)).mpr e)
             have g3 : ¬ 57 < c := fun e => bq2 ((nI_ltI (a := 57) (by omega) (by omega)).mpr e)
             simp [a_ta]
             omega)
          | (have e7 : i = 3 := by omega
             subst e7
             have g2 := (nI_eq (b := 59) (by omega) (by omega)).mp bq1
             simp [a_ta, g2])
          | (have e7 : i = 3 := by omega
             subst e7
             have g2 : ¬ c = 59 := fun e => bq1 (by rw [e]; rfl)
             simp [a_ta, g2])
          | (have e7 : i = 4 := by omega
             subst e7
             have g2 := a_kom.mp bq1
             simp [a_ta, g2])
          | (have e7 : i = 4 := by omega
             subst e7
             have hk5 := a_ko_le c
             have g2 : ¬ a_ko c = 5 := fun e => bq1 (a_kom.mpr e)
             have g3 : a_ko c < 5 := by omega
             simp [a_ta, g3])
          | (unfold a_ta
             rw [if_neg (by omega), if_neg (by omega), if_neg (by omega), if_neg (by omega)])
      · refine j_iconst (v := 1) d_Pa_fitsTail_44 rfl ?_
        refine j_goto (tgt := 49) d_Pa_fitsTail_45 rfl ?_
        refine j_zret d_Pa_fitsTail_49 rfl (by decide) ?_
        first | refine q_i1 hF (b1t ?_) | refine q_i1 hF (b0f ?_)
        have e9 := nI_toInt (n := i) (by omega)
        rw [e9] at t9
        first
          | (have e7 : i = 1 := by omega
             subst e7
             have g2 := (nI_ltI (b := 48) (by omega) (by omega)).mp bq1
             simp [a_ta]
             omega)
          | (have e7 : i = 1 := by omega
             subst e7
             have g2 := (nI_ltI (a := 57) (by omega) (by omega)).mp bq2
             simp [a_ta]
             omega)
          | (have e7 : i = 1 := by omega
             subst e7
             have g2 : ¬ c < 48 := fun e => bq1 ((nI_ltI (b := 48) (by omega) (by omega)).mpr e)
             have g3 : ¬ 57 < c := fun e => bq2 ((nI_ltI (a := 57) (by omega) (by omega)).mpr e)
             simp [a_ta]
             omega)
          | (have e7 : i = 2 := by omega
             subst e7
             have g2 := (nI_ltI (b := 49) (by omega) (by omega)).mp bq1
             simp [a_ta]
             omega)
          | (have e7 : i = 2 := by omega
             subst e7
             have g2 := (nI_ltI (a := 57) (by omega) (by omega)).mp bq2
             simp [a_ta]
             omega)
          | (have e7 : i = 2 := by omega
             subst e7
             have g2 : ¬ c < 49 := fun e => bq1 ((nI_ltI (b := 49) (by omega) (by omega)).mpr e)
             have g3 : ¬ 57 < c := fun e => bq2 ((nI_ltI (a := 57) (by omega) (by omega)).mpr e)
             simp [a_ta]
             omega)
          | (have e7 : i = 3 := by omega
             subst e7
             have g2 := (nI_eq (b := 59) (by omega) (by omega)).mp bq1
             simp [a_ta, g2])
          | (have e7 : i = 3 := by omega
             subst e7
             have g2 : ¬ c = 59 := fun e => bq1 (by rw [e]; rfl)
             simp [a_ta, g2])
          | (have e7 : i = 4 := by omega
             subst e7
             have g2 := a_kom.mp bq1
             simp [a_ta, g2])
          | (have e7 : i = 4 := by omega
             subst e7
             have hk5 := a_ko_le c
             have g2 : ¬ a_ko c = 5 := fun e => bq1 (a_kom.mpr e)
             have g3 : a_ko c < 5 := by omega
             simp [a_ta, g3])
          | (unfold a_ta
             rw [if_neg (by omega), if_neg (by omega), if_neg (by omega), if_neg (by omega)])
  · refine j_tabIn (off := 49) (tgt := 50) d_Pa_fitsTail_1 (by rw [t9]; decide) (by rw [t9]; decide) (by rw [t9]; rfl) rfl ?_
    refine j_iload_n d_Pa_fitsTail_50 rfl rfl ?_
    refine j_bipush (v := 49) d_Pa_fitsTail_51 (by decide) ?_
    refine j_icmp_lt (tgt := 66) d_Pa_fitsTail_53 rfl (fun bq1 => ?_) (fun bq1 => ?_)
    · refine j_iconst (v := 0) d_Pa_fitsTail_66 rfl ?_
      refine j_zret d_Pa_fitsTail_67 rfl (by decide) ?_
      first | refine q_i1 hF (b1t ?_) | refine q_i1 hF (b0f ?_)
      have e9 := nI_toInt (n := i) (by omega)
      rw [e9] at t9
      first
        | (have e7 : i = 1 := by omega
           subst e7
           have g2 := (nI_ltI (b := 48) (by omega) (by omega)).mp bq1
           simp [a_ta]
           omega)
        | (have e7 : i = 1 := by omega
           subst e7
           have g2 := (nI_ltI (a := 57) (by omega) (by omega)).mp bq2
           simp [a_ta]
           omega)
        | (have e7 : i = 1 := by omega
           subst e7
           have g2 : ¬ c < 48 := fun e => bq1 ((nI_ltI (b := 48) (by omega) (by omega)).mpr e)
           have g3 : ¬ 57 < c := fun e => bq2 ((nI_ltI (a := 57) (by omega) (by omega)).mpr e)
           simp [a_ta]
           omega)
        | (have e7 : i = 2 := by omega
           subst e7
           have g2 := (nI_ltI (b := 49) (by omega) (by omega)).mp bq1
           simp [a_ta]
           omega)
        | (have e7 : i = 2 := by omega
           subst e7
           have g2 := (nI_ltI (a := 57) (by omega) (by omega)).mp bq2
           simp [a_ta]
           omega)
        | (have e7 : i = 2 := by omega
           subst e7
           have g2 : ¬ c < 49 := fun e => bq1 ((nI_ltI (b := 49) (by omega) (by omega)).mpr e)
           have g3 : ¬ 57 < c := fun e => bq2 ((nI_ltI (a := 57) (by omega) (by omega)).mpr e)
           simp [a_ta]
           omega)
        | (have e7 : i = 3 := by omega
           subst e7
           have g2 := (nI_eq (b := 59) (by omega) (by omega)).mp bq1
           simp [a_ta, g2])
        | (have e7 : i = 3 := by omega
           subst e7
           have g2 : ¬ c = 59 := fun e => bq1 (by rw [e]; rfl)
           simp [a_ta, g2])
        | (have e7 : i = 4 := by omega
           subst e7
           have g2 := a_kom.mp bq1
           simp [a_ta, g2])
        | (have e7 : i = 4 := by omega
           subst e7
           have hk5 := a_ko_le c
           have g2 : ¬ a_ko c = 5 := fun e => bq1 (a_kom.mpr e)
           have g3 : a_ko c < 5 := by omega
           simp [a_ta, g3])
        | (unfold a_ta
           rw [if_neg (by omega), if_neg (by omega), if_neg (by omega), if_neg (by omega)])
    · refine j_iload_n d_Pa_fitsTail_56 rfl rfl ?_
      refine j_bipush (v := 57) d_Pa_fitsTail_57 (by decide) ?_
      refine j_icmp_gt (tgt := 66) d_Pa_fitsTail_59 rfl (fun bq2 => ?_) (fun bq2 => ?_)
      · refine j_iconst (v := 0) d_Pa_fitsTail_66 rfl ?_
        refine j_zret d_Pa_fitsTail_67 rfl (by decide) ?_
        first | refine q_i1 hF (b1t ?_) | refine q_i1 hF (b0f ?_)
        have e9 := nI_toInt (n := i) (by omega)
        rw [e9] at t9
        first
          | (have e7 : i = 1 := by omega
             subst e7
             have g2 := (nI_ltI (b := 48) (by omega) (by omega)).mp bq1
             simp [a_ta]
             omega)
          | (have e7 : i = 1 := by omega
             subst e7
             have g2 := (nI_ltI (a := 57) (by omega) (by omega)).mp bq2
             simp [a_ta]
             omega)
          | (have e7 : i = 1 := by omega
             subst e7
             have g2 : ¬ c < 48 := fun e => bq1 ((nI_ltI (b := 48) (by omega) (by omega)).mpr e)
             have g3 : ¬ 57 < c := fun e => bq2 ((nI_ltI (a := 57) (by omega) (by omega)).mpr e)
             simp [a_ta]
             omega)
          | (have e7 : i = 2 := by omega
             subst e7
             have g2 := (nI_ltI (b := 49) (by omega) (by omega)).mp bq1
             simp [a_ta]
             omega)
          | (have e7 : i = 2 := by omega
             subst e7
             have g2 := (nI_ltI (a := 57) (by omega) (by omega)).mp bq2
             simp [a_ta]
             omega)
          | (have e7 : i = 2 := by omega
             subst e7
             have g2 : ¬ c < 49 := fun e => bq1 ((nI_ltI (b := 49) (by omega) (by omega)).mpr e)
             have g3 : ¬ 57 < c := fun e => bq2 ((nI_ltI (a := 57) (by omega) (by omega)).mpr e)
             simp [a_ta]
             omega)
          | (have e7 : i = 3 := by omega
             subst e7
             have g2 := (nI_eq (b := 59) (by omega) (by omega)).mp bq1
             simp [a_ta, g2])
          | (have e7 : i = 3 := by omega
             subst e7
             have g2 : ¬ c = 59 := fun e => bq1 (by rw [e]; rfl)
             simp [a_ta, g2])
          | (have e7 : i = 4 := by omega
             subst e7
             have g2 := a_kom.mp bq1
             simp [a_ta, g2])
          | (have e7 : i = 4 := by omega
             subst e7
             have hk5 := a_ko_le c
             have g2 : ¬ a_ko c = 5 := fun e => bq1 (a_kom.mpr e)
             have g3 : a_ko c < 5 := by omega
             simp [a_ta, g3])
          | (unfold a_ta
             rw [if_neg (by omega), if_neg (by omega), if_neg (by omega), if_neg (by omega)])
      · refine j_iconst (v := 1) d_Pa_fitsTail_62 rfl ?_
        refine j_goto (tgt := 67) d_Pa_fitsTail_63 rfl ?_
        refine j_zret d_Pa_fitsTail_67 rfl (by decide) ?_
        first | refine q_i1 hF (b1t ?_) | refine q_i1 hF (b0f ?_)
        have e9 := nI_toInt (n := i) (by omega)
        rw [e9] at t9
        first
          | (have e7 : i = 1 := by omega
             subst e7
             have g2 := (nI_ltI (b := 48) (by omega) (by omega)).mp bq1
             simp [a_ta]
             omega)
          | (have e7 : i = 1 := by omega
             subst e7
             have g2 := (nI_ltI (a := 57) (by omega) (by omega)).mp bq2
             simp [a_ta]
             omega)
          | (have e7 : i = 1 := by omega
             subst e7
             have g2 : ¬ c < 48 := fun e => bq1 ((nI_ltI (b := 48) (by omega) (by omega)).mpr e)
             have g3 : ¬ 57 < c := fun e => bq2 ((nI_ltI (a := 57) (by omega) (by omega)).mpr e)
             simp [a_ta]
             omega)
          | (have e7 : i = 2 := by omega
             subst e7
             have g2 := (nI_ltI (b := 49) (by omega) (by omega)).mp bq1
             simp [a_ta]
             omega)
          | (have e7 : i = 2 := by omega
             subst e7
             have g2 := (nI_ltI (a := 57) (by omega) (by omega)).mp bq2
             simp [a_ta]
             omega)
          | (have e7 : i = 2 := by omega
             subst e7
             have g2 : ¬ c < 49 := fun e => bq1 ((nI_ltI (b := 49) (by omega) (by omega)).mpr e)
             have g3 : ¬ 57 < c := fun e => bq2 ((nI_ltI (a := 57) (by omega) (by omega)).mpr e)
             simp [a_ta]
             omega)
          | (have e7 : i = 3 := by omega
             subst e7
             have g2 := (nI_eq (b := 59) (by omega) (by omega)).mp bq1
             simp [a_ta, g2])
          | (have e7 : i = 3 := by omega
             subst e7
             have g2 : ¬ c = 59 := fun e => bq1 (by rw [e]; rfl)
             simp [a_ta, g2])
          | (have e7 : i = 4 := by omega
             subst e7
             have g2 := a_kom.mp bq1
             simp [a_ta, g2])
          | (have e7 : i = 4 := by omega
             subst e7
             have hk5 := a_ko_le c
             have g2 : ¬ a_ko c = 5 := fun e => bq1 (a_kom.mpr e)
             have g3 : a_ko c < 5 := by omega
             simp [a_ta, g3])
          | (unfold a_ta
             rw [if_neg (by omega), if_neg (by omega), if_neg (by omega), if_neg (by omega)])
  · refine j_tabIn (off := 67) (tgt := 68) d_Pa_fitsTail_1 (by rw [t9]; decide) (by rw [t9]; decide) (by rw [t9]; rfl) rfl ?_
    refine j_iload_n d_Pa_fitsTail_68 rfl rfl ?_
    refine j_bipush (v := 59) d_Pa_fitsTail_69 (by decide) ?_
    refine j_icmp_ne (tgt := 78) d_Pa_fitsTail_71 rfl (fun bq1 => ?_) (fun bq1 => ?_)
    · refine j_iconst (v := 0) d_Pa_fitsTail_78 rfl ?_
      refine j_zret d_Pa_fitsTail_79 rfl (by decide) ?_
      first | refine q_i1 hF (b1t ?_) | refine q_i1 hF (b0f ?_)
      have e9 := nI_toInt (n := i) (by omega)
      rw [e9] at t9
      first
        | (have e7 : i = 1 := by omega
           subst e7
           have g2 := (nI_ltI (b := 48) (by omega) (by omega)).mp bq1
           simp [a_ta]
           omega)
        | (have e7 : i = 1 := by omega
           subst e7
           have g2 := (nI_ltI (a := 57) (by omega) (by omega)).mp bq2
           simp [a_ta]
           omega)
        | (have e7 : i = 1 := by omega
           subst e7
           have g2 : ¬ c < 48 := fun e => bq1 ((nI_ltI (b := 48) (by omega) (by omega)).mpr e)
           have g3 : ¬ 57 < c := fun e => bq2 ((nI_ltI (a := 57) (by omega) (by omega)).mpr e)
           simp [a_ta]
           omega)
        | (have e7 : i = 2 := by omega
           subst e7
           have g2 := (nI_ltI (b := 49) (by omega) (by omega)).mp bq1
           simp [a_ta]
           omega)
        | (have e7 : i = 2 := by omega
           subst e7
           have g2 := (nI_ltI (a := 57) (by omega) (by omega)).mp bq2
           simp [a_ta]
           omega)
        | (have e7 : i = 2 := by omega
           subst e7
           have g2 : ¬ c < 49 := fun e => bq1 ((nI_ltI (b := 49) (by omega) (by omega)).mpr e)
           have g3 : ¬ 57 < c := fun e => bq2 ((nI_ltI (a := 57) (by omega) (by omega)).mpr e)
           simp [a_ta]
           omega)
        | (have e7 : i = 3 := by omega
           subst e7
           have g2 := (nI_eq (b := 59) (by omega) (by omega)).mp bq1
           simp [a_ta, g2])
        | (have e7 : i = 3 := by omega
           subst e7
           have g2 : ¬ c = 59 := fun e => bq1 (by rw [e]; rfl)
           simp [a_ta, g2])
        | (have e7 : i = 4 := by omega
           subst e7
           have g2 := a_kom.mp bq1
           simp [a_ta, g2])
        | (have e7 : i = 4 := by omega
           subst e7
           have hk5 := a_ko_le c
           have g2 : ¬ a_ko c = 5 := fun e => bq1 (a_kom.mpr e)
           have g3 : a_ko c < 5 := by omega
           simp [a_ta, g3])
        | (unfold a_ta
           rw [if_neg (by omega), if_neg (by omega), if_neg (by omega), if_neg (by omega)])
    · refine j_iconst (v := 1) d_Pa_fitsTail_74 rfl ?_
      refine j_goto (tgt := 79) d_Pa_fitsTail_75 rfl ?_
      refine j_zret d_Pa_fitsTail_79 rfl (by decide) ?_
      first | refine q_i1 hF (b1t ?_) | refine q_i1 hF (b0f ?_)
      have e9 := nI_toInt (n := i) (by omega)
      rw [e9] at t9
      first
        | (have e7 : i = 1 := by omega
           subst e7
           have g2 := (nI_ltI (b := 48) (by omega) (by omega)).mp bq1
           simp [a_ta]
           omega)
        | (have e7 : i = 1 := by omega
           subst e7
           have g2 := (nI_ltI (a := 57) (by omega) (by omega)).mp bq2
           simp [a_ta]
           omega)
        | (have e7 : i = 1 := by omega
           subst e7
           have g2 : ¬ c < 48 := fun e => bq1 ((nI_ltI (b := 48) (by omega) (by omega)).mpr e)
           have g3 : ¬ 57 < c := fun e => bq2 ((nI_ltI (a := 57) (by omega) (by omega)).mpr e)
           simp [a_ta]
           omega)
        | (have e7 : i = 2 := by omega
           subst e7
           have g2 := (nI_ltI (b := 49) (by omega) (by omega)).mp bq1
           simp [a_ta]
           omega)
        | (have e7 : i = 2 := by omega
           subst e7
           have g2 := (nI_ltI (a := 57) (by omega) (by omega)).mp bq2
           simp [a_ta]
           omega)
        | (have e7 : i = 2 := by omega
           subst e7
           have g2 : ¬ c < 49 := fun e => bq1 ((nI_ltI (b := 49) (by omega) (by omega)).mpr e)
           have g3 : ¬ 57 < c := fun e => bq2 ((nI_ltI (a := 57) (by omega) (by omega)).mpr e)
           simp [a_ta]
           omega)
        | (have e7 : i = 3 := by omega
           subst e7
           have g2 := (nI_eq (b := 59) (by omega) (by omega)).mp bq1
           simp [a_ta, g2])
        | (have e7 : i = 3 := by omega
           subst e7
           have g2 : ¬ c = 59 := fun e => bq1 (by rw [e]; rfl)
           simp [a_ta, g2])
        | (have e7 : i = 4 := by omega
           subst e7
           have g2 := a_kom.mp bq1
           simp [a_ta, g2])
        | (have e7 : i = 4 := by omega
           subst e7
           have hk5 := a_ko_le c
           have g2 : ¬ a_ko c = 5 := fun e => bq1 (a_kom.mpr e)
           have g3 : a_ko c < 5 := by omega
           simp [a_ta, g3])
        | (unfold a_ta
           rw [if_neg (by omega), if_neg (by omega), if_neg (by omega), if_neg (by omega)])
  · refine j_tabIn (off := 79) (tgt := 80) d_Pa_fitsTail_1 (by rw [t9]; decide) (by rw [t9]; decide) (by rw [t9]; rfl) rfl ?_
    refine j_iload_n d_Pa_fitsTail_80 rfl rfl ?_
    refine q_i s_Pa_fitsTail_81 rfl (Nat.le_of_ble_eq_true rfl) (Nat.le_of_ble_eq_true rfl) ?_
    refine c_Pa_kindOf hc rfl ?_
    refine j_iconst (v := (-1)) d_Pa_fitsTail_84 rfl ?_
    refine j_icmp_eq (tgt := 92) d_Pa_fitsTail_85 rfl (fun bq1 => ?_) (fun bq1 => ?_)
    · refine j_iconst (v := 0) d_Pa_fitsTail_92 rfl ?_
      refine j_zret d_Pa_fitsTail_93 rfl (by decide) ?_
      first | refine q_i1 hF (b1t ?_) | refine q_i1 hF (b0f ?_)
      have e9 := nI_toInt (n := i) (by omega)
      rw [e9] at t9
      first
        | (have e7 : i = 1 := by omega
           subst e7
           have g2 := (nI_ltI (b := 48) (by omega) (by omega)).mp bq1
           simp [a_ta]
           omega)
        | (have e7 : i = 1 := by omega
           subst e7
           have g2 := (nI_ltI (a := 57) (by omega) (by omega)).mp bq2
           simp [a_ta]
           omega)
        | (have e7 : i = 1 := by omega
           subst e7
           have g2 : ¬ c < 48 := fun e => bq1 ((nI_ltI (b := 48) (by omega) (by omega)).mpr e)
           have g3 : ¬ 57 < c := fun e => bq2 ((nI_ltI (a := 57) (by omega) (by omega)).mpr e)
           simp [a_ta]
           omega)
        | (have e7 : i = 2 := by omega
           subst e7
           have g2 := (nI_ltI (b := 49) (by omega) (by omega)).mp bq1
           simp [a_ta]
           omega)
        | (have e7 : i = 2 := by omega
           subst e7
           have g2 := (nI_ltI (a := 57) (by omega) (by omega)).mp bq2
           simp [a_ta]
           omega)
        | (have e7 : i = 2 := by omega
           subst e7
           have g2 : ¬ c < 49 := fun e => bq1 ((nI_ltI (b := 49) (by omega) (by omega)).mpr e)
           have g3 : ¬ 57 < c := fun e => bq2 ((nI_ltI (a := 57) (by omega) (by omega)).mpr e)
           simp [a_ta]
           omega)
        | (have e7 : i = 3 := by omega
           subst e7
           have g2 := (nI_eq (b := 59) (by omega) (by omega)).mp bq1
           simp [a_ta, g2])
        | (have e7 : i = 3 := by omega
           subst e7
           have g2 : ¬ c = 59 := fun e => bq1 (by rw [e]; rfl)
           simp [a_ta, g2])
        | (have e7 : i = 4 := by omega
           subst e7
           have g2 := a_kom.mp bq1
           simp [a_ta, g2])
        | (have e7 : i = 4 := by omega
           subst e7
           have hk5 := a_ko_le c
           have g2 : ¬ a_ko c = 5 := fun e => bq1 (a_kom.mpr e)
           have g3 : a_ko c < 5 := by omega
           simp [a_ta, g3])
        | (unfold a_ta
           rw [if_neg (by omega), if_neg (by omega), if_neg (by omega), if_neg (by omega)])
    · refine j_iconst (v := 1) d_Pa_fitsTail_88 rfl ?_
      refine j_goto (tgt := 93) d_Pa_fitsTail_89 rfl ?_
      refine j_zret d_Pa_fitsTail_93 rfl (by decide) ?_
      first | refine q_i1 hF (b1t ?_) | refine q_i1 hF (b0f ?_)
      have e9 := nI_toInt (n := i) (by omega)
      rw [e9] at t9
      first
        | (have e7 : i = 1 := by omega
           subst e7
           have g2 := (nI_ltI (b := 48) (by omega) (by omega)).mp bq1
           simp [a_ta]
           omega)
        | (have e7 : i = 1 := by omega
           subst e7
           have g2 := (nI_ltI (a := 57) (by omega) (by omega)).mp bq2
           simp [a_ta]
           omega)
        | (have e7 : i = 1 := by omega
           subst e7
           have g2 : ¬ c < 48 := fun e => bq1 ((nI_ltI (b := 48) (by omega) (by omega)).mpr e)
           have g3 : ¬ 57 < c := fun e => bq2 ((nI_ltI (a := 57) (by omega) (by omega)).mpr e)
           simp [a_ta]
           omega)
        | (have e7 : i = 2 := by omega
           subst e7
           have g2 := (nI_ltI (b := 49) (by omega) (by omega)).mp bq1
           simp [a_ta]
           omega)
        | (have e7 : i = 2 := by omega
           subst e7
           have g2 := (nI_ltI (a := 57) (by omega) (by omega)).mp bq2
           simp [a_ta]
           omega)
        | (have e7 : i = 2 := by omega
           subst e7
           have g2 : ¬ c < 49 := fun e => bq1 ((nI_ltI (b := 49) (by omega) (by omega)).mpr e)
           have g3 : ¬ 57 < c := fun e => bq2 ((nI_ltI (a := 57) (by omega) (by omega)).mpr e)
           simp [a_ta]
           omega)
        | (have e7 : i = 3 := by omega
           subst e7
           have g2 := (nI_eq (b := 59) (by omega) (by omega)).mp bq1
           simp [a_ta, g2])
        | (have e7 : i = 3 := by omega
           subst e7
           have g2 : ¬ c = 59 := fun e => bq1 (by rw [e]; rfl)
           simp [a_ta, g2])
        | (have e7 : i = 4 := by omega
           subst e7
           have g2 := a_kom.mp bq1
           simp [a_ta, g2])
        | (have e7 : i = 4 := by omega
           subst e7
           have hk5 := a_ko_le c
           have g2 : ¬ a_ko c = 5 := fun e => bq1 (a_kom.mpr e)
           have g3 : a_ko c < 5 := by omega
           simp [a_ta, g3])
        | (unfold a_ta
           rw [if_neg (by omega), if_neg (by omega), if_neg (by omega), if_neg (by omega)])
def a_ei (e : Nat) : Int32 := if e = 0 then -1 else nI e
set_option maxRecDepth 100000 in
set_option maxHeartbeats 4000000 in
theorem l_Pa_firstFault {G : r_X} {d : Nat} {h : r_HI} {p q : Nat} {z : r_HL} {F : Int32 → r_HI → r_HR → r_HL → Prop} {P : a_P} (hP : p_P h P) (hp : a_pok P)  : ∀ (r i : Nat) (v ev : Int32) (e : Nat), r + i = P.1 → v = nI i → ev = a_ei e → (e = 0 ∨ (8 ≤ e ∧ e < i)) → F (nI (a_fl P.2 r i e).1) h (r_gp p q) z → r_TM G m_Pa_firstFault (d + 2) 61 61 (fun v h' g' z' => ∃ r, v = some (.int r) ∧ F r h' g' z') 4 [(0, .ref (G.2.1 + 1)), (1, .int ev), (2, .int v)] [] 61 h (r_gp p q) z := by
  have h28 := hp.1
  intro r
  induction r with
  | zero =>
    intro i v ev e hr hv hev he hF
    subst hv
    refine j_iload_n d_Pa_firstFault_4 rfl rfl ?_
    refine j_aload_n d_Pa_firstFault_5 rfl rfl ?_
    refine j_geti d_Pa_firstFault_6 f_Pa_15 rfl rfl (by decide) ?_
    refine j_icmp_ge (tgt := 74) d_Pa_firstFault_9 rfl (fun bq1 => ?_) (fun bq1 => False.elim (bq1 (by rw [hP.1]; exact nI_le (by omega) (by omega))))
    refine j_aload_n d_Pa_firstFault_74 rfl rfl ?_
    refine j_geti d_Pa_firstFault_75 f_Pa_15 rfl rfl (by decide) ?_
    refine j_iret d_Pa_firstFault_78 rfl ?_
    exact q_i1 hF (by rw [hP.1, a_fl, show i = P.1 by omega])
  | succ r ih =>
    intro i v ev e hr hv hev he hF
    subst hv
    have hPi : h 2 i = nI (P.2 i) := hP.2 i (by omega)
    have hc := hp.2 i (by omega)
    by_cases he0 : e = 0
    · subst he0
      rw [a_ei, if_pos rfl] at hev
      subst hev
      refine j_iload_n d_Pa_firstFault_4 rfl rfl ?_
      refine j_aload_n d_Pa_firstFault_5 rfl rfl ?_
      refine j_geti d_Pa_firstFault_6 f_Pa_15 rfl rfl (by decide) ?_
      refine j_icmp_ge (tgt := 74) d_Pa_firstFault_9 rfl (fun bq1 => False.elim (nI_ge (by omega) (by omega) (hP.1 ▸ bq1))) (fun bq1 => ?_)
      refine j_iload_n d_Pa_firstFault_12 rfl rfl ?_
      refine j_bipush (v := 28) d_Pa_firstFault_13 (by decide) ?_
      refine j_icmp_ge (tgt := 74) d_Pa_firstFault_15 rfl (fun bq2 => False.elim (nI_ge (b := 28) (by omega) (by omega) bq2)) (fun bq2 => ?_)
      refine j_aload_n d_Pa_firstFault_18 rfl rfl ?_
      refine j_getr d_Pa_firstFault_19 f_Pa_9 rfl rfl (by decide) rfl ?_
      refine j_iload_n d_Pa_firstFault_22 rfl rfl ?_
      refine q_i s_Pa_firstFault_23 rfl (Nat.le_of_ble_eq_true rfl) (Nat.le_of_ble_eq_true rfl) ?_
      refine c_Ra_av (j := i) rfl (by decide) rfl (by omega) hPi ?_
      refine j_istore_n (ls' := [(3, _), (0, _), (1, _), (2, _)]) d_Pa_firstFault_26 rfl (by decide) rfl ?_
      refine j_iload_n d_Pa_firstFault_27 rfl rfl ?_
      refine j_iconst (v := (-1)) d_Pa_firstFault_28 rfl ?_
      refine j_icmp_ne (tgt := 43) d_Pa_firstFault_29 rfl (fun bq3 => False.elim (bq3 rfl)) (fun bq3 => ?_)
      refine j_iload_n d_Pa_firstFault_32 rfl rfl ?_
      refine j_iload_n d_Pa_firstFault_33 rfl rfl ?_
      refine q_i s_Pa_firstFault_34 rfl (Nat.le_of_ble_eq_true rfl) (Nat.le_of_ble_eq_true rfl) ?_
      refine c_Pa_fitsRings (by omega) hc rfl rfl ?_
      refine j_if_eq (tgt := 53) d_Pa_firstFault_37 rfl (fun bq4 => ?_) (fun bq4 => ?_)
      · refine j_iload_n d_Pa_firstFault_53 rfl rfl ?_
        refine j_iret d_Pa_firstFault_54 rfl ?_
        exact q_i1 hF (by rw [a_fl, a_g, if_pos rfl, if_neg (t10.mp bq4)])
      · refine j_goto (tgt := 55) d_Pa_firstFault_40 rfl ?_
        refine j_iload_n d_Pa_firstFault_55 rfl rfl ?_
        refine j_iconst (v := (-1)) d_Pa_firstFault_56 rfl ?_
        refine j_icmp_ne (tgt := 68) d_Pa_firstFault_57 rfl (fun bq5 => False.elim (bq5 rfl)) (fun bq5 => ?_)
        refine j_iload_n d_Pa_firstFault_60 rfl rfl ?_
        refine j_bipush (v := 59) d_Pa_firstFault_61 (by decide) ?_
        refine j_icmp_ne (tgt := 68) d_Pa_firstFault_63 rfl (fun bq6 => ?_) (fun bq6 => ?_)
        · refine j_iinc (ls' := [(2, _), (3, _), (0, _), (1, _)]) d_Pa_firstFault_68 rfl (by decide) rfl ?_
          refine j_goto (tgt := 4) d_Pa_firstFault_71 rfl ?_
          refine j_pick [2, 3, 0] (ls' := [(0, _), (1, _), (2, _)]) rfl ?_
          have g1 : a_fr i (P.2 i) = true := Decidable.byContradiction (fun e8 => bq4 (t10.mpr e8))
          rw [a_fl, a_g, if_pos rfl, if_pos g1] at hF
          first
            | (have g2 : ¬ P.2 i = 59 := fun e8 => bq6 (by rw [e8]; rfl)
               rw [if_neg (fun q9 => g2 q9.2)] at hF
               exact ih (i + 1) _ _ 0 (by omega) (nI_inc i) rfl (Or.inl rfl) hF)
            | (have g2 : P.2 i = 59 := (nI_eq (b := 59) (by omega) (by omega)).mp bq6
               rw [if_pos ⟨rfl, g2⟩] at hF
               have g3 : 8 ≤ i := by
                 rw [g2] at g1
                 simp only [a_fr] at g1
                 split at g1
                 · simp at g1
                 · simpa using g1
               exact ih (i + 1) _ _ i (by omega) (nI_inc i) (by rw [a_ei, if_neg (by omega)]) (Or.inr ⟨g3, by omega⟩) hF)
        · refine j_iload_n d_Pa_firstFault_66 rfl rfl ?_
          refine j_istore_n (ls' := [(1, _), (3, _), (0, _), (2, _)]) d_Pa_firstFault_67 rfl (by decide) rfl ?_
          refine j_iinc (ls' := [(2, _), (1, _), (3, _), (0, _)]) d_Pa_firstFault_68 rfl (by decide) rfl ?_
          refine j_goto (tgt := 4) d_Pa_firstFault_71 rfl ?_
          refine j_pick [3, 1, 0] (ls' := [(0, _), (1, _), (2, _)]) rfl ?_
          have g1 : a_fr i (P.2 i) = true := Decidable.byContradiction (fun e8 => bq4 (t10.mpr e8))
          rw [a_fl, a_g, if_pos rfl, if_pos g1] at hF
          first
            | (have g2 : ¬ P.2 i = 59 := fun e8 => bq6 (by rw [e8]; rfl)
               rw [if_neg (fun q9 => g2 q9.2)] at hF
               exact ih (i + 1) _ _ 0 (by omega) (nI_inc i) rfl (Or.inl rfl) hF)
            | (have g2 : P.2 i = 59 := (nI_eq (b := 59) (by omega) (by omega)).mp bq6
               rw [if_pos ⟨rfl, g2⟩] at hF
               have g3 : 8 ≤ i := by
                 rw [g2] at g1
                 simp only [a_fr] at g1
                 split at g1
                 · simp at g1
                 · simpa using g1
               exact ih (i + 1) _ _ i (by omega) (nI_inc i) (by rw [a_ei, if_neg (by omega)]) (Or.inr ⟨g3, by omega⟩) hF)
    · rw [a_ei, if_neg he0] at hev
      subst hev
      refine j_iload_n d_Pa_firstFault_4 rfl rfl ?_
      refine j_aload_n d_Pa_firstFault_5 rfl rfl ?_
      refine j_geti d_Pa_firstFault_6 f_Pa_15 rfl rfl (by decide) ?_
      refine j_icmp_ge (tgt := 74) d_Pa_firstFault_9 rfl (fun bq1 => False.elim (nI_ge (by omega) (by omega) (hP.1 ▸ bq1))) (fun bq1 => ?_)
      refine j_iload_n d_Pa_firstFault_12 rfl rfl ?_
      refine j_bipush (v := 28) d_Pa_firstFault_13 (by decide) ?_
      refine j_icmp_ge (tgt := 74) d_Pa_firstFault_15 rfl (fun bq2 => False.elim (nI_ge (b := 28) (by omega) (by omega) bq2)) (fun bq2 => ?_)
      refine j_aload_n d_Pa_firstFault_18 rfl rfl ?_
      refine j_getr d_Pa_firstFault_19 f_Pa_9 rfl rfl (by decide) rfl ?_
      refine j_iload_n d_Pa_firstFault_22 rfl rfl ?_
      refine q_i s_Pa_firstFault_23 rfl (Nat.le_of_ble_eq_true rfl) (Nat.le_of_ble_eq_true rfl) ?_
      refine c_Ra_av (j := i) rfl (by decide) rfl (by omega) hPi ?_
      refine j_istore_n (ls' := [(3, _), (0, _), (1, _), (2, _)]) d_Pa_firstFault_26 rfl (by decide) rfl ?_
      refine j_iload_n d_Pa_firstFault_27 rfl rfl ?_
      refine j_iconst (v := (-1)) d_Pa_firstFault_28 rfl ?_
      refine j_icmp_ne (tgt := 43) d_Pa_firstFault_29 rfl (fun bq3 => ?_) (fun bq3 => False.elim (nI_m1 (by omega) bq3))
      refine j_iload_n d_Pa_firstFault_43 rfl rfl ?_
      refine j_iload_n d_Pa_firstFault_44 rfl rfl ?_
      refine j_isub d_Pa_firstFault_45 ?_
      refine j_iload_n d_Pa_firstFault_46 rfl rfl ?_
      refine q_i s_Pa_firstFault_47 rfl (Nat.le_of_ble_eq_true rfl) (Nat.le_of_ble_eq_true rfl) ?_
      refine c_Pa_fitsTail (i := i - e) (by omega) hc (pk_sub (by omega)) rfl ?_
      refine j_if_ne (tgt := 55) d_Pa_firstFault_50 rfl (fun bq4 => ?_) (fun bq4 => ?_)
      · refine j_iload_n d_Pa_firstFault_55 rfl rfl ?_
        refine j_iconst (v := (-1)) d_Pa_firstFault_56 rfl ?_
        refine j_icmp_ne (tgt := 68) d_Pa_firstFault_57 rfl (fun bq5 => ?_) (fun bq5 => False.elim (nI_m1 (by omega) bq5))
        refine j_iinc (ls' := [(2, _), (3, _), (0, _), (1, _)]) d_Pa_firstFault_68 rfl (by decide) rfl ?_
        refine j_goto (tgt := 4) d_Pa_firstFault_71 rfl ?_
        refine j_pick [2, 3, 0] (ls' := [(0, _), (1, _), (2, _)]) rfl ?_
        have g1 : a_ta (i - e) (P.2 i) = true := Decidable.byContradiction (fun e8 => bq4 (t10.mpr e8))
        rw [a_fl, a_g, if_neg he0, if_pos g1, if_neg (fun q9 => he0 q9.1)] at hF
        exact ih (i + 1) _ _ e (by omega) (nI_inc i) (by rw [a_ei, if_neg he0]) (Or.inr ⟨by omega, by omega⟩) hF
      · refine j_iload_n d_Pa_firstFault_53 rfl rfl ?_
        refine j_iret d_Pa_firstFault_54 rfl ?_
        exact q_i1 hF (by rw [a_fl, a_g, if_neg he0, if_neg (t10.mp bq4)])
set_option maxRecDepth 100000 in
set_option maxHeartbeats 4000000 in
theorem c_Pa_firstFault {G : r_X} {d : Nat} {h : r_HI} {p q : Nat} {z : r_HL} {F : Int32 → r_HI → r_HR → r_HL → Prop} {P : a_P} (hP : p_P h P) (hp : a_pok P) (hF : F (nI (a_fl P.2 P.1 0 0).1) h (r_gp p q) z) : r_Ci G m_Pa_firstFault (d + 2) 61 [.ref (G.2.1 + 1)] 61 h (r_gp p q) z F := by
  refine r_C_of (by decide +kernel) (Nat.le_of_ble_eq_true rfl) ?_
  refine j_ls (ls' := [(0, _)]) rfl ?_
  refine j_iconst (v := (-1)) d_Pa_firstFault_0 rfl ?_
  refine j_istore_n (ls' := [(1, _), (0, _)]) d_Pa_firstFault_1 rfl (by decide) rfl ?_
  refine j_iconst (v := 0) d_Pa_firstFault_2 rfl ?_
  refine j_istore_n (ls' := [(2, _), (1, _), (0, _)]) d_Pa_firstFault_3 rfl (by decide) rfl ?_
  refine j_pick [2, 1, 0] (ls' := [(0, _), (1, _), (2, _)]) rfl ?_
  exact l_Pa_firstFault hP hp P.1 0 _ _ 0 (by omega) rfl rfl (Or.inl rfl) hF
set_option maxRecDepth 100000 in
set_option maxHeartbeats 4000000 in
theorem l_Pa_ringsEnd {G : r_X} {d : Nat} {h : r_HI} {p q : Nat} {z : r_HL} {F : Int32 → r_HI → r_HR → r_HL → Prop} {P : a_P} (hP : p_P h P) (hp : a_pok P)  : ∀ (r i : Nat) (v : Int32), r + i = P.1 → v = nI i → F (nI (a_re P.2 r i)) h (r_gp p q) z → r_TM G m_Pa_ringsEnd (d + 1) 61 61 (fun v h' g' z' => ∃ r, v = some (.int r) ∧ F r h' g' z') 2 [(0, .ref (G.2.1 + 1)), (1, .int v)] [] 61 h (r_gp p q) z := by
  have h28 := hp.1
  intro r
  induction r with
  | zero =>
    intro i v hr hv hF
    subst hv
    refine j_iload_n d_Pa_ringsEnd_2 rfl rfl ?_
    refine j_aload_n d_Pa_ringsEnd_3 rfl rfl ?_
    refine j_geti d_Pa_ringsEnd_4 f_Pa_15 rfl rfl (by decide) ?_
    refine j_icmp_ge (tgt := 37) d_Pa_ringsEnd_7 rfl (fun bq1 => ?_) (fun bq1 => False.elim (bq1 (by rw [hP.1]; exact nI_le (by omega) (by omega))))
    refine j_bipush (v := 28) d_Pa_ringsEnd_37 (by decide) ?_
    refine j_iret d_Pa_ringsEnd_39 rfl ?_
    exact q_i1 hF rfl
  | succ r ih =>
    intro i v hr hv hF
    subst hv
    have hPi : h 2 i = nI (P.2 i) := hP.2 i (by omega)
    have hc := hp.2 i (by omega)
    refine j_iload_n d_Pa_ringsEnd_2 rfl rfl ?_
    refine j_aload_n d_Pa_ringsEnd_3 rfl rfl ?_
    refine j_geti d_Pa_ringsEnd_4 f_Pa_15 rfl rfl (by decide) ?_
    refine j_icmp_ge (tgt := 37) d_Pa_ringsEnd_7 rfl (fun bq1 => False.elim (nI_ge (by omega) (by omega) (hP.1 ▸ bq1))) (fun bq1 => ?_)
    refine j_iload_n d_Pa_ringsEnd_10 rfl rfl ?_
    refine j_bipush (v := 28) d_Pa_ringsEnd_11 (by decide) ?_
    refine j_icmp_ge (tgt := 37) d_Pa_ringsEnd_13 rfl (fun bq2 => False.elim (nI_ge (b := 28) (by omega) (by omega) bq2)) (fun bq2 => ?_)
    refine j_aload_n d_Pa_ringsEnd_16 rfl rfl ?_
    refine j_getr d_Pa_ringsEnd_17 f_Pa_9 rfl rfl (by decide) rfl ?_
    refine j_iload_n d_Pa_ringsEnd_20 rfl rfl ?_
    refine q_i s_Pa_ringsEnd_21 rfl (Nat.le_of_ble_eq_true rfl) (Nat.le_of_ble_eq_true rfl) ?_
    refine c_Ra_av (j := i) rfl (by decide) rfl (by omega) hPi ?_
    refine j_bipush (v := 59) d_Pa_ringsEnd_24 (by decide) ?_
    refine j_icmp_ne (tgt := 31) d_Pa_ringsEnd_26 rfl (fun bq3 => ?_) (fun bq3 => ?_)
    · refine j_iinc (ls' := [(1, _), (0, _)]) d_Pa_ringsEnd_31 rfl (by decide) rfl ?_
      refine j_goto (tgt := 2) d_Pa_ringsEnd_34 rfl ?_
      refine j_pick [1, 0] (ls' := [(0, _), (1, _)]) rfl ?_
      rw [a_re, if_neg (fun e8 => bq3 (by rw [e8]; rfl))] at hF
      exact ih (i + 1) _ (by omega) (nI_inc i) hF
    · refine j_iload_n d_Pa_ringsEnd_29 rfl rfl ?_
      refine j_iret d_Pa_ringsEnd_30 rfl ?_
      exact q_i1 hF (by rw [a_re, if_pos ((nI_eq (b := 59) (by omega) (by omega)).mp bq3)])
set_option maxRecDepth 100000 in
set_option maxHeartbeats 4000000 in
theorem c_Pa_ringsEnd {G : r_X} {d : Nat} {h : r_HI} {p q : Nat} {z : r_HL} {F : Int32 → r_HI → r_HR → r_HL → Prop} {P : a_P} (hP : p_P h P) (hp : a_pok P) (hF : F (nI (a_re P.2 P.1 0)) h (r_gp p q) z) : r_Ci G m_Pa_ringsEnd (d + 1) 61 [.ref (G.2.1 + 1)] 61 h (r_gp p q) z F := by
  refine r_C_of (by decide +kernel) (Nat.le_of_ble_eq_true rfl) ?_
  refine j_ls (ls' := [(0, _)]) rfl ?_
  refine j_iconst (v := 0) d_Pa_ringsEnd_0 rfl ?_
  refine j_istore_n (ls' := [(1, _), (0, _)]) d_Pa_ringsEnd_1 rfl (by decide) rfl ?_
  refine j_pick [1, 0] (ls' := [(0, _), (1, _)]) rfl ?_
  exact l_Pa_ringsEnd hP hp P.1 0 _ (by omega) rfl hF
theorem a_re_le (lt : Nat → Nat) : ∀ r i, i + r ≤ 28 → a_re lt r i ≤ 28
  | 0, _, _ => Nat.le_refl _
  | r + 1, i, h => by
    unfold a_re
    split
    · omega
    · exact a_re_le lt r (i + 1) (by omega)
theorem a_fl_le (lt : Nat → Nat) : ∀ r i e, (a_fl lt r i e).1 ≤ i + r
  | 0, i, e => Nat.le_refl _
  | r + 1, i, e => by
    unfold a_fl
    split
    · have := a_fl_le lt r (i + 1) (if e = 0 ∧ lt i = 59 then i else e)
      omega
    · show i ≤ i + (r + 1)
      omega
/-- is the page a plate -/
def a_ip (P : a_P) : Prop := (a_fl P.2 P.1 0 0).1 = P.1 ∧ P.1 = a_re P.2 P.1 0 + 5
set_option maxRecDepth 100000 in
set_option maxHeartbeats 4000000 in
theorem c_Pa_isPlate {G : r_X} {d : Nat} {h : r_HI} {p q : Nat} {z : r_HL} {F : Int32 → r_HI → r_HR → r_HL → Prop} {P : a_P} (hP : p_P h P) (hp : a_pok P) {b : Bool} (hb : b = true ↔ a_ip P) (hF : F (if b then 1 else 0) h (r_gp p q) z) : r_Ci G m_Pa_isPlate (d + 3) 61 [.ref (G.2.1 + 1)] 61 h (r_gp p q) z F := by
  have h28 := hp.1
  refine r_C_of (by decide +kernel) (Nat.le_of_ble_eq_true rfl) ?_
  refine j_ls (ls' := [(0, _)]) rfl ?_
  refine j_aload_n d_Pa_isPlate_0 rfl rfl ?_
  refine q_i (s_Pa_isPlate_1 rfl (by decide)) rfl (Nat.le_of_ble_eq_true rfl) (Nat.le_of_ble_eq_true rfl) ?_
  refine c_Pa_firstFault hP hp ?_
  refine j_aload_n d_Pa_isPlate_4 rfl rfl ?_
  refine j_geti d_Pa_isPlate_5 f_Pa_15 rfl rfl (by decide) ?_
  refine j_icmp_ne (tgt := 28) d_Pa_isPlate_8 rfl (fun bq1 => ?_) (fun bq1 => ?_)
  · refine j_iconst (v := 0) d_Pa_isPlate_28 rfl ?_
    refine j_zret d_Pa_isPlate_29 rfl (by decide) ?_
    have g1 := a_fl_le P.2 P.1 0 0
    have g2 := a_re_le P.2 P.1 0 (by omega)
    rw [hP.1] at bq1
    first
      | exact q_i1 hF (by rw [if_neg (fun e8 => bq1 (by rw [(hb.mp e8).1]))])
      | (rw [hP.1, show (5 : Int32) = nI 5 from rfl, nI_add] at bq2
         first
           | exact q_i1 hF (by rw [if_neg (fun e8 => bq2 (congrArg nI (hb.mp e8).2))])
           | exact q_i1 hF (by rw [if_pos (hb.mpr ⟨(nI_eq (by omega) (by omega)).mp bq1, (nI_eq (by omega) (by omega)).mp bq2⟩)]))
  · refine j_aload_n d_Pa_isPlate_11 rfl rfl ?_
    refine j_geti d_Pa_isPlate_12 f_Pa_15 rfl rfl (by decide) ?_
    refine j_aload_n d_Pa_isPlate_15 rfl rfl ?_
    refine q_i (s_Pa_isPlate_16 rfl (by decide)) rfl (Nat.le_of_ble_eq_true rfl) (Nat.le_of_ble_eq_true rfl) ?_
    refine c_Pa_ringsEnd hP hp ?_
    refine j_iconst (v := 5) d_Pa_isPlate_19 rfl ?_
    refine j_iadd d_Pa_isPlate_20 ?_
    refine j_icmp_ne (tgt := 28) d_Pa_isPlate_21 rfl (fun bq2 => ?_) (fun bq2 => ?_)
    · refine j_iconst (v := 0) d_Pa_isPlate_28 rfl ?_
      refine j_zret d_Pa_isPlate_29 rfl (by decide) ?_
      have g1 := a_fl_le P.2 P.1 0 0
      have g2 := a_re_le P.2 P.1 0 (by omega)
      rw [hP.1] at bq1
      first
        | exact q_i1 hF (by rw [if_neg (fun e8 => bq1 (by rw [(hb.mp e8).1]))])
        | (rw [hP.1, show (5 : Int32) = nI 5 from rfl, nI_add] at bq2
           first
             | exact q_i1 hF (by rw [if_neg (fun e8 => bq2 (congrArg nI (hb.mp e8).2))])
             | exact q_i1 hF (by rw [if_pos (hb.mpr ⟨(nI_eq (by omega) (by omega)).mp bq1, (nI_eq (by omega) (by omega)).mp bq2⟩)]))
    · refine j_iconst (v := 1) d_Pa_isPlate_24 rfl ?_
      refine j_goto (tgt := 29) d_Pa_isPlate_25 rfl ?_
      refine j_zret d_Pa_isPlate_29 rfl (by decide) ?_
      have g1 := a_fl_le P.2 P.1 0 0
      have g2 := a_re_le P.2 P.1 0 (by omega)
      rw [hP.1] at bq1
      first
        | exact q_i1 hF (by rw [if_neg (fun e8 => bq1 (by rw [(hb.mp e8).1]))])
        | (rw [hP.1, show (5 : Int32) = nI 5 from rfl, nI_add] at bq2
           first
             | exact q_i1 hF (by rw [if_neg (fun e8 => bq2 (congrArg nI (hb.mp e8).2))])
             | exact q_i1 hF (by rw [if_pos (hb.mpr ⟨(nI_eq (by omega) (by omega)).mp bq1, (nI_eq (by omega) (by omega)).mp bq2⟩)]))
set_option maxRecDepth 100000 in
set_option maxHeartbeats 4000000 in
theorem c_Pa_policyKind {G : r_X} {d : Nat} {h : r_HI} {p q : Nat} {z : r_HL} {F : Int32 → r_HI → r_HR → r_HL → Prop} {P : a_P} (hP : p_P h P) (hp : a_pok P) (h1 : 1 ≤ P.1) (hF : F (if a_ko (P.2 (P.1 - 1)) = 5 then -1 else nI (a_ko (P.2 (P.1 - 1)))) h (r_gp p q) z) : r_Ci G m_Pa_policyKind (d + 1) 61 [.ref (G.2.1 + 1)] 61 h (r_gp p q) z F := by
  have h28 := hp.1
  have hPi : h 2 (P.1 - 1) = nI (P.2 (P.1 - 1)) := hP.2 _ (by omega)
  have hc := hp.2 (P.1 - 1) (by omega)
  refine r_C_of (by decide +kernel) (Nat.le_of_ble_eq_true rfl) ?_
  refine j_ls (ls' := [(0, _)]) rfl ?_
  refine j_aload_n d_Pa_policyKind_0 rfl rfl ?_
  refine j_getr d_Pa_policyKind_1 f_Pa_9 rfl rfl (by decide) rfl ?_
  refine j_aload_n d_Pa_policyKind_4 rfl rfl ?_
  refine j_geti d_Pa_policyKind_5 f_Pa_15 rfl rfl (by decide) ?_
  refine j_iconst (v := 1) d_Pa_policyKind_8 rfl ?_
  refine j_isub d_Pa_policyKind_9 ?_
  refine q_i s_Pa_policyKind_10 rfl (Nat.le_of_ble_eq_true rfl) (Nat.le_of_ble_eq_true rfl) ?_
  refine c_Ra_av (j := P.1 - 1) rfl (by decide) (by rw [hP.1, show (1 : Int32) = nI 1 from rfl, pk_sub h1]) (by omega) hPi ?_
  refine q_i s_Pa_policyKind_13 rfl (Nat.le_of_ble_eq_true rfl) (Nat.le_of_ble_eq_true rfl) ?_
  refine c_Pa_kindOf hc rfl ?_
  refine j_iret d_Pa_policyKind_16 rfl ?_
  exact q_i1 hF rfl
set_option maxRecDepth 100000 in
set_option maxHeartbeats 4000000 in
theorem c_Pa_append {G : r_X} {d : Nat} {h : r_HI} {p q : Nat} {z : r_HL} {F : Int32 → r_HI → r_HR → r_HL → Prop} {P : a_P} (hP : p_P h P) (hp : a_pok P) {c : Nat} {a1 : Int32} (h28 : P.1 < 28) (e1 : a1 = nI c) (hF : ∀ h', r_ex [1, 2] h h' → p_P h' (P.1 + 1, va_up P.2 P.1 c) → F (nI (P.1 + 1)) h' (r_gp p q) z) : r_Ci G m_Pa_append (d + 1) 61 [.ref (G.2.1 + 1), .int a1] 61 h (r_gp p q) z F := by
  subst e1
  refine r_C_of (by decide +kernel) (Nat.le_of_ble_eq_true rfl) ?_
  refine j_ls (ls' := [(0, _), (1, _)]) rfl ?_
  refine j_aload_n d_Pa_append_0 rfl rfl ?_
  refine j_geti d_Pa_append_1 f_Pa_15 rfl rfl (by decide) ?_
  refine j_bipush (v := 28) d_Pa_append_4 (by decide) ?_
  refine j_icmp_ge (tgt := 31) d_Pa_append_6 rfl (fun bq1 => False.elim (nI_ge (b := 28) (by omega) (by omega) (hP.1 ▸ bq1))) (fun bq1 => ?_)
  refine j_aload_n d_Pa_append_9 rfl rfl ?_
  refine j_getr d_Pa_append_10 f_Pa_9 rfl rfl (by decide) rfl ?_
  refine j_aload_n d_Pa_append_13 rfl rfl ?_
  refine j_geti d_Pa_append_14 f_Pa_15 rfl rfl (by decide) ?_
  refine j_iload_n d_Pa_append_17 rfl rfl ?_
  refine q_v s_Pa_append_18 rfl (Nat.le_of_ble_eq_true rfl) (Nat.le_of_ble_eq_true rfl) ?_
  refine c_Ra_put (j := P.1) rfl (by decide) hP.1 (by omega) ?_
  refine j_aload_n d_Pa_append_21 rfl rfl ?_
  refine j_dup d_Pa_append_22 rfl ?_
  refine j_geti d_Pa_append_23 f_Pa_15 rfl rfl (by decide) ?_
  refine j_iconst (v := 1) d_Pa_append_26 rfl ?_
  refine j_iadd d_Pa_append_27 ?_
  refine j_puti d_Pa_append_28 f_Pa_15 (by decide) rfl rfl (by decide) ?_
  refine j_aload_n d_Pa_append_31 rfl rfl ?_
  refine j_geti d_Pa_append_32 f_Pa_15 rfl rfl (by decide) ?_
  refine j_iret d_Pa_append_35 rfl ?_
  refine q_h1 (h' := r_up (r_up h 2 P.1 (nI c)) 1 1 (nI (P.1 + 1))) (hF _ ((r_ex.rf.up (by decide)).up (by decide)) ⟨rfl, fun i hi => ?_⟩) ?_ ?_
  · by_cases e9 : i = P.1
    · subst e9
      simp [r_up, upd, va_up]
    · have hi : i < P.1 + 1 := hi
      simp [r_up, upd, va_up, e9]
      exact hP.2 i (by omega)
  · show h 1 1 + 1 = _
    rw [hP.1, nI_1]
  · show r_up (r_up h 2 P.1 (nI c)) 1 1 (h 1 1 + 1) = _
    rw [hP.1, nI_1]
set_option maxRecDepth 100000 in
set_option maxHeartbeats 4000000 in
theorem c_Pa_clear {G : r_X} {d : Nat} {h : r_HI} {p q : Nat} {z : r_HL} {F : Int32 → r_HI → r_HR → r_HL → Prop} {P : a_P} (hP : p_P h P) (hp : a_pok P) (hF : ∀ h', r_ex [1] h h' → p_P h' (0, P.2) → F (nI P.1) h' (r_gp p q) z) : r_Ci G m_Pa_clear (d) 61 [.ref (G.2.1 + 1)] 61 h (r_gp p q) z F := by
  refine r_C_of (by decide +kernel) (Nat.le_of_ble_eq_true rfl) ?_
  refine j_ls (ls' := [(0, _)]) rfl ?_
  refine j_aload_n d_Pa_clear_0 rfl rfl ?_
  refine j_geti d_Pa_clear_1 f_Pa_15 rfl rfl (by decide) ?_
  refine j_istore_n (ls' := [(1, _), (0, _)]) d_Pa_clear_4 rfl (by decide) rfl ?_
  refine j_aload_n d_Pa_clear_5 rfl rfl ?_
  refine j_iconst (v := 0) d_Pa_clear_6 rfl ?_
  refine j_puti d_Pa_clear_7 f_Pa_15 (by decide) rfl rfl (by decide) ?_
  refine j_iload_n d_Pa_clear_10 rfl rfl ?_
  refine j_iret d_Pa_clear_11 rfl ?_
  exact q_i1 (hF _ (r_ex.rf.up (by decide)) ⟨rfl, fun i hi => absurd hi (Nat.not_lt_zero i)⟩) hP.1
