/-! ===== the whole state: what an IMAGE keeps (plate, arm, weights, seen, kind), the page, how often .. ===== -/
abbrev a_V : Type := a_D × a_K × (Nat → Nat) × a_S × Nat
/-- the page, the state, plates read, least() done, is an image kept, the image -/
abbrev a_Z : Type := a_P × a_V × Nat × Nat × Nat × a_V
def p_V (h : r_HI) (kD kK kW kS : Nat) (V : a_V) : Prop := p_D h kD V.1 ∧ p_K h kK V.2.1 ∧ p_W h kW V.2.2.1 ∧ p_S h kS V.2.2.2.1
def a_vok (V : a_V) : Prop := a_dok V.1 ∧ a_kok V.1 V.2.1 ∧ V.2.1.1 ≤ 100000 ∧ a_wok V.2.2.1 ∧ a_sok V.2.2.2.1 ∧ V.2.2.2.2 < 5
def a_zok (Z : a_Z) : Prop := a_pok Z.1 ∧ a_vok Z.2.1 ∧ Z.2.2.1 ≤ 536870912 ∧ Z.2.2.2.1 ≤ 16 ∧ Z.2.2.2.2.1 ≤ 1 ∧ (Z.2.1.1.1 = 0 ∨ 4 ≤ Z.2.1.1.1) ∧ (Z.2.2.2.2.1 = 1 → 0 < Z.2.1.1.1 ∧ a_vok Z.2.2.2.2.2 ∧ Z.2.2.2.2.2.1.1 = Z.2.1.1.1 ∧ Z.2.2.2.2.2.1.2.2.2.1 = Z.2.1.1.2.2.2.1)
/-- the class's cells hold a state; p, q: its policies -/
def p_C (h : r_HI) (p q : Nat) (Z : a_Z) : Prop := p_P h Z.1 ∧ p_V h 3 7 11 15 Z.2.1 ∧ h 0 15 = nI Z.2.2.1 ∧ h 0 16 = nI Z.2.2.2.1 ∧ h 0 12 = nI Z.2.2.2.2.1 ∧ r_pol p ∧ r_kd p = Z.2.1.2.2.2.2 ∧ r_pol q ∧ (Z.2.2.2.2.1 = 1 → p_V h 25 29 33 37 Z.2.2.2.2.2 ∧ r_kd q = Z.2.2.2.2.2.2.2.2.2)
/-- nothing of the model's cells has changed -/
def r_mo (h h' : r_HI) : Prop := ∀ a, 47 ≤ a → h' a = h a
theorem r_ex.mo {A : List Nat} {h h' : r_HI} (e : r_ex A h h') (hA : ∀ a ∈ A, a < 47) : r_mo h h' := fun a ha => e a (fun q => by have := hA a q; omega)
/-- a number as an index below n -/
def a_ix (x : Int32) (n : Nat) : Option Nat := if 0 ≤ x.toInt ∧ x.toInt < n then some x.toInt.toNat else none
theorem r_ixc (x : Int32) (n : Nat) : (a_ix x n = none ∧ (x.toInt < 0 ∨ (n : Int) ≤ x.toInt)) ∨ ∃ j, j < n ∧ x = nI j ∧ a_ix x n = some j := by
  by_cases h : 0 ≤ x.toInt ∧ x.toInt < n
  · refine Or.inr ⟨x.toInt.toNat, by omega, ?_, if_pos h⟩
    rw [iI_n, Int.toNat_of_nonneg h.1]
    exact iI_of x
  · exact Or.inl ⟨if_neg h, by omega⟩
theorem a_ix_nI {j n : Nat} (h : j < n) (hn : n < 2 ^ 31) : a_ix (nI j) n = some j := by
  unfold a_ix
  rw [nI_toInt (by omega), if_pos (by omega)]
  simp
theorem p_V.ex {A : List Nat} {h h' : r_HI} {V : a_V} {a b c d : Nat} (e : r_ex A h h') (hV : p_V h a b c d V) (hA : ∀ x ∈ A, x ≠ a ∧ x ≠ a + 1 ∧ x ≠ a + 2 ∧ x ≠ a + 3 ∧ x ≠ b ∧ x ≠ b + 1 ∧ x ≠ b + 2 ∧ x ≠ b + 3 ∧ x ≠ c + 1 ∧ x ≠ d ∧ x ≠ d + 1 ∧ x ≠ d + 2) : p_V h' a b c d V := by
  obtain ⟨h1, h2, h3, h4⟩ := hV
  exact ⟨h1.ex e (fun q => (hA _ q).1 rfl) (fun q => (hA _ q).2.1 rfl) (fun q => (hA _ q).2.2.1 rfl) (fun q => (hA _ q).2.2.2.1 rfl), h2.ex e (fun q => (hA _ q).2.2.2.2.1 rfl) (fun q => (hA _ q).2.2.2.2.2.1 rfl) (fun q => (hA _ q).2.2.2.2.2.2.1 rfl) (fun q => (hA _ q).2.2.2.2.2.2.2.1 rfl), h3.ex e (fun q => (hA _ q).2.2.2.2.2.2.2.2.1 rfl), h4.ex e (fun q => (hA _ q).2.2.2.2.2.2.2.2.2.1 rfl) (fun q => (hA _ q).2.2.2.2.2.2.2.2.2.2.1 rfl) (fun q => (hA _ q).2.2.2.2.2.2.2.2.2.2.2 rfl)⟩
/-- rows of scratch alone have changed: the probe, the orders, the things' search -/
def r_scr : List Nat := [11, 13, 14, 40, 41, 42, 43, 44, 45, 46]
theorem p_C.scr {h h' : r_HI} {p q : Nat} {Z : a_Z} (hC : p_C h p q Z) (e : r_ex r_scr h h') : p_C h' p q Z := by
  obtain ⟨c1, c2, c3, c4, c5, c6, c7, c8, c9⟩ := hC
  have e0 : h' 0 = h 0 := e 0 (by decide)
  exact ⟨c1.ex e (by decide) (by decide), c2.ex e (by decide), by rw [e0]; exact c3, by rw [e0]; exact c4, by rw [e0]; exact c5, c6, c7, c8, fun f => ⟨(c9 f).1.ex e (by decide), (c9 f).2⟩⟩
theorem r_ex.mono {A B : List Nat} {h h' : r_HI} (e : r_ex A h h') (hs : ∀ a ∈ A, a ∈ B) : r_ex B h h' := fun a ha => e a (fun q => ha (hs a q))
theorem r_scr_mo {h h' : r_HI} (e : r_ex r_scr h h') : r_mo h h' := e.mo (by decide)
theorem nI_iff {j : Nat} (h : j < 2 ^ 31) : (nI j).toInt = j := nI_toInt h
set_option maxRecDepth 100000 in
set_option maxHeartbeats 4000000 in
theorem c_hp {G : r_X} {d : Nat} {h : r_HI} {p q : Nat} {z : r_HL} {F : Int32 → r_HI → r_HR → r_HL → Prop} {R : Nat} (hR : R < 1000) (h33 : h 3 3 = nI R) (hF : F (if R = 0 then 0 else 1) h (r_gp p q) z) : r_Ci G m_Ra_hasPlate (d) 61 [.ref (G.2.1 + 0)] 61 h (r_gp p q) z F := by
  refine c_Ra_hasPlate ?_
  by_cases e : R = 0
  · rw [if_pos e] at hF
    rw [if_neg (by rw [h33, e]; decide)]
    exact hF
  · rw [if_neg e] at hF
    rw [if_pos (by rw [h33]; exact nI_lt (a := 0) (by omega) (by omega))]
    exact hF
set_option maxRecDepth 100000 in
set_option maxHeartbeats 4000000 in
theorem c_Di_hasY {G : r_X} {d : Nat} {h : r_HI} {p q : Nat} {z : r_HL} {F : Int32 → r_HI → r_HR → r_HL → Prop} {R j : Nat} {a1 : Int32} (hR : R < 1000) (h33 : h 3 3 = nI R) (e1 : a1 = nI j) (hj : j < R) (hF : F 1 h (r_gp p q) z) : r_Ci G m_Di_has (d) 61 [.ref (G.2.1 + 3), .int a1] 61 h (r_gp p q) z F := by
  refine c_Di_has ?_
  rw [if_pos (by rw [h33, e1]; exact ⟨nI_pos' (by omega), nI_lt hj (by omega)⟩)]
  exact hF
set_option maxRecDepth 100000 in
set_option maxHeartbeats 4000000 in
theorem c_Di_hasN {G : r_X} {d : Nat} {h : r_HI} {p q : Nat} {z : r_HL} {F : Int32 → r_HI → r_HR → r_HL → Prop} {R : Nat} {a1 : Int32} (hR : R < 1000) (h33 : h 3 3 = nI R) (hx : a1.toInt < 0 ∨ (R : Int) ≤ a1.toInt) (hF : F 0 h (r_gp p q) z) : r_Ci G m_Di_has (d) 61 [.ref (G.2.1 + 3), .int a1] 61 h (r_gp p q) z F := by
  refine c_Di_has ?_
  rw [if_neg (by rw [h33, Int32.le_iff_toInt_le, Int32.lt_iff_toInt_lt, nI_toInt (by omega), show (0 : Int32).toInt = 0 from rfl]; omega)]
  exact hF
set_option maxRecDepth 100000 in
set_option maxHeartbeats 4000000 in
theorem c_Dk_hasY {G : r_X} {d : Nat} {h : r_HI} {p q : Nat} {z : r_HL} {F : Int32 → r_HI → r_HR → r_HL → Prop} {R j : Nat} {a1 : Int32} (hR : R < 1000) (h33 : h 7 4 = nI R) (e1 : a1 = nI j) (hj : j < R) (hF : F 1 h (r_gp p q) z) : r_Ci G m_Dk_has (d) 61 [.ref (G.2.1 + 7), .int a1] 61 h (r_gp p q) z F := by
  refine c_Dk_has_7 ?_
  rw [if_pos (by rw [h33, e1]; exact ⟨nI_pos' (by omega), nI_lt hj (by omega)⟩)]
  exact hF
set_option maxRecDepth 100000 in
set_option maxHeartbeats 4000000 in
theorem c_Dk_hasN {G : r_X} {d : Nat} {h : r_HI} {p q : Nat} {z : r_HL} {F : Int32 → r_HI → r_HR → r_HL → Prop} {R : Nat} {a1 : Int32} (hR : R < 1000) (h33 : h 7 4 = nI R) (hx : a1.toInt < 0 ∨ (R : Int) ≤ a1.toInt) (hF : F 0 h (r_gp p q) z) : r_Ci G m_Dk_has (d) 61 [.ref (G.2.1 + 7), .int a1] 61 h (r_gp p q) z F := by
  refine c_Dk_has_7 ?_
  rw [if_neg (by rw [h33, Int32.le_iff_toInt_le, Int32.lt_iff_toInt_lt, nI_toInt (by omega), show (0 : Int32).toInt = 0 from rfl]; omega)]
  exact hF
set_option maxRecDepth 100000 in
set_option maxHeartbeats 4000000 in
theorem c_Ra_kindY {G : r_X} {d : Nat} {h : r_HI} {p q : Nat} {z : r_HL} {F : Int32 → r_HI → r_HR → r_HL → Prop} {k : Nat} {a1 : Int32} (hk : k < 5) (e1 : a1 = nI k) (hF : F 1 h (r_gp p q) z) : r_Ci G m_Ra_isKind (d) 61 [.int a1] 61 h (r_gp p q) z F := by
  refine c_Ra_isKind ?_
  rw [if_pos (by rw [e1]; exact ⟨nI_pos' (by omega), nI_lt (b := 5) hk (by omega)⟩)]
  exact hF
set_option maxRecDepth 100000 in
set_option maxHeartbeats 4000000 in
theorem c_Ra_kindN {G : r_X} {d : Nat} {h : r_HI} {p q : Nat} {z : r_HL} {F : Int32 → r_HI → r_HR → r_HL → Prop} {a1 : Int32} (hx : a1.toInt < 0 ∨ (5 : Int) ≤ a1.toInt) (hF : F 0 h (r_gp p q) z) : r_Ci G m_Ra_isKind (d) 61 [.int a1] 61 h (r_gp p q) z F := by
  refine c_Ra_isKind ?_
  rw [if_neg (by rw [Int32.le_iff_toInt_le, Int32.lt_iff_toInt_lt, show (0 : Int32).toInt = 0 from rfl, show (5 : Int32).toInt = 5 from rfl]; omega)]
  exact hF
set_option maxRecDepth 100000 in
set_option maxHeartbeats 4000000 in
theorem c_Fi_kind {G : r_X} {d : Nat} {h : r_HI} {p q : Nat} {z : r_HL} {F : Int32 → r_HI → r_HR → r_HL → Prop} {a : Nat} (hF : F (nI 0) h (r_gp p q) z) : r_Ci G m_Fi_kind (d) 61 [.ref a] 61 h (r_gp p q) z F := by
  refine r_C_of (by decide +kernel) (Nat.le_of_ble_eq_true rfl) ?_
  refine j_ls (ls' := [(0, _)]) rfl ?_
  refine j_iconst (v := 0) d_Fi_kind_0 rfl ?_
  refine j_iret d_Fi_kind_1 rfl ?_
  exact q_i1 hF rfl
set_option maxRecDepth 100000 in
set_option maxHeartbeats 4000000 in
theorem c_Ne_kind {G : r_X} {d : Nat} {h : r_HI} {p q : Nat} {z : r_HL} {F : Int32 → r_HI → r_HR → r_HL → Prop} {a : Nat} (hF : F (nI 1) h (r_gp p q) z) : r_Ci G m_Ne_kind (d) 61 [.ref a] 61 h (r_gp p q) z F := by
  refine r_C_of (by decide +kernel) (Nat.le_of_ble_eq_true rfl) ?_
  refine j_ls (ls' := [(0, _)]) rfl ?_
  refine j_iconst (v := 1) d_Ne_kind_0 rfl ?_
  refine j_iret d_Ne_kind_1 rfl ?_
  exact q_i1 hF rfl
set_option maxRecDepth 100000 in
set_option maxHeartbeats 4000000 in
theorem c_Sw_kind {G : r_X} {d : Nat} {h : r_HI} {p q : Nat} {z : r_HL} {F : Int32 → r_HI → r_HR → r_HL → Prop} {a : Nat} (hF : F (nI 2) h (r_gp p q) z) : r_Ci G m_Sw_kind (d) 61 [.ref a] 61 h (r_gp p q) z F := by
  refine r_C_of (by decide +kernel) (Nat.le_of_ble_eq_true rfl) ?_
  refine j_ls (ls' := [(0, _)]) rfl ?_
  refine j_iconst (v := 2) d_Sw_kind_0 rfl ?_
  refine j_iret d_Sw_kind_1 rfl ?_
  exact q_i1 hF rfl
set_option maxRecDepth 100000 in
set_option maxHeartbeats 4000000 in
theorem c_Ro_kind {G : r_X} {d : Nat} {h : r_HI} {p q : Nat} {z : r_HL} {F : Int32 → r_HI → r_HR → r_HL → Prop} {a : Nat} (hF : F (nI 3) h (r_gp p q) z) : r_Ci G m_Ro_kind (d) 61 [.ref a] 61 h (r_gp p q) z F := by
  refine r_C_of (by decide +kernel) (Nat.le_of_ble_eq_true rfl) ?_
  refine j_ls (ls' := [(0, _)]) rfl ?_
  refine j_iconst (v := 3) d_Ro_kind_0 rfl ?_
  refine j_iret d_Ro_kind_1 rfl ?_
  exact q_i1 hF rfl
set_option maxRecDepth 100000 in
set_option maxHeartbeats 4000000 in
theorem c_So_kind {G : r_X} {d : Nat} {h : r_HI} {p q : Nat} {z : r_HL} {F : Int32 → r_HI → r_HR → r_HL → Prop} {a : Nat} (hF : F (nI 4) h (r_gp p q) z) : r_Ci G m_So_kind (d) 61 [.ref a] 61 h (r_gp p q) z F := by
  refine r_C_of (by decide +kernel) (Nat.le_of_ble_eq_true rfl) ?_
  refine j_ls (ls' := [(0, _)]) rfl ?_
  refine j_iconst (v := 4) d_So_kind_0 rfl ?_
  refine j_iret d_So_kind_1 rfl ?_
  exact q_i1 hF rfl
set_option maxRecDepth 100000 in
set_option maxHeartbeats 4000000 in
theorem t_kind_Ra_as {G : r_X} {d : Nat} {h : r_HI} {p q : Nat} {z : r_HL} {X : State → Prop} {Z : List Frame → Array Value → State → State → Prop} {ls : List (Nat × Value)} {st : List Value} {P : Nat} (hP : r_pol P) (hcat : (st.map fun v => v.category).sum ≤ 8) (kk : r_T G m_Ra_as (r_rm (d + 1) 61 61) 61 X Z (35 + 3) ls (.int (nI (r_kd P)) :: st) 61 h (r_gp p q) z) : r_T G m_Ra_as (r_rm (d + 1) 61 61) 61 X Z 35 ls (.ref (G.2.1 + P) :: st) 61 h (r_gp p q) z := by
  rcases hP.cases with rfl | rfl | rfl | rfl | rfl | rfl
  · refine q_i (s_Ra_as_35_Fi rfl (by decide)) rfl (Nat.le_of_ble_eq_true rfl) hcat ?_
    exact c_Fi_kind kk
  · refine q_i (s_Ra_as_35_Ne rfl (by decide)) rfl (Nat.le_of_ble_eq_true rfl) hcat ?_
    exact c_Ne_kind kk
  · refine q_i (s_Ra_as_35_Sw rfl (by decide)) rfl (Nat.le_of_ble_eq_true rfl) hcat ?_
    exact c_Sw_kind kk
  · refine q_i (s_Ra_as_35_Ro rfl (by decide)) rfl (Nat.le_of_ble_eq_true rfl) hcat ?_
    exact c_Ro_kind kk
  · refine q_i (s_Ra_as_35_So rfl (by decide)) rfl (Nat.le_of_ble_eq_true rfl) hcat ?_
    exact c_So_kind kk
  · refine q_i (s_Ra_as_35_Fi rfl (by decide)) rfl (Nat.le_of_ble_eq_true rfl) hcat ?_
    exact c_Fi_kind kk
set_option maxRecDepth 100000 in
set_option maxHeartbeats 4000000 in
theorem t_kind_Ra_choose {G : r_X} {d : Nat} {h : r_HI} {p q : Nat} {z : r_HL} {X : State → Prop} {Z : List Frame → Array Value → State → State → Prop} {ls : List (Nat × Value)} {st : List Value} {P : Nat} (hP : r_pol P) (hcat : (st.map fun v => v.category).sum ≤ 8) (kk : r_T G m_Ra_choose (r_rm (d + 1) 61 61) 61 X Z (24 + 3) ls (.int (nI (r_kd P)) :: st) 61 h (r_gp p q) z) : r_T G m_Ra_choose (r_rm (d + 1) 61 61) 61 X Z 24 ls (.ref (G.2.1 + P) :: st) 61 h (r_gp p q) z := by
  rcases hP.cases with rfl | rfl | rfl | rfl | rfl | rfl
  · refine q_i (s_Ra_choose_24_Fi rfl (by decide)) rfl (Nat.le_of_ble_eq_true rfl) hcat ?_
    exact c_Fi_kind kk
  · refine q_i (s_Ra_choose_24_Ne rfl (by decide)) rfl (Nat.le_of_ble_eq_true rfl) hcat ?_
    exact c_Ne_kind kk
  · refine q_i (s_Ra_choose_24_Sw rfl (by decide)) rfl (Nat.le_of_ble_eq_true rfl) hcat ?_
    exact c_Sw_kind kk
  · refine q_i (s_Ra_choose_24_Ro rfl (by decide)) rfl (Nat.le_of_ble_eq_true rfl) hcat ?_
    exact c_Ro_kind kk
  · refine q_i (s_Ra_choose_24_So rfl (by decide)) rfl (Nat.le_of_ble_eq_true rfl) hcat ?_
    exact c_So_kind kk
  · refine q_i (s_Ra_choose_24_Fi rfl (by decide)) rfl (Nat.le_of_ble_eq_true rfl) hcat ?_
    exact c_Fi_kind kk
set_option maxRecDepth 100000 in
set_option maxHeartbeats 4000000 in
theorem t_kind_Ra_mixChoices {G : r_X} {d : Nat} {h : r_HI} {p q : Nat} {z : r_HL} {X : State → Prop} {Z : List Frame → Array Value → State → State → Prop} {ls : List (Nat × Value)} {st : List Value} {P : Nat} (hP : r_pol P) (hcat : (st.map fun v => v.category).sum ≤ 8) (kk : r_T G m_Ra_mixChoices (r_rm (d + 1) 61 61) 61 X Z (5 + 3) ls (.int (nI (r_kd P)) :: st) 61 h (r_gp p q) z) : r_T G m_Ra_mixChoices (r_rm (d + 1) 61 61) 61 X Z 5 ls (.ref (G.2.1 + P) :: st) 61 h (r_gp p q) z := by
  rcases hP.cases with rfl | rfl | rfl | rfl | rfl | rfl
  · refine q_i (s_Ra_mixChoices_5_Fi rfl (by decide)) rfl (Nat.le_of_ble_eq_true rfl) hcat ?_
    exact c_Fi_kind kk
  · refine q_i (s_Ra_mixChoices_5_Ne rfl (by decide)) rfl (Nat.le_of_ble_eq_true rfl) hcat ?_
    exact c_Ne_kind kk
  · refine q_i (s_Ra_mixChoices_5_Sw rfl (by decide)) rfl (Nat.le_of_ble_eq_true rfl) hcat ?_
    exact c_Sw_kind kk
  · refine q_i (s_Ra_mixChoices_5_Ro rfl (by decide)) rfl (Nat.le_of_ble_eq_true rfl) hcat ?_
    exact c_Ro_kind kk
  · refine q_i (s_Ra_mixChoices_5_So rfl (by decide)) rfl (Nat.le_of_ble_eq_true rfl) hcat ?_
    exact c_So_kind kk
  · refine q_i (s_Ra_mixChoices_5_Fi rfl (by decide)) rfl (Nat.le_of_ble_eq_true rfl) hcat ?_
    exact c_Fi_kind kk
