/-- what is seen: how many, over how many rings, how long it took -/
abbrev a_S : Type := Nat × (Nat → Nat) × (Nat → Nat)
def a_sok (S : a_S) : Prop := S.1 ≤ 6 ∧ ∀ i, i < S.1 → S.2.1 i ≤ 9 ∧ S.2.2 i ≤ 99
def a_wok (wt : Nat → Nat) : Prop := ∀ j, j < 6 → wt j ≤ 9
def p_W (h : r_HI) (k : Nat) (wt : Nat → Nat) : Prop := ∀ j, j < 6 → h (k + 1) j = nI (wt j)
def p_S (h : r_HI) (k : Nat) (S : a_S) : Prop := h k 2 = nI S.1 ∧ ∀ i, i < S.1 → h (k + 1) i = nI (S.2.1 i) ∧ h (k + 2) i = nI (S.2.2 i)
theorem p_W.ex {A : List Nat} {h h' : r_HI} {k : Nat} {wt : Nat → Nat} (e : r_ex A h h') (hW : p_W h k wt) (h1 : k + 1 ∉ A) : p_W h' k wt := by
  unfold p_W
  rw [e _ h1]
  exact hW
theorem p_S.ex {A : List Nat} {h h' : r_HI} {k : Nat} {S : a_S} (e : r_ex A h h') (hS : p_S h k S) (h0 : k ∉ A) (h1 : k + 1 ∉ A) (h2 : k + 2 ∉ A) : p_S h' k S := by
  unfold p_S
  rw [e k h0, e _ h1, e _ h2]
  exact hS
def a_hm (wt : Nat → Nat) : Nat → Nat
  | 0 => 0
  | m + 1 => if 0 < wt m then m + 1 else a_hm wt m
theorem a_hm_le (wt : Nat → Nat) : ∀ m, a_hm wt m ≤ m
  | 0 => Nat.le_refl 0
  | m + 1 => by
    have := a_hm_le wt m
    unfold a_hm
    split <;> omega
def a_sh (wt ly : Nat → Nat) (x : Nat) : Nat → Nat
  | 0 => 0
  | m + 1 => a_sh wt ly x m + wt m * wt x * a_ds (ly m) (ly x)
/-- does a step fit what is seen, from the i-th on -/
def a_so (st step : Nat) (S : a_S) : Nat → Nat → Bool
  | 0, _ => true
  | m + 1, i => if 1 < a_ds (st + step * S.2.1 i) (S.2.2 i) then false else a_so st step S m (i + 1)
/-- the steps 1 to s that fit, as bits -/
def a_ft (st : Nat) (S : a_S) : Nat → Nat
  | 0 => 0
  | s + 1 => if a_so st (s + 1) S S.1 0 then a_ft st S s + 2 ^ s else a_ft st S s
theorem a_ft_lt (st : Nat) (S : a_S) : ∀ s, a_ft st S s < 2 ^ s
  | 0 => by show 0 < 1; decide
  | s + 1 => by
    have := a_ft_lt st S s
    have e : 2 ^ (s + 1) = 2 ^ s + 2 ^ s := by rw [Nat.pow_succ]; omega
    unfold a_ft
    split <;> omega
theorem nI_31 {j : Nat} (h : j < 32) : nI j &&& 31 = nI j := by
  rw [pk_andN (by omega) 5 (by decide), Nat.mod_eq_of_lt (by omega)]
theorem nI_sm {j : Nat} (h : j < 32) : ((nI j).toBitVec.smod 32).toNat = j := (show ∀ j, j < 32 → ((nI j).toBitVec.smod 32).toNat = j by decide +kernel) j h
theorem nI_bit {j : Nat} (h : j < 31) : (1 : Int32) <<< (nI j &&& 31) = nI (2 ^ j) := by
  rw [nI_31 (by omega), show (1 : Int32) = nI 1 from rfl, pk_shlN _ j (nI_sm (by omega)) (by rw [Nat.one_mul]; exact Nat.pow_lt_pow_right (by decide) (by omega)), Nat.one_mul]
theorem nI_or {a j : Nat} (h : a < 2 ^ j) (hj : j < 31) : nI a ||| nI (2 ^ j) = nI (a + 2 ^ j) := by
  have e : nI a ||| nI (2 ^ j) = nI (a ||| 2 ^ j) := by
    have hp : 2 ^ j < 2 ^ 31 := Nat.pow_lt_pow_right (by decide) hj
    apply Int32.toBitVec_inj.mp
    apply BitVec.eq_of_toNat_eq
    have h3 : a ||| 2 ^ j < 2 ^ 32 := Nat.or_lt_two_pow (by omega) (by omega)
    rw [Int32.toBitVec_or, BitVec.toNat_or, pk_tn (by omega), pk_tn (by omega), pk_tn h3]
  rw [e]
  congr 1
  rw [Nat.or_comm]
  have h4 := Nat.two_pow_add_eq_or_of_lt h 1
  rw [Nat.mul_one] at h4
  omega
def a_hb (b j : Nat) : Bool := decide (b / 2 ^ j % 2 = 1)
theorem nI_hb {b j : Nat} (hb : b < 2 ^ 31) (hj : j < 31) : (nI b >>> (nI j &&& 31)) &&& 1 = nI (b / 2 ^ j % 2) := by
  have h1 : b / 2 ^ j ≤ b := Nat.div_le_self _ _
  rw [nI_31 (by omega), pk_shrN hb _ j (nI_sm (by omega)), pk_andN (by omega) 1 (by decide)]
theorem nI01 {x : Int32} {w : Nat} (e : x = nI w) (h : w ≤ 1) : x = 0 ∨ x = 1 := by
  rcases (show w = 0 ∨ w = 1 by omega) with rfl | rfl
  · exact Or.inl e
  · exact Or.inr e
set_option maxRecDepth 100000 in
set_option maxHeartbeats 4000000 in
theorem c_Dk_copyFrom_40_7 {G : r_X} {d : Nat} {h : r_HI} {p q : Nat} {z : r_HL} {F : r_HI → r_HR → r_HL → Prop} {D : a_D} {K : a_K} (hK : p_K h 7 K) (hk : a_kok D K) (hF : ∀ h', r_ex [40, 41, 42, 43] h h' → p_K h' 40 K → h' 40 8 = 0 → F h' (r_gp p q) z) : r_Cv G m_Dk_copyFrom (d + 1) 61 [.ref (G.2.1 + 40), .ref (G.2.1 + 7)] 61 h (r_gp p q) z F := by
  refine r_C_of (by decide +kernel) (Nat.le_of_ble_eq_true rfl) ?_
  refine j_ls (ls' := [(0, _), (1, _)]) rfl ?_
  refine j_aload_n d_Dk_copyFrom_0 rfl rfl ?_
  refine j_getr d_Dk_copyFrom_1 f_Dk_9 rfl rfl (by decide) rfl ?_
  refine j_aload_n d_Dk_copyFrom_4 rfl rfl ?_
  refine j_getr d_Dk_copyFrom_5 f_Dk_9 rfl rfl (by decide) rfl ?_
  refine q_v s_Dk_copyFrom_8 rfl (Nat.le_of_ble_eq_true rfl) (Nat.le_of_ble_eq_true rfl) ?_
  refine c_Ra_copyRow rfl rfl (by decide) (by decide) (by decide) ?_
  refine j_aload_n d_Dk_copyFrom_11 rfl rfl ?_
  refine j_getr d_Dk_copyFrom_12 f_Dk_15 rfl rfl (by decide) rfl ?_
  refine j_aload_n d_Dk_copyFrom_15 rfl rfl ?_
  refine j_getr d_Dk_copyFrom_16 f_Dk_15 rfl rfl (by decide) rfl ?_
  refine q_v s_Dk_copyFrom_19 rfl (Nat.le_of_ble_eq_true rfl) (Nat.le_of_ble_eq_true rfl) ?_
  refine c_Ra_copyRow rfl rfl (by decide) (by decide) (by decide) ?_
  refine j_aload_n d_Dk_copyFrom_22 rfl rfl ?_
  refine j_getr d_Dk_copyFrom_23 f_Dk_18 rfl rfl (by decide) rfl ?_
  refine j_aload_n d_Dk_copyFrom_26 rfl rfl ?_
  refine j_getr d_Dk_copyFrom_27 f_Dk_18 rfl rfl (by decide) rfl ?_
  refine q_v s_Dk_copyFrom_30 rfl (Nat.le_of_ble_eq_true rfl) (Nat.le_of_ble_eq_true rfl) ?_
  refine c_Ra_copyRow rfl rfl (by decide) (by decide) (by decide) ?_
  refine j_aload_n d_Dk_copyFrom_33 rfl rfl ?_
  refine j_aload_n d_Dk_copyFrom_34 rfl rfl ?_
  refine j_geti d_Dk_copyFrom_35 f_Dk_21 rfl rfl (by decide) ?_
  refine j_puti d_Dk_copyFrom_38 f_Dk_21 (by decide) rfl rfl (by decide) ?_
  refine j_aload_n d_Dk_copyFrom_41 rfl rfl ?_
  refine j_aload_n d_Dk_copyFrom_42 rfl rfl ?_
  refine j_geti d_Dk_copyFrom_43 f_Dk_25 rfl rfl (by decide) ?_
  refine j_puti d_Dk_copyFrom_46 f_Dk_25 (by decide) rfl rfl (by decide) ?_
  refine j_aload_n d_Dk_copyFrom_49 rfl rfl ?_
  refine j_aload_n d_Dk_copyFrom_50 rfl rfl ?_
  refine j_geti d_Dk_copyFrom_51 f_Dk_28 rfl rfl (by decide) ?_
  refine j_puti d_Dk_copyFrom_54 f_Dk_28 (by decide) rfl rfl (by decide) ?_
  refine j_aload_n d_Dk_copyFrom_57 rfl rfl ?_
  refine j_aload_n d_Dk_copyFrom_58 rfl rfl ?_
  refine j_getz d_Dk_copyFrom_59 f_Dk_31 rfl rfl (by decide) ?_
  refine j_putz d_Dk_copyFrom_62 f_Dk_31 (by decide) rfl rfl (by decide) (nI01 hK.2.2.2.1 hk.2.1) ?_
  refine j_aload_n d_Dk_copyFrom_65 rfl rfl ?_
  refine j_iconst (v := 0) d_Dk_copyFrom_66 rfl ?_
  refine j_puti d_Dk_copyFrom_67 f_Dk_35 (by decide) rfl rfl (by decide) ?_
  refine j_vret d_Dk_copyFrom_70 rfl ?_
  refine ⟨rfl, hF _ ?_ ⟨hK.1, hK.2.1, hK.2.2.1, hK.2.2.2.1, fun i hi => ?_⟩ rfl⟩
  · exact ((((((((r_ex.rf.rw (by decide)).rw (by decide)).rw (by decide)).up (by decide)).up (by decide)).up (by decide)).up (by decide)).up (by decide))
  · have h7 := hk.2.2.1
    have hi7 : i < 7 := by omega
    obtain ⟨g1, g2, g3⟩ := hK.2.2.2.2 i hi
    exact ⟨(if_pos hi7).trans g1, (if_pos hi7).trans g2, (if_pos hi7).trans g3⟩
set_option maxRecDepth 100000 in
set_option maxHeartbeats 4000000 in
theorem c_Dk_copyFrom_29_7 {G : r_X} {d : Nat} {h : r_HI} {p q : Nat} {z : r_HL} {F : r_HI → r_HR → r_HL → Prop} {D : a_D} {K : a_K} (hK : p_K h 7 K) (hk : a_kok D K) (hF : ∀ h', r_ex [29, 30, 31, 32] h h' → p_K h' 29 K → h' 29 8 = 0 → F h' (r_gp p q) z) : r_Cv G m_Dk_copyFrom (d + 1) 61 [.ref (G.2.1 + 29), .ref (G.2.1 + 7)] 61 h (r_gp p q) z F := by
  refine r_C_of (by decide +kernel) (Nat.le_of_ble_eq_true rfl) ?_
  refine j_ls (ls' := [(0, _), (1, _)]) rfl ?_
  refine j_aload_n d_Dk_copyFrom_0 rfl rfl ?_
  refine j_getr d_Dk_copyFrom_1 f_Dk_9 rfl rfl (by decide) rfl ?_
  refine j_aload_n d_Dk_copyFrom_4 rfl rfl ?_
  refine j_getr d_Dk_copyFrom_5 f_Dk_9 rfl rfl (by decide) rfl ?_
  refine q_v s_Dk_copyFrom_8 rfl (Nat.le_of_ble_eq_true rfl) (Nat.le_of_ble_eq_true rfl) ?_
  refine c_Ra_copyRow rfl rfl (by decide) (by decide) (by decide) ?_
  refine j_aload_n d_Dk_copyFrom_11 rfl rfl ?_
  refine j_getr d_Dk_copyFrom_12 f_Dk_15 rfl rfl (by decide) rfl ?_
  refine j_aload_n d_Dk_copyFrom_15 rfl rfl ?_
  refine j_getr d_Dk_copyFrom_16 f_Dk_15 rfl rfl (by decide) rfl ?_
  refine q_v s_Dk_copyFrom_19 rfl (Nat.le_of_ble_eq_true rfl) (Nat.le_of_ble_eq_true rfl) ?_
  refine c_Ra_copyRow rfl rfl (by decide) (by decide) (by decide) ?_
  refine j_aload_n d_Dk_copyFrom_22 rfl rfl ?_
  refine j_getr d_Dk_copyFrom_23 f_Dk_18 rfl rfl (by decide) rfl ?_
  refine j_aload_n d_Dk_copyFrom_26 rfl rfl ?_
  refine j_getr d_Dk_copyFrom_27 f_Dk_18 rfl rfl (by decide) rfl ?_
  refine q_v s_Dk_copyFrom_30 rfl (Nat.le_of_ble_eq_true rfl) (Nat.le_of_ble_eq_true rfl) ?_
  refine c_Ra_copyRow rfl rfl (by decide) (by decide) (by decide) ?_
  refine j_aload_n d_Dk_copyFrom_33 rfl rfl ?_
  refine j_aload_n d_Dk_copyFrom_34 rfl rfl ?_
  refine j_geti d_Dk_copyFrom_35 f_Dk_21 rfl rfl (by decide) ?_
  refine j_puti d_Dk_copyFrom_38 f_Dk_21 (by decide) rfl rfl (by decide) ?_
  refine j_aload_n d_Dk_copyFrom_41 rfl rfl ?_
  refine j_aload_n d_Dk_copyFrom_42 rfl rfl ?_
  refine j_geti d_Dk_copyFrom_43 f_Dk_25 rfl rfl (by decide) ?_
  refine j_puti d_Dk_copyFrom_46 f_Dk_25 (by decide) rfl rfl (by decide) ?_
  refine j_aload_n d_Dk_copyFrom_49 rfl rfl ?_
  refine j_aload_n d_Dk_copyFrom_50 rfl rfl ?_
  refine j_geti d_Dk_copyFrom_51 f_Dk_28 rfl rfl (by decide) ?_
  refine j_puti d_Dk_copyFrom_54 f_Dk_28 (by decide) rfl rfl (by decide) ?_
  refine j_aload_n d_Dk_copyFrom_57 rfl rfl ?_
  refine j_aload_n d_Dk_copyFrom_58 rfl rfl ?_
  refine j_getz d_Dk_copyFrom_59 f_Dk_31 rfl rfl (by decide) ?_
  refine j_putz d_Dk_copyFrom_62 f_Dk_31 (by decide) rfl rfl (by decide) (nI01 hK.2.2.2.1 hk.2.1) ?_
  refine j_aload_n d_Dk_copyFrom_65 rfl rfl ?_
  refine j_iconst (v := 0) d_Dk_copyFrom_66 rfl ?_
  refine j_puti d_Dk_copyFrom_67 f_Dk_35 (by decide) rfl rfl (by decide) ?_
  refine j_vret d_Dk_copyFrom_70 rfl ?_
  refine ⟨rfl, hF _ ?_ ⟨hK.1, hK.2.1, hK.2.2.1, hK.2.2.2.1, fun i hi => ?_⟩ rfl⟩
  · exact ((((((((r_ex.rf.rw (by decide)).rw (by decide)).rw (by decide)).up (by decide)).up (by decide)).up (by decide)).up (by decide)).up (by decide))
  · have h7 := hk.2.2.1
    have hi7 : i < 7 := by omega
    obtain ⟨g1, g2, g3⟩ := hK.2.2.2.2 i hi
    exact ⟨(if_pos hi7).trans g1, (if_pos hi7).trans g2, (if_pos hi7).trans g3⟩
set_option maxRecDepth 100000 in
set_option maxHeartbeats 4000000 in
theorem c_Dk_copyFrom_7_29 {G : r_X} {d : Nat} {h : r_HI} {p q : Nat} {z : r_HL} {F : r_HI → r_HR → r_HL → Prop} {D : a_D} {K : a_K} (hK : p_K h 29 K) (hk : a_kok D K) (hF : ∀ h', r_ex [7, 8, 9, 10] h h' → p_K h' 7 K → h' 7 8 = 0 → F h' (r_gp p q) z) : r_Cv G m_Dk_copyFrom (d + 1) 61 [.ref (G.2.1 + 7), .ref (G.2.1 + 29)] 61 h (r_gp p q) z F := by
  refine r_C_of (by decide +kernel) (Nat.le_of_ble_eq_true rfl) ?_
  refine j_ls (ls' := [(0, _), (1, _)]) rfl ?_
  refine j_aload_n d_Dk_copyFrom_0 rfl rfl ?_
  refine j_getr d_Dk_copyFrom_1 f_Dk_9 rfl rfl (by decide) rfl ?_
  refine j_aload_n d_Dk_copyFrom_4 rfl rfl ?_
  refine j_getr d_Dk_copyFrom_5 f_Dk_9 rfl rfl (by decide) rfl ?_
  refine q_v s_Dk_copyFrom_8 rfl (Nat.le_of_ble_eq_true rfl) (Nat.le_of_ble_eq_true rfl) ?_
  refine c_Ra_copyRow rfl rfl (by decide) (by decide) (by decide) ?_
  refine j_aload_n d_Dk_copyFrom_11 rfl rfl ?_
  refine j_getr d_Dk_copyFrom_12 f_Dk_15 rfl rfl (by decide) rfl ?_
  refine j_aload_n d_Dk_copyFrom_15 rfl rfl ?_
  refine j_getr d_Dk_copyFrom_16 f_Dk_15 rfl rfl (by decide) rfl ?_
  refine q_v s_Dk_copyFrom_19 rfl (Nat.le_of_ble_eq_true rfl) (Nat.le_of_ble_eq_true rfl) ?_
  refine c_Ra_copyRow rfl rfl (by decide) (by decide) (by decide) ?_
  refine j_aload_n d_Dk_copyFrom_22 rfl rfl ?_
  refine j_getr d_Dk_copyFrom_23 f_Dk_18 rfl rfl (by decide) rfl ?_
  refine j_aload_n d_Dk_copyFrom_26 rfl rfl ?_
  refine j_getr d_Dk_copyFrom_27 f_Dk_18 rfl rfl (by decide) rfl ?_
  refine q_v s_Dk_copyFrom_30 rfl (Nat.le_of_ble_eq_true rfl) (Nat.le_of_ble_eq_true rfl) ?_
  refine c_Ra_copyRow rfl rfl (by decide) (by decide) (by decide) ?_
  refine j_aload_n d_Dk_copyFrom_33 rfl rfl ?_
  refine j_aload_n d_Dk_copyFrom_34 rfl rfl ?_
  refine j_geti d_Dk_copyFrom_35 f_Dk_21 rfl rfl (by decide) ?_
  refine j_puti d_Dk_copyFrom_38 f_Dk_21 (by decide) rfl rfl (by decide) ?_
  refine j_aload_n d_Dk_copyFrom_41 rfl rfl ?_
  refine j_aload_n d_Dk_copyFrom_42 rfl rfl ?_
  refine j_geti d_Dk_copyFrom_43 f_Dk_25 rfl rfl (by decide) ?_
  refine j_puti d_Dk_copyFrom_46 f_Dk_25 (by decide) rfl rfl (by decide) ?_
  refine j_aload_n d_Dk_copyFrom_49 rfl rfl ?_
  refine j_aload_n d_Dk_copyFrom_50 rfl rfl ?_
  refine j_geti d_Dk_copyFrom_51 f_Dk_28 rfl rfl (by decide) ?_
  refine j_puti d_Dk_copyFrom_54 f_Dk_28 (by decide) rfl rfl (by decide) ?_
  refine j_aload_n d_Dk_copyFrom_57 rfl rfl ?_
  refine j_aload_n d_Dk_copyFrom_58 rfl rfl ?_
  refine j_getz d_Dk_copyFrom_59 f_Dk_31 rfl rfl (by decide) ?_
  refine j_putz d_Dk_copyFrom_62 f_Dk_31 (by decide) rfl rfl (by decide) (nI01 hK.2.2.2.1 hk.2.1) ?_
  refine j_aload_n d_Dk_copyFrom_65 rfl rfl ?_
  refine j_iconst (v := 0) d_Dk_copyFrom_66 rfl ?_
  refine j_puti d_Dk_copyFrom_67 f_Dk_35 (by decide) rfl rfl (by decide) ?_
  refine j_vret d_Dk_copyFrom_70 rfl ?_
  refine ⟨rfl, hF _ ?_ ⟨hK.1, hK.2.1, hK.2.2.1, hK.2.2.2.1, fun i hi => ?_⟩ rfl⟩
  · exact ((((((((r_ex.rf.rw (by decide)).rw (by decide)).rw (by decide)).up (by decide)).up (by decide)).up (by decide)).up (by decide)).up (by decide))
  · have h7 := hk.2.2.1
    have hi7 : i < 7 := by omega
    obtain ⟨g1, g2, g3⟩ := hK.2.2.2.2 i hi
    exact ⟨(if_pos hi7).trans g1, (if_pos hi7).trans g2, (if_pos hi7).trans g3⟩
set_option maxRecDepth 100000 in
set_option maxHeartbeats 4000000 in
theorem c_Di_copyFrom_25_3 {G : r_X} {d : Nat} {h : r_HI} {p q : Nat} {z : r_HL} {F : r_HI → r_HR → r_HL → Prop} {D : a_D} (hD : p_D h 3 D) (ho : a_dok D) (hF : ∀ h', r_ex [25, 26, 27, 28] h h' → p_D h' 25 D → F h' (r_gp p q) z) : r_Cv G m_Di_copyFrom (d + 1) 61 [.ref (G.2.1 + 25), .ref (G.2.1 + 3)] 61 h (r_gp p q) z F := by
  refine r_C_of (by decide +kernel) (Nat.le_of_ble_eq_true rfl) ?_
  refine j_ls (ls' := [(0, _), (1, _)]) rfl ?_
  refine j_aload_n d_Di_copyFrom_0 rfl rfl ?_
  refine j_getr d_Di_copyFrom_1 f_Di_9 rfl rfl (by decide) rfl ?_
  refine j_aload_n d_Di_copyFrom_4 rfl rfl ?_
  refine j_getr d_Di_copyFrom_5 f_Di_9 rfl rfl (by decide) rfl ?_
  refine q_v s_Di_copyFrom_8 rfl (Nat.le_of_ble_eq_true rfl) (Nat.le_of_ble_eq_true rfl) ?_
  refine c_Ra_copyRow rfl rfl (by decide) (by decide) (by decide) ?_
  refine j_aload_n d_Di_copyFrom_11 rfl rfl ?_
  refine j_getr d_Di_copyFrom_12 f_Di_15 rfl rfl (by decide) rfl ?_
  refine j_aload_n d_Di_copyFrom_15 rfl rfl ?_
  refine j_getr d_Di_copyFrom_16 f_Di_15 rfl rfl (by decide) rfl ?_
  refine q_v s_Di_copyFrom_19 rfl (Nat.le_of_ble_eq_true rfl) (Nat.le_of_ble_eq_true rfl) ?_
  refine c_Ra_copyRow rfl rfl (by decide) (by decide) (by decide) ?_
  refine j_aload_n d_Di_copyFrom_22 rfl rfl ?_
  refine j_getr d_Di_copyFrom_23 f_Di_18 rfl rfl (by decide) rfl ?_
  refine j_aload_n d_Di_copyFrom_26 rfl rfl ?_
  refine j_getr d_Di_copyFrom_27 f_Di_18 rfl rfl (by decide) rfl ?_
  refine q_v s_Di_copyFrom_30 rfl (Nat.le_of_ble_eq_true rfl) (Nat.le_of_ble_eq_true rfl) ?_
  refine c_Ra_copyRow rfl rfl (by decide) (by decide) (by decide) ?_
  refine j_aload_n d_Di_copyFrom_33 rfl rfl ?_
  refine j_aload_n d_Di_copyFrom_34 rfl rfl ?_
  refine j_geti d_Di_copyFrom_35 f_Di_21 rfl rfl (by decide) ?_
  refine j_puti d_Di_copyFrom_38 f_Di_21 (by decide) rfl rfl (by decide) ?_
  refine j_aload_n d_Di_copyFrom_41 rfl rfl ?_
  refine j_aload_n d_Di_copyFrom_42 rfl rfl ?_
  refine j_geti d_Di_copyFrom_43 f_Di_25 rfl rfl (by decide) ?_
  refine j_puti d_Di_copyFrom_46 f_Di_25 (by decide) rfl rfl (by decide) ?_
  refine j_aload_n d_Di_copyFrom_49 rfl rfl ?_
  refine j_aload_n d_Di_copyFrom_50 rfl rfl ?_
  refine j_geti d_Di_copyFrom_51 f_Di_28 rfl rfl (by decide) ?_
  refine j_puti d_Di_copyFrom_54 f_Di_28 (by decide) rfl rfl (by decide) ?_
  refine j_vret d_Di_copyFrom_57 rfl ?_
  refine ⟨rfl, hF _ ?_ ⟨hD.1, hD.2.1, hD.2.2.1, fun i hi => ?_⟩⟩
  · exact ((((((r_ex.rf.rw (by decide)).rw (by decide)).rw (by decide)).up (by decide)).up (by decide)).up (by decide))
  · have h7 := ho.1
    have hi7 : i < 10 := by omega
    obtain ⟨g1, g2, g3⟩ := hD.2.2.2 i hi
    exact ⟨(if_pos hi7).trans g1, (if_pos hi7).trans g2, (if_pos hi7).trans g3⟩
set_option maxRecDepth 100000 in
set_option maxHeartbeats 4000000 in
theorem c_Di_copyFrom_3_25 {G : r_X} {d : Nat} {h : r_HI} {p q : Nat} {z : r_HL} {F : r_HI → r_HR → r_HL → Prop} {D : a_D} (hD : p_D h 25 D) (ho : a_dok D) (hF : ∀ h', r_ex [3, 4, 5, 6] h h' → p_D h' 3 D → F h' (r_gp p q) z) : r_Cv G m_Di_copyFrom (d + 1) 61 [.ref (G.2.1 + 3), .ref (G.2.1 + 25)] 61 h (r_gp p q) z F := by
  refine r_C_of (by decide +kernel) (Nat.le_of_ble_eq_true rfl) ?_
  refine j_ls (ls' := [(0, _), (1, _)]) rfl ?_
  refine j_aload_n d_Di_copyFrom_0 rfl rfl ?_
  refine j_getr d_Di_copyFrom_1 f_Di_9 rfl rfl (by decide) rfl ?_
  refine j_aload_n d_Di_copyFrom_4 rfl rfl ?_
  refine j_getr d_Di_copyFrom_5 f_Di_9 rfl rfl (by decide) rfl ?_
  refine q_v s_Di_copyFrom_8 rfl (Nat.le_of_ble_eq_true rfl) (Nat.le_of_ble_eq_true rfl) ?_
  refine c_Ra_copyRow rfl rfl (by decide) (by decide) (by decide) ?_
  refine j_aload_n d_Di_copyFrom_11 rfl rfl ?_
  refine j_getr d_Di_copyFrom_12 f_Di_15 rfl rfl (by decide) rfl ?_
  refine j_aload_n d_Di_copyFrom_15 rfl rfl ?_
  refine j_getr d_Di_copyFrom_16 f_Di_15 rfl rfl (by decide) rfl ?_
  refine q_v s_Di_copyFrom_19 rfl (Nat.le_of_ble_eq_true rfl) (Nat.le_of_ble_eq_true rfl) ?_
  refine c_Ra_copyRow rfl rfl (by decide) (by decide) (by decide) ?_
  refine j_aload_n d_Di_copyFrom_22 rfl rfl ?_
  refine j_getr d_Di_copyFrom_23 f_Di_18 rfl rfl (by decide) rfl ?_
  refine j_aload_n d_Di_copyFrom_26 rfl rfl ?_
  refine j_getr d_Di_copyFrom_27 f_Di_18 rfl rfl (by decide) rfl ?_
  refine q_v s_Di_copyFrom_30 rfl (Nat.le_of_ble_eq_true rfl) (Nat.le_of_ble_eq_true rfl) ?_
  refine c_Ra_copyRow rfl rfl (by decide) (by decide) (by decide) ?_
  refine j_aload_n d_Di_copyFrom_33 rfl rfl ?_
  refine j_aload_n d_Di_copyFrom_34 rfl rfl ?_
  refine j_geti d_Di_copyFrom_35 f_Di_21 rfl rfl (by decide) ?_
  refine j_puti d_Di_copyFrom_38 f_Di_21 (by decide) rfl rfl (by decide) ?_
  refine j_aload_n d_Di_copyFrom_41 rfl rfl ?_
  refine j_aload_n d_Di_copyFrom_42 rfl rfl ?_
  refine j_geti d_Di_copyFrom_43 f_Di_25 rfl rfl (by decide) ?_
  refine j_puti d_Di_copyFrom_46 f_Di_25 (by decide) rfl rfl (by decide) ?_
  refine j_aload_n d_Di_copyFrom_49 rfl rfl ?_
  refine j_aload_n d_Di_copyFrom_50 rfl rfl ?_
  refine j_geti d_Di_copyFrom_51 f_Di_28 rfl rfl (by decide) ?_
  refine j_puti d_Di_copyFrom_54 f_Di_28 (by decide) rfl rfl (by decide) ?_
  refine j_vret d_Di_copyFrom_57 rfl ?_
  refine ⟨rfl, hF _ ?_ ⟨hD.1, hD.2.1, hD.2.2.1, fun i hi => ?_⟩⟩
  · exact ((((((r_ex.rf.rw (by decide)).rw (by decide)).rw (by decide)).up (by decide)).up (by decide)).up (by decide))
  · have h7 := ho.1
    have hi7 : i < 10 := by omega
    obtain ⟨g1, g2, g3⟩ := hD.2.2.2 i hi
    exact ⟨(if_pos hi7).trans g1, (if_pos hi7).trans g2, (if_pos hi7).trans g3⟩
set_option maxRecDepth 100000 in
set_option maxHeartbeats 4000000 in
theorem c_Th_copyFrom_33_11 {G : r_X} {d : Nat} {h : r_HI} {p q : Nat} {z : r_HL} {F : r_HI → r_HR → r_HL → Prop} {wt : Nat → Nat} (hW : p_W h 11 wt) (hF : ∀ h', r_ex [34] h h' → p_W h' 33 wt → F h' (r_gp p q) z) : r_Cv G m_Th_copyFrom (d + 1) 61 [.ref (G.2.1 + 33), .ref (G.2.1 + 11)] 61 h (r_gp p q) z F := by
  refine r_C_of (by decide +kernel) (Nat.le_of_ble_eq_true rfl) ?_
  refine j_ls (ls' := [(0, _), (1, _)]) rfl ?_
  refine j_aload_n d_Th_copyFrom_0 rfl rfl ?_
  refine j_getr d_Th_copyFrom_1 f_Th_9 rfl rfl (by decide) rfl ?_
  refine j_aload_n d_Th_copyFrom_4 rfl rfl ?_
  refine j_getr d_Th_copyFrom_5 f_Th_9 rfl rfl (by decide) rfl ?_
  refine q_v s_Th_copyFrom_8 rfl (Nat.le_of_ble_eq_true rfl) (Nat.le_of_ble_eq_true rfl) ?_
  refine c_Ra_copyRow rfl rfl (by decide) (by decide) (by decide) ?_
  refine j_vret d_Th_copyFrom_11 rfl ?_
  refine ⟨rfl, hF _ (r_ex.rf.rw (by decide)) (fun i hi => (if_pos hi).trans (hW i hi))⟩
set_option maxRecDepth 100000 in
set_option maxHeartbeats 4000000 in
theorem c_Th_copyFrom_11_33 {G : r_X} {d : Nat} {h : r_HI} {p q : Nat} {z : r_HL} {F : r_HI → r_HR → r_HL → Prop} {wt : Nat → Nat} (hW : p_W h 33 wt) (hF : ∀ h', r_ex [12] h h' → p_W h' 11 wt → F h' (r_gp p q) z) : r_Cv G m_Th_copyFrom (d + 1) 61 [.ref (G.2.1 + 11), .ref (G.2.1 + 33)] 61 h (r_gp p q) z F := by
  refine r_C_of (by decide +kernel) (Nat.le_of_ble_eq_true rfl) ?_
  refine j_ls (ls' := [(0, _), (1, _)]) rfl ?_
  refine j_aload_n d_Th_copyFrom_0 rfl rfl ?_
  refine j_getr d_Th_copyFrom_1 f_Th_9 rfl rfl (by decide) rfl ?_
  refine j_aload_n d_Th_copyFrom_4 rfl rfl ?_
  refine j_getr d_Th_copyFrom_5 f_Th_9 rfl rfl (by decide) rfl ?_
  refine q_v s_Th_copyFrom_8 rfl (Nat.le_of_ble_eq_true rfl) (Nat.le_of_ble_eq_true rfl) ?_
  refine c_Ra_copyRow rfl rfl (by decide) (by decide) (by decide) ?_
  refine j_vret d_Th_copyFrom_11 rfl ?_
  refine ⟨rfl, hF _ (r_ex.rf.rw (by decide)) (fun i hi => (if_pos hi).trans (hW i hi))⟩
set_option maxRecDepth 100000 in
set_option maxHeartbeats 4000000 in
theorem c_Si_copyFrom_37_15 {G : r_X} {d : Nat} {h : r_HI} {p q : Nat} {z : r_HL} {F : r_HI → r_HR → r_HL → Prop} {S : a_S} (hS : p_S h 15 S) (hs : a_sok S) (hF : ∀ h', r_ex [37, 38, 39] h h' → p_S h' 37 S → F h' (r_gp p q) z) : r_Cv G m_Si_copyFrom (d + 1) 61 [.ref (G.2.1 + 37), .ref (G.2.1 + 15)] 61 h (r_gp p q) z F := by
  refine r_C_of (by decide +kernel) (Nat.le_of_ble_eq_true rfl) ?_
  refine j_ls (ls' := [(0, _), (1, _)]) rfl ?_
  refine j_aload_n d_Si_copyFrom_0 rfl rfl ?_
  refine j_getr d_Si_copyFrom_1 f_Si_9 rfl rfl (by decide) rfl ?_
  refine j_aload_n d_Si_copyFrom_4 rfl rfl ?_
  refine j_getr d_Si_copyFrom_5 f_Si_9 rfl rfl (by decide) rfl ?_
  refine q_v s_Si_copyFrom_8 rfl (Nat.le_of_ble_eq_true rfl) (Nat.le_of_ble_eq_true rfl) ?_
  refine c_Ra_copyRow rfl rfl (by decide) (by decide) (by decide) ?_
  refine j_aload_n d_Si_copyFrom_11 rfl rfl ?_
  refine j_getr d_Si_copyFrom_12 f_Si_15 rfl rfl (by decide) rfl ?_
  refine j_aload_n d_Si_copyFrom_15 rfl rfl ?_
  refine j_getr d_Si_copyFrom_16 f_Si_15 rfl rfl (by decide) rfl ?_
  refine q_v s_Si_copyFrom_19 rfl (Nat.le_of_ble_eq_true rfl) (Nat.le_of_ble_eq_true rfl) ?_
  refine c_Ra_copyRow rfl rfl (by decide) (by decide) (by decide) ?_
  refine j_aload_n d_Si_copyFrom_22 rfl rfl ?_
  refine j_aload_n d_Si_copyFrom_23 rfl rfl ?_
  refine j_geti d_Si_copyFrom_24 f_Si_18 rfl rfl (by decide) ?_
  refine j_puti d_Si_copyFrom_27 f_Si_18 (by decide) rfl rfl (by decide) ?_
  refine j_vret d_Si_copyFrom_30 rfl ?_
  refine ⟨rfl, hF _ (((r_ex.rf.rw (by decide)).rw (by decide)).up (by decide)) ⟨hS.1, fun i hi => ?_⟩⟩
  have h6 := hs.1
  have hi6 : i < 6 := by omega
  obtain ⟨g1, g2⟩ := hS.2 i hi
  exact ⟨(if_pos hi6).trans g1, (if_pos hi6).trans g2⟩
set_option maxRecDepth 100000 in
set_option maxHeartbeats 4000000 in
theorem c_Si_copyFrom_15_37 {G : r_X} {d : Nat} {h : r_HI} {p q : Nat} {z : r_HL} {F : r_HI → r_HR → r_HL → Prop} {S : a_S} (hS : p_S h 37 S) (hs : a_sok S) (hF : ∀ h', r_ex [15, 16, 17] h h' → p_S h' 15 S → F h' (r_gp p q) z) : r_Cv G m_Si_copyFrom (d + 1) 61 [.ref (G.2.1 + 15), .ref (G.2.1 + 37)] 61 h (r_gp p q) z F := by
  refine r_C_of (by decide +kernel) (Nat.le_of_ble_eq_true rfl) ?_
  refine j_ls (ls' := [(0, _), (1, _)]) rfl ?_
  refine j_aload_n d_Si_copyFrom_0 rfl rfl ?_
  refine j_getr d_Si_copyFrom_1 f_Si_9 rfl rfl (by decide) rfl ?_
  refine j_aload_n d_Si_copyFrom_4 rfl rfl ?_
  refine j_getr d_Si_copyFrom_5 f_Si_9 rfl rfl (by decide) rfl ?_
  refine q_v s_Si_copyFrom_8 rfl (Nat.le_of_ble_eq_true rfl) (Nat.le_of_ble_eq_true rfl) ?_
  refine c_Ra_copyRow rfl rfl (by decide) (by decide) (by decide) ?_
  refine j_aload_n d_Si_copyFrom_11 rfl rfl ?_
  refine j_getr d_Si_copyFrom_12 f_Si_15 rfl rfl (by decide) rfl ?_
  refine j_aload_n d_Si_copyFrom_15 rfl rfl ?_
  refine j_getr d_Si_copyFrom_16 f_Si_15 rfl rfl (by decide) rfl ?_
  refine q_v s_Si_copyFrom_19 rfl (Nat.le_of_ble_eq_true rfl) (Nat.le_of_ble_eq_true rfl) ?_
  refine c_Ra_copyRow rfl rfl (by decide) (by decide) (by decide) ?_
  refine j_aload_n d_Si_copyFrom_22 rfl rfl ?_
  refine j_aload_n d_Si_copyFrom_23 rfl rfl ?_
  refine j_geti d_Si_copyFrom_24 f_Si_18 rfl rfl (by decide) ?_
  refine j_puti d_Si_copyFrom_27 f_Si_18 (by decide) rfl rfl (by decide) ?_
  refine j_vret d_Si_copyFrom_30 rfl ?_
  refine ⟨rfl, hF _ (((r_ex.rf.rw (by decide)).rw (by decide)).up (by decide)) ⟨hS.1, fun i hi => ?_⟩⟩
  have h6 := hs.1
  have hi6 : i < 6 := by omega
  obtain ⟨g1, g2⟩ := hS.2 i hi
  exact ⟨(if_pos hi6).trans g1, (if_pos hi6).trans g2⟩
set_option maxRecDepth 100000 in
set_option maxHeartbeats 4000000 in
theorem c_Dk_restart {G : r_X} {d : Nat} {h : r_HI} {p q : Nat} {z : r_HL} {F : r_HI → r_HR → r_HL → Prop} (hF : ∀ h', r_ex [7] h h' → p_K h' 7 (0, 0, 1, 0, (fun _ => 0), (fun _ => 0), (fun _ => 0)) → F h' (r_gp p q) z) : r_Cv G m_Dk_restart (d) 61 [.ref (G.2.1 + 7)] 61 h (r_gp p q) z F := by
  refine r_C_of (by decide +kernel) (Nat.le_of_ble_eq_true rfl) ?_
  refine j_ls (ls' := [(0, _)]) rfl ?_
  refine j_aload_n d_Dk_restart_0 rfl rfl ?_
  refine j_iconst (v := 0) d_Dk_restart_1 rfl ?_
  refine j_puti d_Dk_restart_2 f_Dk_21 (by decide) rfl rfl (by decide) ?_
  refine j_aload_n d_Dk_restart_5 rfl rfl ?_
  refine j_iconst (v := 0) d_Dk_restart_6 rfl ?_
  refine j_puti d_Dk_restart_7 f_Dk_25 (by decide) rfl rfl (by decide) ?_
  refine j_aload_n d_Dk_restart_10 rfl rfl ?_
  refine j_iconst (v := 0) d_Dk_restart_11 rfl ?_
  refine j_puti d_Dk_restart_12 f_Dk_28 (by decide) rfl rfl (by decide) ?_
  refine j_aload_n d_Dk_restart_15 rfl rfl ?_
  refine j_iconst (v := 1) d_Dk_restart_16 rfl ?_
  refine j_putz d_Dk_restart_17 f_Dk_31 (by decide) rfl rfl (by decide) (by decide) ?_
  refine j_aload_n d_Dk_restart_20 rfl rfl ?_
  refine j_iconst (v := 0) d_Dk_restart_21 rfl ?_
  refine j_puti d_Dk_restart_22 f_Dk_35 (by decide) rfl rfl (by decide) ?_
  refine j_vret d_Dk_restart_25 rfl ?_
  exact ⟨rfl, hF _ (((((r_ex.rf.up (by decide)).up (by decide)).up (by decide)).up (by decide)).up (by decide)) ⟨rfl, rfl, rfl, rfl, fun i hi => absurd hi (Nat.not_lt_zero i)⟩⟩
set_option maxRecDepth 100000 in
set_option maxHeartbeats 4000000 in
theorem l_Th_clear {G : r_X} {d : Nat} {p q : Nat} {z : r_HL} {F : r_HI → r_HR → r_HL → Prop} {h : r_HI} (hF : ∀ h', r_ex [12] h h' → (∀ j, j < 6 → h' 12 j = 0) → F h' (r_gp p q) z) : ∀ (e i : Nat) (v : Int32) (h1 : r_HI), e + i = 6 → v = nI i → r_ex [12] h h1 → (∀ j, j < i → h1 12 j = 0) → r_TM G m_Th_clear (d + 1) 61 61 (fun v h' g' z' => v = none ∧ F h' g' z') 2 [(0, .ref (G.2.1 + 11)), (1, .int v)] [] 61 h1 (r_gp p q) z := by
  intro e
  induction e with
  | zero =>
    intro i v h1 he hv hx hz
    subst hv
    refine j_iload_n d_Th_clear_2 rfl rfl ?_
    refine j_bipush (v := 6) d_Th_clear_3 (by decide) ?_
    refine j_icmp_ge (tgt := 23) d_Th_clear_5 rfl (fun bq1 => ?_) (fun bq1 => False.elim (bq1 (nI_le (a := 6) (by omega) (by omega))))
    refine j_vret d_Th_clear_23 rfl ?_
    exact ⟨rfl, hF _ hx (fun j hj => hz j (by omega))⟩
  | succ e ih =>
    intro i v h1 he hv hx hz
    subst hv
    refine j_iload_n d_Th_clear_2 rfl rfl ?_
    refine j_bipush (v := 6) d_Th_clear_3 (by decide) ?_
    refine j_icmp_ge (tgt := 23) d_Th_clear_5 rfl (fun bq1 => False.elim (nI_ge (b := 6) (by omega) (by omega) bq1)) (fun bq1 => ?_)
    refine j_aload_n d_Th_clear_8 rfl rfl ?_
    refine j_getr d_Th_clear_9 f_Th_9 rfl rfl (by decide) rfl ?_
    refine j_iload_n d_Th_clear_12 rfl rfl ?_
    refine j_iconst (v := 0) d_Th_clear_13 rfl ?_
    refine q_v s_Th_clear_14 rfl (Nat.le_of_ble_eq_true rfl) (Nat.le_of_ble_eq_true rfl) ?_
    refine c_Ra_put (j := i) rfl (by decide) rfl (by omega) ?_
    refine j_iinc (ls' := [(1, _), (0, _)]) d_Th_clear_17 rfl (by decide) rfl ?_
    refine j_goto (tgt := 2) d_Th_clear_20 rfl ?_
    refine j_pick [1, 0] (ls' := [(0, _), (1, _)]) rfl ?_
    refine ih (i + 1) _ _ (by omega) (nI_inc i) (hx.up (by decide)) (fun j hj => ?_)
    show upd (h1 12) i 0 j = 0
    by_cases e9 : j = i
    · simp [upd, e9]
    · simp only [upd, if_neg e9]
      exact hz j (by omega)
set_option maxRecDepth 100000 in
set_option maxHeartbeats 4000000 in
theorem c_Th_clear {G : r_X} {d : Nat} {h : r_HI} {p q : Nat} {z : r_HL} {F : r_HI → r_HR → r_HL → Prop} (hF : ∀ h', r_ex [12] h h' → p_W h' 11 (fun _ => 0) → F h' (r_gp p q) z) : r_Cv G m_Th_clear (d + 1) 61 [.ref (G.2.1 + 11)] 61 h (r_gp p q) z F := by
  have hF : ∀ h', r_ex [12] h h' → (∀ j, j < 6 → h' 12 j = 0) → F h' (r_gp p q) z := fun h' e1 e2 => hF h' e1 e2
  refine r_C_of (by decide +kernel) (Nat.le_of_ble_eq_true rfl) ?_
  refine j_ls (ls' := [(0, _)]) rfl ?_
  refine j_iconst (v := 0) d_Th_clear_0 rfl ?_
  refine j_istore_n (ls' := [(1, _), (0, _)]) d_Th_clear_1 rfl (by decide) rfl ?_
  refine j_pick [1, 0] (ls' := [(0, _), (1, _)]) rfl ?_
  exact l_Th_clear hF 6 0 _ h rfl rfl r_ex.rf (fun j hj => absurd hj (Nat.not_lt_zero j))
set_option maxRecDepth 100000 in
set_option maxHeartbeats 4000000 in
theorem l_Th_howMany {G : r_X} {d : Nat} {h : r_HI} {p q : Nat} {z : r_HL} {F : Int32 → r_HI → r_HR → r_HL → Prop} {wt : Nat → Nat} (hW : p_W h 11 wt) (hw : a_wok wt) (hF : F (nI (a_hm wt 6)) h (r_gp p q) z) : ∀ (e i : Nat) (v m : Int32), e + i = 6 → v = nI i → m = nI (a_hm wt i) → r_TM G m_Th_howMany (d + 1) 61 61 (fun v h' g' z' => ∃ r, v = some (.int r) ∧ F r h' g' z') 4 [(0, .ref (G.2.1 + 11)), (1, .int m), (2, .int v)] [] 61 h (r_gp p q) z := by
  intro e
  induction e with
  | zero =>
    intro i v m he hv hm
    subst hv
    refine j_iload_n d_Th_howMany_4 rfl rfl ?_
    refine j_bipush (v := 6) d_Th_howMany_5 (by decide) ?_
    refine j_icmp_ge (tgt := 31) d_Th_howMany_7 rfl (fun bq1 => ?_) (fun bq1 => False.elim (bq1 (nI_le (a := 6) (by omega) (by omega))))
    refine j_iload_n d_Th_howMany_31 rfl rfl ?_
    refine j_iret d_Th_howMany_32 rfl ?_
    exact q_i1 hF (by rw [hm, show i = 6 by omega])
  | succ e ih =>
    intro i v m he hv hm
    subst hv
    have hWi : h 12 i = nI (wt i) := hW i (by omega)
    have hwi := hw i (by omega)
    refine j_iload_n d_Th_howMany_4 rfl rfl ?_
    refine j_bipush (v := 6) d_Th_howMany_5 (by decide) ?_
    refine j_icmp_ge (tgt := 31) d_Th_howMany_7 rfl (fun bq1 => False.elim (nI_ge (b := 6) (by omega) (by omega) bq1)) (fun bq1 => ?_)
    refine j_aload_n d_Th_howMany_10 rfl rfl ?_
    refine j_getr d_Th_howMany_11 f_Th_9 rfl rfl (by decide) rfl ?_
    refine j_iload_n d_Th_howMany_14 rfl rfl ?_
    refine q_i s_Th_howMany_15 rfl (Nat.le_of_ble_eq_true rfl) (Nat.le_of_ble_eq_true rfl) ?_
    refine c_Ra_av (j := i) rfl (by decide) rfl (by omega) hWi ?_
    refine j_if_le (tgt := 25) d_Th_howMany_18 rfl (fun bq2 => ?_) (fun bq2 => ?_)
    · refine j_iinc (ls' := [(2, _), (0, _), (1, _)]) d_Th_howMany_25 rfl (by decide) rfl ?_
      refine j_goto (tgt := 4) d_Th_howMany_28 rfl ?_
      refine j_pick [1, 2, 0] (ls' := [(0, _), (1, _), (2, _)]) rfl ?_
      refine ih (i + 1) _ _ (by omega) (nI_inc i) ?_
      rw [a_hm]
      first
        | (have e9 : ¬ 0 < wt i := fun e8 => nI_nle e8 (by omega) bq2
           rw [if_neg e9]
           exact hm)
        | (have e9 : 0 < wt i := Nat.pos_of_ne_zero (fun e8 => bq2 (by rw [e8]; decide))
           rw [if_pos e9]
           exact nI_1 i)
    · refine j_iload_n d_Th_howMany_21 rfl rfl ?_
      refine j_iconst (v := 1) d_Th_howMany_22 rfl ?_
      refine j_iadd d_Th_howMany_23 ?_
      refine j_istore_n (ls' := [(1, _), (0, _), (2, _)]) d_Th_howMany_24 rfl (by decide) rfl ?_
      refine j_iinc (ls' := [(2, _), (1, _), (0, _)]) d_Th_howMany_25 rfl (by decide) rfl ?_
      refine j_goto (tgt := 4) d_Th_howMany_28 rfl ?_
      refine j_pick [2, 1, 0] (ls' := [(0, _), (1, _), (2, _)]) rfl ?_
      refine ih (i + 1) _ _ (by omega) (nI_inc i) ?_
      rw [a_hm]
      first
        | (have e9 : ¬ 0 < wt i := fun e8 => nI_nle e8 (by omega) bq2
           rw [if_neg e9]
           exact hm)
        | (have e9 : 0 < wt i := Nat.pos_of_ne_zero (fun e8 => bq2 (by rw [e8]; decide))
           rw [if_pos e9]
           exact nI_1 i)
set_option maxRecDepth 100000 in
set_option maxHeartbeats 4000000 in
theorem c_Th_howMany {G : r_X} {d : Nat} {h : r_HI} {p q : Nat} {z : r_HL} {F : Int32 → r_HI → r_HR → r_HL → Prop} {wt : Nat → Nat} (hW : p_W h 11 wt) (hw : a_wok wt) (hF : F (nI (a_hm wt 6)) h (r_gp p q) z) : r_Ci G m_Th_howMany (d + 1) 61 [.ref (G.2.1 + 11)] 61 h (r_gp p q) z F := by
  refine r_C_of (by decide +kernel) (Nat.le_of_ble_eq_true rfl) ?_
  refine j_ls (ls' := [(0, _)]) rfl ?_
  refine j_iconst (v := 0) d_Th_howMany_0 rfl ?_
  refine j_istore_n (ls' := [(1, _), (0, _)]) d_Th_howMany_1 rfl (by decide) rfl ?_
  refine j_iconst (v := 0) d_Th_howMany_2 rfl ?_
  refine j_istore_n (ls' := [(2, _), (1, _), (0, _)]) d_Th_howMany_3 rfl (by decide) rfl ?_
  refine j_pick [2, 1, 0] (ls' := [(0, _), (1, _), (2, _)]) rfl ?_
  exact l_Th_howMany hW hw hF 6 0 _ _ rfl rfl rfl
set_option maxRecDepth 100000 in
set_option maxHeartbeats 4000000 in
theorem c_Th_told0 {G : r_X} {d : Nat} {h : r_HI} {p q : Nat} {z : r_HL} {F : Int32 → r_HI → r_HR → r_HL → Prop} (hF : F (h 11 3) h (r_gp p q) z) : r_Ci G m_Th_told (d + 2) 61 [.ref (G.2.1 + 11), .int 0] 61 h (r_gp p q) z F := by
  refine r_C_of (by decide +kernel) (Nat.le_of_ble_eq_true rfl) ?_
  refine j_ls (ls' := [(0, _), (1, _)]) rfl ?_
  refine j_iload_n d_Th_told_0 rfl rfl ?_
  refine j_if_ne (tgt := 9) d_Th_told_1 rfl (fun bq1 => False.elim (bq1 rfl)) (fun bq1 => ?_)
  refine j_aload_n d_Th_told_4 rfl rfl ?_
  refine j_geti d_Th_told_5 f_Th_21 rfl rfl (by decide) ?_
  refine j_iret d_Th_told_8 rfl ?_
  exact q_i1 hF rfl
theorem nI_10 (t : Nat) : nI (10 + t) - 10 = nI t := by
  rw [show (10 : Int32) = nI 10 from rfl, pk_sub (by omega), show 10 + t - 10 = t by omega]
set_option maxRecDepth 100000 in
set_option maxHeartbeats 4000000 in
theorem c_Th_told {G : r_X} {d : Nat} {h : r_HI} {p q : Nat} {z : r_HL} {F : Int32 → r_HI → r_HR → r_HL → Prop} {wt : Nat → Nat} (hW : p_W h 11 wt) (hw : a_wok wt) {t : Nat} {a1 : Int32} (ht : t < 6) (e1 : a1 = nI (10 + t)) (hF : F (if t < a_hm wt 6 then h 14 t else -1) h (r_gp p q) z) : r_Ci G m_Th_told (d + 2) 61 [.ref (G.2.1 + 11), .int a1] 61 h (r_gp p q) z F := by
  subst e1
  refine r_C_of (by decide +kernel) (Nat.le_of_ble_eq_true rfl) ?_
  refine j_ls (ls' := [(0, _), (1, _)]) rfl ?_
  refine j_iload_n d_Th_told_0 rfl rfl ?_
  refine j_if_ne (tgt := 9) d_Th_told_1 rfl (fun bq1 => ?_) (fun bq1 => False.elim (nI_ne0 (n := 10 + t) (by omega) (by omega) bq1))
  refine j_iload_n d_Th_told_9 rfl rfl ?_
  refine j_bipush (v := 10) d_Th_told_10 (by decide) ?_
  refine j_isub d_Th_told_12 ?_
  refine j_aload_n d_Th_told_13 rfl rfl ?_
  refine q_i (s_Th_told_14 rfl (by decide)) rfl (Nat.le_of_ble_eq_true rfl) (Nat.le_of_ble_eq_true rfl) ?_
  refine c_Th_howMany hW hw ?_
  refine j_icmp_ge (tgt := 34) d_Th_told_17 rfl (fun bq2 => ?_) (fun bq2 => ?_)
  · refine j_iconst (v := (-1)) d_Th_told_34 rfl ?_
    refine j_iret d_Th_told_35 rfl ?_
    have h6 := a_hm_le wt 6
    rw [show nI (10 + t) - 10 = nI t from nI_10 t] at bq2
    first
      | exact q_i1 hF (by rw [if_neg (by have := (nI_leI (by omega) (by omega)).mp bq2; omega)])
      | exact q_i1 hF (by rw [if_pos (Decidable.byContradiction (fun e8 => bq2 (nI_le (by omega) (by omega))))])
  · refine j_aload_n d_Th_told_20 rfl rfl ?_
    refine j_getr d_Th_told_21 f_Th_18 rfl rfl (by decide) rfl ?_
    refine j_iload_n d_Th_told_24 rfl rfl ?_
    refine j_bipush (v := 10) d_Th_told_25 (by decide) ?_
    refine j_isub d_Th_told_27 ?_
    refine q_i s_Th_told_28 rfl (Nat.le_of_ble_eq_true rfl) (Nat.le_of_ble_eq_true rfl) ?_
    refine c_Ra_at (j := t) rfl (by decide) (nI_10 t) (by omega) ?_
    refine j_goto (tgt := 35) d_Th_told_31 rfl ?_
    refine j_iret d_Th_told_35 rfl ?_
    have h6 := a_hm_le wt 6
    rw [show nI (10 + t) - 10 = nI t from nI_10 t] at bq2
    first
      | exact q_i1 hF (by rw [if_neg (by have := (nI_leI (by omega) (by omega)).mp bq2; omega)])
      | exact q_i1 hF (by rw [if_pos (Decidable.byContradiction (fun e8 => bq2 (nI_le (by omega) (by omega))))])
set_option maxRecDepth 100000 in
set_option maxHeartbeats 4000000 in
theorem l_Th_share {G : r_X} {d : Nat} {h : r_HI} {p q : Nat} {z : r_HL} {F : Int32 → r_HI → r_HR → r_HL → Prop} {wt : Nat → Nat} (hW : p_W h 11 wt) (hw : a_wok wt) {ly : Nat → Nat} {x : Nat} (hx : x < 6) (hL : ∀ j, j ≤ x → h 13 j = nI (ly j) ∧ ly j < 6) (hF : F (nI (a_sh wt ly x x)) h (r_gp p q) z) : ∀ (e i : Nat) (v s : Int32), e + i = x → v = nI i → s = nI (a_sh wt ly x i) → r_TM G m_Th_share (d + 1) 61 61 (fun v h' g' z' => ∃ r, v = some (.int r) ∧ F r h' g' z') 4 [(0, .ref (G.2.1 + 11)), (1, .int (nI x)), (2, .int s), (3, .int v)] [] 61 h (r_gp p q) z := by
  intro e
  induction e with
  | zero =>
    intro i v s he hv hs
    subst hv
    refine j_iload_n d_Th_share_4 rfl rfl ?_
    refine j_iload_n d_Th_share_5 rfl rfl ?_
    refine j_icmp_ge (tgt := 62) d_Th_share_6 rfl (fun bq1 => ?_) (fun bq1 => False.elim (bq1 (nI_le (by omega) (by omega))))
    refine j_iload_n d_Th_share_62 rfl rfl ?_
    refine j_iret d_Th_share_63 rfl ?_
    exact q_i1 hF (by rw [hs, show i = x by omega])
  | succ e ih =>
    intro i v s he hv hs
    subst hv
    have hWi : h 12 i = nI (wt i) := hW i (by omega)
    have hWx : h 12 x = nI (wt x) := hW x (by omega)
    obtain ⟨hLi, hLi6⟩ := hL i (by omega)
    obtain ⟨hLx, hLx6⟩ := hL x (by omega)
    refine j_iload_n d_Th_share_4 rfl rfl ?_
    refine j_iload_n d_Th_share_5 rfl rfl ?_
    refine j_icmp_ge (tgt := 62) d_Th_share_6 rfl (fun bq1 => False.elim (nI_ge (by omega) (by omega) bq1)) (fun bq1 => ?_)
    refine j_iload_n d_Th_share_9 rfl rfl ?_
    refine j_bipush (v := 6) d_Th_share_10 (by decide) ?_
    refine j_icmp_ge (tgt := 62) d_Th_share_12 rfl (fun bq2 => False.elim (nI_ge (b := 6) (by omega) (by omega) bq2)) (fun bq2 => ?_)
    refine j_iload_n d_Th_share_15 rfl rfl ?_
    refine j_aload_n d_Th_share_16 rfl rfl ?_
    refine j_getr d_Th_share_17 f_Th_9 rfl rfl (by decide) rfl ?_
    refine j_iload_n d_Th_share_20 rfl rfl ?_
    refine q_i s_Th_share_21 rfl (Nat.le_of_ble_eq_true rfl) (Nat.le_of_ble_eq_true rfl) ?_
    refine c_Ra_av (j := i) rfl (by decide) rfl (by omega) hWi ?_
    refine j_aload_n d_Th_share_24 rfl rfl ?_
    refine j_getr d_Th_share_25 f_Th_9 rfl rfl (by decide) rfl ?_
    refine j_iload_n d_Th_share_28 rfl rfl ?_
    refine q_i s_Th_share_29 rfl (Nat.le_of_ble_eq_true rfl) (Nat.le_of_ble_eq_true rfl) ?_
    refine c_Ra_av (j := x) rfl (by decide) rfl (by omega) hWx ?_
    refine j_imul d_Th_share_32 ?_
    refine j_aload_n d_Th_share_33 rfl rfl ?_
    refine j_getr d_Th_share_34 f_Th_15 rfl rfl (by decide) rfl ?_
    refine j_iload_n d_Th_share_37 rfl rfl ?_
    refine q_i s_Th_share_38 rfl (Nat.le_of_ble_eq_true rfl) (Nat.le_of_ble_eq_true rfl) ?_
    refine c_Ra_av (j := i) rfl (by decide) rfl (by omega) hLi ?_
    refine j_aload_n d_Th_share_41 rfl rfl ?_
    refine j_getr d_Th_share_42 f_Th_15 rfl rfl (by decide) rfl ?_
    refine j_iload_n d_Th_share_45 rfl rfl ?_
    refine q_i s_Th_share_46 rfl (Nat.le_of_ble_eq_true rfl) (Nat.le_of_ble_eq_true rfl) ?_
    refine c_Ra_av (j := x) rfl (by decide) rfl (by omega) hLx ?_
    refine j_isub d_Th_share_49 ?_
    refine q_i s_Th_share_50 rfl (Nat.le_of_ble_eq_true rfl) (Nat.le_of_ble_eq_true rfl) ?_
    refine c_Jm_abs ?_
    rw [a_dsI (by omega) (by omega)]
    refine j_imul d_Th_share_53 ?_
    refine j_iadd d_Th_share_54 ?_
    refine j_istore_n (ls' := [(2, _), (0, _), (1, _), (3, _)]) d_Th_share_55 rfl (by decide) rfl ?_
    refine j_iinc (ls' := [(3, _), (2, _), (0, _), (1, _)]) d_Th_share_56 rfl (by decide) rfl ?_
    refine j_goto (tgt := 4) d_Th_share_59 rfl ?_
    refine j_pick [2, 3, 1, 0] (ls' := [(0, _), (1, _), (2, _), (3, _)]) rfl ?_
    refine ih (i + 1) _ _ (by omega) (nI_inc i) ?_
    rw [hs, pk_mul, pk_mul, nI_add, a_sh]
set_option maxRecDepth 100000 in
set_option maxHeartbeats 4000000 in
theorem c_Th_share {G : r_X} {d : Nat} {h : r_HI} {p q : Nat} {z : r_HL} {F : Int32 → r_HI → r_HR → r_HL → Prop} {wt : Nat → Nat} (hW : p_W h 11 wt) (hw : a_wok wt) {ly : Nat → Nat} {x : Nat} (hx : x < 6) (hL : ∀ j, j ≤ x → h 13 j = nI (ly j) ∧ ly j < 6) {a1 : Int32} (e1 : a1 = nI x) (hF : F (nI (a_sh wt ly x x)) h (r_gp p q) z) : r_Ci G m_Th_share (d + 1) 61 [.ref (G.2.1 + 11), .int a1] 61 h (r_gp p q) z F := by
  subst e1
  refine r_C_of (by decide +kernel) (Nat.le_of_ble_eq_true rfl) ?_
  refine j_ls (ls' := [(0, _), (1, _)]) rfl ?_
  refine j_iconst (v := 0) d_Th_share_0 rfl ?_
  refine j_istore_n (ls' := [(2, _), (0, _), (1, _)]) d_Th_share_1 rfl (by decide) rfl ?_
  refine j_iconst (v := 0) d_Th_share_2 rfl ?_
  refine j_istore_n (ls' := [(3, _), (2, _), (0, _), (1, _)]) d_Th_share_3 rfl (by decide) rfl ?_
  refine j_pick [2, 3, 1, 0] (ls' := [(0, _), (1, _), (2, _), (3, _)]) rfl ?_
  exact l_Th_share hW hw hx hL hF x 0 _ _ (by omega) rfl rfl
