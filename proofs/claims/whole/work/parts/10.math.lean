theorem fb_rng0 (x : Int32) : -2147483648 ≤ x.toInt ∧ x.toInt < 2147483648 := ⟨Int32.le_toInt x, Int32.toInt_lt x⟩
theorem iI_div {a b : Int} (h1 : -2147483648 ≤ a) (h2 : a < 2147483648) (h3 : -2147483648 ≤ b) (h4 : b < 2147483648) (hb : b ≠ -1) : iI a / iI b = iI (a.tdiv b) := by
  have hb' : iI b ≠ -1 := by
    intro e
    exact hb ((iI_eq h3 h4 (by decide) (by decide)).mp (e.trans iI_m1))
  have e := Int32.toInt_div_of_ne_right (iI a) (iI b) hb'
  rw [iI_to h1 h2, iI_to h3 h4] at e
  rw [iI_of (iI a / iI b), e]
theorem iI_rem {a b : Int} (h1 : -2147483648 ≤ a) (h2 : a < 2147483648) (h3 : -2147483648 ≤ b) (h4 : b < 2147483648) (hb : b ≠ -1) : iI a - iI a / iI b * iI b = iI (a.tmod b) := by
  rw [iI_div h1 h2 h3 h4 hb, iI_mul, iI_sub]
  congr 1
  rw [Int.tmod_def, Int.mul_comm]
theorem iI_xor {x : Int32} : 0 ≤ x ^^^ 24 ↔ 0 ≤ x := by
  have key : ∀ y : Int32, 0 ≤ y ↔ y.toBitVec.msb = false := by
    intro y
    rw [Int32.le_iff_toInt_le]
    show (0 : Int) ≤ y.toBitVec.toInt ↔ _
    rw [BitVec.msb_eq_toInt]
    simp
  rw [key, key, Int32.toBitVec_xor, BitVec.msb_xor]
  have e : (24 : Int32).toBitVec.msb = false := by decide
  rw [e]
  simp
theorem fm24 {x : Int32} (c1 : 0 ≤ x ^^^ 24) : x - x / 24 * 24 = iI (x.toInt % 24) := by
  have hx := iI_xor.mp c1
  have h2 := fb_rng0 x
  rw [Int32.le_iff_toInt_le] at hx
  have hx : (0 : Int) ≤ x.toInt := hx
  generalize hz : x.toInt = a at *
  have ex : x = iI a := by rw [← hz]; exact iI_of x
  rw [ex, iI_lit 24, iI_rem (by omega) (by omega) (by decide) (by decide) (by decide), Int.tmod_eq_emod_of_nonneg hx]
  rfl
theorem fm24n {x : Int32} (c1 : ¬ 0 ≤ x ^^^ 24) : (x - x / 24 * 24 = 0 → x - x / 24 * 24 = iI (x.toInt % 24)) ∧ (¬ x - x / 24 * 24 = 0 → x - x / 24 * 24 + 24 = iI (x.toInt % 24)) := by
  have hx : ¬ 0 ≤ x := fun q => c1 (iI_xor.mpr q)
  have h2 := fb_rng0 x
  rw [Int32.le_iff_toInt_le] at hx
  have hx : ¬ (0 : Int) ≤ x.toInt := hx
  generalize hz : x.toInt = a at *
  have ex : x = iI a := by rw [← hz]; exact iI_of x
  have er : x - x / 24 * 24 = iI (a.tmod 24) := by
    rw [ex, iI_lit 24]
    exact iI_rem (by omega) (by omega) (by decide) (by decide) (by decide)
  have hm : a.tmod 24 = -((-a) % 24) := by
    rw [← Int.tmod_eq_emod_of_nonneg (by omega), Int.neg_tmod, Int.neg_neg]
  rw [er]
  constructor
  · intro h0
    have : a.tmod 24 = 0 := (iI_eq (b := 0) (by omega) (by omega) (by decide) (by decide)).mp h0
    rw [this]
    congr 1
    omega
  · intro h0
    have : a.tmod 24 ≠ 0 := fun q => h0 (by rw [q]; rfl)
    rw [iI_lit 24, iI_add]
    congr 1
    omega
set_option maxRecDepth 100000 in
set_option maxHeartbeats 4000000 in
theorem c_Jm_abs {G : r_X} {d : Nat} {h : r_HI} {g : r_HR} {z : r_HL} {F : Int32 → r_HI → r_HR → r_HL → Prop} {x : Int32} (hF : F (if 0 ≤ x then x else -x) h g z) : r_Ci G m_Jm_abs (d) 61 [.int x] 61 h g z F := by
  refine r_C_ofF (by decide +kernel) (Nat.le_of_ble_eq_true rfl) ?_
  refine j_ls (ls' := [(0, _)]) rfl ?_
  refine j_iload_n d_Jm_abs_0 rfl rfl ?_
  refine j_if_ge (tgt := 9) d_Jm_abs_1 rfl (fun bq1 => ?_) (fun bq1 => ?_)
  · refine j_iload_n d_Jm_abs_9 rfl rfl ?_
    refine j_iret d_Jm_abs_10 rfl ?_
    exact ⟨_, rfl, by first | (rw [if_pos (by assumption)] at hF; exact hF) | (rw [if_neg (by assumption)] at hF; exact hF)⟩
  · refine j_iload_n d_Jm_abs_4 rfl rfl ?_
    refine j_ineg d_Jm_abs_5 ?_
    refine j_goto (tgt := 10) d_Jm_abs_6 rfl ?_
    refine j_iret d_Jm_abs_10 rfl ?_
    exact ⟨_, rfl, by first | (rw [if_pos (by assumption)] at hF; exact hF) | (rw [if_neg (by assumption)] at hF; exact hF)⟩
set_option maxRecDepth 100000 in
set_option maxHeartbeats 4000000 in
theorem c_Jm_max {G : r_X} {d : Nat} {h : r_HI} {g : r_HR} {z : r_HL} {F : Int32 → r_HI → r_HR → r_HL → Prop} {x y : Int32} (hF : F (if x < y then y else x) h g z) : r_Ci G m_Jm_max (d) 61 [.int x, .int y] 61 h g z F := by
  refine r_C_ofF (by decide +kernel) (Nat.le_of_ble_eq_true rfl) ?_
  refine j_ls (ls' := [(0, _), (1, _)]) rfl ?_
  refine j_iload_n d_Jm_max_0 rfl rfl ?_
  refine j_iload_n d_Jm_max_1 rfl rfl ?_
  refine j_icmp_lt (tgt := 9) d_Jm_max_2 rfl (fun bq1 => ?_) (fun bq1 => ?_)
  · refine j_iload_n d_Jm_max_9 rfl rfl ?_
    refine j_iret d_Jm_max_10 rfl ?_
    exact ⟨_, rfl, by first | (rw [if_pos (by assumption)] at hF; exact hF) | (rw [if_neg (by assumption)] at hF; exact hF)⟩
  · refine j_iload_n d_Jm_max_5 rfl rfl ?_
    refine j_goto (tgt := 10) d_Jm_max_6 rfl ?_
    refine j_iret d_Jm_max_10 rfl ?_
    exact ⟨_, rfl, by first | (rw [if_pos (by assumption)] at hF; exact hF) | (rw [if_neg (by assumption)] at hF; exact hF)⟩
set_option maxRecDepth 100000 in
set_option maxHeartbeats 4000000 in
theorem c_Jm_min {G : r_X} {d : Nat} {h : r_HI} {g : r_HR} {z : r_HL} {F : Int32 → r_HI → r_HR → r_HL → Prop} {x y : Int32} (hF : F (if y < x then y else x) h g z) : r_Ci G m_Jm_min (d) 61 [.int x, .int y] 61 h g z F := by
  refine r_C_ofF (by decide +kernel) (Nat.le_of_ble_eq_true rfl) ?_
  refine j_ls (ls' := [(0, _), (1, _)]) rfl ?_
  refine j_iload_n d_Jm_min_0 rfl rfl ?_
  refine j_iload_n d_Jm_min_1 rfl rfl ?_
  refine j_icmp_gt (tgt := 9) d_Jm_min_2 rfl (fun bq1 => ?_) (fun bq1 => ?_)
  · refine j_iload_n d_Jm_min_9 rfl rfl ?_
    refine j_iret d_Jm_min_10 rfl ?_
    exact ⟨_, rfl, by first | (rw [if_pos (by assumption)] at hF; exact hF) | (rw [if_neg (by assumption)] at hF; exact hF)⟩
  · refine j_iload_n d_Jm_min_5 rfl rfl ?_
    refine j_goto (tgt := 10) d_Jm_min_6 rfl ?_
    refine j_iret d_Jm_min_10 rfl ?_
    exact ⟨_, rfl, by first | (rw [if_pos (by assumption)] at hF; exact hF) | (rw [if_neg (by assumption)] at hF; exact hF)⟩
set_option maxRecDepth 100000 in
set_option maxHeartbeats 4000000 in
theorem c_Jm_floorMod {G : r_X} {d : Nat} {h : r_HI} {g : r_HR} {z : r_HL} {F : Int32 → r_HI → r_HR → r_HL → Prop} {x : Int32} (hF : F (iI (x.toInt % 24)) h g z) : r_Ci G m_Jm_floorMod (d) 61 [.int x, .int 24] 61 h g z F := by
  refine r_C_ofF (by decide +kernel) (Nat.le_of_ble_eq_true rfl) ?_
  refine j_ls (ls' := [(0, _), (1, _)]) rfl ?_
  refine j_iload_n d_Jm_floorMod_0 rfl rfl ?_
  refine j_iload_n d_Jm_floorMod_1 rfl rfl ?_
  refine j_irem d_Jm_floorMod_2 (by decide) ?_
  refine j_istore_n (ls' := [(2, _), (0, _), (1, _)]) d_Jm_floorMod_3 rfl (by decide) rfl ?_
  refine j_iload_n d_Jm_floorMod_4 rfl rfl ?_
  refine j_iload_n d_Jm_floorMod_5 rfl rfl ?_
  refine j_ixor d_Jm_floorMod_6 ?_
  refine j_if_ge (tgt := 18) d_Jm_floorMod_7 rfl (fun bq1 => ?_) (fun bq1 => ?_)
  · refine j_iload_n d_Jm_floorMod_18 rfl rfl ?_
    refine j_iret d_Jm_floorMod_19 rfl ?_
    exact q_i1 hF (by first | exact fm24 bq1 | exact (fm24n bq1).1 bq2 | exact (fm24n bq1).2 bq2)
  · refine j_iload_n d_Jm_floorMod_10 rfl rfl ?_
    refine j_if_eq (tgt := 18) d_Jm_floorMod_11 rfl (fun bq2 => ?_) (fun bq2 => ?_)
    · refine j_iload_n d_Jm_floorMod_18 rfl rfl ?_
      refine j_iret d_Jm_floorMod_19 rfl ?_
      exact q_i1 hF (by first | exact fm24 bq1 | exact (fm24n bq1).1 bq2 | exact (fm24n bq1).2 bq2)
    · refine j_iload_n d_Jm_floorMod_14 rfl rfl ?_
      refine j_iload_n d_Jm_floorMod_15 rfl rfl ?_
      refine j_iadd d_Jm_floorMod_16 ?_
      refine j_iret d_Jm_floorMod_17 rfl ?_
      exact q_i1 hF (by first | exact fm24 bq1 | exact (fm24n bq1).1 bq2 | exact (fm24n bq1).2 bq2)
