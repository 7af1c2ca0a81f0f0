set_option maxRecDepth 100000 in
set_option maxHeartbeats 4000000 in
theorem c_Jm_abs {G : r_X} {d : Nat} {h : r_HI} {g : r_HR} {z : r_HL} {F : Int32 → r_HI → r_HR → r_HL → Prop} {x : Int32} (hF : F (if 0 ≤ x then x else -x) h g z) : r_Ci G m_Jm_abs (d) 61 [.int x] 61 h g z F := by
  refine r_C_ofF (by decide +kernel) (Nat.le_of_ble_eq_true rfl) ?_
  refine j_ls (ls' := [(0, _)]) rfl ?_
  refine j_iload_n d_Jm_abs_0 rfl rfl ?_
  refine j_if_ge (tgt := 9) d_Jm_abs_1 rfl (fun c1 => ?_) (fun c1 => ?_)
  · refine j_iload_n d_Jm_abs_9 rfl rfl ?_
    refine j_iret d_Jm_abs_10 rfl ?_
    exact ⟨_, rfl, by first | (rw [if_pos (by assumption)] at hF; exact hF) | (rw [if_neg (by assumption)] at hF; exact hF)⟩
  · refine j_iload_n d_Jm_abs_4 rfl rfl ?_
    refine j_ineg d_Jm_abs_5 ?_
    refine j_goto (tgt := 10) d_Jm_abs_6 rfl ?_
    refine j_iret d_Jm_abs_10 rfl ?_
    exact ⟨_, rfl, by first | (rw [if_pos (by assumption)] at hF; exact hF) | (rw [if_neg (by assumption)] at hF; exact hF)⟩
set_option maxRecDepth 100000 in
set_option maxHeartbeats 4000000 in
theorem c_Jm_max {G : r_X} {d : Nat} {h : r_HI} {g : r_HR} {z : r_HL} {F : Int32 → r_HI → r_HR → r_HL → Prop} {x y : Int32} (hF : F (if x < y then y else x) h g z) : r_Ci G m_Jm_max (d) 61 [.int x, .int y] 61 h g z F := by
  refine r_C_ofF (by decide +kernel) (Nat.le_of_ble_eq_true rfl) ?_
  refine j_ls (ls' := [(0, _), (1, _)]) rfl ?_
  refine j_iload_n d_Jm_max_0 rfl rfl ?_
  refine j_iload_n d_Jm_max_1 rfl rfl ?_
  refine j_icmp_lt (tgt := 9) d_Jm_max_2 rfl (fun c1 => ?_) (fun c1 => ?_)
  · refine j_iload_n d_Jm_max_9 rfl rfl ?_
    refine j_iret d_Jm_max_10 rfl ?_
    exact ⟨_, rfl, by first | (rw [if_pos (by assumption)] at hF; exact hF) | (rw [if_neg (by assumption)] at hF; exact hF)⟩
  · refine j_iload_n d_Jm_max_5 rfl rfl ?_
    refine j_goto (tgt := 10) d_Jm_max_6 rfl ?_
    refine j_iret d_Jm_max_10 rfl ?_
    exact ⟨_, rfl, by first | (rw [if_pos (by assumption)] at hF; exact hF) | (rw [if_neg (by assumption)] at hF; exact hF)⟩
set_option maxRecDepth 100000 in
set_option maxHeartbeats 4000000 in
theorem c_Jm_min {G : r_X} {d : Nat} {h : r_HI} {g : r_HR} {z : r_HL} {F : Int32 → r_HI → r_HR → r_HL → Prop} {x y : Int32} (hF : F (if y < x then y else x) h g z) : r_Ci G m_Jm_min (d) 61 [.int x, .int y] 61 h g z F := by
  refine r_C_ofF (by decide +kernel) (Nat.le_of_ble_eq_true rfl) ?_
  refine j_ls (ls' := [(0, _), (1, _)]) rfl ?_
  refine j_iload_n d_Jm_min_0 rfl rfl ?_
  refine j_iload_n d_Jm_min_1 rfl rfl ?_
  refine j_icmp_gt (tgt := 9) d_Jm_min_2 rfl (fun c1 => ?_) (fun c1 => ?_)
  · refine j_iload_n d_Jm_min_9 rfl rfl ?_
    refine j_iret d_Jm_min_10 rfl ?_
    exact ⟨_, rfl, by first | (rw [if_pos (by assumption)] at hF; exact hF) | (rw [if_neg (by assumption)] at hF; exact hF)⟩
  · refine j_iload_n d_Jm_min_5 rfl rfl ?_
    refine j_goto (tgt := 10) d_Jm_min_6 rfl ?_
    refine j_iret d_Jm_min_10 rfl ?_
    exact ⟨_, rfl, by first | (rw [if_pos (by assumption)] at hF; exact hF) | (rw [if_neg (by assumption)] at hF; exact hF)⟩
