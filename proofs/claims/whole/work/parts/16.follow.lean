theorem s_pick_all_Dk_followAll_19 {G : r_X} {h : r_HI} {g : r_HR} {z : r_HL} {P : Nat} {v0 : Value} (hP : r_pol P) : r_cl G m_Dk_followAll m_Fi_pick 19 [.ref (G.2.1 + P), v0] 61 h g z := by
  rcases hP.cases with rfl | rfl | rfl | rfl | rfl | rfl
  · exact s_Dk_followAll_19_Fi rfl (by decide)
  · exact s_Dk_followAll_19_Ne rfl (by decide)
  · exact s_Dk_followAll_19_Sw rfl (by decide)
  · exact s_Dk_followAll_19_Ro rfl (by decide)
  · exact s_Dk_followAll_19_So rfl (by decide)
  · exact s_Dk_followAll_19_Fi rfl (by decide)
theorem s_pick_all_Ra_next_18 {G : r_X} {h : r_HI} {g : r_HR} {z : r_HL} {P : Nat} {v0 : Value} (hP : r_pol P) : r_cl G m_Ra_next m_Fi_pick 18 [.ref (G.2.1 + P), v0] 61 h g z := by
  rcases hP.cases with rfl | rfl | rfl | rfl | rfl | rfl
  · exact s_Ra_next_18_Fi rfl (by decide)
  · exact s_Ra_next_18_Ne rfl (by decide)
  · exact s_Ra_next_18_Sw rfl (by decide)
  · exact s_Ra_next_18_Ro rfl (by decide)
  · exact s_Ra_next_18_So rfl (by decide)
  · exact s_Ra_next_18_Fi rfl (by decide)
theorem s_pick_all_Ra_serve_28 {G : r_X} {h : r_HI} {g : r_HR} {z : r_HL} {P : Nat} {v0 : Value} (hP : r_pol P) : r_cl G m_Ra_serve m_Fi_pick 28 [.ref (G.2.1 + P), v0] 61 h g z := by
  rcases hP.cases with rfl | rfl | rfl | rfl | rfl | rfl
  · exact s_Ra_serve_28_Fi rfl (by decide)
  · exact s_Ra_serve_28_Ne rfl (by decide)
  · exact s_Ra_serve_28_Sw rfl (by decide)
  · exact s_Ra_serve_28_Ro rfl (by decide)
  · exact s_Ra_serve_28_So rfl (by decide)
  · exact s_Ra_serve_28_Fi rfl (by decide)
theorem s_pick_all_Ra_mixChoices_22 {G : r_X} {h : r_HI} {g : r_HR} {z : r_HL} {P : Nat} {v0 : Value} (hP : r_pol P) : r_cl G m_Ra_mixChoices m_Fi_pick 22 [.ref (G.2.1 + P), v0] 61 h g z := by
  rcases hP.cases with rfl | rfl | rfl | rfl | rfl | rfl
  · exact s_Ra_mixChoices_22_Fi rfl (by decide)
  · exact s_Ra_mixChoices_22_Ne rfl (by decide)
  · exact s_Ra_mixChoices_22_Sw rfl (by decide)
  · exact s_Ra_mixChoices_22_Ro rfl (by decide)
  · exact s_Ra_mixChoices_22_So rfl (by decide)
  · exact s_Ra_mixChoices_22_Fi rfl (by decide)
theorem s_pick_all_Ra_playDays_106 {G : r_X} {h : r_HI} {g : r_HR} {z : r_HL} {P : Nat} {v0 : Value} (hP : r_pol P) : r_cl G m_Ra_playDays m_Fi_pick 106 [.ref (G.2.1 + P), v0] 61 h g z := by
  rcases hP.cases with rfl | rfl | rfl | rfl | rfl | rfl
  · exact s_Ra_playDays_106_Fi rfl (by decide)
  · exact s_Ra_playDays_106_Ne rfl (by decide)
  · exact s_Ra_playDays_106_Sw rfl (by decide)
  · exact s_Ra_playDays_106_Ro rfl (by decide)
  · exact s_Ra_playDays_106_So rfl (by decide)
  · exact s_Ra_playDays_106_Fi rfl (by decide)
theorem a_tw_le {K : a_K} {kd i : Nat} (h : K.2.2.1 ≤ 1) : a_tw K kd i ≤ 1 := by
  unfold a_tw
  split <;> omega
theorem a_kw_ok {D : a_D} {K : a_K} {w : Nat} (hk : a_kok D K) (hw : w ≤ 1) : a_kok D (K.1, K.2.1, w, K.2.2.2) := ⟨hk.1, hw, hk.2.2.1, hk.2.2.2⟩
set_option maxRecDepth 100000 in
set_option maxHeartbeats 4000000 in
theorem t_turns_7 {G : r_X} {d : Nat} {h : r_HI} {p q : Nat} {z : r_HL} {X : State → Prop} {Z : List Frame → Array Value → State → State → Prop} {ls : List (Nat × Value)} {D : a_D} (hD : p_D h 3 D) (ho : a_dok D) {K : a_K} (hK : p_K h 7 K) (hk : a_kok D K) {P i : Nat} (hP : r_pol P) (hi : i < K.2.2.2.1) (kk : r_T G m_Dk_follow (r_rm (d + 3) 61 61) 61 X Z 6 ls [.int (if r_kd P = 2 ∧ a_ah K i = false then 1 else 0)] 61 h (r_gp p q) z) : r_T G m_Dk_follow (r_rm (d + 3) 61 61) 61 X Z 3 ls [.int (nI i), .ref (G.2.1 + 7), .ref (G.2.1 + P)] 61 h (r_gp p q) z := by
  rcases hP.cases with rfl | rfl | rfl | rfl | rfl | rfl
  · refine q_i (s_Dk_follow_3_Fi rfl (by decide)) rfl (Nat.le_of_ble_eq_true rfl) (Nat.le_of_ble_eq_true rfl) ?_
    exact c_Fi_turns kk
  · refine q_i (s_Dk_follow_3_Ne rfl (by decide)) rfl (Nat.le_of_ble_eq_true rfl) (Nat.le_of_ble_eq_true rfl) ?_
    exact c_Fi_turns kk
  · refine q_i (s_Dk_follow_3_Sw rfl (by decide)) rfl (Nat.le_of_ble_eq_true rfl) (Nat.le_of_ble_eq_true rfl) ?_
    refine c_Sw_turns_7 hD ho hK hk hi rfl ?_
    have e9 : (if a_ah K i = true then (0 : Int32) else 1) = (if r_kd 21 = 2 ∧ a_ah K i = false then 1 else 0) := by
      cases a_ah K i <;> rfl
    rw [e9]
    exact kk
  · refine q_i (s_Dk_follow_3_Ro rfl (by decide)) rfl (Nat.le_of_ble_eq_true rfl) (Nat.le_of_ble_eq_true rfl) ?_
    exact c_Ro_turns kk
  · refine q_i (s_Dk_follow_3_So rfl (by decide)) rfl (Nat.le_of_ble_eq_true rfl) (Nat.le_of_ble_eq_true rfl) ?_
    exact c_Fi_turns kk
  · refine q_i (s_Dk_follow_3_Fi rfl (by decide)) rfl (Nat.le_of_ble_eq_true rfl) (Nat.le_of_ble_eq_true rfl) ?_
    exact c_Fi_turns kk
set_option maxRecDepth 100000 in
set_option maxHeartbeats 4000000 in
theorem c_Dk_follow_7 {G : r_X} {d : Nat} {h : r_HI} {p q : Nat} {z : r_HL} {F : r_HI → r_HR → r_HL → Prop} {D : a_D} (hD : p_D h 3 D) (ho : a_dok D) {K : a_K} (hK : p_K h 7 K) (hk : a_kok D K) {P i : Nat} {a1 : Int32} (hP : r_pol P) (ht : K.1 < 2 ^ 27) (hi : i < K.2.2.2.1) (e1 : a1 = nI i) (hF : ∀ h', r_ex [7, 8, 9, 10] h h' → p_K h' 7 (a_fo D K (r_kd P) i) → h' 7 8 = h 7 8 + nI (a_wt D K i) → F h' (r_gp p q) z) : r_Cv G m_Dk_follow (d + 3) 61 [.ref (G.2.1 + 7), .ref (G.2.1 + P), .int a1] 61 h (r_gp p q) z F := by
  subst e1
  have hw1 := hk.2.1
  refine r_C_of (by decide +kernel) (Nat.le_of_ble_eq_true rfl) ?_
  refine j_ls (ls' := [(0, _), (1, _), (2, _)]) rfl ?_
  refine j_aload_n d_Dk_follow_0 rfl rfl ?_
  refine j_aload_n d_Dk_follow_1 rfl rfl ?_
  refine j_iload_n d_Dk_follow_2 rfl rfl ?_
  refine t_turns_7 hD ho hK hk hP hi ?_
  refine j_if_eq (tgt := 25) d_Dk_follow_6 rfl (fun bq1 => ?_) (fun bq1 => ?_)
  · refine j_aload_n d_Dk_follow_25 rfl rfl ?_
    refine j_iload_n d_Dk_follow_26 rfl rfl ?_
    refine q_v (s_Dk_follow_27 rfl (by decide)) rfl (Nat.le_of_ble_eq_true rfl) (Nat.le_of_ble_eq_true rfl) ?_
    first
      | (have e9 : a_tw K (r_kd P) i = K.2.2.1 := if_neg (t10.mp bq1)
         refine c_Dk_finish_7 hD ho hK hk ht hi rfl (fun h' e1 e2 e3 => ?_)
         refine j_vret d_Dk_follow_30 rfl ?_
         refine ⟨rfl, hF h' e1 ?_ e3⟩
         show p_K h' 7 (a_fin D (K.1, K.2.1, a_tw K (r_kd P) i, K.2.2.2) i)
         rw [e9]
         exact e2)
      | (have e9 : a_tw K (r_kd P) i = 1 - K.2.2.1 := if_pos (Decidable.byContradiction (fun e8 => bq1 (t10.mpr e8)))
         rw [hK.2.2.2.1] at bq2
         have e7 : ¬ K.2.2.1 = 0 := fun e8 => bq2 (by rw [e8]; rfl)
         have hD1 : p_D (r_up h 7 7 0) 3 D := hD.ex (A := [7]) (r_ex.rf.up (by decide)) (by decide) (by decide) (by decide) (by decide)
         have hK1 : p_K (r_up h 7 7 0) 7 (K.1, K.2.1, a_tw K (r_kd P) i, K.2.2.2) := ⟨hK.1, hK.2.1, hK.2.2.1, (show (0 : Int32) = nI (a_tw K (r_kd P) i) by rw [e9, show 1 - K.2.2.1 = 0 by omega]; rfl), hK.2.2.2.2⟩
         refine c_Dk_finish_7 (K := (K.1, K.2.1, a_tw K (r_kd P) i, K.2.2.2)) hD1 ho hK1 (a_kw_ok hk (a_tw_le hk.2.1)) ht hi rfl (fun h' e1 e2 e3 => ?_)
         refine j_vret d_Dk_follow_30 rfl ?_
         exact ⟨rfl, hF h' (r_ex.tr (r_ex.rf.up (by decide)) e1 (fun _ q => q)) e2 e3⟩)
      | (have e9 : a_tw K (r_kd P) i = 1 - K.2.2.1 := if_pos (Decidable.byContradiction (fun e8 => bq1 (t10.mpr e8)))
         rw [hK.2.2.2.1] at bq2
         have e7 : K.2.2.1 = 0 := (nI_eq (b := 0) (by omega) (by omega)).mp bq2
         have hD1 : p_D (r_up h 7 7 1) 3 D := hD.ex (A := [7]) (r_ex.rf.up (by decide)) (by decide) (by decide) (by decide) (by decide)
         have hK1 : p_K (r_up h 7 7 1) 7 (K.1, K.2.1, a_tw K (r_kd P) i, K.2.2.2) := ⟨hK.1, hK.2.1, hK.2.2.1, (show (1 : Int32) = nI (a_tw K (r_kd P) i) by rw [e9, e7]; rfl), hK.2.2.2.2⟩
         refine c_Dk_finish_7 (K := (K.1, K.2.1, a_tw K (r_kd P) i, K.2.2.2)) hD1 ho hK1 (a_kw_ok hk (a_tw_le hk.2.1)) ht hi rfl (fun h' e1 e2 e3 => ?_)
         refine j_vret d_Dk_follow_30 rfl ?_
         exact ⟨rfl, hF h' (r_ex.tr (r_ex.rf.up (by decide)) e1 (fun _ q => q)) e2 e3⟩)
  · refine j_aload_n d_Dk_follow_9 rfl rfl ?_
    refine j_aload_n d_Dk_follow_10 rfl rfl ?_
    refine j_getz d_Dk_follow_11 f_Dk_31 rfl rfl (by decide) ?_
    refine j_if_ne (tgt := 21) d_Dk_follow_14 rfl (fun bq2 => ?_) (fun bq2 => ?_)
    · refine j_iconst (v := 0) d_Dk_follow_21 rfl ?_
      refine j_putz d_Dk_follow_22 f_Dk_31 (by decide) rfl rfl (by decide) (by decide) ?_
      refine j_aload_n d_Dk_follow_25 rfl rfl ?_
      refine j_iload_n d_Dk_follow_26 rfl rfl ?_
      refine q_v (s_Dk_follow_27 rfl (by decide)) rfl (Nat.le_of_ble_eq_true rfl) (Nat.le_of_ble_eq_true rfl) ?_
      first
        | (have e9 : a_tw K (r_kd P) i = K.2.2.1 := if_neg (t10.mp bq1)
           refine c_Dk_finish_7 hD ho hK hk ht hi rfl (fun h' e1 e2 e3 => ?_)
           refine j_vret d_Dk_follow_30 rfl ?_
           refine ⟨rfl, hF h' e1 ?_ e3⟩
           show p_K h' 7 (a_fin D (K.1, K.2.1, a_tw K (r_kd P) i, K.2.2.2) i)
           rw [e9]
           exact e2)
        | (have e9 : a_tw K (r_kd P) i = 1 - K.2.2.1 := if_pos (Decidable.byContradiction (fun e8 => bq1 (t10.mpr e8)))
           rw [hK.2.2.2.1] at bq2
           have e7 : ¬ K.2.2.1 = 0 := fun e8 => bq2 (by rw [e8]; rfl)
           have hD1 : p_D (r_up h 7 7 0) 3 D := hD.ex (A := [7]) (r_ex.rf.up (by decide)) (by decide) (by decide) (by decide) (by decide)
           have hK1 : p_K (r_up h 7 7 0) 7 (K.1, K.2.1, a_tw K (r_kd P) i, K.2.2.2) := ⟨hK.1, hK.2.1, hK.2.2.1, (show (0 : Int32) = nI (a_tw K (r_kd P) i) by rw [e9, show 1 - K.2.2.1 = 0 by omega]; rfl), hK.2.2.2.2⟩
           refine c_Dk_finish_7 (K := (K.1, K.2.1, a_tw K (r_kd P) i, K.2.2.2)) hD1 ho hK1 (a_kw_ok hk (a_tw_le hk.2.1)) ht hi rfl (fun h' e1 e2 e3 => ?_)
           refine j_vret d_Dk_follow_30 rfl ?_
           exact ⟨rfl, hF h' (r_ex.tr (r_ex.rf.up (by decide)) e1 (fun _ q => q)) e2 e3⟩)
        | (have e9 : a_tw K (r_kd P) i = 1 - K.2.2.1 := if_pos (Decidable.byContradiction (fun e8 => bq1 (t10.mpr e8)))
           rw [hK.2.2.2.1] at bq2
           have e7 : K.2.2.1 = 0 := (nI_eq (b := 0) (by omega) (by omega)).mp bq2
           have hD1 : p_D (r_up h 7 7 1) 3 D := hD.ex (A := [7]) (r_ex.rf.up (by decide)) (by decide) (by decide) (by decide) (by decide)
           have hK1 : p_K (r_up h 7 7 1) 7 (K.1, K.2.1, a_tw K (r_kd P) i, K.2.2.2) := ⟨hK.1, hK.2.1, hK.2.2.1, (show (1 : Int32) = nI (a_tw K (r_kd P) i) by rw [e9, e7]; rfl), hK.2.2.2.2⟩
           refine c_Dk_finish_7 (K := (K.1, K.2.1, a_tw K (r_kd P) i, K.2.2.2)) hD1 ho hK1 (a_kw_ok hk (a_tw_le hk.2.1)) ht hi rfl (fun h' e1 e2 e3 => ?_)
           refine j_vret d_Dk_follow_30 rfl ?_
           exact ⟨rfl, hF h' (r_ex.tr (r_ex.rf.up (by decide)) e1 (fun _ q => q)) e2 e3⟩)
    · refine j_iconst (v := 1) d_Dk_follow_17 rfl ?_
      refine j_goto (tgt := 22) d_Dk_follow_18 rfl ?_
      refine j_putz d_Dk_follow_22 f_Dk_31 (by decide) rfl rfl (by decide) (by decide) ?_
      refine j_aload_n d_Dk_follow_25 rfl rfl ?_
      refine j_iload_n d_Dk_follow_26 rfl rfl ?_
      refine q_v (s_Dk_follow_27 rfl (by decide)) rfl (Nat.le_of_ble_eq_true rfl) (Nat.le_of_ble_eq_true rfl) ?_
      first
        | (have e9 : a_tw K (r_kd P) i = K.2.2.1 := if_neg (t10.mp bq1)
           refine c_Dk_finish_7 hD ho hK hk ht hi rfl (fun h' e1 e2 e3 => ?_)
           refine j_vret d_Dk_follow_30 rfl ?_
           refine ⟨rfl, hF h' e1 ?_ e3⟩
           show p_K h' 7 (a_fin D (K.1, K.2.1, a_tw K (r_kd P) i, K.2.2.2) i)
           rw [e9]
           exact e2)
        | (have e9 : a_tw K (r_kd P) i = 1 - K.2.2.1 := if_pos (Decidable.byContradiction (fun e8 => bq1 (t10.mpr e8)))
           rw [hK.2.2.2.1] at bq2
           have e7 : ¬ K.2.2.1 = 0 := fun e8 => bq2 (by rw [e8]; rfl)
           have hD1 : p_D (r_up h 7 7 0) 3 D := hD.ex (A := [7]) (r_ex.rf.up (by decide)) (by decide) (by decide) (by decide) (by decide)
           have hK1 : p_K (r_up h 7 7 0) 7 (K.1, K.2.1, a_tw K (r_kd P) i, K.2.2.2) := ⟨hK.1, hK.2.1, hK.2.2.1, (show (0 : Int32) = nI (a_tw K (r_kd P) i) by rw [e9, show 1 - K.2.2.1 = 0 by omega]; rfl), hK.2.2.2.2⟩
           refine c_Dk_finish_7 (K := (K.1, K.2.1, a_tw K (r_kd P) i, K.2.2.2)) hD1 ho hK1 (a_kw_ok hk (a_tw_le hk.2.1)) ht hi rfl (fun h' e1 e2 e3 => ?_)
           refine j_vret d_Dk_follow_30 rfl ?_
           exact ⟨rfl, hF h' (r_ex.tr (r_ex.rf.up (by decide)) e1 (fun _ q => q)) e2 e3⟩)
        | (have e9 : a_tw K (r_kd P) i = 1 - K.2.2.1 := if_pos (Decidable.byContradiction (fun e8 => bq1 (t10.mpr e8)))
           rw [hK.2.2.2.1] at bq2
           have e7 : K.2.2.1 = 0 := (nI_eq (b := 0) (by omega) (by omega)).mp bq2
           have hD1 : p_D (r_up h 7 7 1) 3 D := hD.ex (A := [7]) (r_ex.rf.up (by decide)) (by decide) (by decide) (by decide) (by decide)
           have hK1 : p_K (r_up h 7 7 1) 7 (K.1, K.2.1, a_tw K (r_kd P) i, K.2.2.2) := ⟨hK.1, hK.2.1, hK.2.2.1, (show (1 : Int32) = nI (a_tw K (r_kd P) i) by rw [e9, e7]; rfl), hK.2.2.2.2⟩
           refine c_Dk_finish_7 (K := (K.1, K.2.1, a_tw K (r_kd P) i, K.2.2.2)) hD1 ho hK1 (a_kw_ok hk (a_tw_le hk.2.1)) ht hi rfl (fun h' e1 e2 e3 => ?_)
           refine j_vret d_Dk_follow_30 rfl ?_
           exact ⟨rfl, hF h' (r_ex.tr (r_ex.rf.up (by decide)) e1 (fun _ q => q)) e2 e3⟩)
set_option maxRecDepth 100000 in
set_option maxHeartbeats 4000000 in
theorem l_Dk_followAll_7 {G : r_X} {d : Nat} {p q : Nat} {z : r_HL} {F : r_HI → r_HR → r_HL → Prop} {D : a_D} (ho : a_dok D) {P : Nat} (hP : r_pol P) : ∀ (n c : Nat) (v : Int32) (K : a_K) (s : Nat) (h : r_HI), p_D h 3 D → p_K h 7 K → a_kok D K → K.2.2.2.1 = n → c + n ≤ 7 → v = nI c → K.1 + 125 * n < 2 ^ 27 → h 7 8 = nI s → (∀ h', r_ex [7, 8, 9, 10] h h' → p_K h' 7 (a_all D (r_kd P) n K s).1 → h' 7 8 = nI (a_all D (r_kd P) n K s).2 → F h' (r_gp p q) z) → r_TM G m_Dk_followAll (d + 4) 61 61 (fun v h' g' z' => v = none ∧ F h' g' z') 2 [(0, .ref (G.2.1 + 7)), (1, .ref (G.2.1 + P)), (2, .int v)] [] 61 h (r_gp p q) z := by
  intro n
  induction n with
  | zero =>
    intro c v K s h hD hK hk hn hc hv ht hs hF
    subst hv
    refine j_iload_n d_Dk_followAll_2 rfl rfl ?_
    refine j_bipush (v := 7) d_Dk_followAll_3 (by decide) ?_
    refine j_icmp_ge (tgt := 31) d_Dk_followAll_5 rfl (fun bq1 => ?_) (fun bq1 => ?_)
    · refine j_vret d_Dk_followAll_31 rfl ?_
      exact ⟨rfl, hF _ r_ex.rf hK hs⟩
    · refine j_aload_n d_Dk_followAll_8 rfl rfl ?_
      refine j_geti d_Dk_followAll_9 f_Dk_21 rfl rfl (by decide) ?_
      refine j_if_le (tgt := 31) d_Dk_followAll_12 rfl (fun bq2 => ?_) (fun bq2 => False.elim (bq2 (by rw [hK.1, hn]; decide)))
      refine j_vret d_Dk_followAll_31 rfl ?_
      exact ⟨rfl, hF _ r_ex.rf hK hs⟩
  | succ n ih =>
    intro c v K s h hD hK hk hn hc hv ht hs hF
    subst hv
    refine j_iload_n d_Dk_followAll_2 rfl rfl ?_
    refine j_bipush (v := 7) d_Dk_followAll_3 (by decide) ?_
    refine j_icmp_ge (tgt := 31) d_Dk_followAll_5 rfl (fun bq1 => False.elim (nI_ge (b := 7) (by omega) (by omega) bq1)) (fun bq1 => ?_)
    refine j_aload_n d_Dk_followAll_8 rfl rfl ?_
    refine j_geti d_Dk_followAll_9 f_Dk_21 rfl rfl (by decide) ?_
    refine j_if_le (tgt := 31) d_Dk_followAll_12 rfl (fun bq2 => False.elim (nI_nle (n := K.2.2.2.1) (by omega) (by omega) (hK.1 ▸ bq2))) (fun bq2 => ?_)
    refine j_aload_n d_Dk_followAll_15 rfl rfl ?_
    refine j_aload_n d_Dk_followAll_16 rfl rfl ?_
    refine j_aload_n d_Dk_followAll_17 rfl rfl ?_
    refine j_aload_n d_Dk_followAll_18 rfl rfl ?_
    refine q_i (s_pick_all_Dk_followAll_19 hP) rfl (Nat.le_of_ble_eq_true rfl) (Nat.le_of_ble_eq_true rfl) ?_
    refine c_Fi_pick_7 hD ho hK hk hP (by omega) ?_
    refine q_v (s_Dk_followAll_22 rfl (by decide)) rfl (Nat.le_of_ble_eq_true rfl) (Nat.le_of_ble_eq_true rfl) ?_
    refine c_Dk_follow_7 hD ho hK hk hP (by omega) (i := a_nx D K (r_kd P)) (a_am_lt (by omega)) (if_neg (by omega)) (fun h1 e1 e2 e3 => ?_)
    refine j_iinc (ls' := [(2, _), (0, _), (1, _)]) d_Dk_followAll_25 rfl (by decide) rfl ?_
    refine j_goto (tgt := 2) d_Dk_followAll_28 rfl ?_
    refine j_pick [1, 2, 0] (ls' := [(0, _), (1, _), (2, _)]) rfl ?_
    have hnx : a_nx D K (r_kd P) < K.2.2.2.1 := a_am_lt (by omega)
    have g1 := a_dn_le ho (t := K.1) (p := K.2.2.2.2.2.1 (a_nx D K (r_kd P))) hk.1 (hk.2.2.2 (a_nx D K (r_kd P)) hnx).1
    refine ih (c + 1) _ _ (s + a_wt D K (a_nx D K (r_kd P))) h1 (hD.ex e1 (by decide) (by decide) (by decide) (by decide)) e2 (a_fo_ok ho hk (a_am_lt (by omega))) (show K.2.2.2.1 - 1 = n by omega) (by omega) (nI_inc c) (show a_dn D K.1 K.2.1 (K.2.2.2.2.1 (a_nx D K (r_kd P))) (K.2.2.2.2.2.1 (a_nx D K (r_kd P))) + 125 * n < 2 ^ 27 by omega) (by rw [e3, hs, nI_add]) (fun h' q1 q2 q3 => ?_)
    exact hF h' (r_ex.tr e1 q1 (fun _ q => q)) q2 q3
set_option maxRecDepth 100000 in
set_option maxHeartbeats 4000000 in
theorem c_Dk_followAll_7 {G : r_X} {d : Nat} {h : r_HI} {p q : Nat} {z : r_HL} {F : r_HI → r_HR → r_HL → Prop} {D : a_D} (hD : p_D h 3 D) (ho : a_dok D) {K : a_K} (hK : p_K h 7 K) (hk : a_kok D K) {P s : Nat} (hP : r_pol P) (ht : K.1 < 2 ^ 26) (hs : h 7 8 = nI s) (hF : ∀ h', r_ex [7, 8, 9, 10] h h' → p_K h' 7 (a_all D (r_kd P) K.2.2.2.1 K s).1 → h' 7 8 = nI (a_all D (r_kd P) K.2.2.2.1 K s).2 → F h' (r_gp p q) z) : r_Cv G m_Dk_followAll (d + 4) 61 [.ref (G.2.1 + 7), .ref (G.2.1 + P)] 61 h (r_gp p q) z F := by
  refine r_C_of (by decide +kernel) (Nat.le_of_ble_eq_true rfl) ?_
  refine j_ls (ls' := [(0, _), (1, _)]) rfl ?_
  refine j_iconst (v := 0) d_Dk_followAll_0 rfl ?_
  refine j_istore_n (ls' := [(2, _), (0, _), (1, _)]) d_Dk_followAll_1 rfl (by decide) rfl ?_
  refine j_pick [1, 2, 0] (ls' := [(0, _), (1, _), (2, _)]) rfl ?_
  exact l_Dk_followAll_7 ho hP K.2.2.2.1 0 _ K s h hD hK hk rfl (by have := hk.2.2.1; omega) rfl (by have := hk.2.2.1; omega) hs hF
set_option maxRecDepth 100000 in
set_option maxHeartbeats 4000000 in
theorem t_turns_40 {G : r_X} {d : Nat} {h : r_HI} {p q : Nat} {z : r_HL} {X : State → Prop} {Z : List Frame → Array Value → State → State → Prop} {ls : List (Nat × Value)} {D : a_D} (hD : p_D h 3 D) (ho : a_dok D) {K : a_K} (hK : p_K h 40 K) (hk : a_kok D K) {P i : Nat} (hP : r_pol P) (hi : i < K.2.2.2.1) (kk : r_T G m_Dk_follow (r_rm (d + 3) 61 61) 61 X Z 6 ls [.int (if r_kd P = 2 ∧ a_ah K i = false then 1 else 0)] 61 h (r_gp p q) z) : r_T G m_Dk_follow (r_rm (d + 3) 61 61) 61 X Z 3 ls [.int (nI i), .ref (G.2.1 + 40), .ref (G.2.1 + P)] 61 h (r_gp p q) z := by
  rcases hP.cases with rfl | rfl | rfl | rfl | rfl | rfl
  · refine q_i (s_Dk_follow_3_Fi rfl (by decide)) rfl (Nat.le_of_ble_eq_true rfl) (Nat.le_of_ble_eq_true rfl) ?_
    exact c_Fi_turns kk
  · refine q_i (s_Dk_follow_3_Ne rfl (by decide)) rfl (Nat.le_of_ble_eq_true rfl) (Nat.le_of_ble_eq_true rfl) ?_
    exact c_Fi_turns kk
  · refine q_i (s_Dk_follow_3_Sw rfl (by decide)) rfl (Nat.le_of_ble_eq_true rfl) (Nat.le_of_ble_eq_true rfl) ?_
    refine c_Sw_turns_40 hD ho hK hk hi rfl ?_
    have e9 : (if a_ah K i = true then (0 : Int32) else 1) = (if r_kd 21 = 2 ∧ a_ah K i = false then 1 else 0) := by
      cases a_ah K i <;> rfl
    rw [e9]
    exact kk
  · refine q_i (s_Dk_follow_3_Ro rfl (by decide)) rfl (Nat.le_of_ble_eq_true rfl) (Nat.le_of_ble_eq_true rfl) ?_
    exact c_Ro_turns kk
  · refine q_i (s_Dk_follow_3_So rfl (by decide)) rfl (Nat.le_of_ble_eq_true rfl) (Nat.le_of_ble_eq_true rfl) ?_
    exact c_Fi_turns kk
  · refine q_i (s_Dk_follow_3_Fi rfl (by decide)) rfl (Nat.le_of_ble_eq_true rfl) (Nat.le_of_ble_eq_true rfl) ?_
    exact c_Fi_turns kk
set_option maxRecDepth 100000 in
set_option maxHeartbeats 4000000 in
theorem c_Dk_follow_40 {G : r_X} {d : Nat} {h : r_HI} {p q : Nat} {z : r_HL} {F : r_HI → r_HR → r_HL → Prop} {D : a_D} (hD : p_D h 3 D) (ho : a_dok D) {K : a_K} (hK : p_K h 40 K) (hk : a_kok D K) {P i : Nat} {a1 : Int32} (hP : r_pol P) (ht : K.1 < 2 ^ 27) (hi : i < K.2.2.2.1) (e1 : a1 = nI i) (hF : ∀ h', r_ex [40, 41, 42, 43] h h' → p_K h' 40 (a_fo D K (r_kd P) i) → h' 40 8 = h 40 8 + nI (a_wt D K i) → F h' (r_gp p q) z) : r_Cv G m_Dk_follow (d + 3) 61 [.ref (G.2.1 + 40), .ref (G.2.1 + P), .int a1] 61 h (r_gp p q) z F := by
  subst e1
  have hw1 := hk.2.1
  refine r_C_of (by decide +kernel) (Nat.le_of_ble_eq_true rfl) ?_
  refine j_ls (ls' := [(0, _), (1, _), (2, _)]) rfl ?_
  refine j_aload_n d_Dk_follow_0 rfl rfl ?_
  refine j_aload_n d_Dk_follow_1 rfl rfl ?_
  refine j_iload_n d_Dk_follow_2 rfl rfl ?_
  refine t_turns_40 hD ho hK hk hP hi ?_
  refine j_if_eq (tgt := 25) d_Dk_follow_6 rfl (fun bq1 => ?_) (fun bq1 => ?_)
  · refine j_aload_n d_Dk_follow_25 rfl rfl ?_
    refine j_iload_n d_Dk_follow_26 rfl rfl ?_
    refine q_v (s_Dk_follow_27 rfl (by decide)) rfl (Nat.le_of_ble_eq_true rfl) (Nat.le_of_ble_eq_true rfl) ?_
    first
      | (have e9 : a_tw K (r_kd P) i = K.2.2.1 := if_neg (t10.mp bq1)
         refine c_Dk_finish_40 hD ho hK hk ht hi rfl (fun h' e1 e2 e3 => ?_)
         refine j_vret d_Dk_follow_30 rfl ?_
         refine ⟨rfl, hF h' e1 ?_ e3⟩
         show p_K h' 40 (a_fin D (K.1, K.2.1, a_tw K (r_kd P) i, K.2.2.2) i)
         rw [e9]
         exact e2)
      | (have e9 : a_tw K (r_kd P) i = 1 - K.2.2.1 := if_pos (Decidable.byContradiction (fun e8 => bq1 (t10.mpr e8)))
         rw [hK.2.2.2.1] at bq2
         have e7 : ¬ K.2.2.1 = 0 := fun e8 => bq2 (by rw [e8]; rfl)
         have hD1 : p_D (r_up h 40 7 0) 3 D := hD.ex (A := [40]) (r_ex.rf.up (by decide)) (by decide) (by decide) (by decide) (by decide)
         have hK1 : p_K (r_up h 40 7 0) 40 (K.1, K.2.1, a_tw K (r_kd P) i, K.2.2.2) := ⟨hK.1, hK.2.1, hK.2.2.1, (show (0 : Int32) = nI (a_tw K (r_kd P) i) by rw [e9, show 1 - K.2.2.1 = 0 by omega]; rfl), hK.2.2.2.2⟩
         refine c_Dk_finish_40 (K := (K.1, K.2.1, a_tw K (r_kd P) i, K.2.2.2)) hD1 ho hK1 (a_kw_ok hk (a_tw_le hk.2.1)) ht hi rfl (fun h' e1 e2 e3 => ?_)
         refine j_vret d_Dk_follow_30 rfl ?_
         exact ⟨rfl, hF h' (r_ex.tr (r_ex.rf.up (by decide)) e1 (fun _ q => q)) e2 e3⟩)
      | (have e9 : a_tw K (r_kd P) i = 1 - K.2.2.1 := if_pos (Decidable.byContradiction (fun e8 => bq1 (t10.mpr e8)))
         rw [hK.2.2.2.1] at bq2
         have e7 : K.2.2.1 = 0 := (nI_eq (b := 0) (by omega) (by omega)).mp bq2
         have hD1 : p_D (r_up h 40 7 1) 3 D := hD.ex (A := [40]) (r_ex.rf.up (by decide)) (by decide) (by decide) (by decide) (by decide)
         have hK1 : p_K (r_up h 40 7 1) 40 (K.1, K.2.1, a_tw K (r_kd P) i, K.2.2.2) := ⟨hK.1, hK.2.1, hK.2.2.1, (show (1 : Int32) = nI (a_tw K (r_kd P) i) by rw [e9, e7]; rfl), hK.2.2.2.2⟩
         refine c_Dk_finish_40 (K := (K.1, K.2.1, a_tw K (r_kd P) i, K.2.2.2)) hD1 ho hK1 (a_kw_ok hk (a_tw_le hk.2.1)) ht hi rfl (fun h' e1 e2 e3 => ?_)
         refine j_vret d_Dk_follow_30 rfl ?_
         exact ⟨rfl, hF h' (r_ex.tr (r_ex.rf.up (by decide)) e1 (fun _ q => q)) e2 e3⟩)
  · refine j_aload_n d_Dk_follow_9 rfl rfl ?_
    refine j_aload_n d_Dk_follow_10 rfl rfl ?_
    refine j_getz d_Dk_follow_11 f_Dk_31 rfl rfl (by decide) ?_
    refine j_if_ne (tgt := 21) d_Dk_follow_14 rfl (fun bq2 => ?_) (fun bq2 => ?_)
    · refine j_iconst (v := 0) d_Dk_follow_21 rfl ?_
      refine j_putz d_Dk_follow_22 f_Dk_31 (by decide) rfl rfl (by decide) (by decide) ?_
      refine j_aload_n d_Dk_follow_25 rfl rfl ?_
      refine j_iload_n d_Dk_follow_26 rfl rfl ?_
      refine q_v (s_Dk_follow_27 rfl (by decide)) rfl (Nat.le_of_ble_eq_true rfl) (Nat.le_of_ble_eq_true rfl) ?_
      first
        | (have e9 : a_tw K (r_kd P) i = K.2.2.1 := if_neg (t10.mp bq1)
           refine c_Dk_finish_40 hD ho hK hk ht hi rfl (fun h' e1 e2 e3 => ?_)
           refine j_vret d_Dk_follow_30 rfl ?_
           refine ⟨rfl, hF h' e1 ?_ e3⟩
           show p_K h' 40 (a_fin D (K.1, K.2.1, a_tw K (r_kd P) i, K.2.2.2) i)
           rw [e9]
           exact e2)
        | (have e9 : a_tw K (r_kd P) i = 1 - K.2.2.1 := if_pos (Decidable.byContradiction (fun e8 => bq1 (t10.mpr e8)))
           rw [hK.2.2.2.1] at bq2
           have e7 : ¬ K.2.2.1 = 0 := fun e8 => bq2 (by rw [e8]; rfl)
           have hD1 : p_D (r_up h 40 7 0) 3 D := hD.ex (A := [40]) (r_ex.rf.up (by decide)) (by decide) (by decide) (by decide) (by decide)
           have hK1 : p_K (r_up h 40 7 0) 40 (K.1, K.2.1, a_tw K (r_kd P) i, K.2.2.2) := ⟨hK.1, hK.2.1, hK.2.2.1, (show (0 : Int32) = nI (a_tw K (r_kd P) i) by rw [e9, show 1 - K.2.2.1 = 0 by omega]; rfl), hK.2.2.2.2⟩
           refine c_Dk_finish_40 (K := (K.1, K.2.1, a_tw K (r_kd P) i, K.2.2.2)) hD1 ho hK1 (a_kw_ok hk (a_tw_le hk.2.1)) ht hi rfl (fun h' e1 e2 e3 => ?_)
           refine j_vret d_Dk_follow_30 rfl ?_
           exact ⟨rfl, hF h' (r_ex.tr (r_ex.rf.up (by decide)) e1 (fun _ q => q)) e2 e3⟩)
        | (have e9 : a_tw K (r_kd P) i = 1 - K.2.2.1 := if_pos (Decidable.byContradiction (fun e8 => bq1 (t10.mpr e8)))
           rw [hK.2.2.2.1] at bq2
           have e7 : K.2.2.1 = 0 := (nI_eq (b := 0) (by omega) (by omega)).mp bq2
           have hD1 : p_D (r_up h 40 7 1) 3 D := hD.ex (A := [40]) (r_ex.rf.up (by decide)) (by decide) (by decide) (by decide) (by decide)
           have hK1 : p_K (r_up h 40 7 1) 40 (K.1, K.2.1, a_tw K (r_kd P) i, K.2.2.2) := ⟨hK.1, hK.2.1, hK.2.2.1, (show (1 : Int32) = nI (a_tw K (r_kd P) i) by rw [e9, e7]; rfl), hK.2.2.2.2⟩
           refine c_Dk_finish_40 (K := (K.1, K.2.1, a_tw K (r_kd P) i, K.2.2.2)) hD1 ho hK1 (a_kw_ok hk (a_tw_le hk.2.1)) ht hi rfl (fun h' e1 e2 e3 => ?_)
           refine j_vret d_Dk_follow_30 rfl ?_
           exact ⟨rfl, hF h' (r_ex.tr (r_ex.rf.up (by decide)) e1 (fun _ q => q)) e2 e3⟩)
    · refine j_iconst (v := 1) d_Dk_follow_17 rfl ?_
      refine j_goto (tgt := 22) d_Dk_follow_18 rfl ?_
      refine j_putz d_Dk_follow_22 f_Dk_31 (by decide) rfl rfl (by decide) (by decide) ?_
      refine j_aload_n d_Dk_follow_25 rfl rfl ?_
      refine j_iload_n d_Dk_follow_26 rfl rfl ?_
      refine q_v (s_Dk_follow_27 rfl (by decide)) rfl (Nat.le_of_ble_eq_true rfl) (Nat.le_of_ble_eq_true rfl) ?_
      first
        | (have e9 : a_tw K (r_kd P) i = K.2.2.1 := if_neg (t10.mp bq1)
           refine c_Dk_finish_40 hD ho hK hk ht hi rfl (fun h' e1 e2 e3 => ?_)
           refine j_vret d_Dk_follow_30 rfl ?_
           refine ⟨rfl, hF h' e1 ?_ e3⟩
           show p_K h' 40 (a_fin D (K.1, K.2.1, a_tw K (r_kd P) i, K.2.2.2) i)
           rw [e9]
           exact e2)
        | (have e9 : a_tw K (r_kd P) i = 1 - K.2.2.1 := if_pos (Decidable.byContradiction (fun e8 => bq1 (t10.mpr e8)))
           rw [hK.2.2.2.1] at bq2
           have e7 : ¬ K.2.2.1 = 0 := fun e8 => bq2 (by rw [e8]; rfl)
           have hD1 : p_D (r_up h 40 7 0) 3 D := hD.ex (A := [40]) (r_ex.rf.up (by decide)) (by decide) (by decide) (by decide) (by decide)
           have hK1 : p_K (r_up h 40 7 0) 40 (K.1, K.2.1, a_tw K (r_kd P) i, K.2.2.2) := ⟨hK.1, hK.2.1, hK.2.2.1, (show (0 : Int32) = nI (a_tw K (r_kd P) i) by rw [e9, show 1 - K.2.2.1 = 0 by omega]; rfl), hK.2.2.2.2⟩
           refine c_Dk_finish_40 (K := (K.1, K.2.1, a_tw K (r_kd P) i, K.2.2.2)) hD1 ho hK1 (a_kw_ok hk (a_tw_le hk.2.1)) ht hi rfl (fun h' e1 e2 e3 => ?_)
           refine j_vret d_Dk_follow_30 rfl ?_
           exact ⟨rfl, hF h' (r_ex.tr (r_ex.rf.up (by decide)) e1 (fun _ q => q)) e2 e3⟩)
        | (have e9 : a_tw K (r_kd P) i = 1 - K.2.2.1 := if_pos (Decidable.byContradiction (fun e8 => bq1 (t10.mpr e8)))
           rw [hK.2.2.2.1] at bq2
           have e7 : K.2.2.1 = 0 := (nI_eq (b := 0) (by omega) (by omega)).mp bq2
           have hD1 : p_D (r_up h 40 7 1) 3 D := hD.ex (A := [40]) (r_ex.rf.up (by decide)) (by decide) (by decide) (by decide) (by decide)
           have hK1 : p_K (r_up h 40 7 1) 40 (K.1, K.2.1, a_tw K (r_kd P) i, K.2.2.2) := ⟨hK.1, hK.2.1, hK.2.2.1, (show (1 : Int32) = nI (a_tw K (r_kd P) i) by rw [e9, e7]; rfl), hK.2.2.2.2⟩
           refine c_Dk_finish_40 (K := (K.1, K.2.1, a_tw K (r_kd P) i, K.2.2.2)) hD1 ho hK1 (a_kw_ok hk (a_tw_le hk.2.1)) ht hi rfl (fun h' e1 e2 e3 => ?_)
           refine j_vret d_Dk_follow_30 rfl ?_
           exact ⟨rfl, hF h' (r_ex.tr (r_ex.rf.up (by decide)) e1 (fun _ q => q)) e2 e3⟩)
set_option maxRecDepth 100000 in
set_option maxHeartbeats 4000000 in
theorem l_Dk_followAll_40 {G : r_X} {d : Nat} {p q : Nat} {z : r_HL} {F : r_HI → r_HR → r_HL → Prop} {D : a_D} (ho : a_dok D) {P : Nat} (hP : r_pol P) : ∀ (n c : Nat) (v : Int32) (K : a_K) (s : Nat) (h : r_HI), p_D h 3 D → p_K h 40 K → a_kok D K → K.2.2.2.1 = n → c + n ≤ 7 → v = nI c → K.1 + 125 * n < 2 ^ 27 → h 40 8 = nI s → (∀ h', r_ex [40, 41, 42, 43] h h' → p_K h' 40 (a_all D (r_kd P) n K s).1 → h' 40 8 = nI (a_all D (r_kd P) n K s).2 → F h' (r_gp p q) z) → r_TM G m_Dk_followAll (d + 4) 61 61 (fun v h' g' z' => v = none ∧ F h' g' z') 2 [(0, .ref (G.2.1 + 40)), (1, .ref (G.2.1 + P)), (2, .int v)] [] 61 h (r_gp p q) z := by
  intro n
  induction n with
  | zero =>
    intro c v K s h hD hK hk hn hc hv ht hs hF
    subst hv
    refine j_iload_n d_Dk_followAll_2 rfl rfl ?_
    refine j_bipush (v := 7) d_Dk_followAll_3 (by decide) ?_
    refine j_icmp_ge (tgt := 31) d_Dk_followAll_5 rfl (fun bq1 => ?_) (fun bq1 => ?_)
    · refine j_vret d_Dk_followAll_31 rfl ?_
      exact ⟨rfl, hF _ r_ex.rf hK hs⟩
    · refine j_aload_n d_Dk_followAll_8 rfl rfl ?_
      refine j_geti d_Dk_followAll_9 f_Dk_21 rfl rfl (by decide) ?_
      refine j_if_le (tgt := 31) d_Dk_followAll_12 rfl (fun bq2 => ?_) (fun bq2 => False.elim (bq2 (by rw [hK.1, hn]; decide)))
      refine j_vret d_Dk_followAll_31 rfl ?_
      exact ⟨rfl, hF _ r_ex.rf hK hs⟩
  | succ n ih =>
    intro c v K s h hD hK hk hn hc hv ht hs hF
    subst hv
    refine j_iload_n d_Dk_followAll_2 rfl rfl ?_
    refine j_bipush (v := 7) d_Dk_followAll_3 (by decide) ?_
    refine j_icmp_ge (tgt := 31) d_Dk_followAll_5 rfl (fun bq1 => False.elim (nI_ge (b := 7) (by omega) (by omega) bq1)) (fun bq1 => ?_)
    refine j_aload_n d_Dk_followAll_8 rfl rfl ?_
    refine j_geti d_Dk_followAll_9 f_Dk_21 rfl rfl (by decide) ?_
    refine j_if_le (tgt := 31) d_Dk_followAll_12 rfl (fun bq2 => False.elim (nI_nle (n := K.2.2.2.1) (by omega) (by omega) (hK.1 ▸ bq2))) (fun bq2 => ?_)
    refine j_aload_n d_Dk_followAll_15 rfl rfl ?_
    refine j_aload_n d_Dk_followAll_16 rfl rfl ?_
    refine j_aload_n d_Dk_followAll_17 rfl rfl ?_
    refine j_aload_n d_Dk_followAll_18 rfl rfl ?_
    refine q_i (s_pick_all_Dk_followAll_19 hP) rfl (Nat.le_of_ble_eq_true rfl) (Nat.le_of_ble_eq_true rfl) ?_
    refine c_Fi_pick_40 hD ho hK hk hP (by omega) ?_
    refine q_v (s_Dk_followAll_22 rfl (by decide)) rfl (Nat.le_of_ble_eq_true rfl) (Nat.le_of_ble_eq_true rfl) ?_
    refine c_Dk_follow_40 hD ho hK hk hP (by omega) (i := a_nx D K (r_kd P)) (a_am_lt (by omega)) (if_neg (by omega)) (fun h1 e1 e2 e3 => ?_)
    refine j_iinc (ls' := [(2, _), (0, _), (1, _)]) d_Dk_followAll_25 rfl (by decide) rfl ?_
    refine j_goto (tgt := 2) d_Dk_followAll_28 rfl ?_
    refine j_pick [1, 2, 0] (ls' := [(0, _), (1, _), (2, _)]) rfl ?_
    have hnx : a_nx D K (r_kd P) < K.2.2.2.1 := a_am_lt (by omega)
    have g1 := a_dn_le ho (t := K.1) (p := K.2.2.2.2.2.1 (a_nx D K (r_kd P))) hk.1 (hk.2.2.2 (a_nx D K (r_kd P)) hnx).1
    refine ih (c + 1) _ _ (s + a_wt D K (a_nx D K (r_kd P))) h1 (hD.ex e1 (by decide) (by decide) (by decide) (by decide)) e2 (a_fo_ok ho hk (a_am_lt (by omega))) (show K.2.2.2.1 - 1 = n by omega) (by omega) (nI_inc c) (show a_dn D K.1 K.2.1 (K.2.2.2.2.1 (a_nx D K (r_kd P))) (K.2.2.2.2.2.1 (a_nx D K (r_kd P))) + 125 * n < 2 ^ 27 by omega) (by rw [e3, hs, nI_add]) (fun h' q1 q2 q3 => ?_)
    exact hF h' (r_ex.tr e1 q1 (fun _ q => q)) q2 q3
set_option maxRecDepth 100000 in
set_option maxHeartbeats 4000000 in
theorem c_Dk_followAll_40 {G : r_X} {d : Nat} {h : r_HI} {p q : Nat} {z : r_HL} {F : r_HI → r_HR → r_HL → Prop} {D : a_D} (hD : p_D h 3 D) (ho : a_dok D) {K : a_K} (hK : p_K h 40 K) (hk : a_kok D K) {P s : Nat} (hP : r_pol P) (ht : K.1 < 2 ^ 26) (hs : h 40 8 = nI s) (hF : ∀ h', r_ex [40, 41, 42, 43] h h' → p_K h' 40 (a_all D (r_kd P) K.2.2.2.1 K s).1 → h' 40 8 = nI (a_all D (r_kd P) K.2.2.2.1 K s).2 → F h' (r_gp p q) z) : r_Cv G m_Dk_followAll (d + 4) 61 [.ref (G.2.1 + 40), .ref (G.2.1 + P)] 61 h (r_gp p q) z F := by
  refine r_C_of (by decide +kernel) (Nat.le_of_ble_eq_true rfl) ?_
  refine j_ls (ls' := [(0, _), (1, _)]) rfl ?_
  refine j_iconst (v := 0) d_Dk_followAll_0 rfl ?_
  refine j_istore_n (ls' := [(2, _), (0, _), (1, _)]) d_Dk_followAll_1 rfl (by decide) rfl ?_
  refine j_pick [1, 2, 0] (ls' := [(0, _), (1, _), (2, _)]) rfl ?_
  exact l_Dk_followAll_40 ho hP K.2.2.2.1 0 _ K s h hD hK hk rfl (by have := hk.2.2.1; omega) rfl (by have := hk.2.2.1; omega) hs hF
