theorem nI_m1 {m : Nat} (h : m < 2 ^ 31) : ¬ nI m = -1 := by
  intro e
  have e2 := congrArg Int32.toInt e
  rw [nI_toInt h] at e2
  have e3 : (-1 : Int32).toInt = -1 := rfl
  omega
theorem a_pr_lt {D : a_D} {K : a_K} (ho : a_dok D) (hk : a_kok D K) (ht : K.1 < 2 ^ 27) {kd i : Nat} (hi : i < K.2.2.2.1) : a_pr D K kd i < 2 ^ 28 := by
  obtain ⟨h1, h2, h3, h4⟩ := hk
  obtain ⟨h5, h6, h7⟩ := h4 i hi
  have h8 := ho.1
  have h9 := a_dn_le ho (t := K.1) (p := K.2.2.2.2.2.1 i) h1 h5
  unfold a_pr
  split
  · unfold a_ds; split <;> omega
  · split <;> (unfold a_ds; split <;> omega)
  · split <;> omega
  · omega
  · omega
theorem a_am_lt {f : Nat → Nat} {n : Nat} (h : 0 < n) : a_am f n < n := by
  induction n with
  | zero => omega
  | succ n ih =>
    unfold a_am
    split
    · omega
    · split
      · omega
      · have := ih (by omega)
        omega
/-- a row whose part from j to m is pulled one nearer -/
def r_sh (f : Nat → Int32) (j m : Nat) : Nat → Int32 := fun x => if j ≤ x ∧ x < m then f (x + 1) else f x
theorem r_sh_end {f : Nat → Int32} {m : Nat} : r_sh f m m = f := by
  funext x
  simp only [r_sh]
  rw [if_neg (by omega)]
theorem r_sh_step {f : Nat → Int32} {j m : Nat} (h : j < m) : r_sh (upd f j (f (j + 1))) (j + 1) m = r_sh f j m := by
  funext x
  simp only [r_sh, upd]
  by_cases e : x = j
  · subst e
    rw [if_neg (by omega), if_pos rfl, if_pos ⟨Nat.le_refl _, h⟩]
  · by_cases e2 : j ≤ x ∧ x < m
    · rw [if_pos ⟨by omega, e2.2⟩, if_neg (by omega), if_pos e2]
    · rw [if_neg (by omega), if_neg e, if_neg e2]
/-- three rows put -/
def r_3 (h : r_HI) (k : Nat) (f1 f2 f3 : Nat → Int32) : r_HI := r_rw (r_rw (r_rw h (k + 1) f1) (k + 2) f2) (k + 3) f3
theorem r_3_eq {h h' : r_HI} {k : Nat} {f1 f2 f3 : Nat → Int32} (e : ∀ a, a ≠ k + 1 → a ≠ k + 2 → a ≠ k + 3 → h' a = h a) : r_3 h' k f1 f2 f3 = r_3 h k f1 f2 f3 := by
  funext a
  unfold r_3
  by_cases e3 : a = k + 3
  · subst e3; rw [r_rw_k, r_rw_k]
  · rw [r_rw_ne e3, r_rw_ne e3]
    by_cases e2 : a = k + 2
    · subst e2; rw [r_rw_k, r_rw_k]
    · rw [r_rw_ne e2, r_rw_ne e2]
      by_cases e1 : a = k + 1
      · subst e1; rw [r_rw_k, r_rw_k]
      · rw [r_rw_ne e1, r_rw_ne e1, e a e1 e2 e3]
theorem r_3_self {h : r_HI} {k : Nat} : r_3 h k (h (k + 1)) (h (k + 2)) (h (k + 3)) = h := by
  unfold r_3
  rw [r_rw_self]
  rw [show r_rw h (k + 2) (h (k + 2)) = h from r_rw_self, r_rw_self]
theorem r_3_1 {h : r_HI} {k : Nat} {f1 f2 f3 : Nat → Int32} : r_3 h k f1 f2 f3 (k + 1) = f1 := by
  unfold r_3
  rw [r_rw_ne (by omega), r_rw_ne (by omega), r_rw_k]
theorem r_3_2 {h : r_HI} {k : Nat} {f1 f2 f3 : Nat → Int32} : r_3 h k f1 f2 f3 (k + 2) = f2 := by
  unfold r_3
  rw [r_rw_ne (by omega), r_rw_k]
theorem r_3_3 {h : r_HI} {k : Nat} {f1 f2 f3 : Nat → Int32} : r_3 h k f1 f2 f3 (k + 3) = f3 := by
  unfold r_3
  rw [r_rw_k]
theorem r_3_ne {h : r_HI} {k a : Nat} {f1 f2 f3 : Nat → Int32} (e1 : a ≠ k + 1) (e2 : a ≠ k + 2) (e3 : a ≠ k + 3) : r_3 h k f1 f2 f3 a = h a := by
  unfold r_3
  rw [r_rw_ne e3, r_rw_ne e2, r_rw_ne e1]
set_option maxRecDepth 100000 in
set_option maxHeartbeats 4000000 in
theorem t_price_7 {G : r_X} {d : Nat} {h : r_HI} {p q : Nat} {z : r_HL} {X : State → Prop} {Z : List Frame → Array Value → State → State → Prop} {ls : List (Nat × Value)} {D : a_D} (hD : p_D h 3 D) (ho : a_dok D) {K : a_K} (hK : p_K h 7 K) (hk : a_kok D K) {P i : Nat} (hP : r_pol P) (ht : K.1 < 2 ^ 27) (hi : i < K.2.2.2.1) (kk : r_T G m_Fi_pick (r_rm (d + 3) 61 61) 61 X Z 30 ls [.int (nI (a_pr D K (r_kd P) i))] 61 h (r_gp p q) z) : r_T G m_Fi_pick (r_rm (d + 3) 61 61) 61 X Z 27 ls [.int (nI i), .ref (G.2.1 + 7), .ref (G.2.1 + P)] 61 h (r_gp p q) z := by
  rcases hP.cases with rfl | rfl | rfl | rfl | rfl | rfl
  · refine q_i (s_Fi_pick_27_Fi rfl (by decide)) rfl (Nat.le_of_ble_eq_true rfl) (Nat.le_of_ble_eq_true rfl) ?_
    exact c_Fi_price kk
  · refine q_i (s_Fi_pick_27_Ne rfl (by decide)) rfl (Nat.le_of_ble_eq_true rfl) (Nat.le_of_ble_eq_true rfl) ?_
    exact c_Ne_price_7 hD ho hK hk hi rfl kk
  · refine q_i (s_Fi_pick_27_Sw rfl (by decide)) rfl (Nat.le_of_ble_eq_true rfl) (Nat.le_of_ble_eq_true rfl) ?_
    exact c_Sw_price_7 hD ho hK hk hi rfl kk
  · refine q_i (s_Fi_pick_27_Ro rfl (by decide)) rfl (Nat.le_of_ble_eq_true rfl) (Nat.le_of_ble_eq_true rfl) ?_
    exact c_Ro_price_7 hD ho hK hk hi rfl kk
  · refine q_i (s_Fi_pick_27_So rfl (by decide)) rfl (Nat.le_of_ble_eq_true rfl) (Nat.le_of_ble_eq_true rfl) ?_
    exact c_So_price_7 hD ho hK hk hi rfl ht kk
  · refine q_i (s_Fi_pick_27_Fi rfl (by decide)) rfl (Nat.le_of_ble_eq_true rfl) (Nat.le_of_ble_eq_true rfl) ?_
    exact c_Fi_price kk
set_option maxRecDepth 100000 in
set_option maxHeartbeats 4000000 in
theorem l_Fi_pick_7 {G : r_X} {d : Nat} {h : r_HI} {p q : Nat} {z : r_HL} {F : Int32 → r_HI → r_HR → r_HL → Prop} {D : a_D} (hD : p_D h 3 D) (ho : a_dok D) {K : a_K} (hK : p_K h 7 K) (hk : a_kok D K) {P : Nat} (hP : r_pol P) (ht : K.1 < 2 ^ 27) : ∀ (e i : Nat) (v bb pr : Int32), e + i = K.2.2.2.1 → v = nI i → (i = 0 → bb = -1) → (0 < i → bb = nI (a_am (a_pr D K (r_kd P)) i) ∧ pr = nI ((a_pr D K (r_kd P)) (a_am (a_pr D K (r_kd P)) i))) → F (if K.2.2.2.1 = 0 then -1 else nI (a_am (a_pr D K (r_kd P)) K.2.2.2.1)) h (r_gp p q) z → r_TM G m_Fi_pick (d + 3) 61 61 (fun v h' g' z' => ∃ r, v = some (.int r) ∧ F r h' g' z') 7 [(0, .ref (G.2.1 + P)), (1, .ref (G.2.1 + 7)), (2, .int bb), (3, .int pr), (4, .int v)] [] 61 h (r_gp p q) z := by
  have hn7 := hk.2.2.1
  intro e
  induction e with
  | zero =>
    intro i v bb pr he hv hb0 hb1 hF
    subst hv
    refine j_iload d_Fi_pick_7 rfl ?_
    refine j_aload_n d_Fi_pick_9 rfl rfl ?_
    refine j_geti d_Fi_pick_10 f_Fi_9 rfl rfl (by decide) ?_
    refine j_icmp_ge (tgt := 55) d_Fi_pick_13 rfl (fun bq1 => ?_) (fun bq1 => False.elim (bq1 (by rw [hK.1]; exact nI_le (by omega) (by omega))))
    refine j_iload_n d_Fi_pick_55 rfl rfl ?_
    refine j_iret d_Fi_pick_56 rfl ?_
    refine q_i1 hF ?_
    have hin : i = K.2.2.2.1 := by omega
    by_cases e9 : i = 0
    · rw [hb0 e9, if_pos (by omega)]
    · rw [(hb1 (by omega)).1, if_neg (by omega), hin]
  | succ e ih =>
    intro i v bb pr he hv hb0 hb1 hF
    subst hv
    have hi : i < K.2.2.2.1 := by omega
    refine j_iload d_Fi_pick_7 rfl ?_
    refine j_aload_n d_Fi_pick_9 rfl rfl ?_
    refine j_geti d_Fi_pick_10 f_Fi_9 rfl rfl (by decide) ?_
    refine j_icmp_ge (tgt := 55) d_Fi_pick_13 rfl (fun bq1 => False.elim (nI_ge (by omega) (by omega) (hK.1 ▸ bq1))) (fun bq1 => ?_)
    refine j_iload d_Fi_pick_16 rfl ?_
    refine j_bipush (v := 7) d_Fi_pick_18 (by decide) ?_
    refine j_icmp_ge (tgt := 55) d_Fi_pick_20 rfl (fun bq2 => False.elim (nI_ge (b := 7) (by omega) (by omega) bq2)) (fun bq2 => ?_)
    refine j_aload_n d_Fi_pick_23 rfl rfl ?_
    refine j_aload_n d_Fi_pick_24 rfl rfl ?_
    refine j_iload d_Fi_pick_25 rfl ?_
    refine t_price_7 hD ho hK hk hP ht hi ?_
    refine j_istore (ls' := [(5, _), (0, _), (1, _), (2, _), (3, _), (4, _)]) d_Fi_pick_30 (by decide) rfl ?_
    refine j_iload_n d_Fi_pick_32 rfl rfl ?_
    refine j_iconst (v := (-1)) d_Fi_pick_33 rfl ?_
    refine j_icmp_eq (tgt := 43) d_Fi_pick_34 rfl (fun bq3 => ?_) (fun bq3 => ?_)
    · refine j_iload d_Fi_pick_43 rfl ?_
      refine j_istore_n (ls' := [(2, _), (5, _), (0, _), (1, _), (3, _), (4, _)]) d_Fi_pick_45 rfl (by decide) rfl ?_
      refine j_iload d_Fi_pick_46 rfl ?_
      refine j_istore_n (ls' := [(3, _), (2, _), (5, _), (0, _), (1, _), (4, _)]) d_Fi_pick_48 rfl (by decide) rfl ?_
      refine j_iinc (ls' := [(4, _), (3, _), (2, _), (5, _), (0, _), (1, _)]) d_Fi_pick_49 rfl (by decide) rfl ?_
      refine j_goto (tgt := 7) d_Fi_pick_52 rfl ?_
      refine j_pick [4, 5, 2, 1, 0] (ls' := [(0, _), (1, _), (2, _), (3, _), (4, _)]) rfl ?_
      first
        | (have e9 : i = 0 := Decidable.byContradiction (fun e8 => nI_m1 (by have := a_am_lt (f := (a_pr D K (r_kd P))) (n := i) (by omega); omega) ((hb1 (by omega)).1.symm.trans bq3))
           subst e9
           exact ih 1 _ _ _ (by omega) rfl (fun e8 => absurd e8 (by decide)) (fun _ => ⟨rfl, rfl⟩) hF)
        | (have e9 : 0 < i := Nat.pos_of_ne_zero (fun e8 => bq3 (hb0 e8))
           obtain ⟨g1, g2⟩ := hb1 e9
           have g3 := a_am_lt (f := (a_pr D K (r_kd P))) e9
           have g4 := a_pr_lt ho hk ht (kd := r_kd P) (i := a_am (a_pr D K (r_kd P)) i) (by omega)
           have g5 := a_pr_lt ho hk ht (kd := r_kd P) hi
           rw [g2] at bq4
           have g6 : ¬ (a_pr D K (r_kd P)) i < (a_pr D K (r_kd P)) (a_am (a_pr D K (r_kd P)) i) := fun e8 => nI_ge e8 (by omega) bq4
           refine ih (i + 1) _ _ _ (by omega) (nI_inc i) (fun e8 => absurd e8 (by omega)) (fun _ => ?_) hF
           rw [a_am, if_neg (by omega), if_neg g6]
           exact ⟨g1, g2⟩)
        | (have e9 : 0 < i := Nat.pos_of_ne_zero (fun e8 => bq3 (hb0 e8))
           obtain ⟨g1, g2⟩ := hb1 e9
           have g3 := a_am_lt (f := (a_pr D K (r_kd P))) e9
           have g4 := a_pr_lt ho hk ht (kd := r_kd P) (i := a_am (a_pr D K (r_kd P)) i) (by omega)
           have g5 := a_pr_lt ho hk ht (kd := r_kd P) hi
           rw [g2] at bq4
           have g6 : (a_pr D K (r_kd P)) i < (a_pr D K (r_kd P)) (a_am (a_pr D K (r_kd P)) i) := Decidable.byContradiction (fun e8 => bq4 (nI_le (by omega) (by omega)))
           refine ih (i + 1) _ _ _ (by omega) (nI_inc i) (fun e8 => absurd e8 (by omega)) (fun _ => ?_) hF
           rw [a_am, if_neg (by omega), if_pos g6]
           exact ⟨rfl, rfl⟩)
    · refine j_iload d_Fi_pick_37 rfl ?_
      refine j_iload_n d_Fi_pick_39 rfl rfl ?_
      refine j_icmp_ge (tgt := 49) d_Fi_pick_40 rfl (fun bq4 => ?_) (fun bq4 => ?_)
      · refine j_iinc (ls' := [(4, _), (5, _), (0, _), (1, _), (2, _), (3, _)]) d_Fi_pick_49 rfl (by decide) rfl ?_
        refine j_goto (tgt := 7) d_Fi_pick_52 rfl ?_
        refine j_pick [2, 3, 4, 5, 0] (ls' := [(0, _), (1, _), (2, _), (3, _), (4, _)]) rfl ?_
        first
          | (have e9 : i = 0 := Decidable.byContradiction (fun e8 => nI_m1 (by have := a_am_lt (f := (a_pr D K (r_kd P))) (n := i) (by omega); omega) ((hb1 (by omega)).1.symm.trans bq3))
             subst e9
             exact ih 1 _ _ _ (by omega) rfl (fun e8 => absurd e8 (by decide)) (fun _ => ⟨rfl, rfl⟩) hF)
          | (have e9 : 0 < i := Nat.pos_of_ne_zero (fun e8 => bq3 (hb0 e8))
             obtain ⟨g1, g2⟩ := hb1 e9
             have g3 := a_am_lt (f := (a_pr D K (r_kd P))) e9
             have g4 := a_pr_lt ho hk ht (kd := r_kd P) (i := a_am (a_pr D K (r_kd P)) i) (by omega)
             have g5 := a_pr_lt ho hk ht (kd := r_kd P) hi
             rw [g2] at bq4
             have g6 : ¬ (a_pr D K (r_kd P)) i < (a_pr D K (r_kd P)) (a_am (a_pr D K (r_kd P)) i) := fun e8 => nI_ge e8 (by omega) bq4
             refine ih (i + 1) _ _ _ (by omega) (nI_inc i) (fun e8 => absurd e8 (by omega)) (fun _ => ?_) hF
             rw [a_am, if_neg (by omega), if_neg g6]
             exact ⟨g1, g2⟩)
          | (have e9 : 0 < i := Nat.pos_of_ne_zero (fun e8 => bq3 (hb0 e8))
             obtain ⟨g1, g2⟩ := hb1 e9
             have g3 := a_am_lt (f := (a_pr D K (r_kd P))) e9
             have g4 := a_pr_lt ho hk ht (kd := r_kd P) (i := a_am (a_pr D K (r_kd P)) i) (by omega)
             have g5 := a_pr_lt ho hk ht (kd := r_kd P) hi
             rw [g2] at bq4
             have g6 : (a_pr D K (r_kd P)) i < (a_pr D K (r_kd P)) (a_am (a_pr D K (r_kd P)) i) := Decidable.byContradiction (fun e8 => bq4 (nI_le (by omega) (by omega)))
             refine ih (i + 1) _ _ _ (by omega) (nI_inc i) (fun e8 => absurd e8 (by omega)) (fun _ => ?_) hF
             rw [a_am, if_neg (by omega), if_pos g6]
             exact ⟨rfl, rfl⟩)
      · refine j_iload d_Fi_pick_43 rfl ?_
        refine j_istore_n (ls' := [(2, _), (5, _), (0, _), (1, _), (3, _), (4, _)]) d_Fi_pick_45 rfl (by decide) rfl ?_
        refine j_iload d_Fi_pick_46 rfl ?_
        refine j_istore_n (ls' := [(3, _), (2, _), (5, _), (0, _), (1, _), (4, _)]) d_Fi_pick_48 rfl (by decide) rfl ?_
        refine j_iinc (ls' := [(4, _), (3, _), (2, _), (5, _), (0, _), (1, _)]) d_Fi_pick_49 rfl (by decide) rfl ?_
        refine j_goto (tgt := 7) d_Fi_pick_52 rfl ?_
        refine j_pick [4, 5, 2, 1, 0] (ls' := [(0, _), (1, _), (2, _), (3, _), (4, _)]) rfl ?_
        first
          | (have e9 : i = 0 := Decidable.byContradiction (fun e8 => nI_m1 (by have := a_am_lt (f := (a_pr D K (r_kd P))) (n := i) (by omega); omega) ((hb1 (by omega)).1.symm.trans bq3))
             subst e9
             exact ih 1 _ _ _ (by omega) rfl (fun e8 => absurd e8 (by decide)) (fun _ => ⟨rfl, rfl⟩) hF)
          | (have e9 : 0 < i := Nat.pos_of_ne_zero (fun e8 => bq3 (hb0 e8))
             obtain ⟨g1, g2⟩ := hb1 e9
             have g3 := a_am_lt (f := (a_pr D K (r_kd P))) e9
             have g4 := a_pr_lt ho hk ht (kd := r_kd P) (i := a_am (a_pr D K (r_kd P)) i) (by omega)
             have g5 := a_pr_lt ho hk ht (kd := r_kd P) hi
             rw [g2] at bq4
             have g6 : ¬ (a_pr D K (r_kd P)) i < (a_pr D K (r_kd P)) (a_am (a_pr D K (r_kd P)) i) := fun e8 => nI_ge e8 (by omega) bq4
             refine ih (i + 1) _ _ _ (by omega) (nI_inc i) (fun e8 => absurd e8 (by omega)) (fun _ => ?_) hF
             rw [a_am, if_neg (by omega), if_neg g6]
             exact ⟨g1, g2⟩)
          | (have e9 : 0 < i := Nat.pos_of_ne_zero (fun e8 => bq3 (hb0 e8))
             obtain ⟨g1, g2⟩ := hb1 e9
             have g3 := a_am_lt (f := (a_pr D K (r_kd P))) e9
             have g4 := a_pr_lt ho hk ht (kd := r_kd P) (i := a_am (a_pr D K (r_kd P)) i) (by omega)
             have g5 := a_pr_lt ho hk ht (kd := r_kd P) hi
             rw [g2] at bq4
             have g6 : (a_pr D K (r_kd P)) i < (a_pr D K (r_kd P)) (a_am (a_pr D K (r_kd P)) i) := Decidable.byContradiction (fun e8 => bq4 (nI_le (by omega) (by omega)))
             refine ih (i + 1) _ _ _ (by omega) (nI_inc i) (fun e8 => absurd e8 (by omega)) (fun _ => ?_) hF
             rw [a_am, if_neg (by omega), if_pos g6]
             exact ⟨rfl, rfl⟩)
set_option maxRecDepth 100000 in
set_option maxHeartbeats 4000000 in
theorem c_Fi_pick_7 {G : r_X} {d : Nat} {h : r_HI} {p q : Nat} {z : r_HL} {F : Int32 → r_HI → r_HR → r_HL → Prop} {D : a_D} (hD : p_D h 3 D) (ho : a_dok D) {K : a_K} (hK : p_K h 7 K) (hk : a_kok D K) {P : Nat} (hP : r_pol P) (ht : K.1 < 2 ^ 27) (hF : F (if K.2.2.2.1 = 0 then -1 else nI (a_nx D K (r_kd P))) h (r_gp p q) z) : r_Ci G m_Fi_pick (d + 3) 61 [.ref (G.2.1 + P), .ref (G.2.1 + 7)] 61 h (r_gp p q) z F := by
  refine r_C_of (by decide +kernel) (Nat.le_of_ble_eq_true rfl) ?_
  refine j_ls (ls' := [(0, _), (1, _)]) rfl ?_
  refine j_iconst (v := (-1)) d_Fi_pick_0 rfl ?_
  refine j_istore_n (ls' := [(2, _), (0, _), (1, _)]) d_Fi_pick_1 rfl (by decide) rfl ?_
  refine j_iconst (v := 0) d_Fi_pick_2 rfl ?_
  refine j_istore_n (ls' := [(3, _), (2, _), (0, _), (1, _)]) d_Fi_pick_3 rfl (by decide) rfl ?_
  refine j_iconst (v := 0) d_Fi_pick_4 rfl ?_
  refine j_istore (ls' := [(4, _), (3, _), (2, _), (0, _), (1, _)]) d_Fi_pick_5 (by decide) rfl ?_
  refine j_pick [3, 4, 2, 1, 0] (ls' := [(0, _), (1, _), (2, _), (3, _), (4, _)]) rfl ?_
  exact l_Fi_pick_7 hD ho hK hk hP ht K.2.2.2.1 0 _ _ _ (by omega) rfl (fun _ => rfl) (fun e8 => absurd e8 (by decide)) hF
set_option maxRecDepth 100000 in
set_option maxHeartbeats 4000000 in
theorem t_price_40 {G : r_X} {d : Nat} {h : r_HI} {p q : Nat} {z : r_HL} {X : State → Prop} {Z : List Frame → Array Value → State → State → Prop} {ls : List (Nat × Value)} {D : a_D} (hD : p_D h 3 D) (ho : a_dok D) {K : a_K} (hK : p_K h 40 K) (hk : a_kok D K) {P i : Nat} (hP : r_pol P) (ht : K.1 < 2 ^ 27) (hi : i < K.2.2.2.1) (kk : r_T G m_Fi_pick (r_rm (d + 3) 61 61) 61 X Z 30 ls [.int (nI (a_pr D K (r_kd P) i))] 61 h (r_gp p q) z) : r_T G m_Fi_pick (r_rm (d + 3) 61 61) 61 X Z 27 ls [.int (nI i), .ref (G.2.1 + 40), .ref (G.2.1 + P)] 61 h (r_gp p q) z := by
  rcases hP.cases with rfl | rfl | rfl | rfl | rfl | rfl
  · refine q_i (s_Fi_pick_27_Fi rfl (by decide)) rfl (Nat.le_of_ble_eq_true rfl) (Nat.le_of_ble_eq_true rfl) ?_
    exact c_Fi_price kk
  · refine q_i (s_Fi_pick_27_Ne rfl (by decide)) rfl (Nat.le_of_ble_eq_true rfl) (Nat.le_of_ble_eq_true rfl) ?_
    exact c_Ne_price_40 hD ho hK hk hi rfl kk
  · refine q_i (s_Fi_pick_27_Sw rfl (by decide)) rfl (Nat.le_of_ble_eq_true rfl) (Nat.le_of_ble_eq_true rfl) ?_
    exact c_Sw_price_40 hD ho hK hk hi rfl kk
  · refine q_i (s_Fi_pick_27_Ro rfl (by decide)) rfl (Nat.le_of_ble_eq_true rfl) (Nat.le_of_ble_eq_true rfl) ?_
    exact c_Ro_price_40 hD ho hK hk hi rfl kk
  · refine q_i (s_Fi_pick_27_So rfl (by decide)) rfl (Nat.le_of_ble_eq_true rfl) (Nat.le_of_ble_eq_true rfl) ?_
    exact c_So_price_40 hD ho hK hk hi rfl ht kk
  · refine q_i (s_Fi_pick_27_Fi rfl (by decide)) rfl (Nat.le_of_ble_eq_true rfl) (Nat.le_of_ble_eq_true rfl) ?_
    exact c_Fi_price kk
set_option maxRecDepth 100000 in
set_option maxHeartbeats 4000000 in
theorem l_Fi_pick_40 {G : r_X} {d : Nat} {h : r_HI} {p q : Nat} {z : r_HL} {F : Int32 → r_HI → r_HR → r_HL → Prop} {D : a_D} (hD : p_D h 3 D) (ho : a_dok D) {K : a_K} (hK : p_K h 40 K) (hk : a_kok D K) {P : Nat} (hP : r_pol P) (ht : K.1 < 2 ^ 27) : ∀ (e i : Nat) (v bb pr : Int32), e + i = K.2.2.2.1 → v = nI i → (i = 0 → bb = -1) → (0 < i → bb = nI (a_am (a_pr D K (r_kd P)) i) ∧ pr = nI ((a_pr D K (r_kd P)) (a_am (a_pr D K (r_kd P)) i))) → F (if K.2.2.2.1 = 0 then -1 else nI (a_am (a_pr D K (r_kd P)) K.2.2.2.1)) h (r_gp p q) z → r_TM G m_Fi_pick (d + 3) 61 61 (fun v h' g' z' => ∃ r, v = some (.int r) ∧ F r h' g' z') 7 [(0, .ref (G.2.1 + P)), (1, .ref (G.2.1 + 40)), (2, .int bb), (3, .int pr), (4, .int v)] [] 61 h (r_gp p q) z := by
  have hn7 := hk.2.2.1
  intro e
  induction e with
  | zero =>
    intro i v bb pr he hv hb0 hb1 hF
    subst hv
    refine j_iload d_Fi_pick_7 rfl ?_
    refine j_aload_n d_Fi_pick_9 rfl rfl ?_
    refine j_geti d_Fi_pick_10 f_Fi_9 rfl rfl (by decide) ?_
    refine j_icmp_ge (tgt := 55) d_Fi_pick_13 rfl (fun bq1 => ?_) (fun bq1 => False.elim (bq1 (by rw [hK.1]; exact nI_le (by omega) (by omega))))
    refine j_iload_n d_Fi_pick_55 rfl rfl ?_
    refine j_iret d_Fi_pick_56 rfl ?_
    refine q_i1 hF ?_
    have hin : i = K.2.2.2.1 := by omega
    by_cases e9 : i = 0
    · rw [hb0 e9, if_pos (by omega)]
    · rw [(hb1 (by omega)).1, if_neg (by omega), hin]
  | succ e ih =>
    intro i v bb pr he hv hb0 hb1 hF
    subst hv
    have hi : i < K.2.2.2.1 := by omega
    refine j_iload d_Fi_pick_7 rfl ?_
    refine j_aload_n d_Fi_pick_9 rfl rfl ?_
    refine j_geti d_Fi_pick_10 f_Fi_9 rfl rfl (by decide) ?_
    refine j_icmp_ge (tgt := 55) d_Fi_pick_13 rfl (fun bq1 => False.elim (nI_ge (by omega) (by omega) (hK.1 ▸ bq1))) (fun bq1 => ?_)
    refine j_iload d_Fi_pick_16 rfl ?_
    refine j_bipush (v := 7) d_Fi_pick_18 (by decide) ?_
    refine j_icmp_ge (tgt := 55) d_Fi_pick_20 rfl (fun bq2 => False.elim (nI_ge (b := 7) (by omega) (by omega) bq2)) (fun bq2 => ?_)
    refine j_aload_n d_Fi_pick_23 rfl rfl ?_
    refine j_aload_n d_Fi_pick_24 rfl rfl ?_
    refine j_iload d_Fi_pick_25 rfl ?_
    refine t_price_40 hD ho hK hk hP ht hi ?_
    refine j_istore (ls' := [(5, _), (0, _), (1, _), (2, _), (3, _), (4, _)]) d_Fi_pick_30 (by decide) rfl ?_
    refine j_iload_n d_Fi_pick_32 rfl rfl ?_
    refine j_iconst (v := (-1)) d_Fi_pick_33 rfl ?_
    refine j_icmp_eq (tgt := 43) d_Fi_pick_34 rfl (fun bq3 => ?_) (fun bq3 => ?_)
    · refine j_iload d_Fi_pick_43 rfl ?_
      refine j_istore_n (ls' := [(2, _), (5, _), (0, _), (1, _), (3, _), (4, _)]) d_Fi_pick_45 rfl (by decide) rfl ?_
      refine j_iload d_Fi_pick_46 rfl ?_
      refine j_istore_n (ls' := [(3, _), (2, _), (5, _), (0, _), (1, _), (4, _)]) d_Fi_pick_48 rfl (by decide) rfl ?_
      refine j_iinc (ls' := [(4, _), (3, _), (2, _), (5, _), (0, _), (1, _)]) d_Fi_pick_49 rfl (by decide) rfl ?_
      refine j_goto (tgt := 7) d_Fi_pick_52 rfl ?_
      refine j_pick [4, 5, 2, 1, 0] (ls' := [(0, _), (1, _), (2, _), (3, _), (4, _)]) rfl ?_
      first
        | (have e9 : i = 0 := Decidable.byContradiction (fun e8 => nI_m1 (by have := a_am_lt (f := (a_pr D K (r_kd P))) (n := i) (by omega); omega) ((hb1 (by omega)).1.symm.trans bq3))
           subst e9
           exact ih 1 _ _ _ (by omega) rfl (fun e8 => absurd e8 (by decide)) (fun _ => ⟨rfl, rfl⟩) hF)
        | (have e9 : 0 < i := Nat.pos_of_ne_zero (fun e8 => bq3 (hb0 e8))
           obtain ⟨g1, g2⟩ := hb1 e9
           have g3 := a_am_lt (f := (a_pr D K (r_kd P))) e9
           have g4 := a_pr_lt ho hk ht (kd := r_kd P) (i := a_am (a_pr D K (r_kd P)) i) (by omega)
           have g5 := a_pr_lt ho hk ht (kd := r_kd P) hi
           rw [g2] at bq4
           have g6 : ¬ (a_pr D K (r_kd P)) i < (a_pr D K (r_kd P)) (a_am (a_pr D K (r_kd P)) i) := fun e8 => nI_ge e8 (by omega) bq4
           refine ih (i + 1) _ _ _ (by omega) (nI_inc i) (fun e8 => absurd e8 (by omega)) (fun _ => ?_) hF
           rw [a_am, if_neg (by omega), if_neg g6]
           exact ⟨g1, g2⟩)
        | (have e9 : 0 < i := Nat.pos_of_ne_zero (fun e8 => bq3 (hb0 e8))
           obtain ⟨g1, g2⟩ := hb1 e9
           have g3 := a_am_lt (f := (a_pr D K (r_kd P))) e9
           have g4 := a_pr_lt ho hk ht (kd := r_kd P) (i := a_am (a_pr D K (r_kd P)) i) (by omega)
           have g5 := a_pr_lt ho hk ht (kd := r_kd P) hi
           rw [g2] at bq4
           have g6 : (a_pr D K (r_kd P)) i < (a_pr D K (r_kd P)) (a_am (a_pr D K (r_kd P)) i) := Decidable.byContradiction (fun e8 => bq4 (nI_le (by omega) (by omega)))
           refine ih (i + 1) _ _ _ (by omega) (nI_inc i) (fun e8 => absurd e8 (by omega)) (fun _ => ?_) hF
           rw [a_am, if_neg (by omega), if_pos g6]
           exact ⟨rfl, rfl⟩)
    · refine j_iload d_Fi_pick_37 rfl ?_
      refine j_iload_n d_Fi_pick_39 rfl rfl ?_
      refine j_icmp_ge (tgt := 49) d_Fi_pick_40 rfl (fun bq4 => ?_) (fun bq4 => ?_)
      · refine j_iinc (ls' := [(4, _), (5, _), (0, _), (1, _), (2, _), (3, _)]) d_Fi_pick_49 rfl (by decide) rfl ?_
        refine j_goto (tgt := 7) d_Fi_pick_52 rfl ?_
        refine j_pick [2, 3, 4, 5, 0] (ls' := [(0, _), (1, _), (2, _), (3, _), (4, _)]) rfl ?_
        first
          | (have e9 : i = 0 := Decidable.byContradiction (fun e8 => nI_m1 (by have := a_am_lt (f := (a_pr D K (r_kd P))) (n := i) (by omega); omega) ((hb1 (by omega)).1.symm.trans bq3))
             subst e9
             exact ih 1 _ _ _ (by omega) rfl (fun e8 => absurd e8 (by decide)) (fun _ => ⟨rfl, rfl⟩) hF)
          | (have e9 : 0 < i := Nat.pos_of_ne_zero (fun e8 => bq3 (hb0 e8))
             obtain ⟨g1, g2⟩ := hb1 e9
             have g3 := a_am_lt (f := (a_pr D K (r_kd P))) e9
             have g4 := a_pr_lt ho hk ht (kd := r_kd P) (i := a_am (a_pr D K (r_kd P)) i) (by omega)
             have g5 := a_pr_lt ho hk ht (kd := r_kd P) hi
             rw [g2] at bq4
             have g6 : ¬ (a_pr D K (r_kd P)) i < (a_pr D K (r_kd P)) (a_am (a_pr D K (r_kd P)) i) := fun e8 => nI_ge e8 (by omega) bq4
             refine ih (i + 1) _ _ _ (by omega) (nI_inc i) (fun e8 => absurd e8 (by omega)) (fun _ => ?_) hF
             rw [a_am, if_neg (by omega), if_neg g6]
             exact ⟨g1, g2⟩)
          | (have e9 : 0 < i := Nat.pos_of_ne_zero (fun e8 => bq3 (hb0 e8))
             obtain ⟨g1, g2⟩ := hb1 e9
             have g3 := a_am_lt (f := (a_pr D K (r_kd P))) e9
             have g4 := a_pr_lt ho hk ht (kd := r_kd P) (i := a_am (a_pr D K (r_kd P)) i) (by omega)
             have g5 := a_pr_lt ho hk ht (kd := r_kd P) hi
             rw [g2] at bq4
             have g6 : (a_pr D K (r_kd P)) i < (a_pr D K (r_kd P)) (a_am (a_pr D K (r_kd P)) i) := Decidable.byContradiction (fun e8 => bq4 (nI_le (by omega) (by omega)))
             refine ih (i + 1) _ _ _ (by omega) (nI_inc i) (fun e8 => absurd e8 (by omega)) (fun _ => ?_) hF
             rw [a_am, if_neg (by omega), if_pos g6]
             exact ⟨rfl, rfl⟩)
      · refine j_iload d_Fi_pick_43 rfl ?_
        refine j_istore_n (ls' := [(2, _), (5, _), (0, _), (1, _), (3, _), (4, _)]) d_Fi_pick_45 rfl (by decide) rfl ?_
        refine j_iload d_Fi_pick_46 rfl ?_
        refine j_istore_n (ls' := [(3, _), (2, _), (5, _), (0, _), (1, _), (4, _)]) d_Fi_pick_48 rfl (by decide) rfl ?_
        refine j_iinc (ls' := [(4, _), (3, _), (2, _), (5, _), (0, _), (1, _)]) d_Fi_pick_49 rfl (by decide) rfl ?_
        refine j_goto (tgt := 7) d_Fi_pick_52 rfl ?_
        refine j_pick [4, 5, 2, 1, 0] (ls' := [(0, _), (1, _), (2, _), (3, _), (4, _)]) rfl ?_
        first
          | (have e9 : i = 0 := Decidable.byContradiction (fun e8 => nI_m1 (by have := a_am_lt (f := (a_pr D K (r_kd P))) (n := i) (by omega); omega) ((hb1 (by omega)).1.symm.trans bq3))
             subst e9
             exact ih 1 _ _ _ (by omega) rfl (fun e8 => absurd e8 (by decide)) (fun _ => ⟨rfl, rfl⟩) hF)
          | (have e9 : 0 < i := Nat.pos_of_ne_zero (fun e8 => bq3 (hb0 e8))
             obtain ⟨g1, g2⟩ := hb1 e9
             have g3 := a_am_lt (f := (a_pr D K (r_kd P))) e9
             have g4 := a_pr_lt ho hk ht (kd := r_kd P) (i := a_am (a_pr D K (r_kd P)) i) (by omega)
             have g5 := a_pr_lt ho hk ht (kd := r_kd P) hi
             rw [g2] at bq4
             have g6 : ¬ (a_pr D K (r_kd P)) i < (a_pr D K (r_kd P)) (a_am (a_pr D K (r_kd P)) i) := fun e8 => nI_ge e8 (by omega) bq4
             refine ih (i + 1) _ _ _ (by omega) (nI_inc i) (fun e8 => absurd e8 (by omega)) (fun _ => ?_) hF
             rw [a_am, if_neg (by omega), if_neg g6]
             exact ⟨g1, g2⟩)
          | (have e9 : 0 < i := Nat.pos_of_ne_zero (fun e8 => bq3 (hb0 e8))
             obtain ⟨g1, g2⟩ := hb1 e9
             have g3 := a_am_lt (f := (a_pr D K (r_kd P))) e9
             have g4 := a_pr_lt ho hk ht (kd := r_kd P) (i := a_am (a_pr D K (r_kd P)) i) (by omega)
             have g5 := a_pr_lt ho hk ht (kd := r_kd P) hi
             rw [g2] at bq4
             have g6 : (a_pr D K (r_kd P)) i < (a_pr D K (r_kd P)) (a_am (a_pr D K (r_kd P)) i) := Decidable.byContradiction (fun e8 => bq4 (nI_le (by omega) (by omega)))
             refine ih (i + 1) _ _ _ (by omega) (nI_inc i) (fun e8 => absurd e8 (by omega)) (fun _ => ?_) hF
             rw [a_am, if_neg (by omega), if_pos g6]
             exact ⟨rfl, rfl⟩)
set_option maxRecDepth 100000 in
set_option maxHeartbeats 4000000 in
theorem c_Fi_pick_40 {G : r_X} {d : Nat} {h : r_HI} {p q : Nat} {z : r_HL} {F : Int32 → r_HI → r_HR → r_HL → Prop} {D : a_D} (hD : p_D h 3 D) (ho : a_dok D) {K : a_K} (hK : p_K h 40 K) (hk : a_kok D K) {P : Nat} (hP : r_pol P) (ht : K.1 < 2 ^ 27) (hF : F (if K.2.2.2.1 = 0 then -1 else nI (a_nx D K (r_kd P))) h (r_gp p q) z) : r_Ci G m_Fi_pick (d + 3) 61 [.ref (G.2.1 + P), .ref (G.2.1 + 40)] 61 h (r_gp p q) z F := by
  refine r_C_of (by decide +kernel) (Nat.le_of_ble_eq_true rfl) ?_
  refine j_ls (ls' := [(0, _), (1, _)]) rfl ?_
  refine j_iconst (v := (-1)) d_Fi_pick_0 rfl ?_
  refine j_istore_n (ls' := [(2, _), (0, _), (1, _)]) d_Fi_pick_1 rfl (by decide) rfl ?_
  refine j_iconst (v := 0) d_Fi_pick_2 rfl ?_
  refine j_istore_n (ls' := [(3, _), (2, _), (0, _), (1, _)]) d_Fi_pick_3 rfl (by decide) rfl ?_
  refine j_iconst (v := 0) d_Fi_pick_4 rfl ?_
  refine j_istore (ls' := [(4, _), (3, _), (2, _), (0, _), (1, _)]) d_Fi_pick_5 (by decide) rfl ?_
  refine j_pick [3, 4, 2, 1, 0] (ls' := [(0, _), (1, _), (2, _), (3, _), (4, _)]) rfl ?_
  exact l_Fi_pick_40 hD ho hK hk hP ht K.2.2.2.1 0 _ _ _ (by omega) rfl (fun _ => rfl) (fun e8 => absurd e8 (by decide)) hF
