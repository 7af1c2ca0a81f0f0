/-- how far one is, as one goes (0 both ways, 1 inward, 2 outward) -/
def a_aw (K : a_K) (w i : Nat) : Option Nat := if w = 0 then some (a_ds (K.2.2.2.2.1 i) K.2.1) else if w = 1 then (if K.2.1 ≤ K.2.2.2.2.1 i then some (K.2.2.2.2.1 i - K.2.1) else none) else (if K.2.2.2.2.1 i ≤ K.2.1 then some (K.2.1 - K.2.2.2.2.1 i) else none)
def a_wI (w : Nat) : Int32 := if w = 0 then 0 else if w = 1 then 1 else -1
def a_oi (o : Option Nat) : Int32 := match o with
  | none => -1
  | some v => nI v
def a_om (f : Nat → Option Nat) : Nat → Option (Nat × Nat)
  | 0 => none
  | n + 1 => match f n with
    | none => a_om f n
    | some v => match a_om f n with
      | none => some (n, v)
      | some b => if v < b.2 then some (n, v) else some b
def a_ob (o : Option (Nat × Nat)) : Int32 := match o with
  | none => -1
  | some b => nI b.1
def a_ou (o : Option (Nat × Nat)) : Int32 := match o with
  | none => 99
  | some b => nI b.2
theorem a_om_lt {f : Nat → Option Nat} : ∀ {n : Nat} {b : Nat × Nat}, a_om f n = some b → b.1 < n ∧ f b.1 = some b.2
  | 0, b, h => by cases h
  | n + 1, b, h => by
    unfold a_om at h
    cases hf : f n with
    | none =>
      rw [hf] at h
      have := a_om_lt (n := n) h
      exact ⟨by omega, this.2⟩
    | some v =>
      rw [hf] at h
      cases ha : a_om f n with
      | none =>
        rw [ha] at h
        injection h with h
        subst h
        exact ⟨by simp, hf⟩
      | some c =>
        rw [ha] at h
        simp only at h
        split at h
        · injection h with h
          subst h
          exact ⟨by simp, hf⟩
        · injection h with h
          subst h
          have := a_om_lt (n := n) ha
          exact ⟨by omega, this.2⟩
theorem a_om_no {f : Nat → Option Nat} : ∀ {n : Nat}, a_om f n = none → ∀ i, i < n → f i = none
  | 0, _, i, hi => absurd hi (Nat.not_lt_zero i)
  | n + 1, h, i, hi => by
    unfold a_om at h
    cases hf : f n with
    | none =>
      rw [hf] at h
      by_cases e : i = n
      · rw [e]; exact hf
      · exact a_om_no (n := n) h i (by omega)
    | some v =>
      rw [hf] at h
      cases ha : a_om f n with
      | none =>
        rw [ha] at h
        cases h
      | some c =>
        rw [ha] at h
        simp only at h
        split at h <;> cases h
/-- the first of the least, when those that are not on the way weigh ten more -/
theorem a_om_am {f : Nat → Option Nat} {p v : Nat → Nat} : ∀ {n : Nat}, (∀ i, i < n → (f i = none → p i = 10 + v i) ∧ ∀ u, f i = some u → p i = u ∧ u ≤ 9) → ∀ {b : Nat × Nat}, a_om f n = some b → a_am p n = b.1
  | 0, _, b, h => by cases h
  | n + 1, hp, b, h => by
    have hb := a_om_lt h
    unfold a_om at h
    unfold a_am
    by_cases hn : n = 0
    · rw [if_pos hn]
      have := hb.1
      omega
    rw [if_neg hn]
    have ih : ∀ {b : Nat × Nat}, a_om f n = some b → a_am p n = b.1 := fun h => a_om_am (fun i hi => hp i (by omega)) h
    cases hf : f n with
    | none =>
      rw [hf] at h
      have h1 := ih h
      have h2 := a_om_lt h
      have h3 := (hp n (by omega)).1 hf
      have h4 := (hp b.1 (by omega)).2 b.2 h2.2
      rw [h1, if_neg (by omega)]
    | some w =>
      rw [hf] at h
      have h3 := (hp n (by omega)).2 w hf
      cases ha : a_om f n with
      | none =>
        rw [ha] at h
        injection h with h
        subst h
        have h5 : f (a_am p n) = none := a_om_no ha _ (a_am_lt (by omega))
        have h6 := (hp (a_am p n) (by have := a_am_lt (f := p) (n := n) (by omega); omega)).1 h5
        rw [if_pos (by omega)]
      | some c =>
        rw [ha] at h
        have h1 := ih ha
        have h2 := a_om_lt ha
        have h4 := (hp c.1 (by omega)).2 c.2 h2.2
        simp only at h
        rw [h1]
        by_cases e : w < c.2
        · rw [if_pos e] at h
          injection h with h
          subst h
          rw [if_pos (by omega)]
        · rw [if_neg e] at h
          injection h with h
          subst h
          rw [if_neg (by omega)]
theorem a_am_eq {p v : Nat → Nat} {c : Nat} : ∀ {n : Nat}, (∀ i, i < n → p i = c + v i) → a_am p n = a_am v n
  | 0, _ => rfl
  | n + 1, h => by
    unfold a_am
    rw [a_am_eq (n := n) (fun i hi => h i (by omega))]
    by_cases hn : n = 0
    · rw [if_pos hn, if_pos hn]
    · rw [if_neg hn, if_neg hn]
      have h1 := h n (by omega)
      have h2 := h (a_am v n) (by have := a_am_lt (f := v) (n := n) (by omega); omega)
      by_cases e : v n < v (a_am v n)
      · rw [if_pos e, if_pos (by omega)]
      · rw [if_neg e, if_neg (by omega)]
theorem a_om_all {f : Nat → Option Nat} {n : Nat} (h : ∀ i, i < n → f i ≠ none) (hn : 0 < n) : ∃ b, a_om f n = some b := by
  cases e : a_om f n with
  | none => exact absurd (a_om_no e 0 hn) (h 0 hn)
  | some b => exact ⟨b, rfl⟩
theorem m1_sub {a b : Nat} : (-1 : Int32) * (nI a - nI b) = nI b - nI a := by
  rw [iI_m1]
  simp only [iI_n, iI_sub, iI_mul]
  congr 1
  omega
theorem z0_sub {a b : Nat} : (0 : Int32) - (nI a - nI b) = nI b - nI a := by
  rw [show (0 : Int32) = iI 0 from rfl]
  simp only [iI_n, iI_sub]
  congr 1
  omega
theorem a_aw_le {K : a_K} {w i u : Nat} (ha : K.2.1 < 10) (hr : K.2.2.2.2.1 i < 10) (h : a_aw K w i = some u) : u ≤ 9 := by
  unfold a_aw a_ds at h
  repeat' split at h
  all_goals first | (injection h with h; omega) | cases h
/-- three by three, one is taken out -/
def r_s3 (f : Nat → Int32) (a m : Nat) : Nat → Int32 := fun x => if a ≤ x ∧ x < m then f (x + 3) else f x
theorem r_s3_up {f : Nat → Int32} {a k : Nat} (h : a ≤ k) : upd (r_s3 f a k) k (f (k + 3)) = r_s3 f a (k + 1) := by
  funext x
  by_cases e : x = k
  · subst e
    simp only [upd, if_pos, r_s3]
    rw [if_pos ⟨h, Nat.lt_succ_self x⟩]
  · simp only [upd, if_neg e, r_s3]
    by_cases e2 : a ≤ x ∧ x < k
    · rw [if_pos e2, if_pos ⟨e2.1, by omega⟩]
    · rw [if_neg e2, if_neg (by omega)]
theorem r_s3_0 {f : Nat → Int32} {a : Nat} : r_s3 f a a = f := by
  funext x
  simp only [r_s3]
  rw [if_neg (by omega)]
set_option maxRecDepth 100000 in
set_option maxHeartbeats 4000000 in
theorem c_Mo_begin {G : r_X} {d : Nat} {h : r_HI} {p q : Nat} {z : r_HL} {F : r_HI → r_HR → r_HL → Prop} {K : a_K} (hJ : p_J h K) (hn : K.2.2.2.1 ≤ 7) (hF : ∀ h', r_ey [52] [15, 16, 17, 18] h h' → p_T h' K → F h' (r_gp p q) z) : r_Cv G m_Mo_begin (d + 1) 61 [.ref (G.2.1 + 47)] 61 h (r_gp p q) z F := by
  refine r_C_of (by decide +kernel) (Nat.le_of_ble_eq_true rfl) ?_
  refine j_ls (ls' := [(0, _)]) rfl ?_
  refine j_aload_n d_Mo_begin_0 rfl rfl ?_
  refine j_aload_n d_Mo_begin_1 rfl rfl ?_
  refine j_geti d_Mo_begin_2 f_Mo_105 rfl rfl (by decide) ?_
  refine j_puti d_Mo_begin_5 f_Mo_130 (by decide) rfl rfl (by decide) ?_
  refine j_aload_n d_Mo_begin_8 rfl rfl ?_
  refine j_aload_n d_Mo_begin_9 rfl rfl ?_
  refine j_geti d_Mo_begin_10 f_Mo_108 rfl rfl (by decide) ?_
  refine j_puti d_Mo_begin_13 f_Mo_133 (by decide) rfl rfl (by decide) ?_
  refine j_aload_n d_Mo_begin_16 rfl rfl ?_
  refine j_aload_n d_Mo_begin_17 rfl rfl ?_
  refine j_geti d_Mo_begin_18 f_Mo_111 rfl rfl (by decide) ?_
  refine j_puti d_Mo_begin_21 f_Mo_136 (by decide) rfl rfl (by decide) ?_
  refine j_aload_n d_Mo_begin_24 rfl rfl ?_
  refine j_aload_n d_Mo_begin_25 rfl rfl ?_
  refine j_geti d_Mo_begin_26 f_Mo_114 rfl rfl (by decide) ?_
  refine j_puti d_Mo_begin_29 f_Mo_139 (by decide) rfl rfl (by decide) ?_
  refine j_aload_n d_Mo_begin_32 rfl rfl ?_
  refine j_getr d_Mo_begin_33 f_Mo_19 rfl rfl (by decide) rfl ?_
  refine j_aload_n d_Mo_begin_36 rfl rfl ?_
  refine j_getr d_Mo_begin_37 f_Mo_22 rfl rfl (by decide) rfl ?_
  refine q_v s_Mo_begin_40 rfl (Nat.le_of_ble_eq_true rfl) (Nat.le_of_ble_eq_true rfl) ?_
  refine c_Mo_copy rfl rfl (by decide) (by decide) (by decide) (by decide) ?_
  refine j_vret d_Mo_begin_43 rfl ?_
  refine q_v1 (hF _ ?_ ?_) rfl
  · exact ((((r_ey.rf.fl (by decide)).fl (by decide)).fl (by decide)).fl (by decide)).rw (by decide) (by decide)
  · refine ⟨hJ.1, hJ.2.1, hJ.2.2.1, hJ.2.2.2.1, fun i hi => ?_⟩
    obtain ⟨g1, g2, g3⟩ := hJ.2.2.2.2 i hi
    refine ⟨(if_pos (show 3 * i < 21 by omega)).trans g1, (if_pos (show 3 * i + 1 < 21 by omega)).trans g2, (if_pos (show 3 * i + 2 < 21 by omega)).trans g3⟩
set_option maxRecDepth 100000 in
set_option maxHeartbeats 4000000 in
theorem c_Mo_keep {G : r_X} {d : Nat} {h : r_HI} {p q : Nat} {z : r_HL} {F : r_HI → r_HR → r_HL → Prop} {K : a_K} (hJ : p_T h K) (hn : K.2.2.2.1 ≤ 7) (hF : ∀ h', r_ey [51] [7, 8, 9, 10] h h' → p_J h' K → F h' (r_gp p q) z) : r_Cv G m_Mo_keep (d + 1) 61 [.ref (G.2.1 + 47)] 61 h (r_gp p q) z F := by
  refine r_C_of (by decide +kernel) (Nat.le_of_ble_eq_true rfl) ?_
  refine j_ls (ls' := [(0, _)]) rfl ?_
  refine j_aload_n d_Mo_keep_0 rfl rfl ?_
  refine j_aload_n d_Mo_keep_1 rfl rfl ?_
  refine j_geti d_Mo_keep_2 f_Mo_130 rfl rfl (by decide) ?_
  refine j_puti d_Mo_keep_5 f_Mo_105 (by decide) rfl rfl (by decide) ?_
  refine j_aload_n d_Mo_keep_8 rfl rfl ?_
  refine j_aload_n d_Mo_keep_9 rfl rfl ?_
  refine j_geti d_Mo_keep_10 f_Mo_133 rfl rfl (by decide) ?_
  refine j_puti d_Mo_keep_13 f_Mo_108 (by decide) rfl rfl (by decide) ?_
  refine j_aload_n d_Mo_keep_16 rfl rfl ?_
  refine j_aload_n d_Mo_keep_17 rfl rfl ?_
  refine j_geti d_Mo_keep_18 f_Mo_136 rfl rfl (by decide) ?_
  refine j_puti d_Mo_keep_21 f_Mo_111 (by decide) rfl rfl (by decide) ?_
  refine j_aload_n d_Mo_keep_24 rfl rfl ?_
  refine j_aload_n d_Mo_keep_25 rfl rfl ?_
  refine j_geti d_Mo_keep_26 f_Mo_139 rfl rfl (by decide) ?_
  refine j_puti d_Mo_keep_29 f_Mo_114 (by decide) rfl rfl (by decide) ?_
  refine j_aload_n d_Mo_keep_32 rfl rfl ?_
  refine j_getr d_Mo_keep_33 f_Mo_22 rfl rfl (by decide) rfl ?_
  refine j_aload_n d_Mo_keep_36 rfl rfl ?_
  refine j_getr d_Mo_keep_37 f_Mo_19 rfl rfl (by decide) rfl ?_
  refine q_v s_Mo_keep_40 rfl (Nat.le_of_ble_eq_true rfl) (Nat.le_of_ble_eq_true rfl) ?_
  refine c_Mo_copy rfl rfl (by decide) (by decide) (by decide) (by decide) ?_
  refine j_vret d_Mo_keep_43 rfl ?_
  refine q_v1 (hF _ ?_ ?_) rfl
  · exact ((((r_ey.rf.fl (by decide)).fl (by decide)).fl (by decide)).fl (by decide)).rw (by decide) (by decide)
  · refine ⟨hJ.1, hJ.2.1, hJ.2.2.1, hJ.2.2.2.1, fun i hi => ?_⟩
    obtain ⟨g1, g2, g3⟩ := hJ.2.2.2.2 i hi
    refine ⟨(if_pos (show 3 * i < 21 by omega)).trans g1, (if_pos (show 3 * i + 1 < 21 by omega)).trans g2, (if_pos (show 3 * i + 2 < 21 by omega)).trans g3⟩
set_option maxRecDepth 100000 in
set_option maxHeartbeats 4000000 in
theorem c_Mo_doneThen {G : r_X} {d : Nat} {h : r_HI} {p q : Nat} {z : r_HL} {F : Int32 → r_HI → r_HR → r_HL → Prop} {D : a_D} (hN : p_N h D) (ho : a_dok D) {K : a_K} (hT : p_T h K) (hk : a_kok D K) {i : Nat} {a1 : Int32} (ht : K.1 < 2 ^ 27) (hi : i < K.2.2.2.1) (e1 : a1 = nI i) (hF : F (nI (a_dn D K.1 K.2.1 (K.2.2.2.2.1 i) (K.2.2.2.2.2.1 i))) h (r_gp p q) z) : r_Ci G m_Mo_doneThen (d + 2) 61 [.ref (G.2.1 + 47), .int a1] 61 h (r_gp p q) z F := by
  obtain ⟨hri, hpi, hsi⟩ := hT.2.2.2.2 i hi
  obtain ⟨hr1, hp1, hs1⟩ := hk.2.2.2 i hi
  have hn7 := hk.2.2.1
  have h10 := ho.1
  have ha10 := hk.1
  refine r_C_of (by decide +kernel) (Nat.le_of_ble_eq_true rfl) ?_
  refine j_ls (ls' := [(0, _), (1, _)]) rfl ?_
  refine j_aload_n d_Mo_doneThen_0 rfl rfl ?_
  refine j_aload_n d_Mo_doneThen_1 rfl rfl ?_
  refine j_geti d_Mo_doneThen_2 f_Mo_133 rfl rfl (by decide) ?_
  refine j_aload_n d_Mo_doneThen_5 rfl rfl ?_
  refine j_geti d_Mo_doneThen_6 f_Mo_130 rfl rfl (by decide) ?_
  refine j_aload_n d_Mo_doneThen_9 rfl rfl ?_
  refine j_getr d_Mo_doneThen_10 f_Mo_22 rfl rfl (by decide) rfl ?_
  refine j_iconst (v := 3) d_Mo_doneThen_13 rfl ?_
  refine j_iload_n d_Mo_doneThen_14 rfl rfl ?_
  refine j_imul d_Mo_doneThen_15 ?_
  refine j_iav d_Mo_doneThen_16 rfl (by decide) (j := 3 * i) (by rw [e1]; exact m3_0 i) (by omega) (by decide) (hri) ?_
  refine j_aload_n d_Mo_doneThen_17 rfl rfl ?_
  refine j_getr d_Mo_doneThen_18 f_Mo_22 rfl rfl (by decide) rfl ?_
  refine j_iconst (v := 3) d_Mo_doneThen_21 rfl ?_
  refine j_iload_n d_Mo_doneThen_22 rfl rfl ?_
  refine j_imul d_Mo_doneThen_23 ?_
  refine j_iconst (v := 1) d_Mo_doneThen_24 rfl ?_
  refine j_iadd d_Mo_doneThen_25 ?_
  refine j_iav d_Mo_doneThen_26 rfl (by decide) (j := 3 * i + 1) (by rw [e1]; exact m3_1 i) (by omega) (by decide) (hpi) ?_
  refine q_i (s_Mo_doneThen_27 rfl (by decide)) rfl (Nat.le_of_ble_eq_true rfl) (Nat.le_of_ble_eq_true rfl) ?_
  refine c_Mo_doneBy hN ho ht hk.1 hr1 hp1 hT.2.1 hT.1 rfl rfl ?_
  refine j_iret d_Mo_doneThen_30 rfl ?_
  exact q_i1 hF rfl
set_option maxRecDepth 100000 in
set_option maxHeartbeats 4000000 in
theorem c_Mo_awayThen {G : r_X} {d : Nat} {h : r_HI} {p q : Nat} {z : r_HL} {F : Int32 → r_HI → r_HR → r_HL → Prop} {D : a_D} (hN : p_N h D) (ho : a_dok D) {K : a_K} (hT : p_T h K) (hk : a_kok D K) {i w : Nat} {a1 a2 : Int32} (hi : i < K.2.2.2.1) (hw : w < 3) (e1 : a1 = nI i) (e3 : a2 = a_wI w) (hF : F (a_oi (a_aw K w i)) h (r_gp p q) z) : r_Ci G m_Mo_awayThen (d) 61 [.ref (G.2.1 + 47), .int a1, .int a2] 61 h (r_gp p q) z F := by
  obtain ⟨hri, hpi, hsi⟩ := hT.2.2.2.2 i hi
  obtain ⟨hr1, hp1, hs1⟩ := hk.2.2.2 i hi
  have hn7 := hk.2.2.1
  have h10 := ho.1
  have ha10 := hk.1
  rcases (show w = 0 ∨ w = 1 ∨ w = 2 by omega) with e2 | e2 | e2
  · subst e2
    subst e3
    by_cases c : K.2.1 ≤ K.2.2.2.2.1 i
    · have hs : a_aw K 0 i = some (K.2.2.2.2.1 i - K.2.1) := by
        unfold a_aw a_ds
        rw [if_pos rfl]
        split <;> congr 1 <;> omega
      rw [hs] at hF
      refine r_C_of (by decide +kernel) (Nat.le_of_ble_eq_true rfl) ?_
      refine j_ls (ls' := [(0, _), (1, _), (2, _)]) rfl ?_
      refine j_aload_n d_Mo_awayThen_0 rfl rfl ?_
      refine j_getr d_Mo_awayThen_1 f_Mo_22 rfl rfl (by decide) rfl ?_
      refine j_iconst (v := 3) d_Mo_awayThen_4 rfl ?_
      refine j_iload_n d_Mo_awayThen_5 rfl rfl ?_
      refine j_imul d_Mo_awayThen_6 ?_
      refine j_iav d_Mo_awayThen_7 rfl (by decide) (j := 3 * i) (by rw [e1]; exact m3_0 i) (by omega) (by decide) (hri) ?_
      refine j_aload_n d_Mo_awayThen_8 rfl rfl ?_
      refine j_geti d_Mo_awayThen_9 f_Mo_133 rfl rfl (by decide) ?_
      refine j_isub d_Mo_awayThen_12 ?_
      rw [hT.2.1]
      refine j_istore_n (ls' := [(3, _), (0, _), (1, _), (2, _)]) d_Mo_awayThen_13 rfl (by decide) rfl ?_
      refine j_iload_n d_Mo_awayThen_14 rfl rfl ?_
      refine j_if_ne (tgt := 32) d_Mo_awayThen_15 rfl (fun bq1 => False.elim (bq1 rfl)) (fun bq1 => ?_)
      refine j_iload_n d_Mo_awayThen_18 rfl rfl ?_
      rw [pk_sub (by omega)]
      refine j_if_ge (tgt := 28) d_Mo_awayThen_19 rfl (fun bq2 => ?_) (fun bq2 => False.elim (bq2 (nI_pos' (by omega))))
      refine j_iload_n d_Mo_awayThen_28 rfl rfl ?_
      refine j_goto (tgt := 45) d_Mo_awayThen_29 rfl ?_
      refine j_iret d_Mo_awayThen_45 rfl ?_
      exact q_i1 hF rfl
    · have hs : a_aw K 0 i = some (K.2.1 - K.2.2.2.2.1 i) := by
        unfold a_aw a_ds
        rw [if_pos rfl]
        split <;> congr 1 <;> omega
      rw [hs] at hF
      refine r_C_of (by decide +kernel) (Nat.le_of_ble_eq_true rfl) ?_
      refine j_ls (ls' := [(0, _), (1, _), (2, _)]) rfl ?_
      refine j_aload_n d_Mo_awayThen_0 rfl rfl ?_
      refine j_getr d_Mo_awayThen_1 f_Mo_22 rfl rfl (by decide) rfl ?_
      refine j_iconst (v := 3) d_Mo_awayThen_4 rfl ?_
      refine j_iload_n d_Mo_awayThen_5 rfl rfl ?_
      refine j_imul d_Mo_awayThen_6 ?_
      refine j_iav d_Mo_awayThen_7 rfl (by decide) (j := 3 * i) (by rw [e1]; exact m3_0 i) (by omega) (by decide) (hri) ?_
      refine j_aload_n d_Mo_awayThen_8 rfl rfl ?_
      refine j_geti d_Mo_awayThen_9 f_Mo_133 rfl rfl (by decide) ?_
      refine j_isub d_Mo_awayThen_12 ?_
      rw [hT.2.1]
      refine j_istore_n (ls' := [(3, _), (0, _), (1, _), (2, _)]) d_Mo_awayThen_13 rfl (by decide) rfl ?_
      refine j_iload_n d_Mo_awayThen_14 rfl rfl ?_
      refine j_if_ne (tgt := 32) d_Mo_awayThen_15 rfl (fun bq1 => False.elim (bq1 rfl)) (fun bq1 => ?_)
      refine j_iload_n d_Mo_awayThen_18 rfl rfl ?_
      refine j_if_ge (tgt := 28) d_Mo_awayThen_19 rfl (fun bq2 => False.elim (absurd bq2 (by rw [Int32.not_le]; exact pk_sneg (by omega) (by omega)))) (fun bq2 => ?_)
      refine j_iconst (v := 0) d_Mo_awayThen_22 rfl ?_
      refine j_iload_n d_Mo_awayThen_23 rfl rfl ?_
      refine j_isub d_Mo_awayThen_24 ?_
      refine j_goto (tgt := 45) d_Mo_awayThen_25 rfl ?_
      refine j_iret d_Mo_awayThen_45 rfl ?_
      refine q_i1 hF ?_
      rw [z0_sub, pk_sub (by omega)]
      rfl
  · subst e2
    subst e3
    by_cases c : K.2.1 ≤ K.2.2.2.2.1 i
    · have hs : a_aw K 1 i = some (K.2.2.2.2.1 i - K.2.1) := by simp [a_aw, c]
      rw [hs] at hF
      refine r_C_of (by decide +kernel) (Nat.le_of_ble_eq_true rfl) ?_
      refine j_ls (ls' := [(0, _), (1, _), (2, _)]) rfl ?_
      refine j_aload_n d_Mo_awayThen_0 rfl rfl ?_
      refine j_getr d_Mo_awayThen_1 f_Mo_22 rfl rfl (by decide) rfl ?_
      refine j_iconst (v := 3) d_Mo_awayThen_4 rfl ?_
      refine j_iload_n d_Mo_awayThen_5 rfl rfl ?_
      refine j_imul d_Mo_awayThen_6 ?_
      refine j_iav d_Mo_awayThen_7 rfl (by decide) (j := 3 * i) (by rw [e1]; exact m3_0 i) (by omega) (by decide) (hri) ?_
      refine j_aload_n d_Mo_awayThen_8 rfl rfl ?_
      refine j_geti d_Mo_awayThen_9 f_Mo_133 rfl rfl (by decide) ?_
      refine j_isub d_Mo_awayThen_12 ?_
      rw [hT.2.1]
      refine j_istore_n (ls' := [(3, _), (0, _), (1, _), (2, _)]) d_Mo_awayThen_13 rfl (by decide) rfl ?_
      refine j_iload_n d_Mo_awayThen_14 rfl rfl ?_
      refine j_if_ne (tgt := 32) d_Mo_awayThen_15 rfl (fun bq1 => ?_) (fun bq1 => False.elim (absurd bq1 (by decide)))
      refine j_iload_n d_Mo_awayThen_32 rfl rfl ?_
      refine j_iload_n d_Mo_awayThen_33 rfl rfl ?_
      refine j_imul d_Mo_awayThen_34 ?_
      rw [show a_wI 1 = 1 from rfl, Int32.one_mul, pk_sub (by omega)]
      refine j_if_ge (tgt := 42) d_Mo_awayThen_35 rfl (fun bq2 => ?_) (fun bq2 => False.elim (bq2 (nI_pos' (by omega))))
      refine j_iload_n d_Mo_awayThen_42 rfl rfl ?_
      refine j_iload_n d_Mo_awayThen_43 rfl rfl ?_
      refine j_imul d_Mo_awayThen_44 ?_
      refine j_iret d_Mo_awayThen_45 rfl ?_
      refine q_i1 hF ?_
      rw [Int32.one_mul]
      rfl
    · have hs : a_aw K 1 i = none := by simp [a_aw, c]
      rw [hs] at hF
      refine r_C_of (by decide +kernel) (Nat.le_of_ble_eq_true rfl) ?_
      refine j_ls (ls' := [(0, _), (1, _), (2, _)]) rfl ?_
      refine j_aload_n d_Mo_awayThen_0 rfl rfl ?_
      refine j_getr d_Mo_awayThen_1 f_Mo_22 rfl rfl (by decide) rfl ?_
      refine j_iconst (v := 3) d_Mo_awayThen_4 rfl ?_
      refine j_iload_n d_Mo_awayThen_5 rfl rfl ?_
      refine j_imul d_Mo_awayThen_6 ?_
      refine j_iav d_Mo_awayThen_7 rfl (by decide) (j := 3 * i) (by rw [e1]; exact m3_0 i) (by omega) (by decide) (hri) ?_
      refine j_aload_n d_Mo_awayThen_8 rfl rfl ?_
      refine j_geti d_Mo_awayThen_9 f_Mo_133 rfl rfl (by decide) ?_
      refine j_isub d_Mo_awayThen_12 ?_
      rw [hT.2.1]
      refine j_istore_n (ls' := [(3, _), (0, _), (1, _), (2, _)]) d_Mo_awayThen_13 rfl (by decide) rfl ?_
      refine j_iload_n d_Mo_awayThen_14 rfl rfl ?_
      refine j_if_ne (tgt := 32) d_Mo_awayThen_15 rfl (fun bq1 => ?_) (fun bq1 => False.elim (absurd bq1 (by decide)))
      refine j_iload_n d_Mo_awayThen_32 rfl rfl ?_
      refine j_iload_n d_Mo_awayThen_33 rfl rfl ?_
      refine j_imul d_Mo_awayThen_34 ?_
      rw [show a_wI 1 = 1 from rfl, Int32.one_mul]
      refine j_if_ge (tgt := 42) d_Mo_awayThen_35 rfl (fun bq2 => False.elim (absurd bq2 (by rw [Int32.not_le]; exact pk_sneg (by omega) (by omega)))) (fun bq2 => ?_)
      refine j_iconst (v := (-1)) d_Mo_awayThen_38 rfl ?_
      refine j_goto (tgt := 45) d_Mo_awayThen_39 rfl ?_
      refine j_iret d_Mo_awayThen_45 rfl ?_
      exact q_i1 hF rfl
  · subst e2
    subst e3
    by_cases c : K.2.2.2.2.1 i ≤ K.2.1
    · have hs : a_aw K 2 i = some (K.2.1 - K.2.2.2.2.1 i) := by simp [a_aw, c]
      rw [hs] at hF
      refine r_C_of (by decide +kernel) (Nat.le_of_ble_eq_true rfl) ?_
      refine j_ls (ls' := [(0, _), (1, _), (2, _)]) rfl ?_
      refine j_aload_n d_Mo_awayThen_0 rfl rfl ?_
      refine j_getr d_Mo_awayThen_1 f_Mo_22 rfl rfl (by decide) rfl ?_
      refine j_iconst (v := 3) d_Mo_awayThen_4 rfl ?_
      refine j_iload_n d_Mo_awayThen_5 rfl rfl ?_
      refine j_imul d_Mo_awayThen_6 ?_
      refine j_iav d_Mo_awayThen_7 rfl (by decide) (j := 3 * i) (by rw [e1]; exact m3_0 i) (by omega) (by decide) (hri) ?_
      refine j_aload_n d_Mo_awayThen_8 rfl rfl ?_
      refine j_geti d_Mo_awayThen_9 f_Mo_133 rfl rfl (by decide) ?_
      refine j_isub d_Mo_awayThen_12 ?_
      rw [hT.2.1]
      refine j_istore_n (ls' := [(3, _), (0, _), (1, _), (2, _)]) d_Mo_awayThen_13 rfl (by decide) rfl ?_
      refine j_iload_n d_Mo_awayThen_14 rfl rfl ?_
      refine j_if_ne (tgt := 32) d_Mo_awayThen_15 rfl (fun bq1 => ?_) (fun bq1 => False.elim (absurd bq1 (by decide)))
      refine j_iload_n d_Mo_awayThen_32 rfl rfl ?_
      refine j_iload_n d_Mo_awayThen_33 rfl rfl ?_
      refine j_imul d_Mo_awayThen_34 ?_
      rw [show a_wI 2 = -1 from rfl, m1_sub, pk_sub (a := K.2.1) (b := K.2.2.2.2.1 i) (by omega)]
      refine j_if_ge (tgt := 42) d_Mo_awayThen_35 rfl (fun bq2 => ?_) (fun bq2 => False.elim (bq2 (nI_pos' (by omega))))
      refine j_iload_n d_Mo_awayThen_42 rfl rfl ?_
      refine j_iload_n d_Mo_awayThen_43 rfl rfl ?_
      refine j_imul d_Mo_awayThen_44 ?_
      refine j_iret d_Mo_awayThen_45 rfl ?_
      refine q_i1 hF ?_
      rw [m1_sub, pk_sub (by omega)]
      rfl
    · have hs : a_aw K 2 i = none := by simp [a_aw, c]
      rw [hs] at hF
      refine r_C_of (by decide +kernel) (Nat.le_of_ble_eq_true rfl) ?_
      refine j_ls (ls' := [(0, _), (1, _), (2, _)]) rfl ?_
      refine j_aload_n d_Mo_awayThen_0 rfl rfl ?_
      refine j_getr d_Mo_awayThen_1 f_Mo_22 rfl rfl (by decide) rfl ?_
      refine j_iconst (v := 3) d_Mo_awayThen_4 rfl ?_
      refine j_iload_n d_Mo_awayThen_5 rfl rfl ?_
      refine j_imul d_Mo_awayThen_6 ?_
      refine j_iav d_Mo_awayThen_7 rfl (by decide) (j := 3 * i) (by rw [e1]; exact m3_0 i) (by omega) (by decide) (hri) ?_
      refine j_aload_n d_Mo_awayThen_8 rfl rfl ?_
      refine j_geti d_Mo_awayThen_9 f_Mo_133 rfl rfl (by decide) ?_
      refine j_isub d_Mo_awayThen_12 ?_
      rw [hT.2.1]
      refine j_istore_n (ls' := [(3, _), (0, _), (1, _), (2, _)]) d_Mo_awayThen_13 rfl (by decide) rfl ?_
      refine j_iload_n d_Mo_awayThen_14 rfl rfl ?_
      refine j_if_ne (tgt := 32) d_Mo_awayThen_15 rfl (fun bq1 => ?_) (fun bq1 => False.elim (absurd bq1 (by decide)))
      refine j_iload_n d_Mo_awayThen_32 rfl rfl ?_
      refine j_iload_n d_Mo_awayThen_33 rfl rfl ?_
      refine j_imul d_Mo_awayThen_34 ?_
      rw [show a_wI 2 = -1 from rfl, m1_sub]
      refine j_if_ge (tgt := 42) d_Mo_awayThen_35 rfl (fun bq2 => False.elim (absurd bq2 (by rw [Int32.not_le]; exact pk_sneg (by omega) (by omega)))) (fun bq2 => ?_)
      refine j_iconst (v := (-1)) d_Mo_awayThen_38 rfl ?_
      refine j_goto (tgt := 45) d_Mo_awayThen_39 rfl ?_
      refine j_iret d_Mo_awayThen_45 rfl ?_
      exact q_i1 hF rfl
set_option maxRecDepth 100000 in
set_option maxHeartbeats 4000000 in
theorem l_Mo_nearestThen {G : r_X} {d : Nat} {h : r_HI} {p q : Nat} {z : r_HL} {F : Int32 → r_HI → r_HR → r_HL → Prop} {D : a_D} (hN : p_N h D) (ho : a_dok D) {K : a_K} (hT : p_T h K) (hk : a_kok D K) {w : Nat} (hw : w < 3) (hF : F (a_ob (a_om (a_aw K w) K.2.2.2.1)) h (r_gp p q) z) : ∀ (e i : Nat) (v : Int32), e + i = K.2.2.2.1 → v = nI i → r_TM G m_Mo_nearestThen (d + 1) 61 61 (fun v h' g' z' => ∃ r, v = some (.int r) ∧ F r h' g' z') 8 [(0, .ref (G.2.1 + 47)), (1, .int (a_wI w)), (2, .int (a_ob (a_om (a_aw K w) i))), (3, .int (a_ou (a_om (a_aw K w) i))), (4, .int v)] [] 61 h (r_gp p q) z := by
  have hn7 := hk.2.2.1
  intro e
  induction e with
  | zero =>
    intro i v he hv
    subst hv
    refine j_iload d_Mo_nearestThen_8 rfl ?_
    refine j_aload_n d_Mo_nearestThen_10 rfl rfl ?_
    refine j_geti d_Mo_nearestThen_11 f_Mo_139 rfl rfl (by decide) ?_
    refine j_icmp_ge (tgt := 50) d_Mo_nearestThen_14 rfl (fun bq1 => ?_) (fun bq1 => False.elim (bq1 (by rw [hT.2.2.2.1]; exact nI_le (by omega) (by omega))))
    refine j_iload_n d_Mo_nearestThen_50 rfl rfl ?_
    refine j_iret d_Mo_nearestThen_51 rfl ?_
    have e0 : i = K.2.2.2.1 := by omega
    subst e0
    exact q_i1 hF rfl
  | succ e ih =>
    intro i v he hv
    subst hv
    have hi : i < K.2.2.2.1 := by omega
    have h10 := ho.1
    have hn7 := hk.2.2.1
    cases hf : a_aw K w i with
    | none =>
      refine j_iload d_Mo_nearestThen_8 rfl ?_
      refine j_aload_n d_Mo_nearestThen_10 rfl rfl ?_
      refine j_geti d_Mo_nearestThen_11 f_Mo_139 rfl rfl (by decide) ?_
      refine j_icmp_ge (tgt := 50) d_Mo_nearestThen_14 rfl (fun bq1 => False.elim (nI_ge (by omega) (by omega) (hT.2.2.2.1 ▸ bq1))) (fun bq1 => ?_)
      refine j_aload_n d_Mo_nearestThen_17 rfl rfl ?_
      refine j_iload d_Mo_nearestThen_18 rfl ?_
      refine j_iload_n d_Mo_nearestThen_20 rfl rfl ?_
      refine q_i (s_Mo_nearestThen_21 rfl (by decide)) rfl (Nat.le_of_ble_eq_true rfl) (Nat.le_of_ble_eq_true rfl) ?_
      refine c_Mo_awayThen hN ho hT hk hi hw rfl rfl ?_
      rw [hf]
      refine j_istore (ls' := [(5, _), (0, _), (1, _), (2, _), (3, _), (4, _)]) d_Mo_nearestThen_24 (by decide) rfl ?_
      refine j_iload d_Mo_nearestThen_26 rfl ?_
      refine j_iconst (v := (-1)) d_Mo_nearestThen_28 rfl ?_
      refine j_icmp_eq (tgt := 44) d_Mo_nearestThen_29 rfl (fun bq2 => ?_) (fun bq2 => False.elim (bq2 rfl))
      refine j_iinc (ls' := [(4, _), (5, _), (0, _), (1, _), (2, _), (3, _)]) d_Mo_nearestThen_44 rfl (by decide) rfl ?_
      refine j_goto (tgt := 8) d_Mo_nearestThen_47 rfl ?_
      refine j_pick [2, 3, 4, 5, 0] (ls' := [(0, _), (1, _), (2, _), (3, _), (4, _)]) rfl ?_
      have e9 : a_om (a_aw K w) (i + 1) = a_om (a_aw K w) i := by simp [a_om, hf]
      have ih1 := ih (i + 1) _ (by omega) (nI_inc i)
      rw [e9] at ih1
      exact ih1
    | some u =>
      have hu := a_aw_le hk.1 (show K.2.2.2.2.1 i < 10 from Nat.lt_of_lt_of_le (hk.2.2.2 i hi).1 h10) hf
      cases ha : a_om (a_aw K w) i with
      | none =>
        refine j_iload d_Mo_nearestThen_8 rfl ?_
        refine j_aload_n d_Mo_nearestThen_10 rfl rfl ?_
        refine j_geti d_Mo_nearestThen_11 f_Mo_139 rfl rfl (by decide) ?_
        refine j_icmp_ge (tgt := 50) d_Mo_nearestThen_14 rfl (fun bq1 => False.elim (nI_ge (by omega) (by omega) (hT.2.2.2.1 ▸ bq1))) (fun bq1 => ?_)
        refine j_aload_n d_Mo_nearestThen_17 rfl rfl ?_
        refine j_iload d_Mo_nearestThen_18 rfl ?_
        refine j_iload_n d_Mo_nearestThen_20 rfl rfl ?_
        refine q_i (s_Mo_nearestThen_21 rfl (by decide)) rfl (Nat.le_of_ble_eq_true rfl) (Nat.le_of_ble_eq_true rfl) ?_
        refine c_Mo_awayThen hN ho hT hk hi hw rfl rfl ?_
        rw [hf]
        refine j_istore (ls' := [(5, _), (0, _), (1, _), (2, _), (3, _), (4, _)]) d_Mo_nearestThen_24 (by decide) rfl ?_
        refine j_iload d_Mo_nearestThen_26 rfl ?_
        refine j_iconst (v := (-1)) d_Mo_nearestThen_28 rfl ?_
        refine j_icmp_eq (tgt := 44) d_Mo_nearestThen_29 rfl (fun bq2 => False.elim (nI_m1 (m := u) (by omega) bq2)) (fun bq2 => ?_)
        refine j_iload d_Mo_nearestThen_32 rfl ?_
        refine j_iload_n d_Mo_nearestThen_34 rfl rfl ?_
        refine j_icmp_ge (tgt := 44) d_Mo_nearestThen_35 rfl (fun bq3 => False.elim (nI_ge (b := 99) (by omega) (by omega) bq3)) (fun bq3 => ?_)
        refine j_iload d_Mo_nearestThen_38 rfl ?_
        refine j_istore_n (ls' := [(2, _), (5, _), (0, _), (1, _), (3, _), (4, _)]) d_Mo_nearestThen_40 rfl (by decide) rfl ?_
        refine j_iload d_Mo_nearestThen_41 rfl ?_
        refine j_istore_n (ls' := [(3, _), (2, _), (5, _), (0, _), (1, _), (4, _)]) d_Mo_nearestThen_43 rfl (by decide) rfl ?_
        refine j_iinc (ls' := [(4, _), (3, _), (2, _), (5, _), (0, _), (1, _)]) d_Mo_nearestThen_44 rfl (by decide) rfl ?_
        refine j_goto (tgt := 8) d_Mo_nearestThen_47 rfl ?_
        refine j_pick [4, 5, 2, 1, 0] (ls' := [(0, _), (1, _), (2, _), (3, _), (4, _)]) rfl ?_
        have e9 : a_om (a_aw K w) (i + 1) = some (i, u) := by simp [a_om, hf, ha]
        have ih1 := ih (i + 1) _ (by omega) (nI_inc i)
        rw [e9] at ih1
        exact ih1
      | some b =>
        have hb := a_om_lt ha
        have hbu := a_aw_le hk.1 (show K.2.2.2.2.1 b.1 < 10 from Nat.lt_of_lt_of_le (hk.2.2.2 b.1 (by omega)).1 h10) hb.2
        by_cases c : u < b.2
        · refine j_iload d_Mo_nearestThen_8 rfl ?_
          refine j_aload_n d_Mo_nearestThen_10 rfl rfl ?_
          refine j_geti d_Mo_nearestThen_11 f_Mo_139 rfl rfl (by decide) ?_
          refine j_icmp_ge (tgt := 50) d_Mo_nearestThen_14 rfl (fun bq1 => False.elim (nI_ge (by omega) (by omega) (hT.2.2.2.1 ▸ bq1))) (fun bq1 => ?_)
          refine j_aload_n d_Mo_nearestThen_17 rfl rfl ?_
          refine j_iload d_Mo_nearestThen_18 rfl ?_
          refine j_iload_n d_Mo_nearestThen_20 rfl rfl ?_
          refine q_i (s_Mo_nearestThen_21 rfl (by decide)) rfl (Nat.le_of_ble_eq_true rfl) (Nat.le_of_ble_eq_true rfl) ?_
          refine c_Mo_awayThen hN ho hT hk hi hw rfl rfl ?_
          rw [hf]
          refine j_istore (ls' := [(5, _), (0, _), (1, _), (2, _), (3, _), (4, _)]) d_Mo_nearestThen_24 (by decide) rfl ?_
          refine j_iload d_Mo_nearestThen_26 rfl ?_
          refine j_iconst (v := (-1)) d_Mo_nearestThen_28 rfl ?_
          refine j_icmp_eq (tgt := 44) d_Mo_nearestThen_29 rfl (fun bq2 => False.elim (nI_m1 (m := u) (by omega) bq2)) (fun bq2 => ?_)
          refine j_iload d_Mo_nearestThen_32 rfl ?_
          refine j_iload_n d_Mo_nearestThen_34 rfl rfl ?_
          refine j_icmp_ge (tgt := 44) d_Mo_nearestThen_35 rfl (fun bq3 => False.elim (nI_ge (b := b.2) (by omega) (by omega) bq3)) (fun bq3 => ?_)
          refine j_iload d_Mo_nearestThen_38 rfl ?_
          refine j_istore_n (ls' := [(2, _), (5, _), (0, _), (1, _), (3, _), (4, _)]) d_Mo_nearestThen_40 rfl (by decide) rfl ?_
          refine j_iload d_Mo_nearestThen_41 rfl ?_
          refine j_istore_n (ls' := [(3, _), (2, _), (5, _), (0, _), (1, _), (4, _)]) d_Mo_nearestThen_43 rfl (by decide) rfl ?_
          refine j_iinc (ls' := [(4, _), (3, _), (2, _), (5, _), (0, _), (1, _)]) d_Mo_nearestThen_44 rfl (by decide) rfl ?_
          refine j_goto (tgt := 8) d_Mo_nearestThen_47 rfl ?_
          refine j_pick [4, 5, 2, 1, 0] (ls' := [(0, _), (1, _), (2, _), (3, _), (4, _)]) rfl ?_
          have e9 : a_om (a_aw K w) (i + 1) = some (i, u) := by simp [a_om, hf, ha, c]
          have ih1 := ih (i + 1) _ (by omega) (nI_inc i)
          rw [e9] at ih1
          exact ih1
        · refine j_iload d_Mo_nearestThen_8 rfl ?_
          refine j_aload_n d_Mo_nearestThen_10 rfl rfl ?_
          refine j_geti d_Mo_nearestThen_11 f_Mo_139 rfl rfl (by decide) ?_
          refine j_icmp_ge (tgt := 50) d_Mo_nearestThen_14 rfl (fun bq1 => False.elim (nI_ge (by omega) (by omega) (hT.2.2.2.1 ▸ bq1))) (fun bq1 => ?_)
          refine j_aload_n d_Mo_nearestThen_17 rfl rfl ?_
          refine j_iload d_Mo_nearestThen_18 rfl ?_
          refine j_iload_n d_Mo_nearestThen_20 rfl rfl ?_
          refine q_i (s_Mo_nearestThen_21 rfl (by decide)) rfl (Nat.le_of_ble_eq_true rfl) (Nat.le_of_ble_eq_true rfl) ?_
          refine c_Mo_awayThen hN ho hT hk hi hw rfl rfl ?_
          rw [hf]
          refine j_istore (ls' := [(5, _), (0, _), (1, _), (2, _), (3, _), (4, _)]) d_Mo_nearestThen_24 (by decide) rfl ?_
          refine j_iload d_Mo_nearestThen_26 rfl ?_
          refine j_iconst (v := (-1)) d_Mo_nearestThen_28 rfl ?_
          refine j_icmp_eq (tgt := 44) d_Mo_nearestThen_29 rfl (fun bq2 => False.elim (nI_m1 (m := u) (by omega) bq2)) (fun bq2 => ?_)
          refine j_iload d_Mo_nearestThen_32 rfl ?_
          refine j_iload_n d_Mo_nearestThen_34 rfl rfl ?_
          refine j_icmp_ge (tgt := 44) d_Mo_nearestThen_35 rfl (fun bq3 => ?_) (fun bq3 => False.elim (bq3 (nI_le (a := b.2) (by omega) (by omega))))
          refine j_iinc (ls' := [(4, _), (5, _), (0, _), (1, _), (2, _), (3, _)]) d_Mo_nearestThen_44 rfl (by decide) rfl ?_
          refine j_goto (tgt := 8) d_Mo_nearestThen_47 rfl ?_
          refine j_pick [2, 3, 4, 5, 0] (ls' := [(0, _), (1, _), (2, _), (3, _), (4, _)]) rfl ?_
          have e9 : a_om (a_aw K w) (i + 1) = some b := by simp [a_om, hf, ha, c]
          have ih1 := ih (i + 1) _ (by omega) (nI_inc i)
          rw [e9] at ih1
          exact ih1
set_option maxRecDepth 100000 in
set_option maxHeartbeats 4000000 in
theorem c_Mo_nearestThen {G : r_X} {d : Nat} {h : r_HI} {p q : Nat} {z : r_HL} {F : Int32 → r_HI → r_HR → r_HL → Prop} {D : a_D} (hN : p_N h D) (ho : a_dok D) {K : a_K} (hT : p_T h K) (hk : a_kok D K) {w : Nat} {a1 : Int32} (hw : w < 3) (e1 : a1 = a_wI w) (hF : F (a_ob (a_om (a_aw K w) K.2.2.2.1)) h (r_gp p q) z) : r_Ci G m_Mo_nearestThen (d + 1) 61 [.ref (G.2.1 + 47), .int a1] 61 h (r_gp p q) z F := by
  subst e1
  refine r_C_of (by decide +kernel) (Nat.le_of_ble_eq_true rfl) ?_
  refine j_ls (ls' := [(0, _), (1, _)]) rfl ?_
  refine j_iconst (v := (-1)) d_Mo_nearestThen_0 rfl ?_
  refine j_istore_n (ls' := [(2, _), (0, _), (1, _)]) d_Mo_nearestThen_1 rfl (by decide) rfl ?_
  refine j_bipush (v := 99) d_Mo_nearestThen_2 (by decide) ?_
  refine j_istore_n (ls' := [(3, _), (2, _), (0, _), (1, _)]) d_Mo_nearestThen_4 rfl (by decide) rfl ?_
  refine j_iconst (v := 0) d_Mo_nearestThen_5 rfl ?_
  refine j_istore (ls' := [(4, _), (3, _), (2, _), (0, _), (1, _)]) d_Mo_nearestThen_6 (by decide) rfl ?_
  refine j_pick [3, 4, 2, 1, 0] (ls' := [(0, _), (1, _), (2, _), (3, _), (4, _)]) rfl ?_
  exact l_Mo_nearestThen hN ho hT hk hw hF K.2.2.2.1 0 _ (by omega) rfl
set_option maxRecDepth 100000 in
set_option maxHeartbeats 4000000 in
theorem l_Mo_soonestThen {G : r_X} {d : Nat} {h : r_HI} {p q : Nat} {z : r_HL} {F : Int32 → r_HI → r_HR → r_HL → Prop} {D : a_D} (hN : p_N h D) (ho : a_dok D) {K : a_K} (hT : p_T h K) (hk : a_kok D K) (ht : K.1 < 2 ^ 27) (hn : 0 < K.2.2.2.1) (hbd0 : ∀ j, j < K.2.2.2.1 → (a_pr D K 4) j < 2 ^ 28) (hF : F (nI (a_am (a_pr D K 4) K.2.2.2.1)) h (r_gp p q) z) : ∀ (e i : Nat) (v bb : Int32), e + i = K.2.2.2.1 → v = nI i → (i = 0 → bb = -1) → (0 < i → bb = nI (a_am (a_pr D K 4) i)) → r_TM G m_Mo_soonestThen (d + 3) 61 61 (fun v h' g' z' => ∃ r, v = some (.int r) ∧ F r h' g' z') 4 [(0, .ref (G.2.1 + 47)), (1, .int bb), (2, .int v)] [] 61 h (r_gp p q) z := by
  have hn7 := hk.2.2.1
  intro e
  induction e with
  | zero =>
    intro i v bb he hv h1 h2
    subst hv
    refine j_iload_n d_Mo_soonestThen_4 rfl rfl ?_
    refine j_aload_n d_Mo_soonestThen_5 rfl rfl ?_
    refine j_geti d_Mo_soonestThen_6 f_Mo_139 rfl rfl (by decide) ?_
    refine j_icmp_ge (tgt := 42) d_Mo_soonestThen_9 rfl (fun bq1 => ?_) (fun bq1 => False.elim (bq1 (by rw [hT.2.2.2.1]; exact nI_le (by omega) (by omega))))
    refine j_iload_n d_Mo_soonestThen_42 rfl rfl ?_
    refine j_iret d_Mo_soonestThen_43 rfl ?_
    have e0 : i = K.2.2.2.1 := by omega
    subst e0
    exact q_i1 hF (h2 hn)
  | succ e ih =>
    intro i v bb he hv h1 h2
    subst hv
    have hi : i < K.2.2.2.1 := by omega
    have h10 := ho.1
    have hn7 := hk.2.2.1
    by_cases e0 : i = 0
    · refine j_iload_n d_Mo_soonestThen_4 rfl rfl ?_
      refine j_aload_n d_Mo_soonestThen_5 rfl rfl ?_
      refine j_geti d_Mo_soonestThen_6 f_Mo_139 rfl rfl (by decide) ?_
      refine j_icmp_ge (tgt := 42) d_Mo_soonestThen_9 rfl (fun bq1 => False.elim (nI_ge (by omega) (by omega) (hT.2.2.2.1 ▸ bq1))) (fun bq1 => ?_)
      refine j_iload_n d_Mo_soonestThen_12 rfl rfl ?_
      refine j_iconst (v := (-1)) d_Mo_soonestThen_13 rfl ?_
      refine j_icmp_eq (tgt := 30) d_Mo_soonestThen_14 rfl (fun bq2 => ?_) (fun bq2 => False.elim (bq2 (h1 e0)))
      refine j_iload_n d_Mo_soonestThen_30 rfl rfl ?_
      refine j_goto (tgt := 35) d_Mo_soonestThen_31 rfl ?_
      refine j_istore_n (ls' := [(1, _), (0, _), (2, _)]) d_Mo_soonestThen_35 rfl (by decide) rfl ?_
      refine j_iinc (ls' := [(2, _), (1, _), (0, _)]) d_Mo_soonestThen_36 rfl (by decide) rfl ?_
      refine j_goto (tgt := 4) d_Mo_soonestThen_39 rfl ?_
      refine j_pick [2, 1, 0] (ls' := [(0, _), (1, _), (2, _)]) rfl ?_
      exact ih (i + 1) _ _ (by omega) (nI_inc i) (fun e => absurd e (by omega)) (fun _ => by subst e0; rfl)
    · have hm := a_am_lt (f := (a_pr D K 4)) (n := i) (by omega)
      have hbd : ∀ j, j < K.2.2.2.1 → (a_pr D K 4) j < 2 ^ 28 := hbd0
      have hb1 := hbd i hi
      have hb2 := hbd (a_am (a_pr D K 4) i) (by omega)
      by_cases c : (a_pr D K 4) i < (a_pr D K 4) (a_am (a_pr D K 4) i)
      · refine j_iload_n d_Mo_soonestThen_4 rfl rfl ?_
        refine j_aload_n d_Mo_soonestThen_5 rfl rfl ?_
        refine j_geti d_Mo_soonestThen_6 f_Mo_139 rfl rfl (by decide) ?_
        refine j_icmp_ge (tgt := 42) d_Mo_soonestThen_9 rfl (fun bq1 => False.elim (nI_ge (by omega) (by omega) (hT.2.2.2.1 ▸ bq1))) (fun bq1 => ?_)
        refine j_iload_n d_Mo_soonestThen_12 rfl rfl ?_
        refine j_iconst (v := (-1)) d_Mo_soonestThen_13 rfl ?_
        refine j_icmp_eq (tgt := 30) d_Mo_soonestThen_14 rfl (fun bq2 => False.elim (nI_m1 (m := a_am (a_pr D K 4) i) (by omega) (by rw [← h2 (by omega)]; exact bq2))) (fun bq2 => ?_)
        refine j_aload_n d_Mo_soonestThen_17 rfl rfl ?_
        refine j_iload_n d_Mo_soonestThen_18 rfl rfl ?_
        refine q_i (s_Mo_soonestThen_19 rfl (by decide)) rfl (Nat.le_of_ble_eq_true rfl) (Nat.le_of_ble_eq_true rfl) ?_
        refine c_Mo_doneThen hN ho hT hk ht hi rfl ?_
        refine j_aload_n d_Mo_soonestThen_22 rfl rfl ?_
        refine j_iload_n d_Mo_soonestThen_23 rfl rfl ?_
        refine q_i (s_Mo_soonestThen_24 rfl (by decide)) rfl (Nat.le_of_ble_eq_true rfl) (Nat.le_of_ble_eq_true rfl) ?_
        refine c_Mo_doneThen hN ho hT hk ht (i := a_am (a_pr D K 4) i) (by omega) (h2 (by omega)) ?_
        refine j_icmp_ge (tgt := 34) d_Mo_soonestThen_27 rfl (fun bq3 => False.elim (nI_ge (a := (a_pr D K 4) i) (b := (a_pr D K 4) (a_am (a_pr D K 4) i)) c (by omega) bq3)) (fun bq3 => ?_)
        refine j_iload_n d_Mo_soonestThen_30 rfl rfl ?_
        refine j_goto (tgt := 35) d_Mo_soonestThen_31 rfl ?_
        refine j_istore_n (ls' := [(1, _), (0, _), (2, _)]) d_Mo_soonestThen_35 rfl (by decide) rfl ?_
        refine j_iinc (ls' := [(2, _), (1, _), (0, _)]) d_Mo_soonestThen_36 rfl (by decide) rfl ?_
        refine j_goto (tgt := 4) d_Mo_soonestThen_39 rfl ?_
        refine j_pick [2, 1, 0] (ls' := [(0, _), (1, _), (2, _)]) rfl ?_
        exact ih (i + 1) _ _ (by omega) (nI_inc i) (fun e => absurd e (by omega)) (fun _ => by rw [a_am, if_neg e0, if_pos c])
      · refine j_iload_n d_Mo_soonestThen_4 rfl rfl ?_
        refine j_aload_n d_Mo_soonestThen_5 rfl rfl ?_
        refine j_geti d_Mo_soonestThen_6 f_Mo_139 rfl rfl (by decide) ?_
        refine j_icmp_ge (tgt := 42) d_Mo_soonestThen_9 rfl (fun bq1 => False.elim (nI_ge (by omega) (by omega) (hT.2.2.2.1 ▸ bq1))) (fun bq1 => ?_)
        refine j_iload_n d_Mo_soonestThen_12 rfl rfl ?_
        refine j_iconst (v := (-1)) d_Mo_soonestThen_13 rfl ?_
        refine j_icmp_eq (tgt := 30) d_Mo_soonestThen_14 rfl (fun bq2 => False.elim (nI_m1 (m := a_am (a_pr D K 4) i) (by omega) (by rw [← h2 (by omega)]; exact bq2))) (fun bq2 => ?_)
        refine j_aload_n d_Mo_soonestThen_17 rfl rfl ?_
        refine j_iload_n d_Mo_soonestThen_18 rfl rfl ?_
        refine q_i (s_Mo_soonestThen_19 rfl (by decide)) rfl (Nat.le_of_ble_eq_true rfl) (Nat.le_of_ble_eq_true rfl) ?_
        refine c_Mo_doneThen hN ho hT hk ht hi rfl ?_
        refine j_aload_n d_Mo_soonestThen_22 rfl rfl ?_
        refine j_iload_n d_Mo_soonestThen_23 rfl rfl ?_
        refine q_i (s_Mo_soonestThen_24 rfl (by decide)) rfl (Nat.le_of_ble_eq_true rfl) (Nat.le_of_ble_eq_true rfl) ?_
        refine c_Mo_doneThen hN ho hT hk ht (i := a_am (a_pr D K 4) i) (by omega) (h2 (by omega)) ?_
        refine j_icmp_ge (tgt := 34) d_Mo_soonestThen_27 rfl (fun bq3 => ?_) (fun bq3 => False.elim (bq3 (nI_le (a := (a_pr D K 4) (a_am (a_pr D K 4) i)) (b := (a_pr D K 4) i) (by omega) (by omega))))
        refine j_iload_n d_Mo_soonestThen_34 rfl rfl ?_
        refine j_istore_n (ls' := [(1, _), (0, _), (2, _)]) d_Mo_soonestThen_35 rfl (by decide) rfl ?_
        refine j_iinc (ls' := [(2, _), (1, _), (0, _)]) d_Mo_soonestThen_36 rfl (by decide) rfl ?_
        refine j_goto (tgt := 4) d_Mo_soonestThen_39 rfl ?_
        refine j_pick [2, 1, 0] (ls' := [(0, _), (1, _), (2, _)]) rfl ?_
        exact ih (i + 1) _ _ (by omega) (nI_inc i) (fun e => absurd e (by omega)) (fun _ => by rw [a_am, if_neg e0, if_neg c]; exact h2 (by omega))
set_option maxRecDepth 100000 in
set_option maxHeartbeats 4000000 in
theorem c_Mo_soonestThen {G : r_X} {d : Nat} {h : r_HI} {p q : Nat} {z : r_HL} {F : Int32 → r_HI → r_HR → r_HL → Prop} {D : a_D} (hN : p_N h D) (ho : a_dok D) {K : a_K} (hT : p_T h K) (hk : a_kok D K) (ht : K.1 < 2 ^ 27) (hn : 0 < K.2.2.2.1) (hF : F (nI (a_am (a_pr D K 4) K.2.2.2.1)) h (r_gp p q) z) : r_Ci G m_Mo_soonestThen (d + 3) 61 [.ref (G.2.1 + 47)] 61 h (r_gp p q) z F := by
  have hbd0 : ∀ j, j < K.2.2.2.1 → (a_pr D K 4) j < 2 ^ 28 := by
    intro j hj
    have h1 := a_dn_le ho (t := K.1) (p := K.2.2.2.2.2.1 j) hk.1 (hk.2.2.2 j hj).1
    show a_dn D K.1 K.2.1 (K.2.2.2.2.1 j) (K.2.2.2.2.2.1 j) < 2 ^ 28
    omega
  refine r_C_of (by decide +kernel) (Nat.le_of_ble_eq_true rfl) ?_
  refine j_ls (ls' := [(0, _)]) rfl ?_
  refine j_iconst (v := (-1)) d_Mo_soonestThen_0 rfl ?_
  refine j_istore_n (ls' := [(1, _), (0, _)]) d_Mo_soonestThen_1 rfl (by decide) rfl ?_
  refine j_iconst (v := 0) d_Mo_soonestThen_2 rfl ?_
  refine j_istore_n (ls' := [(2, _), (1, _), (0, _)]) d_Mo_soonestThen_3 rfl (by decide) rfl ?_
  refine j_pick [2, 1, 0] (ls' := [(0, _), (1, _), (2, _)]) rfl ?_
  exact l_Mo_soonestThen hN ho hT hk ht hn hbd0 hF (K.2.2.2.1) 0 _ _ (by omega) rfl (fun _ => rfl) (fun e => absurd e (by omega))
set_option maxRecDepth 100000 in
set_option maxHeartbeats 4000000 in
theorem l_Mo_outermostThen {G : r_X} {d : Nat} {h : r_HI} {p q : Nat} {z : r_HL} {F : Int32 → r_HI → r_HR → r_HL → Prop} {D : a_D} (hN : p_N h D) (ho : a_dok D) {K : a_K} (hT : p_T h K) (hk : a_kok D K) (ht : K.1 < 2 ^ 27) (hn : 0 < K.2.2.2.1) (hbd0 : ∀ j, j < K.2.2.2.1 → K.2.2.2.2.1 j < 2 ^ 28) (hF : F (nI (a_am K.2.2.2.2.1 K.2.2.2.1)) h (r_gp p q) z) : ∀ (e i : Nat) (v bb : Int32), e + i = K.2.2.2.1 → v = nI i → (i = 0 → bb = -1) → (0 < i → bb = nI (a_am K.2.2.2.2.1 i)) → r_TM G m_Mo_outermostThen (d) 61 61 (fun v h' g' z' => ∃ r, v = some (.int r) ∧ F r h' g' z') 4 [(0, .ref (G.2.1 + 47)), (1, .int bb), (2, .int v)] [] 61 h (r_gp p q) z := by
  have hn7 := hk.2.2.1
  intro e
  induction e with
  | zero =>
    intro i v bb he hv h1 h2
    subst hv
    refine j_iload_n d_Mo_outermostThen_4 rfl rfl ?_
    refine j_aload_n d_Mo_outermostThen_5 rfl rfl ?_
    refine j_geti d_Mo_outermostThen_6 f_Mo_139 rfl rfl (by decide) ?_
    refine j_icmp_ge (tgt := 48) d_Mo_outermostThen_9 rfl (fun bq1 => ?_) (fun bq1 => False.elim (bq1 (by rw [hT.2.2.2.1]; exact nI_le (by omega) (by omega))))
    refine j_iload_n d_Mo_outermostThen_48 rfl rfl ?_
    refine j_iret d_Mo_outermostThen_49 rfl ?_
    have e0 : i = K.2.2.2.1 := by omega
    subst e0
    exact q_i1 hF (h2 hn)
  | succ e ih =>
    intro i v bb he hv h1 h2
    subst hv
    have hi : i < K.2.2.2.1 := by omega
    have h10 := ho.1
    have hn7 := hk.2.2.1
    by_cases e0 : i = 0
    · refine j_iload_n d_Mo_outermostThen_4 rfl rfl ?_
      refine j_aload_n d_Mo_outermostThen_5 rfl rfl ?_
      refine j_geti d_Mo_outermostThen_6 f_Mo_139 rfl rfl (by decide) ?_
      refine j_icmp_ge (tgt := 48) d_Mo_outermostThen_9 rfl (fun bq1 => False.elim (nI_ge (by omega) (by omega) (hT.2.2.2.1 ▸ bq1))) (fun bq1 => ?_)
      refine j_iload_n d_Mo_outermostThen_12 rfl rfl ?_
      refine j_iconst (v := (-1)) d_Mo_outermostThen_13 rfl ?_
      refine j_icmp_eq (tgt := 36) d_Mo_outermostThen_14 rfl (fun bq2 => ?_) (fun bq2 => False.elim (bq2 (h1 e0)))
      refine j_iload_n d_Mo_outermostThen_36 rfl rfl ?_
      refine j_goto (tgt := 41) d_Mo_outermostThen_37 rfl ?_
      refine j_istore_n (ls' := [(1, _), (0, _), (2, _)]) d_Mo_outermostThen_41 rfl (by decide) rfl ?_
      refine j_iinc (ls' := [(2, _), (1, _), (0, _)]) d_Mo_outermostThen_42 rfl (by decide) rfl ?_
      refine j_goto (tgt := 4) d_Mo_outermostThen_45 rfl ?_
      refine j_pick [2, 1, 0] (ls' := [(0, _), (1, _), (2, _)]) rfl ?_
      exact ih (i + 1) _ _ (by omega) (nI_inc i) (fun e => absurd e (by omega)) (fun _ => by subst e0; rfl)
    · have hm := a_am_lt (f := K.2.2.2.2.1) (n := i) (by omega)
      have hbd : ∀ j, j < K.2.2.2.1 → K.2.2.2.2.1 j < 2 ^ 28 := hbd0
      have hb1 := hbd i hi
      have hb2 := hbd (a_am K.2.2.2.2.1 i) (by omega)
      by_cases c : K.2.2.2.2.1 i < K.2.2.2.2.1 (a_am K.2.2.2.2.1 i)
      · refine j_iload_n d_Mo_outermostThen_4 rfl rfl ?_
        refine j_aload_n d_Mo_outermostThen_5 rfl rfl ?_
        refine j_geti d_Mo_outermostThen_6 f_Mo_139 rfl rfl (by decide) ?_
        refine j_icmp_ge (tgt := 48) d_Mo_outermostThen_9 rfl (fun bq1 => False.elim (nI_ge (by omega) (by omega) (hT.2.2.2.1 ▸ bq1))) (fun bq1 => ?_)
        refine j_iload_n d_Mo_outermostThen_12 rfl rfl ?_
        refine j_iconst (v := (-1)) d_Mo_outermostThen_13 rfl ?_
        refine j_icmp_eq (tgt := 36) d_Mo_outermostThen_14 rfl (fun bq2 => False.elim (nI_m1 (m := a_am K.2.2.2.2.1 i) (by omega) (by rw [← h2 (by omega)]; exact bq2))) (fun bq2 => ?_)
        refine j_aload_n d_Mo_outermostThen_17 rfl rfl ?_
        refine j_getr d_Mo_outermostThen_18 f_Mo_22 rfl rfl (by decide) rfl ?_
        refine j_iconst (v := 3) d_Mo_outermostThen_21 rfl ?_
        refine j_iload_n d_Mo_outermostThen_22 rfl rfl ?_
        refine j_imul d_Mo_outermostThen_23 ?_
        refine j_iav d_Mo_outermostThen_24 rfl (by decide) (j := 3 * i) (m3_0 i) (by omega) (by decide) ((hT.2.2.2.2 i hi).1) ?_
        refine j_aload_n d_Mo_outermostThen_25 rfl rfl ?_
        refine j_getr d_Mo_outermostThen_26 f_Mo_22 rfl rfl (by decide) rfl ?_
        refine j_iconst (v := 3) d_Mo_outermostThen_29 rfl ?_
        refine j_iload_n d_Mo_outermostThen_30 rfl rfl ?_
        refine j_imul d_Mo_outermostThen_31 ?_
        refine j_iav d_Mo_outermostThen_32 rfl (by decide) (j := 3 * a_am K.2.2.2.2.1 i) (by rw [h2 (by omega)]; exact m3_0 _) (by omega) (by decide) ((hT.2.2.2.2 _ (by omega)).1) ?_
        refine j_icmp_ge (tgt := 40) d_Mo_outermostThen_33 rfl (fun bq3 => False.elim (nI_ge (a := K.2.2.2.2.1 i) (b := K.2.2.2.2.1 (a_am K.2.2.2.2.1 i)) c (by omega) bq3)) (fun bq3 => ?_)
        refine j_iload_n d_Mo_outermostThen_36 rfl rfl ?_
        refine j_goto (tgt := 41) d_Mo_outermostThen_37 rfl ?_
        refine j_istore_n (ls' := [(1, _), (0, _), (2, _)]) d_Mo_outermostThen_41 rfl (by decide) rfl ?_
        refine j_iinc (ls' := [(2, _), (1, _), (0, _)]) d_Mo_outermostThen_42 rfl (by decide) rfl ?_
        refine j_goto (tgt := 4) d_Mo_outermostThen_45 rfl ?_
        refine j_pick [2, 1, 0] (ls' := [(0, _), (1, _), (2, _)]) rfl ?_
        exact ih (i + 1) _ _ (by omega) (nI_inc i) (fun e => absurd e (by omega)) (fun _ => by rw [a_am, if_neg e0, if_pos c])
      · refine j_iload_n d_Mo_outermostThen_4 rfl rfl ?_
        refine j_aload_n d_Mo_outermostThen_5 rfl rfl ?_
        refine j_geti d_Mo_outermostThen_6 f_Mo_139 rfl rfl (by decide) ?_
        refine j_icmp_ge (tgt := 48) d_Mo_outermostThen_9 rfl (fun bq1 => False.elim (nI_ge (by omega) (by omega) (hT.2.2.2.1 ▸ bq1))) (fun bq1 => ?_)
        refine j_iload_n d_Mo_outermostThen_12 rfl rfl ?_
        refine j_iconst (v := (-1)) d_Mo_outermostThen_13 rfl ?_
        refine j_icmp_eq (tgt := 36) d_Mo_outermostThen_14 rfl (fun bq2 => False.elim (nI_m1 (m := a_am K.2.2.2.2.1 i) (by omega) (by rw [← h2 (by omega)]; exact bq2))) (fun bq2 => ?_)
        refine j_aload_n d_Mo_outermostThen_17 rfl rfl ?_
        refine j_getr d_Mo_outermostThen_18 f_Mo_22 rfl rfl (by decide) rfl ?_
        refine j_iconst (v := 3) d_Mo_outermostThen_21 rfl ?_
        refine j_iload_n d_Mo_outermostThen_22 rfl rfl ?_
        refine j_imul d_Mo_outermostThen_23 ?_
        refine j_iav d_Mo_outermostThen_24 rfl (by decide) (j := 3 * i) (m3_0 i) (by omega) (by decide) ((hT.2.2.2.2 i hi).1) ?_
        refine j_aload_n d_Mo_outermostThen_25 rfl rfl ?_
        refine j_getr d_Mo_outermostThen_26 f_Mo_22 rfl rfl (by decide) rfl ?_
        refine j_iconst (v := 3) d_Mo_outermostThen_29 rfl ?_
        refine j_iload_n d_Mo_outermostThen_30 rfl rfl ?_
        refine j_imul d_Mo_outermostThen_31 ?_
        refine j_iav d_Mo_outermostThen_32 rfl (by decide) (j := 3 * a_am K.2.2.2.2.1 i) (by rw [h2 (by omega)]; exact m3_0 _) (by omega) (by decide) ((hT.2.2.2.2 _ (by omega)).1) ?_
        refine j_icmp_ge (tgt := 40) d_Mo_outermostThen_33 rfl (fun bq3 => ?_) (fun bq3 => False.elim (bq3 (nI_le (a := K.2.2.2.2.1 (a_am K.2.2.2.2.1 i)) (b := K.2.2.2.2.1 i) (by omega) (by omega))))
        refine j_iload_n d_Mo_outermostThen_40 rfl rfl ?_
        refine j_istore_n (ls' := [(1, _), (0, _), (2, _)]) d_Mo_outermostThen_41 rfl (by decide) rfl ?_
        refine j_iinc (ls' := [(2, _), (1, _), (0, _)]) d_Mo_outermostThen_42 rfl (by decide) rfl ?_
        refine j_goto (tgt := 4) d_Mo_outermostThen_45 rfl ?_
        refine j_pick [2, 1, 0] (ls' := [(0, _), (1, _), (2, _)]) rfl ?_
        exact ih (i + 1) _ _ (by omega) (nI_inc i) (fun e => absurd e (by omega)) (fun _ => by rw [a_am, if_neg e0, if_neg c]; exact h2 (by omega))
set_option maxRecDepth 100000 in
set_option maxHeartbeats 4000000 in
theorem c_Mo_outermostThen {G : r_X} {d : Nat} {h : r_HI} {p q : Nat} {z : r_HL} {F : Int32 → r_HI → r_HR → r_HL → Prop} {D : a_D} (hN : p_N h D) (ho : a_dok D) {K : a_K} (hT : p_T h K) (hk : a_kok D K) (ht : K.1 < 2 ^ 27) (hn : 0 < K.2.2.2.1) (hF : F (nI (a_am K.2.2.2.2.1 K.2.2.2.1)) h (r_gp p q) z) : r_Ci G m_Mo_outermostThen (d) 61 [.ref (G.2.1 + 47)] 61 h (r_gp p q) z F := by
  have h10 := ho.1
  refine r_C_of (by decide +kernel) (Nat.le_of_ble_eq_true rfl) ?_
  refine j_ls (ls' := [(0, _)]) rfl ?_
  refine j_iconst (v := (-1)) d_Mo_outermostThen_0 rfl ?_
  refine j_istore_n (ls' := [(1, _), (0, _)]) d_Mo_outermostThen_1 rfl (by decide) rfl ?_
  refine j_iconst (v := 0) d_Mo_outermostThen_2 rfl ?_
  refine j_istore_n (ls' := [(2, _), (1, _), (0, _)]) d_Mo_outermostThen_3 rfl (by decide) rfl ?_
  refine j_pick [2, 1, 0] (ls' := [(0, _), (1, _), (2, _)]) rfl ?_
  exact l_Mo_outermostThen hN ho hT hk ht hn (fun j hj => by have := (hk.2.2.2 j hj).1; omega) hF (K.2.2.2.1) 0 _ _ (by omega) rfl (fun _ => rfl) (fun e => absurd e (by omega))
