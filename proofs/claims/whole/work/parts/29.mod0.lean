/-! ===== the model's cells ===== -/
section
variable {G : r_X} {M : r_M} {R : Room} {n0 : Nat} {X : State → Prop} {Z : List Frame → Array Value → State → State → Prop} {pc n : Nat} {ls : List (Nat × Value)} {st : List Value} {h : r_HI} {g : r_HR} {z : r_HL}
theorem j_iav {k m j : Nat} {i v : Int32} (hd : decode M.2.1 pc = .ok (.iaload, 1)) (hp : r_pk k = (1, m)) (hk : k < n) (he : i = nI j) (hj : j < m) (hm : m < 2 ^ 31) (hv : h k j = v) (kk : r_T G M R n0 X Z (pc + 1) ls (.int v :: st) n h g z) : r_T G M R n0 X Z pc ls (.int i :: .ref (G.2.1 + k) :: st) n h g z := by
  subst he
  refine j_iald hd hp hk (nI_ix hj hm) ?_
  rw [nI_cl (by omega), hv]
  exact kk
theorem j_iap {k m j : Nat} {i v : Int32} (hd : decode M.2.1 pc = .ok (.iastore, 1)) (hp : r_pk k = (1, m)) (hk : k < n) (he : i = nI j) (hj : j < m) (hm : m < 2 ^ 31) (kk : r_T G M R n0 X Z (pc + 1) ls st n (r_up h k j v) g z) : r_T G M R n0 X Z pc ls (.int v :: .int i :: .ref (G.2.1 + k) :: st) n h g z := by
  subst he
  refine j_iast hd hp hk (nI_ix hj hm) ?_
  rw [nI_cl (by omega)]
  exact kk
end
theorem m3_0 (i : Nat) : (3 : Int32) * nI i = nI (3 * i) := pk_mul 3 i
theorem m3_1 (i : Nat) : (3 : Int32) * nI i + 1 = nI (3 * i + 1) := by rw [m3_0]; exact nI_1 _
theorem m3_2 (i : Nat) : (3 : Int32) * nI i + 2 = nI (3 * i + 2) := by rw [m3_0]; exact nI_add _ 2
theorem m2_0 (i : Nat) : (2 : Int32) * nI i = nI (2 * i) := pk_mul 2 i
theorem m2_1 (i : Nat) : (2 : Int32) * nI i + 1 = nI (2 * i + 1) := by rw [m2_0]; exact nI_1 _
/-- rows of A and the model's fields J may have changed -/
def r_ey (A J : List Nat) (h h' : r_HI) : Prop := (∀ a, a ∉ A → a ≠ 47 → h' a = h a) ∧ ∀ j, j ∉ J → h' 47 j = h 47 j
theorem r_ey.rf {A J : List Nat} {h : r_HI} : r_ey A J h h := ⟨fun _ _ _ => rfl, fun _ _ => rfl⟩
theorem r_ey.tr {A J B L : List Nat} {h h1 h2 : r_HI} (e1 : r_ey A J h h1) (e2 : r_ey B L h1 h2) (hs : ∀ a ∈ B, a ∈ A) (hj : ∀ a ∈ L, a ∈ J) : r_ey A J h h2 := ⟨fun a ha hn => (e2.1 a (fun q => ha (hs a q)) hn).trans (e1.1 a ha hn), fun j h => (e2.2 j (fun q => h (hj j q))).trans (e1.2 j h)⟩
theorem r_ey.mono {A J B L : List Nat} {h h1 : r_HI} (e : r_ey A J h h1) (hs : ∀ a ∈ A, a ∈ B) (hj : ∀ a ∈ J, a ∈ L) : r_ey B L h h1 := ⟨fun a ha hn => e.1 a (fun q => ha (hs a q)) hn, fun j h => e.2 j (fun q => h (hj j q))⟩
theorem r_ey.up {A J : List Nat} {h h1 : r_HI} {k j : Nat} {v : Int32} (e : r_ey A J h h1) (hk : k ∈ A) (h7 : k ≠ 47) : r_ey A J h (r_up h1 k j v) := ⟨fun a ha hn => by
  rw [r_up_ne (show a ≠ k from fun q => ha (by rw [q]; exact hk))]
  exact e.1 a ha hn, fun j h => by
  rw [r_up_ne (Ne.symm h7)]
  exact e.2 j h⟩
theorem r_ey.fl {A J : List Nat} {h h1 : r_HI} {j : Nat} {v : Int32} (e : r_ey A J h h1) (hj : j ∈ J) : r_ey A J h (r_up h1 47 j v) := ⟨fun a ha hn => by
  rw [r_up_ne hn]
  exact e.1 a ha hn, fun i h => by
  rw [r_up_k, upd, if_neg (show ¬ i = j from fun q => h (by rw [q]; exact hj))]
  exact e.2 i h⟩
theorem r_ey.rw {A J : List Nat} {h h1 : r_HI} {k : Nat} {f : Nat → Int32} (e : r_ey A J h h1) (hk : k ∈ A) (h7 : k ≠ 47) : r_ey A J h (r_rw h1 k f) := ⟨fun a ha hn => by
  rw [r_rw_ne (show a ≠ k from fun q => ha (by rw [q]; exact hk))]
  exact e.1 a ha hn, fun j h => by
  rw [r_rw_ne (Ne.symm h7)]
  exact e.2 j h⟩
/-- nothing of the class's cells has changed -/
def r_ml (h h' : r_HI) : Prop := ∀ a, a < 47 → h' a = h a
theorem r_ey.ml {A J : List Nat} {h h' : r_HI} (e : r_ey A J h h') (hA : ∀ a ∈ A, 47 ≤ a) : r_ml h h' := fun a ha => e.1 a (fun q => by have := hA a q; omega) (by omega)
def p_N (h : r_HI) (D : a_D) : Prop := h 47 3 = nI D.1 ∧ h 47 4 = nI D.2.1 ∧ h 47 5 = nI D.2.2.1 ∧ ∀ i, i < D.1 → h 49 i = nI (D.2.2.2.1 i) ∧ h 50 i = nI (D.2.2.2.2 i)
def p_A (h : r_HI) (k : Nat) (K : a_K) : Prop := ∀ i, i < K.2.2.2.1 → h k (3 * i) = nI (K.2.2.2.2.1 i) ∧ h k (3 * i + 1) = nI (K.2.2.2.2.2.1 i) ∧ h k (3 * i + 2) = nI (K.2.2.2.2.2.2 i)
def p_T (h : r_HI) (K : a_K) : Prop := h 47 15 = nI K.1 ∧ h 47 16 = nI K.2.1 ∧ h 47 17 = nI K.2.2.1 ∧ h 47 18 = nI K.2.2.2.1 ∧ p_A h 52 K
def p_J (h : r_HI) (K : a_K) : Prop := h 47 7 = nI K.1 ∧ h 47 8 = nI K.2.1 ∧ h 47 9 = nI K.2.2.1 ∧ h 47 10 = nI K.2.2.2.1 ∧ p_A h 51 K
theorem p_N.ey {A J : List Nat} {h h' : r_HI} {D : a_D} (hN : p_N h D) (e : r_ey A J h h') (h1 : 49 ∉ A) (h2 : 50 ∉ A) (h3 : 3 ∉ J) (h4 : 4 ∉ J) (h5 : 5 ∉ J) : p_N h' D := by
  unfold p_N
  rw [e.2 3 h3, e.2 4 h4, e.2 5 h5, e.1 49 h1 (by decide), e.1 50 h2 (by decide)]
  exact hN
theorem p_T.ey {A J : List Nat} {h h' : r_HI} {K : a_K} (hT : p_T h K) (e : r_ey A J h h') (h1 : 52 ∉ A) (h3 : 15 ∉ J) (h4 : 16 ∉ J) (h5 : 17 ∉ J) (h6 : 18 ∉ J) : p_T h' K := by
  unfold p_T p_A
  rw [e.2 15 h3, e.2 16 h4, e.2 17 h5, e.2 18 h6, e.1 52 h1 (by decide)]
  exact hT
theorem p_J.ey {A J : List Nat} {h h' : r_HI} {K : a_K} (hT : p_J h K) (e : r_ey A J h h') (h1 : 51 ∉ A) (h3 : 7 ∉ J) (h4 : 8 ∉ J) (h5 : 9 ∉ J) (h6 : 10 ∉ J) : p_J h' K := by
  unfold p_J p_A
  rw [e.2 7 h3, e.2 8 h4, e.2 9 h5, e.2 10 h6, e.1 51 h1 (by decide)]
  exact hT
theorem lgc_lt {x y : Int64} : lg_cmp x y < 0 ↔ x.toInt < y.toInt := by
  have hg : x > y ↔ y.toInt < x.toInt := Int64.lt_iff_toInt_lt
  unfold lg_cmp
  by_cases h : y.toInt < x.toInt
  · rw [if_pos (hg.mpr h)]
    constructor
    · intro q
      exact absurd q (by decide)
    · intro q
      omega
  · rw [if_neg (fun q => h (hg.mp q))]
    by_cases e : x = y
    · rw [if_pos e, e]
      constructor
      · intro q
        exact absurd q (by decide)
      · intro q
        omega
    · rw [if_neg e]
      constructor
      · intro _
        have : x.toInt ≠ y.toInt := fun q => e (Int64.toInt_inj.mp q)
        omega
      · intro _
        decide
theorem lgc_gt {x y : Int64} : 0 < lg_cmp x y ↔ y.toInt < x.toInt := by
  have hg : x > y ↔ y.toInt < x.toInt := Int64.lt_iff_toInt_lt
  unfold lg_cmp
  by_cases h : y.toInt < x.toInt
  · rw [if_pos (hg.mpr h)]
    exact ⟨fun _ => h, fun _ => by decide⟩
  · rw [if_neg (fun q => h (hg.mp q))]
    constructor
    · intro q
      exfalso
      by_cases e : x = y
      · rw [if_pos e] at q
        exact absurd q (by decide)
      · rw [if_neg e] at q
        exact absurd q (by decide)
    · intro q
      exact absurd q h
set_option maxRecDepth 100000 in
set_option maxHeartbeats 4000000 in
theorem c_in0 {G : r_X} {d : Nat} {h : r_HI} {g : r_HR} {z : r_HL} {F : Int32 → r_HI → r_HR → r_HL → Prop} {a b c : Int64} (hF : F (if b.toInt ≤ a.toInt ∧ a.toInt ≤ c.toInt then 1 else 0) h g z) : r_Ci G m_Mo_in (d) 61 [.long a, .long b, .long c] 61 h g z F := by
  by_cases h1 : a.toInt < b.toInt
  · rw [if_neg (by omega)] at hF
    refine r_C_of (by decide +kernel) (Nat.le_of_ble_eq_true rfl) ?_
    refine j_ls (ls' := [(0, _), (2, _), (4, _)]) rfl ?_
    refine j_lload_n d_Mo_in_0 rfl rfl ?_
    refine j_lload_n d_Mo_in_1 rfl rfl ?_
    refine j_lcmp d_Mo_in_2 ?_
    refine j_if_lt (tgt := 17) d_Mo_in_3 rfl (fun bq1 => ?_) (fun bq1 => False.elim (bq1 (lgc_lt.mpr h1)))
    refine j_iconst (v := 0) d_Mo_in_17 rfl ?_
    refine j_zret d_Mo_in_18 rfl (by decide) ?_
    exact q_i1 hF rfl
  · by_cases h2 : c.toInt < a.toInt
    · rw [if_neg (by omega)] at hF
      refine r_C_of (by decide +kernel) (Nat.le_of_ble_eq_true rfl) ?_
      refine j_ls (ls' := [(0, _), (2, _), (4, _)]) rfl ?_
      refine j_lload_n d_Mo_in_0 rfl rfl ?_
      refine j_lload_n d_Mo_in_1 rfl rfl ?_
      refine j_lcmp d_Mo_in_2 ?_
      refine j_if_lt (tgt := 17) d_Mo_in_3 rfl (fun bq1 => False.elim (h1 (lgc_lt.mp bq1))) (fun bq1 => ?_)
      refine j_lload_n d_Mo_in_6 rfl rfl ?_
      refine j_lload d_Mo_in_7 rfl ?_
      refine j_lcmp d_Mo_in_9 ?_
      refine j_if_gt (tgt := 17) d_Mo_in_10 rfl (fun bq2 => ?_) (fun bq2 => False.elim (bq2 (lgc_gt.mpr h2)))
      refine j_iconst (v := 0) d_Mo_in_17 rfl ?_
      refine j_zret d_Mo_in_18 rfl (by decide) ?_
      exact q_i1 hF rfl
    · rw [if_pos (by omega)] at hF
      refine r_C_of (by decide +kernel) (Nat.le_of_ble_eq_true rfl) ?_
      refine j_ls (ls' := [(0, _), (2, _), (4, _)]) rfl ?_
      refine j_lload_n d_Mo_in_0 rfl rfl ?_
      refine j_lload_n d_Mo_in_1 rfl rfl ?_
      refine j_lcmp d_Mo_in_2 ?_
      refine j_if_lt (tgt := 17) d_Mo_in_3 rfl (fun bq1 => False.elim (h1 (lgc_lt.mp bq1))) (fun bq1 => ?_)
      refine j_lload_n d_Mo_in_6 rfl rfl ?_
      refine j_lload d_Mo_in_7 rfl ?_
      refine j_lcmp d_Mo_in_9 ?_
      refine j_if_gt (tgt := 17) d_Mo_in_10 rfl (fun bq2 => False.elim (h2 (lgc_gt.mp bq2))) (fun bq2 => ?_)
      refine j_iconst (v := 1) d_Mo_in_13 rfl ?_
      refine j_goto (tgt := 18) d_Mo_in_14 rfl ?_
      refine j_zret d_Mo_in_18 rfl (by decide) ?_
      exact q_i1 hF rfl
set_option maxRecDepth 100000 in
set_option maxHeartbeats 4000000 in
theorem c_inY {G : r_X} {d : Nat} {h : r_HI} {g : r_HR} {z : r_HL} {F : Int32 → r_HI → r_HR → r_HL → Prop} {x : Int32} {b c : Int64} (lo hi : Int) (hb : b.toInt = lo) (hc : c.toInt = hi) (hx : lo ≤ x.toInt ∧ x.toInt ≤ hi) (hF : F 1 h g z) : r_Ci G m_Mo_in (d) 61 [.long x.toInt64, .long b, .long c] 61 h g z F := by
  refine c_in0 ?_
  rw [Int32.toInt_toInt64, hb, hc, if_pos hx]
  exact hF
set_option maxRecDepth 100000 in
set_option maxHeartbeats 4000000 in
theorem c_inN {G : r_X} {d : Nat} {h : r_HI} {g : r_HR} {z : r_HL} {F : Int32 → r_HI → r_HR → r_HL → Prop} {x : Int32} {b c : Int64} (lo hi : Int) (hb : b.toInt = lo) (hc : c.toInt = hi) (hx : x.toInt < lo ∨ hi < x.toInt) (hF : F 0 h g z) : r_Ci G m_Mo_in (d) 61 [.long x.toInt64, .long b, .long c] 61 h g z F := by
  refine c_in0 ?_
  rw [Int32.toInt_toInt64, hb, hc, if_neg (by omega)]
  exact hF
set_option maxRecDepth 100000 in
set_option maxHeartbeats 4000000 in
theorem l_Mo_copy {G : r_X} {d : Nat} {h : r_HI} {g : r_HR} {z : r_HL} {F : r_HI → r_HR → r_HL → Prop} {s t m : Nat} (hm : m < 2 ^ 30) (hs : r_pk s = (1, m)) (ht : r_pk t = (1, m)) (hsn : s < 61) (htn : t < 61) (hne : s ≠ t) (hF : F (r_rw h t (fun j => if j < m then h s j else h t j)) g z) : ∀ (e i : Nat) (v : Int32) (h1 : r_HI), e + i = m → v = nI i → h1 = r_rw h t (fun j => if j < i then h s j else h t j) → r_TM G m_Mo_copy (d) 61 61 (fun v h' g' z' => v = none ∧ F h' g' z') 2 [(0, .ref (G.2.1 + s)), (1, .ref (G.2.1 + t)), (2, .int v)] [] 61 h1 g z := by
  intro e
  induction e with
  | zero =>
    intro i v h1 he hv hh
    subst hv
    have e0 : i = m := by omega
    subst e0
    refine j_iload_n d_Mo_copy_2 rfl rfl ?_
    refine j_aload_n d_Mo_copy_3 rfl rfl ?_
    refine j_alen d_Mo_copy_4 hs hsn rfl ?_
    refine j_icmp_ge (tgt := 20) d_Mo_copy_5 rfl (fun bq1 => ?_) (fun bq1 => False.elim (bq1 (nI_le (by omega) (by omega))))
    refine j_vret d_Mo_copy_20 rfl ?_
    exact q_v1 hF hh
  | succ e ih =>
    intro i v h1 he hv hh
    subst hv
    refine j_iload_n d_Mo_copy_2 rfl rfl ?_
    refine j_aload_n d_Mo_copy_3 rfl rfl ?_
    refine j_alen d_Mo_copy_4 hs hsn rfl ?_
    refine j_icmp_ge (tgt := 20) d_Mo_copy_5 rfl (fun bq1 => False.elim (nI_ge (by omega) (by omega) bq1)) (fun bq1 => ?_)
    refine j_aload_n d_Mo_copy_8 rfl rfl ?_
    refine j_iload_n d_Mo_copy_9 rfl rfl ?_
    refine j_aload_n d_Mo_copy_10 rfl rfl ?_
    refine j_iload_n d_Mo_copy_11 rfl rfl ?_
    refine j_iav d_Mo_copy_12 hs hsn (j := i) (rfl) (by omega) (by omega) (rfl) ?_
    refine j_iap d_Mo_copy_13 ht htn (j := i) (rfl) (by omega) (by omega) ?_
    refine j_iinc (ls' := [(2, _), (0, _), (1, _)]) d_Mo_copy_14 rfl (by decide) rfl ?_
    refine j_goto (tgt := 2) d_Mo_copy_17 rfl ?_
    refine j_pick [1, 2, 0] (ls' := [(0, _), (1, _), (2, _)]) rfl ?_
    refine ih (i + 1) _ _ (by omega) (nI_inc i) ?_
    rw [hh, r_rw_ne hne, r_rw_up]
    congr 1
    funext j
    by_cases e9 : j = i
    · subst e9
      simp [upd]
    · simp only [upd, if_neg e9]
      by_cases e8 : j < i
      · rw [if_pos e8, if_pos (by omega)]
      · rw [if_neg e8, if_neg (by omega)]
set_option maxRecDepth 100000 in
set_option maxHeartbeats 4000000 in
theorem c_Mo_copy {G : r_X} {d : Nat} {h : r_HI} {g : r_HR} {z : r_HL} {F : r_HI → r_HR → r_HL → Prop} {s t m : Nat} (hs : r_pk s = (1, m)) (ht : r_pk t = (1, m)) (hsn : s < 61) (htn : t < 61) (hne : s ≠ t) (hm : m < 2 ^ 30) (hF : F (r_rw h t (fun j => if j < m then h s j else h t j)) g z) : r_Cv G m_Mo_copy (d) 61 [.ref (G.2.1 + s), .ref (G.2.1 + t)] 61 h g z F := by
  refine r_C_of (by decide +kernel) (Nat.le_of_ble_eq_true rfl) ?_
  refine j_ls (ls' := [(0, _), (1, _)]) rfl ?_
  refine j_iconst (v := 0) d_Mo_copy_0 rfl ?_
  refine j_istore_n (ls' := [(2, _), (0, _), (1, _)]) d_Mo_copy_1 rfl (by decide) rfl ?_
  refine j_pick [1, 2, 0] (ls' := [(0, _), (1, _), (2, _)]) rfl ?_
  refine l_Mo_copy hm hs ht hsn htn hne hF m 0 _ _ (by omega) rfl ?_
  funext a
  by_cases e : a = t
  · subst e
    rw [r_rw_k]
    funext j
    rw [if_neg (Nat.not_lt_zero j)]
  · rw [r_rw_ne e]
set_option maxRecDepth 100000 in
set_option maxHeartbeats 4000000 in
theorem c_Mo_placesBy {G : r_X} {d : Nat} {h : r_HI} {p q : Nat} {z : r_HL} {F : Int32 → r_HI → r_HR → r_HL → Prop} {c : Nat} {a1 : Int32} (hc : c < 127) (e1 : a1 = nI c) (hF : F (nI (a_po c)) h (r_gp p q) z) : r_Ci G m_Mo_placesBy (d) 61 [.int a1] 61 h (r_gp p q) z F := by
  subst e1
  have t8 := nI_toInt (n := c) (by omega)
  refine r_C_of (by decide +kernel) (Nat.le_of_ble_eq_true rfl) ?_
  refine j_ls (ls' := [(0, _)]) rfl ?_
  refine j_iload_n d_Mo_placesBy_0 rfl rfl ?_
  rcases (show (nI c).toInt = 50 ∨ (nI c).toInt = 51 ∨ (nI c).toInt = 52 ∨ (nI c).toInt = 54 ∨ (nI c).toInt = 56 ∨ (nI c).toInt = 99 ∨ ((nI c).toInt ≠ 50 ∧ (nI c).toInt ≠ 51 ∧ (nI c).toInt ≠ 52 ∧ (nI c).toInt ≠ 54 ∧ (nI c).toInt ≠ 56 ∧ (nI c).toInt ≠ 99) by omega) with t9 | t9 | t9 | t9 | t9 | t9 | t9
  · refine j_lookup (off := 59) (tgt := 60) d_Mo_placesBy_1 (by decide) (by rw [t9]; rfl) rfl ?_
    refine j_iload_n d_Mo_placesBy_60 rfl rfl ?_
    refine j_bipush (v := 48) d_Mo_placesBy_61 (by decide) ?_
    refine j_isub d_Mo_placesBy_63 ?_
    refine j_iret d_Mo_placesBy_64 rfl ?_
    refine q_i1 hF ?_
    have ec : (c : Int) = _ := t8.symm.trans t9
    first
      | (have ec : c = 50 := by omega
         subst ec
         rfl)
      | (have ec : c = 51 := by omega
         subst ec
         rfl)
      | (have ec : c = 52 := by omega
         subst ec
         rfl)
      | (have ec : c = 54 := by omega
         subst ec
         rfl)
      | (have ec : c = 56 := by omega
         subst ec
         rfl)
      | fail "none"
  · refine j_lookup (off := 59) (tgt := 60) d_Mo_placesBy_1 (by decide) (by rw [t9]; rfl) rfl ?_
    refine j_iload_n d_Mo_placesBy_60 rfl rfl ?_
    refine j_bipush (v := 48) d_Mo_placesBy_61 (by decide) ?_
    refine j_isub d_Mo_placesBy_63 ?_
    refine j_iret d_Mo_placesBy_64 rfl ?_
    refine q_i1 hF ?_
    have ec : (c : Int) = _ := t8.symm.trans t9
    first
      | (have ec : c = 50 := by omega
         subst ec
         rfl)
      | (have ec : c = 51 := by omega
         subst ec
         rfl)
      | (have ec : c = 52 := by omega
         subst ec
         rfl)
      | (have ec : c = 54 := by omega
         subst ec
         rfl)
      | (have ec : c = 56 := by omega
         subst ec
         rfl)
      | fail "none"
  · refine j_lookup (off := 59) (tgt := 60) d_Mo_placesBy_1 (by decide) (by rw [t9]; rfl) rfl ?_
    refine j_iload_n d_Mo_placesBy_60 rfl rfl ?_
    refine j_bipush (v := 48) d_Mo_placesBy_61 (by decide) ?_
    refine j_isub d_Mo_placesBy_63 ?_
    refine j_iret d_Mo_placesBy_64 rfl ?_
    refine q_i1 hF ?_
    have ec : (c : Int) = _ := t8.symm.trans t9
    first
      | (have ec : c = 50 := by omega
         subst ec
         rfl)
      | (have ec : c = 51 := by omega
         subst ec
         rfl)
      | (have ec : c = 52 := by omega
         subst ec
         rfl)
      | (have ec : c = 54 := by omega
         subst ec
         rfl)
      | (have ec : c = 56 := by omega
         subst ec
         rfl)
      | fail "none"
  · refine j_lookup (off := 59) (tgt := 60) d_Mo_placesBy_1 (by decide) (by rw [t9]; rfl) rfl ?_
    refine j_iload_n d_Mo_placesBy_60 rfl rfl ?_
    refine j_bipush (v := 48) d_Mo_placesBy_61 (by decide) ?_
    refine j_isub d_Mo_placesBy_63 ?_
    refine j_iret d_Mo_placesBy_64 rfl ?_
    refine q_i1 hF ?_
    have ec : (c : Int) = _ := t8.symm.trans t9
    first
      | (have ec : c = 50 := by omega
         subst ec
         rfl)
      | (have ec : c = 51 := by omega
         subst ec
         rfl)
      | (have ec : c = 52 := by omega
         subst ec
         rfl)
      | (have ec : c = 54 := by omega
         subst ec
         rfl)
      | (have ec : c = 56 := by omega
         subst ec
         rfl)
      | fail "none"
  · refine j_lookup (off := 59) (tgt := 60) d_Mo_placesBy_1 (by decide) (by rw [t9]; rfl) rfl ?_
    refine j_iload_n d_Mo_placesBy_60 rfl rfl ?_
    refine j_bipush (v := 48) d_Mo_placesBy_61 (by decide) ?_
    refine j_isub d_Mo_placesBy_63 ?_
    refine j_iret d_Mo_placesBy_64 rfl ?_
    refine q_i1 hF ?_
    have ec : (c : Int) = _ := t8.symm.trans t9
    first
      | (have ec : c = 50 := by omega
         subst ec
         rfl)
      | (have ec : c = 51 := by omega
         subst ec
         rfl)
      | (have ec : c = 52 := by omega
         subst ec
         rfl)
      | (have ec : c = 54 := by omega
         subst ec
         rfl)
      | (have ec : c = 56 := by omega
         subst ec
         rfl)
      | fail "none"
  · refine j_lookup (off := 64) (tgt := 65) d_Mo_placesBy_1 (by decide) (by rw [t9]; rfl) rfl ?_
    refine j_bipush (v := 12) d_Mo_placesBy_65 (by decide) ?_
    refine j_iret d_Mo_placesBy_67 rfl ?_
    refine q_i1 hF ?_
    have ec : c = 99 := by omega
    subst ec
    rfl
  · refine j_lookup (off := 67) (tgt := 68) d_Mo_placesBy_1 (by decide) (r_lk_no (by simp; omega)) rfl ?_
    refine j_iconst (v := 0) d_Mo_placesBy_68 rfl ?_
    refine j_iret d_Mo_placesBy_69 rfl ?_
    refine q_i1 hF ?_
    rw [a_po_no (by omega)]
    rfl
set_option maxRecDepth 100000 in
set_option maxHeartbeats 4000000 in
theorem c_Mo_kindBy {G : r_X} {d : Nat} {h : r_HI} {p q : Nat} {z : r_HL} {F : Int32 → r_HI → r_HR → r_HL → Prop} {c : Nat} {a1 : Int32} (hc : c < 127) (e1 : a1 = nI c) (hF : F (if a_ko c = 5 then -1 else nI (a_ko c)) h (r_gp p q) z) : r_Ci G m_Mo_kindBy (d) 61 [.int a1] 61 h (r_gp p q) z F := by
  subst e1
  have t8 := nI_toInt (n := c) (by omega)
  refine r_C_of (by decide +kernel) (Nat.le_of_ble_eq_true rfl) ?_
  refine j_ls (ls' := [(0, _)]) rfl ?_
  refine j_iload_n d_Mo_kindBy_0 rfl rfl ?_
  rcases (show (nI c).toInt < 102 ∨ 115 < (nI c).toInt ∨ (nI c).toInt = 102 ∨ (nI c).toInt = 103 ∨ (nI c).toInt = 104 ∨ (nI c).toInt = 105 ∨ (nI c).toInt = 106 ∨ (nI c).toInt = 107 ∨ (nI c).toInt = 108 ∨ (nI c).toInt = 109 ∨ (nI c).toInt = 110 ∨ (nI c).toInt = 111 ∨ (nI c).toInt = 112 ∨ (nI c).toInt = 113 ∨ (nI c).toInt = 114 ∨ (nI c).toInt = 115 by omega) with t9 | t9 | t9 | t9 | t9 | t9 | t9 | t9 | t9 | t9 | t9 | t9 | t9 | t9 | t9 | t9
  · refine j_tabOut (tgt := 82) d_Mo_kindBy_1 (Or.inl t9) rfl ?_
    refine j_iconst (v := (-1)) d_Mo_kindBy_82 rfl ?_
    refine j_iret d_Mo_kindBy_83 rfl ?_
    refine q_i1 hF ?_
    rw [if_pos (a_ko_no (by omega))]
  · refine j_tabOut (tgt := 82) d_Mo_kindBy_1 (Or.inr t9) rfl ?_
    refine j_iconst (v := (-1)) d_Mo_kindBy_82 rfl ?_
    refine j_iret d_Mo_kindBy_83 rfl ?_
    refine q_i1 hF ?_
    rw [if_pos (a_ko_no (by omega))]
  · refine j_tabIn (off := 71) (tgt := 72) d_Mo_kindBy_1 (by rw [t9]; decide) (by rw [t9]; decide) (by rw [t9]; rfl) rfl ?_
    refine j_iconst (v := 0) d_Mo_kindBy_72 rfl ?_
    refine j_iret d_Mo_kindBy_73 rfl ?_
    refine q_i1 hF ?_
    have ec : c = 102 := by omega
    subst ec
    rfl
  · refine j_tabIn (off := 81) (tgt := 82) d_Mo_kindBy_1 (by rw [t9]; decide) (by rw [t9]; decide) (by rw [t9]; rfl) rfl ?_
    refine j_iconst (v := (-1)) d_Mo_kindBy_82 rfl ?_
    refine j_iret d_Mo_kindBy_83 rfl ?_
    refine q_i1 hF ?_
    rw [if_pos (a_ko_no (by omega))]
  · refine j_tabIn (off := 81) (tgt := 82) d_Mo_kindBy_1 (by rw [t9]; decide) (by rw [t9]; decide) (by rw [t9]; rfl) rfl ?_
    refine j_iconst (v := (-1)) d_Mo_kindBy_82 rfl ?_
    refine j_iret d_Mo_kindBy_83 rfl ?_
    refine q_i1 hF ?_
    rw [if_pos (a_ko_no (by omega))]
  · refine j_tabIn (off := 81) (tgt := 82) d_Mo_kindBy_1 (by rw [t9]; decide) (by rw [t9]; decide) (by rw [t9]; rfl) rfl ?_
    refine j_iconst (v := (-1)) d_Mo_kindBy_82 rfl ?_
    refine j_iret d_Mo_kindBy_83 rfl ?_
    refine q_i1 hF ?_
    rw [if_pos (a_ko_no (by omega))]
  · refine j_tabIn (off := 81) (tgt := 82) d_Mo_kindBy_1 (by rw [t9]; decide) (by rw [t9]; decide) (by rw [t9]; rfl) rfl ?_
    refine j_iconst (v := (-1)) d_Mo_kindBy_82 rfl ?_
    refine j_iret d_Mo_kindBy_83 rfl ?_
    refine q_i1 hF ?_
    rw [if_pos (a_ko_no (by omega))]
  · refine j_tabIn (off := 81) (tgt := 82) d_Mo_kindBy_1 (by rw [t9]; decide) (by rw [t9]; decide) (by rw [t9]; rfl) rfl ?_
    refine j_iconst (v := (-1)) d_Mo_kindBy_82 rfl ?_
    refine j_iret d_Mo_kindBy_83 rfl ?_
    refine q_i1 hF ?_
    rw [if_pos (a_ko_no (by omega))]
  · refine j_tabIn (off := 81) (tgt := 82) d_Mo_kindBy_1 (by rw [t9]; decide) (by rw [t9]; decide) (by rw [t9]; rfl) rfl ?_
    refine j_iconst (v := (-1)) d_Mo_kindBy_82 rfl ?_
    refine j_iret d_Mo_kindBy_83 rfl ?_
    refine q_i1 hF ?_
    rw [if_pos (a_ko_no (by omega))]
  · refine j_tabIn (off := 81) (tgt := 82) d_Mo_kindBy_1 (by rw [t9]; decide) (by rw [t9]; decide) (by rw [t9]; rfl) rfl ?_
    refine j_iconst (v := (-1)) d_Mo_kindBy_82 rfl ?_
    refine j_iret d_Mo_kindBy_83 rfl ?_
    refine q_i1 hF ?_
    rw [if_pos (a_ko_no (by omega))]
  · refine j_tabIn (off := 73) (tgt := 74) d_Mo_kindBy_1 (by rw [t9]; decide) (by rw [t9]; decide) (by rw [t9]; rfl) rfl ?_
    refine j_iconst (v := 1) d_Mo_kindBy_74 rfl ?_
    refine j_iret d_Mo_kindBy_75 rfl ?_
    refine q_i1 hF ?_
    have ec : c = 110 := by omega
    subst ec
    rfl
  · refine j_tabIn (off := 79) (tgt := 80) d_Mo_kindBy_1 (by rw [t9]; decide) (by rw [t9]; decide) (by rw [t9]; rfl) rfl ?_
    refine j_iconst (v := 4) d_Mo_kindBy_80 rfl ?_
    refine j_iret d_Mo_kindBy_81 rfl ?_
    refine q_i1 hF ?_
    have ec : c = 111 := by omega
    subst ec
    rfl
  · refine j_tabIn (off := 81) (tgt := 82) d_Mo_kindBy_1 (by rw [t9]; decide) (by rw [t9]; decide) (by rw [t9]; rfl) rfl ?_
    refine j_iconst (v := (-1)) d_Mo_kindBy_82 rfl ?_
    refine j_iret d_Mo_kindBy_83 rfl ?_
    refine q_i1 hF ?_
    rw [if_pos (a_ko_no (by omega))]
  · refine j_tabIn (off := 81) (tgt := 82) d_Mo_kindBy_1 (by rw [t9]; decide) (by rw [t9]; decide) (by rw [t9]; rfl) rfl ?_
    refine j_iconst (v := (-1)) d_Mo_kindBy_82 rfl ?_
    refine j_iret d_Mo_kindBy_83 rfl ?_
    refine q_i1 hF ?_
    rw [if_pos (a_ko_no (by omega))]
  · refine j_tabIn (off := 77) (tgt := 78) d_Mo_kindBy_1 (by rw [t9]; decide) (by rw [t9]; decide) (by rw [t9]; rfl) rfl ?_
    refine j_iconst (v := 3) d_Mo_kindBy_78 rfl ?_
    refine j_iret d_Mo_kindBy_79 rfl ?_
    refine q_i1 hF ?_
    have ec : c = 114 := by omega
    subst ec
    rfl
  · refine j_tabIn (off := 75) (tgt := 76) d_Mo_kindBy_1 (by rw [t9]; decide) (by rw [t9]; decide) (by rw [t9]; rfl) rfl ?_
    refine j_iconst (v := 2) d_Mo_kindBy_76 rfl ?_
    refine j_iret d_Mo_kindBy_77 rfl ?_
    refine q_i1 hF ?_
    have ec : c = 115 := by omega
    subst ec
    rfl
set_option maxRecDepth 100000 in
set_option maxHeartbeats 4000000 in
theorem c_Mo_lacksY {G : r_X} {d : Nat} {h : r_HI} {p q : Nat} {z : r_HL} {F : Int32 → r_HI → r_HR → r_HL → Prop} {D : a_D} (hN : p_N h D) (ho : a_dok D) (hR : D.1 = 0) (hF : F 1 h (r_gp p q) z) : r_Ci G m_Mo_lacks (d) 61 [.ref (G.2.1 + 47)] 61 h (r_gp p q) z F := by
  refine r_C_of (by decide +kernel) (Nat.le_of_ble_eq_true rfl) ?_
  refine j_ls (ls' := [(0, _)]) rfl ?_
  refine j_aload_n d_Mo_lacks_0 rfl rfl ?_
  refine j_geti d_Mo_lacks_1 f_Mo_93 rfl rfl (by decide) ?_
  refine j_if_ne (tgt := 11) d_Mo_lacks_4 rfl (fun bq1 => False.elim (bq1 (by rw [hN.1, hR]; rfl))) (fun bq1 => ?_)
  refine j_iconst (v := 1) d_Mo_lacks_7 rfl ?_
  refine j_goto (tgt := 12) d_Mo_lacks_8 rfl ?_
  refine j_zret d_Mo_lacks_12 rfl (by decide) ?_
  exact q_i1 hF rfl
set_option maxRecDepth 100000 in
set_option maxHeartbeats 4000000 in
theorem c_Mo_lacksN {G : r_X} {d : Nat} {h : r_HI} {p q : Nat} {z : r_HL} {F : Int32 → r_HI → r_HR → r_HL → Prop} {D : a_D} (hN : p_N h D) (ho : a_dok D) (hR : ¬ D.1 = 0) (hF : F 0 h (r_gp p q) z) : r_Ci G m_Mo_lacks (d) 61 [.ref (G.2.1 + 47)] 61 h (r_gp p q) z F := by
  have h10 := ho.1
  refine r_C_of (by decide +kernel) (Nat.le_of_ble_eq_true rfl) ?_
  refine j_ls (ls' := [(0, _)]) rfl ?_
  refine j_aload_n d_Mo_lacks_0 rfl rfl ?_
  refine j_geti d_Mo_lacks_1 f_Mo_93 rfl rfl (by decide) ?_
  refine j_if_ne (tgt := 11) d_Mo_lacks_4 rfl (fun bq1 => ?_) (fun bq1 => False.elim (hR ((nI_eq (b := 0) (by omega) (by omega)).mp (hN.1.symm.trans bq1))))
  refine j_iconst (v := 0) d_Mo_lacks_11 rfl ?_
  refine j_zret d_Mo_lacks_12 rfl (by decide) ?_
  exact q_i1 hF rfl
set_option maxRecDepth 100000 in
set_option maxHeartbeats 4000000 in
theorem c_Mo_isRingY {G : r_X} {d : Nat} {h : r_HI} {p q : Nat} {z : r_HL} {F : Int32 → r_HI → r_HR → r_HL → Prop} {D : a_D} (hN : p_N h D) (ho : a_dok D) {x : Int32} {r : Nat} (hr : r < D.1) (e1 : x = nI r) (hF : F 1 h (r_gp p q) z) : r_Ci G m_Mo_isRing (d + 1) 61 [.ref (G.2.1 + 47), .int x] 61 h (r_gp p q) z F := by
  have h10 := ho.1
  have e9 : (h 47 3 - 1).toInt64.toInt = (D.1 : Int) - 1 := by
    rw [Int32.toInt_toInt64, hN.1]
    exact pk_sub_toInt (b := 1) (by omega) (by decide)
  have t1 : x.toInt = (r : Int) := by rw [e1]; exact nI_toInt (by omega)
  refine r_C_of (by decide +kernel) (Nat.le_of_ble_eq_true rfl) ?_
  refine j_ls (ls' := [(0, _), (1, _)]) rfl ?_
  refine j_iload_n d_Mo_isRing_0 rfl rfl ?_
  refine j_i2l d_Mo_isRing_1 ?_
  refine j_lconst (v := 0) d_Mo_isRing_2 rfl ?_
  refine j_aload_n d_Mo_isRing_3 rfl rfl ?_
  refine j_geti d_Mo_isRing_4 f_Mo_93 rfl rfl (by decide) ?_
  refine j_iconst (v := 1) d_Mo_isRing_7 rfl ?_
  refine j_isub d_Mo_isRing_8 ?_
  refine j_i2l d_Mo_isRing_9 ?_
  refine q_i s_Mo_isRing_10 rfl (Nat.le_of_ble_eq_true rfl) (Nat.le_of_ble_eq_true rfl) ?_
  refine c_inY 0 ((D.1 : Int) - 1) rfl e9 (by omega) ?_
  refine j_zret d_Mo_isRing_13 rfl (by decide) ?_
  exact q_i1 hF rfl
set_option maxRecDepth 100000 in
set_option maxHeartbeats 4000000 in
theorem c_Mo_isRingN {G : r_X} {d : Nat} {h : r_HI} {p q : Nat} {z : r_HL} {F : Int32 → r_HI → r_HR → r_HL → Prop} {D : a_D} (hN : p_N h D) (ho : a_dok D) {x : Int32} (hr : x.toInt < 0 ∨ (D.1 : Int) ≤ x.toInt) (hF : F 0 h (r_gp p q) z) : r_Ci G m_Mo_isRing (d + 1) 61 [.ref (G.2.1 + 47), .int x] 61 h (r_gp p q) z F := by
  have h10 := ho.1
  have e9 : (h 47 3 - 1).toInt64.toInt = (D.1 : Int) - 1 := by
    rw [Int32.toInt_toInt64, hN.1]
    exact pk_sub_toInt (b := 1) (by omega) (by decide)
  refine r_C_of (by decide +kernel) (Nat.le_of_ble_eq_true rfl) ?_
  refine j_ls (ls' := [(0, _), (1, _)]) rfl ?_
  refine j_iload_n d_Mo_isRing_0 rfl rfl ?_
  refine j_i2l d_Mo_isRing_1 ?_
  refine j_lconst (v := 0) d_Mo_isRing_2 rfl ?_
  refine j_aload_n d_Mo_isRing_3 rfl rfl ?_
  refine j_geti d_Mo_isRing_4 f_Mo_93 rfl rfl (by decide) ?_
  refine j_iconst (v := 1) d_Mo_isRing_7 rfl ?_
  refine j_isub d_Mo_isRing_8 ?_
  refine j_i2l d_Mo_isRing_9 ?_
  refine q_i s_Mo_isRing_10 rfl (Nat.le_of_ble_eq_true rfl) (Nat.le_of_ble_eq_true rfl) ?_
  refine c_inN 0 ((D.1 : Int) - 1) rfl e9 (by omega) ?_
  refine j_zret d_Mo_isRing_13 rfl (by decide) ?_
  exact q_i1 hF rfl
theorem a_trM {D : a_D} {x y : Nat} : a_tr D x y = if a_ds x y = 0 then 0 else D.2.1 + D.2.2.1 * a_ds x y := by
  unfold a_tr a_ds
  by_cases e : x = y
  · subst e
    simp
  · rw [if_neg e]
    by_cases e2 : x < y
    · rw [if_pos e2, if_neg (by omega)]
    · rw [if_neg e2, if_neg (by omega)]
set_option maxRecDepth 100000 in
set_option maxHeartbeats 4000000 in
theorem c_Mo_travel {G : r_X} {d : Nat} {h : r_HI} {p q : Nat} {z : r_HL} {F : Int32 → r_HI → r_HR → r_HL → Prop} {D : a_D} (hN : p_N h D) (ho : a_dok D) {x y : Nat} {a b : Int32} (hx : x < 10) (hy : y < 10) (ha : a = nI x) (hb : b = nI y) (hF : F (nI (a_tr D x y)) h (r_gp p q) z) : r_Ci G m_Mo_travel (d) 61 [.ref (G.2.1 + 47), .int a, .int b] 61 h (r_gp p q) z F := by
  subst ha
  subst hb
  rw [a_trM] at hF
  by_cases e1 : y < x
  · have e2 : a_ds x y = x - y := by unfold a_ds; split <;> omega
    rw [e2] at hF
    by_cases e3 : x - y = 0
    · rw [if_pos e3] at hF
      refine r_C_of (by decide +kernel) (Nat.le_of_ble_eq_true rfl) ?_
      refine j_ls (ls' := [(0, _), (1, _), (2, _)]) rfl ?_
      refine j_iload_n d_Mo_travel_0 rfl rfl ?_
      refine j_iload_n d_Mo_travel_1 rfl rfl ?_
      refine j_icmp_le (tgt := 11) d_Mo_travel_2 rfl (fun bq1 => False.elim (nI_ge (by omega) (by omega) bq1)) (fun bq1 => ?_)
      refine j_iload_n d_Mo_travel_5 rfl rfl ?_
      refine j_iload_n d_Mo_travel_6 rfl rfl ?_
      refine j_isub d_Mo_travel_7 ?_
      refine j_goto (tgt := 14) d_Mo_travel_8 rfl ?_
      rw [pk_sub (by omega)]
      refine j_istore_n (ls' := [(3, _), (0, _), (1, _), (2, _)]) d_Mo_travel_14 rfl (by decide) rfl ?_
      refine j_iload_n d_Mo_travel_15 rfl rfl ?_
      refine j_if_ne (tgt := 23) d_Mo_travel_16 rfl (fun bq2 => False.elim (bq2 (congrArg nI e3))) (fun bq2 => ?_)
      refine j_iconst (v := 0) d_Mo_travel_19 rfl ?_
      refine j_goto (tgt := 34) d_Mo_travel_20 rfl ?_
      refine j_iret d_Mo_travel_34 rfl ?_
      exact q_i1 hF rfl
    · rw [if_neg e3] at hF
      refine r_C_of (by decide +kernel) (Nat.le_of_ble_eq_true rfl) ?_
      refine j_ls (ls' := [(0, _), (1, _), (2, _)]) rfl ?_
      refine j_iload_n d_Mo_travel_0 rfl rfl ?_
      refine j_iload_n d_Mo_travel_1 rfl rfl ?_
      refine j_icmp_le (tgt := 11) d_Mo_travel_2 rfl (fun bq1 => False.elim (nI_ge (by omega) (by omega) bq1)) (fun bq1 => ?_)
      refine j_iload_n d_Mo_travel_5 rfl rfl ?_
      refine j_iload_n d_Mo_travel_6 rfl rfl ?_
      refine j_isub d_Mo_travel_7 ?_
      refine j_goto (tgt := 14) d_Mo_travel_8 rfl ?_
      rw [pk_sub (by omega)]
      refine j_istore_n (ls' := [(3, _), (0, _), (1, _), (2, _)]) d_Mo_travel_14 rfl (by decide) rfl ?_
      refine j_iload_n d_Mo_travel_15 rfl rfl ?_
      refine j_if_ne (tgt := 23) d_Mo_travel_16 rfl (fun bq2 => ?_) (fun bq2 => False.elim (e3 ((nI_eq (b := 0) (by omega) (by omega)).mp bq2)))
      refine j_aload_n d_Mo_travel_23 rfl rfl ?_
      refine j_geti d_Mo_travel_24 f_Mo_96 rfl rfl (by decide) ?_
      refine j_aload_n d_Mo_travel_27 rfl rfl ?_
      refine j_geti d_Mo_travel_28 f_Mo_99 rfl rfl (by decide) ?_
      refine j_iload_n d_Mo_travel_31 rfl rfl ?_
      refine j_imul d_Mo_travel_32 ?_
      refine j_iadd d_Mo_travel_33 ?_
      refine j_iret d_Mo_travel_34 rfl ?_
      refine q_i1 hF ?_
      rw [hN.2.1, hN.2.2.1, pk_mul, nI_add]
  · have e2 : a_ds x y = y - x := by unfold a_ds; split <;> omega
    rw [e2] at hF
    by_cases e3 : y - x = 0
    · rw [if_pos e3] at hF
      refine r_C_of (by decide +kernel) (Nat.le_of_ble_eq_true rfl) ?_
      refine j_ls (ls' := [(0, _), (1, _), (2, _)]) rfl ?_
      refine j_iload_n d_Mo_travel_0 rfl rfl ?_
      refine j_iload_n d_Mo_travel_1 rfl rfl ?_
      refine j_icmp_le (tgt := 11) d_Mo_travel_2 rfl (fun bq1 => ?_) (fun bq1 => False.elim (bq1 (nI_le (by omega) (by omega))))
      refine j_iload_n d_Mo_travel_11 rfl rfl ?_
      refine j_iload_n d_Mo_travel_12 rfl rfl ?_
      refine j_isub d_Mo_travel_13 ?_
      rw [pk_sub (by omega)]
      refine j_istore_n (ls' := [(3, _), (0, _), (1, _), (2, _)]) d_Mo_travel_14 rfl (by decide) rfl ?_
      refine j_iload_n d_Mo_travel_15 rfl rfl ?_
      refine j_if_ne (tgt := 23) d_Mo_travel_16 rfl (fun bq2 => False.elim (bq2 (congrArg nI e3))) (fun bq2 => ?_)
      refine j_iconst (v := 0) d_Mo_travel_19 rfl ?_
      refine j_goto (tgt := 34) d_Mo_travel_20 rfl ?_
      refine j_iret d_Mo_travel_34 rfl ?_
      exact q_i1 hF rfl
    · rw [if_neg e3] at hF
      refine r_C_of (by decide +kernel) (Nat.le_of_ble_eq_true rfl) ?_
      refine j_ls (ls' := [(0, _), (1, _), (2, _)]) rfl ?_
      refine j_iload_n d_Mo_travel_0 rfl rfl ?_
      refine j_iload_n d_Mo_travel_1 rfl rfl ?_
      refine j_icmp_le (tgt := 11) d_Mo_travel_2 rfl (fun bq1 => ?_) (fun bq1 => False.elim (bq1 (nI_le (by omega) (by omega))))
      refine j_iload_n d_Mo_travel_11 rfl rfl ?_
      refine j_iload_n d_Mo_travel_12 rfl rfl ?_
      refine j_isub d_Mo_travel_13 ?_
      rw [pk_sub (by omega)]
      refine j_istore_n (ls' := [(3, _), (0, _), (1, _), (2, _)]) d_Mo_travel_14 rfl (by decide) rfl ?_
      refine j_iload_n d_Mo_travel_15 rfl rfl ?_
      refine j_if_ne (tgt := 23) d_Mo_travel_16 rfl (fun bq2 => ?_) (fun bq2 => False.elim (e3 ((nI_eq (b := 0) (by omega) (by omega)).mp bq2)))
      refine j_aload_n d_Mo_travel_23 rfl rfl ?_
      refine j_geti d_Mo_travel_24 f_Mo_96 rfl rfl (by decide) ?_
      refine j_aload_n d_Mo_travel_27 rfl rfl ?_
      refine j_geti d_Mo_travel_28 f_Mo_99 rfl rfl (by decide) ?_
      refine j_iload_n d_Mo_travel_31 rfl rfl ?_
      refine j_imul d_Mo_travel_32 ?_
      refine j_iadd d_Mo_travel_33 ?_
      refine j_iret d_Mo_travel_34 rfl ?_
      refine q_i1 hF ?_
      rw [hN.2.1, hN.2.2.1, pk_mul, nI_add]
set_option maxRecDepth 100000 in
set_option maxHeartbeats 4000000 in
theorem c_Mo_lasts {G : r_X} {d : Nat} {h : r_HI} {p q : Nat} {z : r_HL} {F : Int32 → r_HI → r_HR → r_HL → Prop} {D : a_D} (hN : p_N h D) (ho : a_dok D) {r : Nat} {a : Int32} (hr : r < D.1) (ha : a = nI r) (hF : F (nI (24 / D.2.2.2.1 r)) h (r_gp p q) z) : r_Ci G m_Mo_lasts (d) 61 [.ref (G.2.1 + 47), .int a] 61 h (r_gp p q) z F := by
  have h10 := ho.1
  have hpl := a_pl (ho.2.2.2 r hr).1
  refine r_C_of (by decide +kernel) (Nat.le_of_ble_eq_true rfl) ?_
  refine j_ls (ls' := [(0, _), (1, _)]) rfl ?_
  refine j_bipush (v := 24) d_Mo_lasts_0 (by decide) ?_
  refine j_aload_n d_Mo_lasts_2 rfl rfl ?_
  refine j_getr d_Mo_lasts_3 f_Mo_13 rfl rfl (by decide) rfl ?_
  refine j_iload_n d_Mo_lasts_6 rfl rfl ?_
  refine j_iav d_Mo_lasts_7 rfl (by decide) (j := r) (ha) (by omega) (by decide) ((hN.2.2.2 r hr).1) ?_
  refine j_idiv d_Mo_lasts_8 (by intro e; exact absurd ((nI_eq (b := 0) (by omega) (by omega)).mp e) (by omega)) ?_
  refine j_iret d_Mo_lasts_9 rfl ?_
  exact q_i1 hF (pk_div (a := 24) (by decide) (by omega) (by omega))
theorem a_dnM {D : a_D} {t x r p : Nat} : (t + a_tr D x r) + ((D.2.2.2.2 r + p * (24 / D.2.2.2.1 r)) % 24 + 24 - (t + a_tr D x r) % 24) % 24 + 24 / D.2.2.2.1 r = a_dn D t x r p := by
  unfold a_dn a_ls
  congr 2
  omega
set_option maxRecDepth 100000 in
set_option maxHeartbeats 4000000 in
theorem c_Mo_doneBy {G : r_X} {d : Nat} {h : r_HI} {p q : Nat} {z : r_HL} {F : Int32 → r_HI → r_HR → r_HL → Prop} {D : a_D} (hN : p_N h D) (ho : a_dok D) {x t r w : Nat} {a1 a2 a3 a4 : Int32} (ht : t < 2 ^ 27) (hx : x < 10) (hr : r < D.1) (hw : w < D.2.2.2.1 r) (e1 : a1 = nI x) (e2 : a2 = nI t) (e3 : a3 = nI r) (e4 : a4 = nI w) (hF : F (nI (a_dn D t x r w)) h (r_gp p q) z) : r_Ci G m_Mo_doneBy (d + 1) 61 [.ref (G.2.1 + 47), .int a1, .int a2, .int a3, .int a4] 61 h (r_gp p q) z F := by
  have h10 := ho.1
  have hpl := a_pl (ho.2.2.2 r hr).1
  have hof := (ho.2.2.2 r hr).2
  have htr := a_tr_le ho (x := x) (y := r) hx (by omega)
  have hpm := a_pls_mul (ho.2.2.2 r hr).1 hw
  subst e2
  subst e4
  rw [← a_dnM] at hF
  refine r_C_of (by decide +kernel) (Nat.le_of_ble_eq_true rfl) ?_
  refine j_ls (ls' := [(0, _), (1, _), (2, _), (3, _), (4, _)]) rfl ?_
  refine j_iload_n d_Mo_doneBy_0 rfl rfl ?_
  refine j_aload_n d_Mo_doneBy_1 rfl rfl ?_
  refine j_iload_n d_Mo_doneBy_2 rfl rfl ?_
  refine j_iload_n d_Mo_doneBy_3 rfl rfl ?_
  refine q_i (s_Mo_doneBy_4 rfl (by decide)) rfl (Nat.le_of_ble_eq_true rfl) (Nat.le_of_ble_eq_true rfl) ?_
  refine c_Mo_travel hN ho hx (y := r) (by omega) e1 e3 ?_
  refine j_iadd d_Mo_doneBy_7 ?_
  rw [nI_add]
  refine j_istore (ls' := [(5, _), (0, _), (1, _), (2, _), (3, _), (4, _)]) d_Mo_doneBy_8 (by decide) rfl ?_
  refine j_aload_n d_Mo_doneBy_10 rfl rfl ?_
  refine j_getr d_Mo_doneBy_11 f_Mo_16 rfl rfl (by decide) rfl ?_
  refine j_iload_n d_Mo_doneBy_14 rfl rfl ?_
  refine j_iav d_Mo_doneBy_15 rfl (by decide) (j := r) (e3) (by omega) (by decide) ((hN.2.2.2 r hr).2) ?_
  refine j_iload d_Mo_doneBy_16 rfl ?_
  refine j_aload_n d_Mo_doneBy_18 rfl rfl ?_
  refine j_iload_n d_Mo_doneBy_19 rfl rfl ?_
  refine q_i (s_Mo_doneBy_20 rfl (by decide)) rfl (Nat.le_of_ble_eq_true rfl) (Nat.le_of_ble_eq_true rfl) ?_
  refine c_Mo_lasts hN ho hr e3 ?_
  refine j_imul d_Mo_doneBy_23 ?_
  refine j_iadd d_Mo_doneBy_24 ?_
  refine j_bipush (v := 24) d_Mo_doneBy_25 (by decide) ?_
  refine j_irem d_Mo_doneBy_27 (by decide) ?_
  rw [pk_mul, nI_add, show (24 : Int32) = nI 24 from rfl, pk_rem (by omega) (by decide) (by decide)]
  refine j_istore (ls' := [(6, _), (5, _), (0, _), (1, _), (2, _), (3, _), (4, _)]) d_Mo_doneBy_28 (by decide) rfl ?_
  refine j_iload d_Mo_doneBy_30 rfl ?_
  refine j_bipush (v := 24) d_Mo_doneBy_32 (by decide) ?_
  refine j_iadd d_Mo_doneBy_34 ?_
  refine j_iload d_Mo_doneBy_35 rfl ?_
  refine j_bipush (v := 24) d_Mo_doneBy_37 (by decide) ?_
  refine j_irem d_Mo_doneBy_39 (by decide) ?_
  refine j_isub d_Mo_doneBy_40 ?_
  refine j_bipush (v := 24) d_Mo_doneBy_41 (by decide) ?_
  refine j_irem d_Mo_doneBy_43 (by decide) ?_
  rw [show (24 : Int32) = nI 24 from rfl, pk_rem (a := (t + a_tr D x r)) (by omega) (by decide) (by decide), nI_add, pk_sub (by omega), pk_rem (by omega) (by decide) (by decide)]
  refine j_istore (ls' := [(7, _), (6, _), (5, _), (0, _), (1, _), (2, _), (3, _), (4, _)]) d_Mo_doneBy_44 (by decide) rfl ?_
  refine j_iload d_Mo_doneBy_46 rfl ?_
  refine j_iload d_Mo_doneBy_48 rfl ?_
  refine j_iadd d_Mo_doneBy_50 ?_
  refine j_aload_n d_Mo_doneBy_51 rfl rfl ?_
  refine j_iload_n d_Mo_doneBy_52 rfl rfl ?_
  refine q_i (s_Mo_doneBy_53 rfl (by decide)) rfl (Nat.le_of_ble_eq_true rfl) (Nat.le_of_ble_eq_true rfl) ?_
  refine c_Mo_lasts hN ho hr e3 ?_
  refine j_iadd d_Mo_doneBy_56 ?_
  refine j_iret d_Mo_doneBy_57 rfl ?_
  refine q_i1 hF ?_
  rw [nI_add, nI_add]
