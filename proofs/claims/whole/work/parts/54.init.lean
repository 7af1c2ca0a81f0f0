/-! ===== the constructors ===== -/
def r_gl (B : List ((Nat × Nat) × Nat)) : r_HR := fun a j => B.lookup (a, j)
def r_hl (A : List ((Nat × Nat) × Int32)) : r_HI := fun a j => (A.lookup (a, j)).getD 0
def r_lo {α : Type} (m : Nat) (L : List ((Nat × Nat) × α)) : Prop := L.all (fun q => Nat.blt q.1.1 m) = true
theorem r_lk_eq {α : Type} {k j : Nat} {y : α} {B : List ((Nat × Nat) × α)} : (((k, j), y) :: B).lookup (k, j) = some y := by
  show (match (k, j) == (k, j) with | true => some y | false => B.lookup (k, j)) = _
  rw [beq_self_eq_true]
theorem r_lk_ne {α : Type} {a i k j : Nat} {y : α} {B : List ((Nat × Nat) × α)} (h : ¬ (a = k ∧ i = j)) : (((k, j), y) :: B).lookup (a, i) = B.lookup (a, i) := by
  have h3 : ((a, i) == (k, j)) = false := beq_eq_false_iff_ne.mpr (fun e => h ⟨congrArg Prod.fst e, congrArg Prod.snd e⟩)
  show (match (a, i) == (k, j) with | true => some y | false => B.lookup (a, i)) = _
  rw [h3]
theorem r_lo_no {α : Type} {m n j : Nat} : ∀ {L : List ((Nat × Nat) × α)}, r_lo m L → m ≤ n → L.lookup (n, j) = none
  | [], _, _ => rfl
  | ((a, b), v) :: L, h, hn => by
    have h1 : (Nat.blt a m && L.all (fun q => Nat.blt q.1.1 m)) = true := h
    rw [Bool.and_eq_true] at h1
    have h2 : a < m := Nat.le_of_ble_eq_true h1.1
    rw [r_lk_ne (fun e => by omega)]
    exact r_lo_no h1.2 hn
theorem r_hl_no {A : List ((Nat × Nat) × Int32)} {m n : Nat} (hA : r_lo m A) (hn : m ≤ n) : r_hl A n = fun _ => 0 := funext fun j => by
  show (A.lookup (n, j)).getD 0 = 0
  rw [r_lo_no hA hn]
  rfl
theorem r_gl_no {B : List ((Nat × Nat) × Nat)} {m n : Nat} (hB : r_lo m B) (hn : m ≤ n) : r_gl B n = fun _ => none := funext fun j => r_lo_no hB hn
theorem r_gl_up {B : List ((Nat × Nat) × Nat)} {k j y : Nat} : r_ug (r_gl B) k j (some y) = r_gl (((k, j), y) :: B) := by
  funext a i
  by_cases e : a = k
  · subst e
    rw [r_ug_k]
    by_cases e2 : i = j
    · subst e2
      show _ = (((a, i), y) :: B).lookup (a, i)
      rw [r_lk_eq]
      simp [va_up]
    · show _ = (((a, j), y) :: B).lookup (a, i)
      rw [r_lk_ne (fun q => e2 q.2)]
      simp [va_up, e2, r_gl]
  · rw [r_ug_ne e]
    show _ = (((k, j), y) :: B).lookup (a, i)
    rw [r_lk_ne (fun q => e q.1)]
    rfl
theorem r_gl_ui {B : List ((Nat × Nat) × Nat)} {k y : Nat} (i : Int32) (j : Nat) (e : i.toNatClampNeg = j) : r_ug (r_gl B) k i.toNatClampNeg (some y) = r_gl (((k, j), y) :: B) := by
  rw [e]
  exact r_gl_up
theorem r_hl_up {A : List ((Nat × Nat) × Int32)} {k j : Nat} {v : Int32} : r_up (r_hl A) k j v = r_hl (((k, j), v) :: A) := by
  funext a i
  by_cases e : a = k
  · subst e
    rw [r_up_k]
    by_cases e2 : i = j
    · subst e2
      show _ = ((((a, i), v) :: A).lookup (a, i)).getD 0
      rw [r_lk_eq]
      simp [upd]
    · show _ = ((((a, j), v) :: A).lookup (a, i)).getD 0
      rw [r_lk_ne (fun q => e2 q.2)]
      simp [upd, e2, r_hl]
  · rw [r_up_ne e]
    show _ = ((((k, j), v) :: A).lookup (a, i)).getD 0
    rw [r_lk_ne (fun q => e q.1)]
    rfl
theorem r_hl_z {A : List ((Nat × Nat) × Int32)} {m : Nat} (hA : r_lo m A) (k j : Nat) (hk : m ≤ k) : r_up (r_hl A) k j 0 = r_hl A := r_up_self (by rw [r_hl_no hA hk])
theorem r_hl_z1 {A : List ((Nat × Nat) × Int32)} {m : Nat} (hA : r_lo m A) (k j : Nat) (v : Int32) (i : Nat) (hk : m ≤ k) (hi : ¬ i = j) : r_up (r_hl (((k, j), v) :: A)) k i 0 = r_hl (((k, j), v) :: A) := r_up_self (by
  show ((((k, j), v) :: A).lookup (k, i)).getD 0 = 0
  rw [r_lk_ne (fun q => hi q.2), r_lo_no hA hk]
  rfl)
theorem q_n {G : r_X} {M M' : r_M} {R : Room} {n0 : Nat} {X : State → Prop} {Z : List Frame → Array Value → State → State → Prop} {pc n : Nat} {ls : List (Nat × Value)} {st : List Value} {h : r_HI} {g : r_HR} {z : r_HL} {av rest : List Value} {d n2 : Nat} (hcl : r_cl G M M' pc av n h g z) (hst : av.reverse ++ rest = st) (hok : r_ok R n0 n n2 d M'.2.2.1) (hcat : (rest.map fun v => v.category).sum ≤ 8) (hC : r_Cv G M' d n2 av n h g z (fun h' g' z' => r_T G M R n0 X Z (pc + 3) ls rest n2 h' g' z')) : r_T G M R n0 X Z pc ls st n h g z := j_callv hcl hC hok hcat hst
set_option maxRecDepth 100000 in
set_option maxHeartbeats 4000000 in
theorem i_Fi_init {G : r_X} {d n a : Nat} {h : r_HI} {g : r_HR} {z : r_HL} {F : r_HI → r_HR → r_HL → Prop} (hF : F h g z) : r_Cv G m_Fi_init (d + 1) n [.ref a] n h g z F := by
  refine r_C_of (by decide +kernel) (Nat.le_of_ble_eq_true rfl) ?_
  refine j_ls (ls' := [(0, _)]) rfl ?_
  refine j_aload_n d_Fi_init_0 rfl rfl ?_
  refine j_oinit d_Fi_init_1 s_Fi_init_1 ⟨Nat.le_of_ble_eq_true rfl, Nat.le_of_ble_eq_true rfl⟩ ?_
  refine j_vret d_Fi_init_4 rfl ?_
  exact ⟨rfl, hF⟩
set_option maxRecDepth 100000 in
set_option maxHeartbeats 4000000 in
theorem i_Ne_init {G : r_X} {d n a : Nat} {h : r_HI} {g : r_HR} {z : r_HL} {F : r_HI → r_HR → r_HL → Prop} (hF : F h g z) : r_Cv G m_Ne_init (d + 2) n [.ref a] n h g z F := by
  refine r_C_of (by decide +kernel) (Nat.le_of_ble_eq_true rfl) ?_
  refine j_ls (ls' := [(0, _)]) rfl ?_
  refine j_aload_n d_Ne_init_0 rfl rfl ?_
  refine q_v s_Ne_init_1 rfl (Nat.le_of_ble_eq_true rfl) (Nat.le_of_ble_eq_true rfl) ?_
  refine i_Fi_init ?_
  refine j_vret d_Ne_init_4 rfl ?_
  exact ⟨rfl, hF⟩
set_option maxRecDepth 100000 in
set_option maxHeartbeats 4000000 in
theorem i_Sw_init {G : r_X} {d n a : Nat} {h : r_HI} {g : r_HR} {z : r_HL} {F : r_HI → r_HR → r_HL → Prop} (hF : F h g z) : r_Cv G m_Sw_init (d + 2) n [.ref a] n h g z F := by
  refine r_C_of (by decide +kernel) (Nat.le_of_ble_eq_true rfl) ?_
  refine j_ls (ls' := [(0, _)]) rfl ?_
  refine j_aload_n d_Sw_init_0 rfl rfl ?_
  refine q_v s_Sw_init_1 rfl (Nat.le_of_ble_eq_true rfl) (Nat.le_of_ble_eq_true rfl) ?_
  refine i_Fi_init ?_
  refine j_vret d_Sw_init_4 rfl ?_
  exact ⟨rfl, hF⟩
set_option maxRecDepth 100000 in
set_option maxHeartbeats 4000000 in
theorem i_Ro_init {G : r_X} {d n a : Nat} {h : r_HI} {g : r_HR} {z : r_HL} {F : r_HI → r_HR → r_HL → Prop} (hF : F h g z) : r_Cv G m_Ro_init (d + 3) n [.ref a] n h g z F := by
  refine r_C_of (by decide +kernel) (Nat.le_of_ble_eq_true rfl) ?_
  refine j_ls (ls' := [(0, _)]) rfl ?_
  refine j_aload_n d_Ro_init_0 rfl rfl ?_
  refine q_v s_Ro_init_1 rfl (Nat.le_of_ble_eq_true rfl) (Nat.le_of_ble_eq_true rfl) ?_
  refine i_Sw_init ?_
  refine j_vret d_Ro_init_4 rfl ?_
  exact ⟨rfl, hF⟩
set_option maxRecDepth 100000 in
set_option maxHeartbeats 4000000 in
theorem i_So_init {G : r_X} {d n a : Nat} {h : r_HI} {g : r_HR} {z : r_HL} {F : r_HI → r_HR → r_HL → Prop} (hF : F h g z) : r_Cv G m_So_init (d + 3) n [.ref a] n h g z F := by
  refine r_C_of (by decide +kernel) (Nat.le_of_ble_eq_true rfl) ?_
  refine j_ls (ls' := [(0, _)]) rfl ?_
  refine j_aload_n d_So_init_0 rfl rfl ?_
  refine q_v s_So_init_1 rfl (Nat.le_of_ble_eq_true rfl) (Nat.le_of_ble_eq_true rfl) ?_
  refine i_Ne_init ?_
  refine j_vret d_So_init_4 rfl ?_
  exact ⟨rfl, hF⟩
set_option maxRecDepth 100000 in
set_option maxHeartbeats 4000000 in
theorem i_Pa_1 {G : r_X} {A : List ((Nat × Nat) × Int32)} {B : List ((Nat × Nat) × Nat)} {z : r_HL} {F : r_HI → r_HR → r_HL → Prop} (hA : r_lo 1 A) (hF : F (r_hl (A)) (r_gl (((1, 0), 2) :: B)) z) : r_Cv G m_Pa_init 1 3 [.ref (G.2.1 + 1)] 2 (r_hl A) (r_gl B) z F := by
  refine r_C_of (by decide +kernel) (Nat.le_of_ble_eq_true rfl) ?_
  refine j_ls (ls' := [(0, _)]) rfl ?_
  refine j_aload_n d_Pa_init_0 rfl rfl ?_
  refine j_oinit d_Pa_init_1 s_Pa_init_1 (by decide) ?_
  refine j_aload_n d_Pa_init_4 rfl rfl ?_
  refine j_bipush (v := 28) d_Pa_init_5 (by decide) ?_
  refine j_newa d_Pa_init_7 rfl (by decide) (by decide) (by decide) (r_hl_no hA (by decide)) ⟨by decide +kernel, by decide +kernel⟩ ?_
  refine j_putFa d_Pa_init_9 f_Pa_9 (by decide) rfl rfl (by decide) rfl rfl ?_
  rw [r_gl_up]
  refine j_aload_n d_Pa_init_12 rfl rfl ?_
  refine j_iconst (v := 0) d_Pa_init_13 rfl ?_
  refine j_puti d_Pa_init_14 f_Pa_15 (by decide) rfl rfl (by decide) ?_
  rw [r_hl_z hA 1 1 (by decide)]
  refine j_vret d_Pa_init_17 rfl ?_
  exact ⟨rfl, hF⟩
set_option maxRecDepth 100000 in
set_option maxHeartbeats 4000000 in
theorem i_Di_3 {G : r_X} {A : List ((Nat × Nat) × Int32)} {B : List ((Nat × Nat) × Nat)} {z : r_HL} {F : r_HI → r_HR → r_HL → Prop} (hA : r_lo 3 A) (hF : F (r_hl (A)) (r_gl (((3, 2), 6) :: ((3, 1), 5) :: ((3, 0), 4) :: B)) z) : r_Cv G m_Di_init 1 7 [.ref (G.2.1 + 3)] 4 (r_hl A) (r_gl B) z F := by
  refine r_C_of (by decide +kernel) (Nat.le_of_ble_eq_true rfl) ?_
  refine j_ls (ls' := [(0, _)]) rfl ?_
  refine j_aload_n d_Di_init_0 rfl rfl ?_
  refine j_oinit d_Di_init_1 s_Di_init_1 (by decide) ?_
  refine j_aload_n d_Di_init_4 rfl rfl ?_
  refine j_bipush (v := 10) d_Di_init_5 (by decide) ?_
  refine j_newa d_Di_init_7 rfl (by decide) (by decide) (by decide) (r_hl_no hA (by decide)) ⟨by decide +kernel, by decide +kernel⟩ ?_
  refine j_putFa d_Di_init_9 f_Di_9 (by decide) rfl rfl (by decide) rfl rfl ?_
  rw [r_gl_up]
  refine j_aload_n d_Di_init_12 rfl rfl ?_
  refine j_bipush (v := 10) d_Di_init_13 (by decide) ?_
  refine j_newa d_Di_init_15 rfl (by decide) (by decide) (by decide) (r_hl_no hA (by decide)) ⟨by decide +kernel, by decide +kernel⟩ ?_
  refine j_putFa d_Di_init_17 f_Di_15 (by decide) rfl rfl (by decide) rfl rfl ?_
  rw [r_gl_up]
  refine j_aload_n d_Di_init_20 rfl rfl ?_
  refine j_bipush (v := 10) d_Di_init_21 (by decide) ?_
  refine j_newa d_Di_init_23 rfl (by decide) (by decide) (by decide) (r_hl_no hA (by decide)) ⟨by decide +kernel, by decide +kernel⟩ ?_
  refine j_putFa d_Di_init_25 f_Di_18 (by decide) rfl rfl (by decide) rfl rfl ?_
  rw [r_gl_up]
  refine j_aload_n d_Di_init_28 rfl rfl ?_
  refine j_iconst (v := 0) d_Di_init_29 rfl ?_
  refine j_puti d_Di_init_30 f_Di_21 (by decide) rfl rfl (by decide) ?_
  rw [r_hl_z hA 3 3 (by decide)]
  refine j_aload_n d_Di_init_33 rfl rfl ?_
  refine j_iconst (v := 0) d_Di_init_34 rfl ?_
  refine j_puti d_Di_init_35 f_Di_25 (by decide) rfl rfl (by decide) ?_
  rw [r_hl_z hA 3 4 (by decide)]
  refine j_aload_n d_Di_init_38 rfl rfl ?_
  refine j_iconst (v := 0) d_Di_init_39 rfl ?_
  refine j_puti d_Di_init_40 f_Di_28 (by decide) rfl rfl (by decide) ?_
  rw [r_hl_z hA 3 5 (by decide)]
  refine j_vret d_Di_init_43 rfl ?_
  exact ⟨rfl, hF⟩
set_option maxRecDepth 100000 in
set_option maxHeartbeats 4000000 in
theorem i_Dk_7 {G : r_X} {A : List ((Nat × Nat) × Int32)} {B : List ((Nat × Nat) × Nat)} {z : r_HL} {F : r_HI → r_HR → r_HL → Prop} (hA : r_lo 7 A) (hF : F (r_hl (((7, 7), 1) :: A)) (r_gl (((7, 0), 3) :: ((7, 3), 10) :: ((7, 2), 9) :: ((7, 1), 8) :: B)) z) : r_Cv G m_Dk_init 1 11 [.ref (G.2.1 + 7), .ref (G.2.1 + 3)] 8 (r_hl A) (r_gl B) z F := by
  refine r_C_of (by decide +kernel) (Nat.le_of_ble_eq_true rfl) ?_
  refine j_ls (ls' := [(0, _), (1, _)]) rfl ?_
  refine j_aload_n d_Dk_init_0 rfl rfl ?_
  refine j_oinit d_Dk_init_1 s_Dk_init_1 (by decide) ?_
  refine j_aload_n d_Dk_init_4 rfl rfl ?_
  refine j_bipush (v := 7) d_Dk_init_5 (by decide) ?_
  refine j_newa d_Dk_init_7 rfl (by decide) (by decide) (by decide) (r_hl_no hA (by decide)) ⟨by decide +kernel, by decide +kernel⟩ ?_
  refine j_putFa d_Dk_init_9 f_Dk_9 (by decide) rfl rfl (by decide) rfl rfl ?_
  rw [r_gl_up]
  refine j_aload_n d_Dk_init_12 rfl rfl ?_
  refine j_bipush (v := 7) d_Dk_init_13 (by decide) ?_
  refine j_newa d_Dk_init_15 rfl (by decide) (by decide) (by decide) (r_hl_no hA (by decide)) ⟨by decide +kernel, by decide +kernel⟩ ?_
  refine j_putFa d_Dk_init_17 f_Dk_15 (by decide) rfl rfl (by decide) rfl rfl ?_
  rw [r_gl_up]
  refine j_aload_n d_Dk_init_20 rfl rfl ?_
  refine j_bipush (v := 7) d_Dk_init_21 (by decide) ?_
  refine j_newa d_Dk_init_23 rfl (by decide) (by decide) (by decide) (r_hl_no hA (by decide)) ⟨by decide +kernel, by decide +kernel⟩ ?_
  refine j_putFa d_Dk_init_25 f_Dk_18 (by decide) rfl rfl (by decide) rfl rfl ?_
  rw [r_gl_up]
  refine j_aload_n d_Dk_init_28 rfl rfl ?_
  refine j_iconst (v := 0) d_Dk_init_29 rfl ?_
  refine j_puti d_Dk_init_30 f_Dk_21 (by decide) rfl rfl (by decide) ?_
  rw [r_hl_z hA 7 4 (by decide)]
  refine j_aload_n d_Dk_init_33 rfl rfl ?_
  refine j_iconst (v := 0) d_Dk_init_34 rfl ?_
  refine j_puti d_Dk_init_35 f_Dk_25 (by decide) rfl rfl (by decide) ?_
  rw [r_hl_z hA 7 5 (by decide)]
  refine j_aload_n d_Dk_init_38 rfl rfl ?_
  refine j_iconst (v := 0) d_Dk_init_39 rfl ?_
  refine j_puti d_Dk_init_40 f_Dk_28 (by decide) rfl rfl (by decide) ?_
  rw [r_hl_z hA 7 6 (by decide)]
  refine j_aload_n d_Dk_init_43 rfl rfl ?_
  refine j_iconst (v := 1) d_Dk_init_44 rfl ?_
  refine j_putz d_Dk_init_45 f_Dk_31 (by decide) rfl rfl (by decide) (by decide) ?_
  rw [r_hl_up]
  refine j_aload_n d_Dk_init_48 rfl rfl ?_
  refine j_iconst (v := 0) d_Dk_init_49 rfl ?_
  refine j_puti d_Dk_init_50 f_Dk_35 (by decide) rfl rfl (by decide) ?_
  rw [r_hl_z1 hA 7 7 1 8 (by decide) (by decide)]
  refine j_aload_n d_Dk_init_53 rfl rfl ?_
  refine j_aload_n d_Dk_init_54 rfl rfl ?_
  refine j_putFo d_Dk_init_55 f_Dk_38 (by decide) rfl rfl (by decide) rfl rfl ?_
  rw [r_gl_up]
  refine j_vret d_Dk_init_58 rfl ?_
  exact ⟨rfl, hF⟩
set_option maxRecDepth 100000 in
set_option maxHeartbeats 4000000 in
theorem i_Th_11 {G : r_X} {A : List ((Nat × Nat) × Int32)} {B : List ((Nat × Nat) × Nat)} {z : r_HL} {F : r_HI → r_HR → r_HL → Prop} (hA : r_lo 11 A) (hF : F (r_hl (A)) (r_gl (((11, 2), 14) :: ((11, 1), 13) :: ((11, 0), 12) :: B)) z) : r_Cv G m_Th_init 1 15 [.ref (G.2.1 + 11)] 12 (r_hl A) (r_gl B) z F := by
  refine r_C_of (by decide +kernel) (Nat.le_of_ble_eq_true rfl) ?_
  refine j_ls (ls' := [(0, _)]) rfl ?_
  refine j_aload_n d_Th_init_0 rfl rfl ?_
  refine j_oinit d_Th_init_1 s_Th_init_1 (by decide) ?_
  refine j_aload_n d_Th_init_4 rfl rfl ?_
  refine j_bipush (v := 6) d_Th_init_5 (by decide) ?_
  refine j_newa d_Th_init_7 rfl (by decide) (by decide) (by decide) (r_hl_no hA (by decide)) ⟨by decide +kernel, by decide +kernel⟩ ?_
  refine j_putFa d_Th_init_9 f_Th_9 (by decide) rfl rfl (by decide) rfl rfl ?_
  rw [r_gl_up]
  refine j_aload_n d_Th_init_12 rfl rfl ?_
  refine j_bipush (v := 6) d_Th_init_13 (by decide) ?_
  refine j_newa d_Th_init_15 rfl (by decide) (by decide) (by decide) (r_hl_no hA (by decide)) ⟨by decide +kernel, by decide +kernel⟩ ?_
  refine j_putFa d_Th_init_17 f_Th_15 (by decide) rfl rfl (by decide) rfl rfl ?_
  rw [r_gl_up]
  refine j_aload_n d_Th_init_20 rfl rfl ?_
  refine j_bipush (v := 6) d_Th_init_21 (by decide) ?_
  refine j_newa d_Th_init_23 rfl (by decide) (by decide) (by decide) (r_hl_no hA (by decide)) ⟨by decide +kernel, by decide +kernel⟩ ?_
  refine j_putFa d_Th_init_25 f_Th_18 (by decide) rfl rfl (by decide) rfl rfl ?_
  rw [r_gl_up]
  refine j_aload_n d_Th_init_28 rfl rfl ?_
  refine j_iconst (v := 0) d_Th_init_29 rfl ?_
  refine j_puti d_Th_init_30 f_Th_21 (by decide) rfl rfl (by decide) ?_
  rw [r_hl_z hA 11 3 (by decide)]
  refine j_vret d_Th_init_33 rfl ?_
  exact ⟨rfl, hF⟩
set_option maxRecDepth 100000 in
set_option maxHeartbeats 4000000 in
theorem i_Si_15 {G : r_X} {A : List ((Nat × Nat) × Int32)} {B : List ((Nat × Nat) × Nat)} {z : r_HL} {F : r_HI → r_HR → r_HL → Prop} (hA : r_lo 15 A) (hF : F (r_hl (A)) (r_gl (((15, 1), 17) :: ((15, 0), 16) :: B)) z) : r_Cv G m_Si_init 1 18 [.ref (G.2.1 + 15)] 16 (r_hl A) (r_gl B) z F := by
  refine r_C_of (by decide +kernel) (Nat.le_of_ble_eq_true rfl) ?_
  refine j_ls (ls' := [(0, _)]) rfl ?_
  refine j_aload_n d_Si_init_0 rfl rfl ?_
  refine j_oinit d_Si_init_1 s_Si_init_1 (by decide) ?_
  refine j_aload_n d_Si_init_4 rfl rfl ?_
  refine j_bipush (v := 6) d_Si_init_5 (by decide) ?_
  refine j_newa d_Si_init_7 rfl (by decide) (by decide) (by decide) (r_hl_no hA (by decide)) ⟨by decide +kernel, by decide +kernel⟩ ?_
  refine j_putFa d_Si_init_9 f_Si_9 (by decide) rfl rfl (by decide) rfl rfl ?_
  rw [r_gl_up]
  refine j_aload_n d_Si_init_12 rfl rfl ?_
  refine j_bipush (v := 6) d_Si_init_13 (by decide) ?_
  refine j_newa d_Si_init_15 rfl (by decide) (by decide) (by decide) (r_hl_no hA (by decide)) ⟨by decide +kernel, by decide +kernel⟩ ?_
  refine j_putFa d_Si_init_17 f_Si_15 (by decide) rfl rfl (by decide) rfl rfl ?_
  rw [r_gl_up]
  refine j_aload_n d_Si_init_20 rfl rfl ?_
  refine j_iconst (v := 0) d_Si_init_21 rfl ?_
  refine j_puti d_Si_init_22 f_Si_18 (by decide) rfl rfl (by decide) ?_
  rw [r_hl_z hA 15 2 (by decide)]
  refine j_vret d_Si_init_25 rfl ?_
  exact ⟨rfl, hF⟩
set_option maxRecDepth 100000 in
set_option maxHeartbeats 4000000 in
theorem i_Di_25 {G : r_X} {A : List ((Nat × Nat) × Int32)} {B : List ((Nat × Nat) × Nat)} {z : r_HL} {F : r_HI → r_HR → r_HL → Prop} (hA : r_lo 25 A) (hF : F (r_hl (A)) (r_gl (((25, 2), 28) :: ((25, 1), 27) :: ((25, 0), 26) :: B)) z) : r_Cv G m_Di_init 1 29 [.ref (G.2.1 + 25)] 26 (r_hl A) (r_gl B) z F := by
  refine r_C_of (by decide +kernel) (Nat.le_of_ble_eq_true rfl) ?_
  refine j_ls (ls' := [(0, _)]) rfl ?_
  refine j_aload_n d_Di_init_0 rfl rfl ?_
  refine j_oinit d_Di_init_1 s_Di_init_1 (by decide) ?_
  refine j_aload_n d_Di_init_4 rfl rfl ?_
  refine j_bipush (v := 10) d_Di_init_5 (by decide) ?_
  refine j_newa d_Di_init_7 rfl (by decide) (by decide) (by decide) (r_hl_no hA (by decide)) ⟨by decide +kernel, by decide +kernel⟩ ?_
  refine j_putFa d_Di_init_9 f_Di_9 (by decide) rfl rfl (by decide) rfl rfl ?_
  rw [r_gl_up]
  refine j_aload_n d_Di_init_12 rfl rfl ?_
  refine j_bipush (v := 10) d_Di_init_13 (by decide) ?_
  refine j_newa d_Di_init_15 rfl (by decide) (by decide) (by decide) (r_hl_no hA (by decide)) ⟨by decide +kernel, by decide +kernel⟩ ?_
  refine j_putFa d_Di_init_17 f_Di_15 (by decide) rfl rfl (by decide) rfl rfl ?_
  rw [r_gl_up]
  refine j_aload_n d_Di_init_20 rfl rfl ?_
  refine j_bipush (v := 10) d_Di_init_21 (by decide) ?_
  refine j_newa d_Di_init_23 rfl (by decide) (by decide) (by decide) (r_hl_no hA (by decide)) ⟨by decide +kernel, by decide +kernel⟩ ?_
  refine j_putFa d_Di_init_25 f_Di_18 (by decide) rfl rfl (by decide) rfl rfl ?_
  rw [r_gl_up]
  refine j_aload_n d_Di_init_28 rfl rfl ?_
  refine j_iconst (v := 0) d_Di_init_29 rfl ?_
  refine j_puti d_Di_init_30 f_Di_21 (by decide) rfl rfl (by decide) ?_
  rw [r_hl_z hA 25 3 (by decide)]
  refine j_aload_n d_Di_init_33 rfl rfl ?_
  refine j_iconst (v := 0) d_Di_init_34 rfl ?_
  refine j_puti d_Di_init_35 f_Di_25 (by decide) rfl rfl (by decide) ?_
  rw [r_hl_z hA 25 4 (by decide)]
  refine j_aload_n d_Di_init_38 rfl rfl ?_
  refine j_iconst (v := 0) d_Di_init_39 rfl ?_
  refine j_puti d_Di_init_40 f_Di_28 (by decide) rfl rfl (by decide) ?_
  rw [r_hl_z hA 25 5 (by decide)]
  refine j_vret d_Di_init_43 rfl ?_
  exact ⟨rfl, hF⟩
set_option maxRecDepth 100000 in
set_option maxHeartbeats 4000000 in
theorem i_Dk_29 {G : r_X} {A : List ((Nat × Nat) × Int32)} {B : List ((Nat × Nat) × Nat)} {z : r_HL} {F : r_HI → r_HR → r_HL → Prop} (hA : r_lo 29 A) (hF : F (r_hl (((29, 7), 1) :: A)) (r_gl (((29, 0), 25) :: ((29, 3), 32) :: ((29, 2), 31) :: ((29, 1), 30) :: B)) z) : r_Cv G m_Dk_init 1 33 [.ref (G.2.1 + 29), .ref (G.2.1 + 25)] 30 (r_hl A) (r_gl B) z F := by
  refine r_C_of (by decide +kernel) (Nat.le_of_ble_eq_true rfl) ?_
  refine j_ls (ls' := [(0, _), (1, _)]) rfl ?_
  refine j_aload_n d_Dk_init_0 rfl rfl ?_
  refine j_oinit d_Dk_init_1 s_Dk_init_1 (by decide) ?_
  refine j_aload_n d_Dk_init_4 rfl rfl ?_
  refine j_bipush (v := 7) d_Dk_init_5 (by decide) ?_
  refine j_newa d_Dk_init_7 rfl (by decide) (by decide) (by decide) (r_hl_no hA (by decide)) ⟨by decide +kernel, by decide +kernel⟩ ?_
  refine j_putFa d_Dk_init_9 f_Dk_9 (by decide) rfl rfl (by decide) rfl rfl ?_
  rw [r_gl_up]
  refine j_aload_n d_Dk_init_12 rfl rfl ?_
  refine j_bipush (v := 7) d_Dk_init_13 (by decide) ?_
  refine j_newa d_Dk_init_15 rfl (by decide) (by decide) (by decide) (r_hl_no hA (by decide)) ⟨by decide +kernel, by decide +kernel⟩ ?_
  refine j_putFa d_Dk_init_17 f_Dk_15 (by decide) rfl rfl (by decide) rfl rfl ?_
  rw [r_gl_up]
  refine j_aload_n d_Dk_init_20 rfl rfl ?_
  refine j_bipush (v := 7) d_Dk_init_21 (by decide) ?_
  refine j_newa d_Dk_init_23 rfl (by decide) (by decide) (by decide) (r_hl_no hA (by decide)) ⟨by decide +kernel, by decide +kernel⟩ ?_
  refine j_putFa d_Dk_init_25 f_Dk_18 (by decide) rfl rfl (by decide) rfl rfl ?_
  rw [r_gl_up]
  refine j_aload_n d_Dk_init_28 rfl rfl ?_
  refine j_iconst (v := 0) d_Dk_init_29 rfl ?_
  refine j_puti d_Dk_init_30 f_Dk_21 (by decide) rfl rfl (by decide) ?_
  rw [r_hl_z hA 29 4 (by decide)]
  refine j_aload_n d_Dk_init_33 rfl rfl ?_
  refine j_iconst (v := 0) d_Dk_init_34 rfl ?_
  refine j_puti d_Dk_init_35 f_Dk_25 (by decide) rfl rfl (by decide) ?_
  rw [r_hl_z hA 29 5 (by decide)]
  refine j_aload_n d_Dk_init_38 rfl rfl ?_
  refine j_iconst (v := 0) d_Dk_init_39 rfl ?_
  refine j_puti d_Dk_init_40 f_Dk_28 (by decide) rfl rfl (by decide) ?_
  rw [r_hl_z hA 29 6 (by decide)]
  refine j_aload_n d_Dk_init_43 rfl rfl ?_
  refine j_iconst (v := 1) d_Dk_init_44 rfl ?_
  refine j_putz d_Dk_init_45 f_Dk_31 (by decide) rfl rfl (by decide) (by decide) ?_
  rw [r_hl_up]
  refine j_aload_n d_Dk_init_48 rfl rfl ?_
  refine j_iconst (v := 0) d_Dk_init_49 rfl ?_
  refine j_puti d_Dk_init_50 f_Dk_35 (by decide) rfl rfl (by decide) ?_
  rw [r_hl_z1 hA 29 7 1 8 (by decide) (by decide)]
  refine j_aload_n d_Dk_init_53 rfl rfl ?_
  refine j_aload_n d_Dk_init_54 rfl rfl ?_
  refine j_putFo d_Dk_init_55 f_Dk_38 (by decide) rfl rfl (by decide) rfl rfl ?_
  rw [r_gl_up]
  refine j_vret d_Dk_init_58 rfl ?_
  exact ⟨rfl, hF⟩
set_option maxRecDepth 100000 in
set_option maxHeartbeats 4000000 in
theorem i_Th_33 {G : r_X} {A : List ((Nat × Nat) × Int32)} {B : List ((Nat × Nat) × Nat)} {z : r_HL} {F : r_HI → r_HR → r_HL → Prop} (hA : r_lo 33 A) (hF : F (r_hl (A)) (r_gl (((33, 2), 36) :: ((33, 1), 35) :: ((33, 0), 34) :: B)) z) : r_Cv G m_Th_init 1 37 [.ref (G.2.1 + 33)] 34 (r_hl A) (r_gl B) z F := by
  refine r_C_of (by decide +kernel) (Nat.le_of_ble_eq_true rfl) ?_
  refine j_ls (ls' := [(0, _)]) rfl ?_
  refine j_aload_n d_Th_init_0 rfl rfl ?_
  refine j_oinit d_Th_init_1 s_Th_init_1 (by decide) ?_
  refine j_aload_n d_Th_init_4 rfl rfl ?_
  refine j_bipush (v := 6) d_Th_init_5 (by decide) ?_
  refine j_newa d_Th_init_7 rfl (by decide) (by decide) (by decide) (r_hl_no hA (by decide)) ⟨by decide +kernel, by decide +kernel⟩ ?_
  refine j_putFa d_Th_init_9 f_Th_9 (by decide) rfl rfl (by decide) rfl rfl ?_
  rw [r_gl_up]
  refine j_aload_n d_Th_init_12 rfl rfl ?_
  refine j_bipush (v := 6) d_Th_init_13 (by decide) ?_
  refine j_newa d_Th_init_15 rfl (by decide) (by decide) (by decide) (r_hl_no hA (by decide)) ⟨by decide +kernel, by decide +kernel⟩ ?_
  refine j_putFa d_Th_init_17 f_Th_15 (by decide) rfl rfl (by decide) rfl rfl ?_
  rw [r_gl_up]
  refine j_aload_n d_Th_init_20 rfl rfl ?_
  refine j_bipush (v := 6) d_Th_init_21 (by decide) ?_
  refine j_newa d_Th_init_23 rfl (by decide) (by decide) (by decide) (r_hl_no hA (by decide)) ⟨by decide +kernel, by decide +kernel⟩ ?_
  refine j_putFa d_Th_init_25 f_Th_18 (by decide) rfl rfl (by decide) rfl rfl ?_
  rw [r_gl_up]
  refine j_aload_n d_Th_init_28 rfl rfl ?_
  refine j_iconst (v := 0) d_Th_init_29 rfl ?_
  refine j_puti d_Th_init_30 f_Th_21 (by decide) rfl rfl (by decide) ?_
  rw [r_hl_z hA 33 3 (by decide)]
  refine j_vret d_Th_init_33 rfl ?_
  exact ⟨rfl, hF⟩
set_option maxRecDepth 100000 in
set_option maxHeartbeats 4000000 in
theorem i_Si_37 {G : r_X} {A : List ((Nat × Nat) × Int32)} {B : List ((Nat × Nat) × Nat)} {z : r_HL} {F : r_HI → r_HR → r_HL → Prop} (hA : r_lo 37 A) (hF : F (r_hl (A)) (r_gl (((37, 1), 39) :: ((37, 0), 38) :: B)) z) : r_Cv G m_Si_init 1 40 [.ref (G.2.1 + 37)] 38 (r_hl A) (r_gl B) z F := by
  refine r_C_of (by decide +kernel) (Nat.le_of_ble_eq_true rfl) ?_
  refine j_ls (ls' := [(0, _)]) rfl ?_
  refine j_aload_n d_Si_init_0 rfl rfl ?_
  refine j_oinit d_Si_init_1 s_Si_init_1 (by decide) ?_
  refine j_aload_n d_Si_init_4 rfl rfl ?_
  refine j_bipush (v := 6) d_Si_init_5 (by decide) ?_
  refine j_newa d_Si_init_7 rfl (by decide) (by decide) (by decide) (r_hl_no hA (by decide)) ⟨by decide +kernel, by decide +kernel⟩ ?_
  refine j_putFa d_Si_init_9 f_Si_9 (by decide) rfl rfl (by decide) rfl rfl ?_
  rw [r_gl_up]
  refine j_aload_n d_Si_init_12 rfl rfl ?_
  refine j_bipush (v := 6) d_Si_init_13 (by decide) ?_
  refine j_newa d_Si_init_15 rfl (by decide) (by decide) (by decide) (r_hl_no hA (by decide)) ⟨by decide +kernel, by decide +kernel⟩ ?_
  refine j_putFa d_Si_init_17 f_Si_15 (by decide) rfl rfl (by decide) rfl rfl ?_
  rw [r_gl_up]
  refine j_aload_n d_Si_init_20 rfl rfl ?_
  refine j_iconst (v := 0) d_Si_init_21 rfl ?_
  refine j_puti d_Si_init_22 f_Si_18 (by decide) rfl rfl (by decide) ?_
  rw [r_hl_z hA 37 2 (by decide)]
  refine j_vret d_Si_init_25 rfl ?_
  exact ⟨rfl, hF⟩
set_option maxRecDepth 100000 in
set_option maxHeartbeats 4000000 in
theorem i_Dk_40 {G : r_X} {A : List ((Nat × Nat) × Int32)} {B : List ((Nat × Nat) × Nat)} {z : r_HL} {F : r_HI → r_HR → r_HL → Prop} (hA : r_lo 40 A) (hF : F (r_hl (((40, 7), 1) :: A)) (r_gl (((40, 0), 3) :: ((40, 3), 43) :: ((40, 2), 42) :: ((40, 1), 41) :: B)) z) : r_Cv G m_Dk_init 1 44 [.ref (G.2.1 + 40), .ref (G.2.1 + 3)] 41 (r_hl A) (r_gl B) z F := by
  refine r_C_of (by decide +kernel) (Nat.le_of_ble_eq_true rfl) ?_
  refine j_ls (ls' := [(0, _), (1, _)]) rfl ?_
  refine j_aload_n d_Dk_init_0 rfl rfl ?_
  refine j_oinit d_Dk_init_1 s_Dk_init_1 (by decide) ?_
  refine j_aload_n d_Dk_init_4 rfl rfl ?_
  refine j_bipush (v := 7) d_Dk_init_5 (by decide) ?_
  refine j_newa d_Dk_init_7 rfl (by decide) (by decide) (by decide) (r_hl_no hA (by decide)) ⟨by decide +kernel, by decide +kernel⟩ ?_
  refine j_putFa d_Dk_init_9 f_Dk_9 (by decide) rfl rfl (by decide) rfl rfl ?_
  rw [r_gl_up]
  refine j_aload_n d_Dk_init_12 rfl rfl ?_
  refine j_bipush (v := 7) d_Dk_init_13 (by decide) ?_
  refine j_newa d_Dk_init_15 rfl (by decide) (by decide) (by decide) (r_hl_no hA (by decide)) ⟨by decide +kernel, by decide +kernel⟩ ?_
  refine j_putFa d_Dk_init_17 f_Dk_15 (by decide) rfl rfl (by decide) rfl rfl ?_
  rw [r_gl_up]
  refine j_aload_n d_Dk_init_20 rfl rfl ?_
  refine j_bipush (v := 7) d_Dk_init_21 (by decide) ?_
  refine j_newa d_Dk_init_23 rfl (by decide) (by decide) (by decide) (r_hl_no hA (by decide)) ⟨by decide +kernel, by decide +kernel⟩ ?_
  refine j_putFa d_Dk_init_25 f_Dk_18 (by decide) rfl rfl (by decide) rfl rfl ?_
  rw [r_gl_up]
  refine j_aload_n d_Dk_init_28 rfl rfl ?_
  refine j_iconst (v := 0) d_Dk_init_29 rfl ?_
  refine j_puti d_Dk_init_30 f_Dk_21 (by decide) rfl rfl (by decide) ?_
  rw [r_hl_z hA 40 4 (by decide)]
  refine j_aload_n d_Dk_init_33 rfl rfl ?_
  refine j_iconst (v := 0) d_Dk_init_34 rfl ?_
  refine j_puti d_Dk_init_35 f_Dk_25 (by decide) rfl rfl (by decide) ?_
  rw [r_hl_z hA 40 5 (by decide)]
  refine j_aload_n d_Dk_init_38 rfl rfl ?_
  refine j_iconst (v := 0) d_Dk_init_39 rfl ?_
  refine j_puti d_Dk_init_40 f_Dk_28 (by decide) rfl rfl (by decide) ?_
  rw [r_hl_z hA 40 6 (by decide)]
  refine j_aload_n d_Dk_init_43 rfl rfl ?_
  refine j_iconst (v := 1) d_Dk_init_44 rfl ?_
  refine j_putz d_Dk_init_45 f_Dk_31 (by decide) rfl rfl (by decide) (by decide) ?_
  rw [r_hl_up]
  refine j_aload_n d_Dk_init_48 rfl rfl ?_
  refine j_iconst (v := 0) d_Dk_init_49 rfl ?_
  refine j_puti d_Dk_init_50 f_Dk_35 (by decide) rfl rfl (by decide) ?_
  rw [r_hl_z1 hA 40 7 1 8 (by decide) (by decide)]
  refine j_aload_n d_Dk_init_53 rfl rfl ?_
  refine j_aload_n d_Dk_init_54 rfl rfl ?_
  refine j_putFo d_Dk_init_55 f_Dk_38 (by decide) rfl rfl (by decide) rfl rfl ?_
  rw [r_gl_up]
  refine j_vret d_Dk_init_58 rfl ?_
  exact ⟨rfl, hF⟩
set_option maxRecDepth 100000 in
set_option maxHeartbeats 4000000 in
theorem i_Or_44 {G : r_X} {A : List ((Nat × Nat) × Int32)} {B : List ((Nat × Nat) × Nat)} {z : r_HL} {F : r_HI → r_HR → r_HL → Prop} (hA : r_lo 44 A) (hF : F (r_hl (A)) (r_gl (((44, 1), 46) :: ((44, 0), 45) :: B)) z) : r_Cv G m_Or_init 1 47 [.ref (G.2.1 + 44)] 45 (r_hl A) (r_gl B) z F := by
  refine r_C_of (by decide +kernel) (Nat.le_of_ble_eq_true rfl) ?_
  refine j_ls (ls' := [(0, _)]) rfl ?_
  refine j_aload_n d_Or_init_0 rfl rfl ?_
  refine j_oinit d_Or_init_1 s_Or_init_1 (by decide) ?_
  refine j_aload_n d_Or_init_4 rfl rfl ?_
  refine j_bipush (v := 7) d_Or_init_5 (by decide) ?_
  refine j_newa d_Or_init_7 rfl (by decide) (by decide) (by decide) (r_hl_no hA (by decide)) ⟨by decide +kernel, by decide +kernel⟩ ?_
  refine j_putFa d_Or_init_9 f_Or_9 (by decide) rfl rfl (by decide) rfl rfl ?_
  rw [r_gl_up]
  refine j_aload_n d_Or_init_12 rfl rfl ?_
  refine j_bipush (v := 7) d_Or_init_13 (by decide) ?_
  refine j_newa d_Or_init_15 rfl (by decide) (by decide) (by decide) (r_hl_no hA (by decide)) ⟨by decide +kernel, by decide +kernel⟩ ?_
  refine j_putFa d_Or_init_17 f_Or_15 (by decide) rfl rfl (by decide) rfl rfl ?_
  rw [r_gl_up]
  refine j_aload_n d_Or_init_20 rfl rfl ?_
  refine j_iconst (v := 0) d_Or_init_21 rfl ?_
  refine j_puti d_Or_init_22 f_Or_18 (by decide) rfl rfl (by decide) ?_
  rw [r_hl_z hA 44 2 (by decide)]
  refine j_aload_n d_Or_init_25 rfl rfl ?_
  refine j_iconst (v := 0) d_Or_init_26 rfl ?_
  refine j_puti d_Or_init_27 f_Or_22 (by decide) rfl rfl (by decide) ?_
  rw [r_hl_z hA 44 3 (by decide)]
  refine j_vret d_Or_init_30 rfl ?_
  exact ⟨rfl, hF⟩
set_option maxRecDepth 100000 in
set_option maxHeartbeats 4000000 in
theorem i_Mo_47 {G : r_X} {A : List ((Nat × Nat) × Int32)} {B : List ((Nat × Nat) × Nat)} {z : r_HL} {F : r_HI → r_HR → r_HL → Prop} (hA : r_lo 47 A) (hF : F (r_hl (((47, 27), (-1)) :: A)) (r_gl (((47, 39), 60) :: ((47, 38), 59) :: ((47, 37), 58) :: ((47, 36), 57) :: ((47, 25), 56) :: ((47, 23), 55) :: ((47, 22), 54) :: ((47, 21), 53) :: ((47, 19), 52) :: ((47, 14), 51) :: ((47, 13), 50) :: ((47, 12), 49) :: ((47, 0), 48) :: B)) z) : r_Cv G m_Mo_init 1 61 [.ref (G.2.1 + 47)] 48 (r_hl A) (r_gl B) z F := by
  refine r_C_of (by decide +kernel) (Nat.le_of_ble_eq_true rfl) ?_
  refine j_ls (ls' := [(0, _)]) rfl ?_
  refine j_aload_n d_Mo_init_0 rfl rfl ?_
  refine j_oinit d_Mo_init_1 s_Mo_init_1 (by decide) ?_
  refine j_aload_n d_Mo_init_4 rfl rfl ?_
  refine j_bipush (v := 28) d_Mo_init_5 (by decide) ?_
  refine j_newa d_Mo_init_7 rfl (by decide) (by decide) (by decide) (r_hl_no hA (by decide)) ⟨by decide +kernel, by decide +kernel⟩ ?_
  refine j_putFa d_Mo_init_9 f_Mo_7 (by decide) rfl rfl (by decide) rfl rfl ?_
  rw [r_gl_up]
  refine j_aload_n d_Mo_init_12 rfl rfl ?_
  refine j_bipush (v := 10) d_Mo_init_13 (by decide) ?_
  refine j_newa d_Mo_init_15 rfl (by decide) (by decide) (by decide) (r_hl_no hA (by decide)) ⟨by decide +kernel, by decide +kernel⟩ ?_
  refine j_putFa d_Mo_init_17 f_Mo_13 (by decide) rfl rfl (by decide) rfl rfl ?_
  rw [r_gl_up]
  refine j_aload_n d_Mo_init_20 rfl rfl ?_
  refine j_bipush (v := 10) d_Mo_init_21 (by decide) ?_
  refine j_newa d_Mo_init_23 rfl (by decide) (by decide) (by decide) (r_hl_no hA (by decide)) ⟨by decide +kernel, by decide +kernel⟩ ?_
  refine j_putFa d_Mo_init_25 f_Mo_16 (by decide) rfl rfl (by decide) rfl rfl ?_
  rw [r_gl_up]
  refine j_aload_n d_Mo_init_28 rfl rfl ?_
  refine j_bipush (v := 21) d_Mo_init_29 (by decide) ?_
  refine j_newa d_Mo_init_31 rfl (by decide) (by decide) (by decide) (r_hl_no hA (by decide)) ⟨by decide +kernel, by decide +kernel⟩ ?_
  refine j_putFa d_Mo_init_33 f_Mo_19 (by decide) rfl rfl (by decide) rfl rfl ?_
  rw [r_gl_up]
  refine j_aload_n d_Mo_init_36 rfl rfl ?_
  refine j_bipush (v := 21) d_Mo_init_37 (by decide) ?_
  refine j_newa d_Mo_init_39 rfl (by decide) (by decide) (by decide) (r_hl_no hA (by decide)) ⟨by decide +kernel, by decide +kernel⟩ ?_
  refine j_putFa d_Mo_init_41 f_Mo_22 (by decide) rfl rfl (by decide) rfl rfl ?_
  rw [r_gl_up]
  refine j_aload_n d_Mo_init_44 rfl rfl ?_
  refine j_sipush (v := 896) d_Mo_init_45 (by decide) ?_
  refine j_newa d_Mo_init_48 rfl (by decide) (by decide) (by decide) (r_hl_no hA (by decide)) ⟨by decide +kernel, by decide +kernel⟩ ?_
  refine j_putFa d_Mo_init_50 f_Mo_25 (by decide) rfl rfl (by decide) rfl rfl ?_
  rw [r_gl_up]
  refine j_aload_n d_Mo_init_53 rfl rfl ?_
  refine j_bipush (v := 7) d_Mo_init_54 (by decide) ?_
  refine j_newa d_Mo_init_56 rfl (by decide) (by decide) (by decide) (r_hl_no hA (by decide)) ⟨by decide +kernel, by decide +kernel⟩ ?_
  refine j_putFa d_Mo_init_58 f_Mo_28 (by decide) rfl rfl (by decide) rfl rfl ?_
  rw [r_gl_up]
  refine j_aload_n d_Mo_init_61 rfl rfl ?_
  refine j_bipush (v := 6) d_Mo_init_62 (by decide) ?_
  refine j_newa d_Mo_init_64 rfl (by decide) (by decide) (by decide) (r_hl_no hA (by decide)) ⟨by decide +kernel, by decide +kernel⟩ ?_
  refine j_putFa d_Mo_init_66 f_Mo_31 (by decide) rfl rfl (by decide) rfl rfl ?_
  rw [r_gl_up]
  refine j_aload_n d_Mo_init_69 rfl rfl ?_
  refine j_bipush (v := 12) d_Mo_init_70 (by decide) ?_
  refine j_newa d_Mo_init_72 rfl (by decide) (by decide) (by decide) (r_hl_no hA (by decide)) ⟨by decide +kernel, by decide +kernel⟩ ?_
  refine j_putFa d_Mo_init_74 f_Mo_34 (by decide) rfl rfl (by decide) rfl rfl ?_
  rw [r_gl_up]
  refine j_aload_n d_Mo_init_77 rfl rfl ?_
  refine j_bipush (v := 10) d_Mo_init_78 (by decide) ?_
  refine j_newa d_Mo_init_80 rfl (by decide) (by decide) (by decide) (r_hl_no hA (by decide)) ⟨by decide +kernel, by decide +kernel⟩ ?_
  refine j_putFa d_Mo_init_82 f_Mo_37 (by decide) rfl rfl (by decide) rfl rfl ?_
  rw [r_gl_up]
  refine j_aload_n d_Mo_init_85 rfl rfl ?_
  refine j_bipush (v := 21) d_Mo_init_86 (by decide) ?_
  refine j_newa d_Mo_init_88 rfl (by decide) (by decide) (by decide) (r_hl_no hA (by decide)) ⟨by decide +kernel, by decide +kernel⟩ ?_
  refine j_putFa d_Mo_init_90 f_Mo_40 (by decide) rfl rfl (by decide) rfl rfl ?_
  rw [r_gl_up]
  refine j_aload_n d_Mo_init_93 rfl rfl ?_
  refine j_bipush (v := 6) d_Mo_init_94 (by decide) ?_
  refine j_newa d_Mo_init_96 rfl (by decide) (by decide) (by decide) (r_hl_no hA (by decide)) ⟨by decide +kernel, by decide +kernel⟩ ?_
  refine j_putFa d_Mo_init_98 f_Mo_43 (by decide) rfl rfl (by decide) rfl rfl ?_
  rw [r_gl_up]
  refine j_aload_n d_Mo_init_101 rfl rfl ?_
  refine j_bipush (v := 12) d_Mo_init_102 (by decide) ?_
  refine j_newa d_Mo_init_104 rfl (by decide) (by decide) (by decide) (r_hl_no hA (by decide)) ⟨by decide +kernel, by decide +kernel⟩ ?_
  refine j_putFa d_Mo_init_106 f_Mo_46 (by decide) rfl rfl (by decide) rfl rfl ?_
  rw [r_gl_up]
  refine j_aload_n d_Mo_init_109 rfl rfl ?_
  refine j_iconst (v := (-1)) d_Mo_init_110 rfl ?_
  refine j_puti d_Mo_init_111 f_Mo_49 (by decide) rfl rfl (by decide) ?_
  rw [r_hl_up]
  refine j_vret d_Mo_init_114 rfl ?_
  exact ⟨rfl, hF⟩
def b_47 : List ((Nat × Nat) × Nat) := [((0, 14), 44), ((44, 1), 46), ((44, 0), 45), ((0, 13), 40), ((40, 0), 3), ((40, 3), 43), ((40, 2), 42), ((40, 1), 41), ((0, 11), 24), ((0, 10), 37), ((37, 1), 39), ((37, 0), 38), ((0, 9), 33), ((33, 2), 36), ((33, 1), 35), ((33, 0), 34), ((0, 8), 29), ((29, 0), 25), ((29, 3), 32), ((29, 2), 31), ((29, 1), 30), ((0, 7), 25), ((25, 2), 28), ((25, 1), 27), ((25, 0), 26), ((0, 6), 24), ((0, 5), 18), ((18, 4), 23), ((18, 3), 22), ((18, 2), 21), ((18, 1), 20), ((18, 0), 19), ((0, 4), 15), ((15, 1), 17), ((15, 0), 16), ((0, 3), 11), ((11, 2), 14), ((11, 1), 13), ((11, 0), 12), ((0, 2), 7), ((7, 0), 3), ((7, 3), 10), ((7, 2), 9), ((7, 1), 8), ((0, 1), 3), ((3, 2), 6), ((3, 1), 5), ((3, 0), 4), ((0, 0), 1), ((1, 0), 2)]
set_option maxRecDepth 100000 in
set_option maxHeartbeats 4000000 in
theorem i_Ra {G : r_X} {F : r_HI → r_HR → r_HL → Prop} (hF : F (r_hl [((40, 7), 1), ((29, 7), 1), ((7, 7), 1)]) (r_gl b_47) (fun _ _ => 0)) : r_Cv G m_Ra_init 4 47 [.ref (G.2.1 + 0)] 1 (r_hl []) (r_gl []) (fun _ _ => 0) F := by
  refine r_C_of (by decide +kernel) (Nat.le_of_ble_eq_true rfl) ?_
  refine j_ls (ls' := [(0, _)]) rfl ?_
  refine j_aload_n d_Ra_init_0 rfl rfl ?_
  refine j_oinit d_Ra_init_1 s_Ra_init_1 (by decide) ?_
  refine j_aload_n d_Ra_init_4 rfl rfl ?_
  refine j_new (c := 5) d_Ra_init_5 (by decide) rfl l_Ra_7 b_Pa n_Pa rfl (r_hl_no (m := 1) rfl (by decide)) (r_gl_no (m := 1) rfl (by decide)) rfl ⟨by decide +kernel, by decide +kernel⟩ ?_
  refine j_dup d_Ra_init_8 rfl ?_
  refine q_n (d := 1) (n2 := 3) s_Ra_init_9 rfl ⟨by decide, by decide, by decide, by decide, by decide +kernel⟩ (Nat.le_of_ble_eq_true rfl) ?_
  refine i_Pa_1 (A := []) rfl ?_
  refine j_putFo d_Ra_init_12 f_Ra_10 (by decide) rfl rfl (by decide) rfl rfl ?_
  rw [r_gl_up]
  refine j_aload_n d_Ra_init_15 rfl rfl ?_
  refine j_new (c := 1) d_Ra_init_16 (by decide) rfl l_Ra_16 b_Di n_Di rfl (r_hl_no (m := 3) rfl (by decide)) (r_gl_no (m := 3) rfl (by decide)) rfl ⟨by decide +kernel, by decide +kernel⟩ ?_
  refine j_dup d_Ra_init_19 rfl ?_
  refine q_n (d := 1) (n2 := 7) s_Ra_init_20 rfl ⟨by decide, by decide, by decide, by decide, by decide +kernel⟩ (Nat.le_of_ble_eq_true rfl) ?_
  refine i_Di_3 (A := []) rfl ?_
  refine j_putFo d_Ra_init_23 f_Ra_19 (by decide) rfl rfl (by decide) rfl rfl ?_
  rw [r_gl_up]
  refine j_aload_n d_Ra_init_26 rfl rfl ?_
  refine j_new (c := 0) d_Ra_init_27 (by decide) rfl l_Ra_23 b_Dk n_Dk rfl (r_hl_no (m := 7) rfl (by decide)) (r_gl_no (m := 7) rfl (by decide)) rfl ⟨by decide +kernel, by decide +kernel⟩ ?_
  refine j_dup d_Ra_init_30 rfl ?_
  refine j_aload_n d_Ra_init_31 rfl rfl ?_
  refine j_getr d_Ra_init_32 f_Ra_19 rfl rfl (by decide) rfl ?_
  refine q_n (d := 1) (n2 := 11) s_Ra_init_35 rfl ⟨by decide, by decide, by decide, by decide, by decide +kernel⟩ (Nat.le_of_ble_eq_true rfl) ?_
  refine i_Dk_7 (A := []) rfl ?_
  refine j_putFo d_Ra_init_38 f_Ra_28 (by decide) rfl rfl (by decide) rfl rfl ?_
  rw [r_gl_up]
  refine j_aload_n d_Ra_init_41 rfl rfl ?_
  refine j_new (c := 10) d_Ra_init_42 (by decide) rfl l_Ra_32 b_Th n_Th rfl (r_hl_no (m := 11) rfl (by decide)) (r_gl_no (m := 11) rfl (by decide)) rfl ⟨by decide +kernel, by decide +kernel⟩ ?_
  refine j_dup d_Ra_init_45 rfl ?_
  refine q_n (d := 1) (n2 := 15) s_Ra_init_46 rfl ⟨by decide, by decide, by decide, by decide, by decide +kernel⟩ (Nat.le_of_ble_eq_true rfl) ?_
  refine i_Th_11 (A := [((7, 7), 1)]) rfl ?_
  refine j_putFo d_Ra_init_49 f_Ra_35 (by decide) rfl rfl (by decide) rfl rfl ?_
  rw [r_gl_up]
  refine j_aload_n d_Ra_init_52 rfl rfl ?_
  refine j_new (c := 7) d_Ra_init_53 (by decide) rfl l_Ra_39 b_Si n_Si rfl (r_hl_no (m := 15) rfl (by decide)) (r_gl_no (m := 15) rfl (by decide)) rfl ⟨by decide +kernel, by decide +kernel⟩ ?_
  refine j_dup d_Ra_init_56 rfl ?_
  refine q_n (d := 1) (n2 := 18) s_Ra_init_57 rfl ⟨by decide, by decide, by decide, by decide, by decide +kernel⟩ (Nat.le_of_ble_eq_true rfl) ?_
  refine i_Si_15 (A := [((7, 7), 1)]) rfl ?_
  refine j_putFo d_Ra_init_60 f_Ra_42 (by decide) rfl rfl (by decide) rfl rfl ?_
  rw [r_gl_up]
  refine j_aload_n d_Ra_init_63 rfl rfl ?_
  refine j_iconst (v := 5) d_Ra_init_64 rfl ?_
  refine j_anew d_Ra_init_65 l_Ra_46 rfl (by decide) (by decide) (by decide) (r_gl_no (m := 18) rfl (by decide)) ⟨by decide +kernel, by decide +kernel⟩ ?_
  refine j_dup d_Ra_init_68 rfl ?_
  refine j_iconst (v := 0) d_Ra_init_69 rfl ?_
  refine j_new (c := 2) d_Ra_init_70 (by decide) rfl l_Ra_46 b_Fi n_Fi rfl (r_hl_no (m := 19) rfl (by decide)) (r_gl_no (m := 19) rfl (by decide)) rfl ⟨by decide +kernel, by decide +kernel⟩ ?_
  refine j_dup d_Ra_init_73 rfl ?_
  refine q_n (d := 1) (n2 := 20) s_Ra_init_74 rfl ⟨by decide, by decide, by decide, by decide, by decide +kernel⟩ (Nat.le_of_ble_eq_true rfl) ?_
  refine i_Fi_init (d := 0) ?_
  refine j_aast d_Ra_init_77 rfl (by decide) rfl (by decide) (by decide) (by decide) (nI_ix (i := 0) (by decide) (by decide)) ?_
  rw [r_gl_ui 0 0 rfl]
  refine j_dup d_Ra_init_78 rfl ?_
  refine j_iconst (v := 1) d_Ra_init_79 rfl ?_
  refine j_new (c := 3) d_Ra_init_80 (by decide) rfl l_Ra_49 b_Ne n_Ne rfl (r_hl_no (m := 20) rfl (by decide)) (r_gl_no (m := 20) rfl (by decide)) rfl ⟨by decide +kernel, by decide +kernel⟩ ?_
  refine j_dup d_Ra_init_83 rfl ?_
  refine q_n (d := 2) (n2 := 21) s_Ra_init_84 rfl ⟨by decide, by decide, by decide, by decide, by decide +kernel⟩ (Nat.le_of_ble_eq_true rfl) ?_
  refine i_Ne_init (d := 0) ?_
  refine j_aast d_Ra_init_87 rfl (by decide) rfl (by decide) (by decide) (by decide) (nI_ix (i := 1) (by decide) (by decide)) ?_
  rw [r_gl_ui 1 1 rfl]
  refine j_dup d_Ra_init_88 rfl ?_
  refine j_iconst (v := 2) d_Ra_init_89 rfl ?_
  refine j_new (c := 9) d_Ra_init_90 (by decide) rfl l_Ra_52 b_Sw n_Sw rfl (r_hl_no (m := 21) rfl (by decide)) (r_gl_no (m := 21) rfl (by decide)) rfl ⟨by decide +kernel, by decide +kernel⟩ ?_
  refine j_dup d_Ra_init_93 rfl ?_
  refine q_n (d := 2) (n2 := 22) s_Ra_init_94 rfl ⟨by decide, by decide, by decide, by decide, by decide +kernel⟩ (Nat.le_of_ble_eq_true rfl) ?_
  refine i_Sw_init (d := 0) ?_
  refine j_aast d_Ra_init_97 rfl (by decide) rfl (by decide) (by decide) (by decide) (nI_ix (i := 2) (by decide) (by decide)) ?_
  rw [r_gl_ui 2 2 rfl]
  refine j_dup d_Ra_init_98 rfl ?_
  refine j_iconst (v := 3) d_Ra_init_99 rfl ?_
  refine j_new (c := 6) d_Ra_init_100 (by decide) rfl l_Ra_55 b_Ro n_Ro rfl (r_hl_no (m := 22) rfl (by decide)) (r_gl_no (m := 22) rfl (by decide)) rfl ⟨by decide +kernel, by decide +kernel⟩ ?_
  refine j_dup d_Ra_init_103 rfl ?_
  refine q_n (d := 3) (n2 := 23) s_Ra_init_104 rfl ⟨by decide, by decide, by decide, by decide, by decide +kernel⟩ (Nat.le_of_ble_eq_true rfl) ?_
  refine i_Ro_init (d := 0) ?_
  refine j_aast d_Ra_init_107 rfl (by decide) rfl (by decide) (by decide) (by decide) (nI_ix (i := 3) (by decide) (by decide)) ?_
  rw [r_gl_ui 3 3 rfl]
  refine j_dup d_Ra_init_108 rfl ?_
  refine j_iconst (v := 4) d_Ra_init_109 rfl ?_
  refine j_new (c := 8) d_Ra_init_110 (by decide) rfl l_Ra_58 b_So n_So rfl (r_hl_no (m := 23) rfl (by decide)) (r_gl_no (m := 23) rfl (by decide)) rfl ⟨by decide +kernel, by decide +kernel⟩ ?_
  refine j_dup d_Ra_init_113 rfl ?_
  refine q_n (d := 3) (n2 := 24) s_Ra_init_114 rfl ⟨by decide, by decide, by decide, by decide, by decide +kernel⟩ (Nat.le_of_ble_eq_true rfl) ?_
  refine i_So_init (d := 0) ?_
  refine j_aast d_Ra_init_117 rfl (by decide) rfl (by decide) (by decide) (by decide) (nI_ix (i := 4) (by decide) (by decide)) ?_
  rw [r_gl_ui 4 4 rfl]
  refine j_putFa d_Ra_init_118 f_Ra_61 (by decide) rfl rfl (by decide) rfl rfl ?_
  rw [r_gl_up]
  refine j_aload_n d_Ra_init_121 rfl rfl ?_
  refine j_new (c := 2) d_Ra_init_122 (by decide) rfl l_Ra_46 b_Fi n_Fi rfl (r_hl_no (m := 24) rfl (by decide)) (r_gl_no (m := 24) rfl (by decide)) rfl ⟨by decide +kernel, by decide +kernel⟩ ?_
  refine j_dup d_Ra_init_125 rfl ?_
  refine q_n (d := 1) (n2 := 25) s_Ra_init_126 rfl ⟨by decide, by decide, by decide, by decide, by decide +kernel⟩ (Nat.le_of_ble_eq_true rfl) ?_
  refine i_Fi_init (d := 0) ?_
  refine j_putr d_Ra_init_129 f_Ra_65 (by decide) rfl rfl (by decide) ?_
  rw [r_gl_up]
  refine j_aload_n d_Ra_init_132 rfl rfl ?_
  refine j_new (c := 1) d_Ra_init_133 (by decide) rfl l_Ra_16 b_Di n_Di rfl (r_hl_no (m := 25) rfl (by decide)) (r_gl_no (m := 25) rfl (by decide)) rfl ⟨by decide +kernel, by decide +kernel⟩ ?_
  refine j_dup d_Ra_init_136 rfl ?_
  refine q_n (d := 1) (n2 := 29) s_Ra_init_137 rfl ⟨by decide, by decide, by decide, by decide, by decide +kernel⟩ (Nat.le_of_ble_eq_true rfl) ?_
  refine i_Di_25 (A := [((7, 7), 1)]) rfl ?_
  refine j_putFo d_Ra_init_140 f_Ra_69 (by decide) rfl rfl (by decide) rfl rfl ?_
  rw [r_gl_up]
  refine j_aload_n d_Ra_init_143 rfl rfl ?_
  refine j_new (c := 0) d_Ra_init_144 (by decide) rfl l_Ra_23 b_Dk n_Dk rfl (r_hl_no (m := 29) rfl (by decide)) (r_gl_no (m := 29) rfl (by decide)) rfl ⟨by decide +kernel, by decide +kernel⟩ ?_
  refine j_dup d_Ra_init_147 rfl ?_
  refine j_aload_n d_Ra_init_148 rfl rfl ?_
  refine j_getr d_Ra_init_149 f_Ra_69 rfl rfl (by decide) rfl ?_
  refine q_n (d := 1) (n2 := 33) s_Ra_init_152 rfl ⟨by decide, by decide, by decide, by decide, by decide +kernel⟩ (Nat.le_of_ble_eq_true rfl) ?_
  refine i_Dk_29 (A := [((7, 7), 1)]) rfl ?_
  refine j_putFo d_Ra_init_155 f_Ra_72 (by decide) rfl rfl (by decide) rfl rfl ?_
  rw [r_gl_up]
  refine j_aload_n d_Ra_init_158 rfl rfl ?_
  refine j_new (c := 10) d_Ra_init_159 (by decide) rfl l_Ra_32 b_Th n_Th rfl (r_hl_no (m := 33) rfl (by decide)) (r_gl_no (m := 33) rfl (by decide)) rfl ⟨by decide +kernel, by decide +kernel⟩ ?_
  refine j_dup d_Ra_init_162 rfl ?_
  refine q_n (d := 1) (n2 := 37) s_Ra_init_163 rfl ⟨by decide, by decide, by decide, by decide, by decide +kernel⟩ (Nat.le_of_ble_eq_true rfl) ?_
  refine i_Th_33 (A := [((29, 7), 1), ((7, 7), 1)]) rfl ?_
  refine j_putFo d_Ra_init_166 f_Ra_75 (by decide) rfl rfl (by decide) rfl rfl ?_
  rw [r_gl_up]
  refine j_aload_n d_Ra_init_169 rfl rfl ?_
  refine j_new (c := 7) d_Ra_init_170 (by decide) rfl l_Ra_39 b_Si n_Si rfl (r_hl_no (m := 37) rfl (by decide)) (r_gl_no (m := 37) rfl (by decide)) rfl ⟨by decide +kernel, by decide +kernel⟩ ?_
  refine j_dup d_Ra_init_173 rfl ?_
  refine q_n (d := 1) (n2 := 40) s_Ra_init_174 rfl ⟨by decide, by decide, by decide, by decide, by decide +kernel⟩ (Nat.le_of_ble_eq_true rfl) ?_
  refine i_Si_37 (A := [((29, 7), 1), ((7, 7), 1)]) rfl ?_
  refine j_putFo d_Ra_init_177 f_Ra_78 (by decide) rfl rfl (by decide) rfl rfl ?_
  rw [r_gl_up]
  refine j_aload_n d_Ra_init_180 rfl rfl ?_
  refine j_aload_n d_Ra_init_181 rfl rfl ?_
  refine j_getr d_Ra_init_182 f_Ra_65 rfl rfl (by decide) rfl ?_
  refine j_putr d_Ra_init_185 f_Ra_81 (by decide) rfl rfl (by decide) ?_
  rw [r_gl_up]
  refine j_aload_n d_Ra_init_188 rfl rfl ?_
  refine j_iconst (v := 0) d_Ra_init_189 rfl ?_
  refine j_putz d_Ra_init_190 f_Ra_84 (by decide) rfl rfl (by decide) (by decide) ?_
  rw [r_up_self (h := r_hl [((29, 7), 1), ((7, 7), 1)]) (k := 0) (j := 12) (v := 0) rfl]
  refine j_aload_n d_Ra_init_193 rfl rfl ?_
  refine j_new (c := 0) d_Ra_init_194 (by decide) rfl l_Ra_23 b_Dk n_Dk rfl (r_hl_no (m := 40) rfl (by decide)) (r_gl_no (m := 40) rfl (by decide)) rfl ⟨by decide +kernel, by decide +kernel⟩ ?_
  refine j_dup d_Ra_init_197 rfl ?_
  refine j_aload_n d_Ra_init_198 rfl rfl ?_
  refine j_getr d_Ra_init_199 f_Ra_19 rfl rfl (by decide) rfl ?_
  refine q_n (d := 1) (n2 := 44) s_Ra_init_202 rfl ⟨by decide, by decide, by decide, by decide, by decide +kernel⟩ (Nat.le_of_ble_eq_true rfl) ?_
  refine i_Dk_40 (A := [((29, 7), 1), ((7, 7), 1)]) rfl ?_
  refine j_putFo d_Ra_init_205 f_Ra_88 (by decide) rfl rfl (by decide) rfl rfl ?_
  rw [r_gl_up]
  refine j_aload_n d_Ra_init_208 rfl rfl ?_
  refine j_new (c := 4) d_Ra_init_209 (by decide) rfl l_Ra_91 b_Or n_Or rfl (r_hl_no (m := 44) rfl (by decide)) (r_gl_no (m := 44) rfl (by decide)) rfl ⟨by decide +kernel, by decide +kernel⟩ ?_
  refine j_dup d_Ra_init_212 rfl ?_
  refine q_n (d := 1) (n2 := 47) s_Ra_init_213 rfl ⟨by decide, by decide, by decide, by decide, by decide +kernel⟩ (Nat.le_of_ble_eq_true rfl) ?_
  refine i_Or_44 (A := [((40, 7), 1), ((29, 7), 1), ((7, 7), 1)]) rfl ?_
  refine j_putFo d_Ra_init_216 f_Ra_94 (by decide) rfl rfl (by decide) rfl rfl ?_
  rw [r_gl_up]
  refine j_aload_n d_Ra_init_219 rfl rfl ?_
  refine j_iconst (v := 0) d_Ra_init_220 rfl ?_
  refine j_puti d_Ra_init_221 f_Ra_98 (by decide) rfl rfl (by decide) ?_
  rw [r_up_self (h := r_hl [((40, 7), 1), ((29, 7), 1), ((7, 7), 1)]) (k := 0) (j := 15) (v := 0) rfl]
  refine j_aload_n d_Ra_init_224 rfl rfl ?_
  refine j_iconst (v := 0) d_Ra_init_225 rfl ?_
  refine j_puti d_Ra_init_226 f_Ra_102 (by decide) rfl rfl (by decide) ?_
  rw [r_up_self (h := r_hl [((40, 7), 1), ((29, 7), 1), ((7, 7), 1)]) (k := 0) (j := 16) (v := 0) rfl]
  refine j_vret d_Ra_init_229 rfl ?_
  exact ⟨rfl, hF⟩
def a_61 : List ((Nat × Nat) × Int32) := [((47, 27), (-1)), ((40, 7), 1), ((29, 7), 1), ((7, 7), 1)]
def b_61 : List ((Nat × Nat) × Nat) := ((47, 39), 60) :: ((47, 38), 59) :: ((47, 37), 58) :: ((47, 36), 57) :: ((47, 25), 56) :: ((47, 23), 55) :: ((47, 22), 54) :: ((47, 21), 53) :: ((47, 19), 52) :: ((47, 14), 51) :: ((47, 13), 50) :: ((47, 12), 49) :: ((47, 0), 48) :: b_47
theorem b_61_lt : b_61.all (fun q => Nat.blt q.1.1 61 && Nat.blt q.1.2 41) = true := by decide +kernel
theorem b_61_in : ∀ a, a < 61 → ∀ j, j < 41 → r_gl b_61 a j = r_gp 24 24 a j := by decide +kernel
theorem r_lo_no2 {m n j : Nat} : ∀ {L : List ((Nat × Nat) × Nat)}, L.all (fun q => Nat.blt q.1.1 61 && Nat.blt q.1.2 41) = true → 61 ≤ n ∨ 41 ≤ j → L.lookup (n, j) = none
  | [], _, _ => rfl
  | ((a, b), v) :: L, h, hn => by
    have h1 : ((Nat.blt a 61 && Nat.blt b 41) && L.all (fun q => Nat.blt q.1.1 61 && Nat.blt q.1.2 41)) = true := h
    rw [Bool.and_eq_true, Bool.and_eq_true] at h1
    have h2 : a < 61 := Nat.le_of_ble_eq_true h1.1.1
    have h3 : b < 41 := Nat.le_of_ble_eq_true h1.1.2
    rw [r_lk_ne (fun e => by omega)]
    exact r_lo_no2 (m := m) h1.2 hn
theorem r_gp_no (a j : Nat) (h : 61 ≤ a ∨ 41 ≤ j) : r_gp 24 24 a j = none := by
  by_cases ha : 61 ≤ a
  · unfold r_gp
    rw [List.getD_eq_getElem?_getD, List.getD_eq_getElem?_getD, List.getElem?_eq_none (l := _) (i := a) (by exact ha)]
    rfl
  · have hj : 41 ≤ j := by omega
    have h1 : ∀ (L : List (List (Option Nat))), L.all (fun l => Nat.ble l.length 41) = true → (L.getD a []).getD j none = none := by
      intro L hL
      have h2 : (L.getD a []).length ≤ 41 := by
        rw [List.getD_eq_getElem?_getD]
        cases q : L[a]? with
        | none => exact Nat.zero_le _
        | some l => exact Nat.le_of_ble_eq_true (List.all_eq_true.mp hL l (List.mem_of_getElem? q))
      rw [List.getD_eq_getElem?_getD, List.getElem?_eq_none (by omega)]
      rfl
    unfold r_gp
    exact h1 _ (by decide +kernel)
theorem b_61_gp : r_gl b_61 = r_gp 24 24 := by
  funext a j
  by_cases h : a < 61 ∧ j < 41
  · exact b_61_in a h.1 j h.2
  · rw [r_gp_no a j (by omega)]
    exact r_lo_no2 (m := 0) b_61_lt (by omega)
theorem a_61_row {a j : Nat} (h : ¬ (j = 7 ∨ j = 27)) : r_hl a_61 a j = 0 := by
  show (a_61.lookup (a, j)).getD 0 = 0
  unfold a_61
  rw [r_lk_ne (fun e => by omega), r_lk_ne (fun e => by omega), r_lk_ne (fun e => by omega), r_lk_ne (fun e => by omega)]
  rfl
theorem a_61_C : p_C (r_hl a_61) 24 24 z_0 := by
  have e0 : nI 0 = 0 := nI_0
  refine ⟨⟨rfl, fun i hi => absurd hi (Nat.not_lt_zero i)⟩, ⟨⟨rfl, rfl, rfl, fun i hi => absurd hi (Nat.not_lt_zero i)⟩, ⟨rfl, rfl, rfl, rfl, fun i hi => absurd hi (Nat.not_lt_zero i)⟩, fun j hj => ?_, ⟨rfl, fun i hi => absurd hi (Nat.not_lt_zero i)⟩⟩, rfl, rfl, rfl, ⟨by decide, by decide⟩, rfl, ⟨by decide, by decide⟩, fun f => absurd (show (0 : Nat) = 1 from f) (by decide)⟩
  exact (a_61_row (by omega)).trans e0.symm
theorem a_61_M : p_M (r_hl a_61) z_0 := by
  have e0 : nI 0 = 0 := nI_0
  refine ⟨⟨rfl, fun i hi => absurd hi (Nat.not_lt_zero i)⟩, ⟨rfl, rfl, rfl, fun i hi => absurd hi (Nat.not_lt_zero i)⟩, ⟨rfl, rfl, rfl, rfl, fun i hi => absurd hi (Nat.not_lt_zero i)⟩, rfl, fun j hj => (a_61_row (by omega)).trans e0.symm, ⟨rfl, fun i hi => absurd hi (Nat.not_lt_zero i)⟩, rfl, rfl, ⟨-1, rfl, by decide, by decide, fun _ => by decide, fun f => absurd (show (0 : Nat) = 1 from f) (by decide)⟩, fun f => absurd (show (0 : Nat) = 1 from f) (by decide)⟩
