/-! ===== all orders, by numbers; the first of the least ===== -/
/-- the orders of n that begin with pre, whose bits are used; m are left -/
def a_pc (n : Nat) : Nat → Nat → List Nat → List (List Nat)
  | 0, _, pre => [pre]
  | m + 1, used, pre => (List.range' 0 n).flatMap (fun r => if a_hb used r then [] else a_pc n m (used + 2 ^ r) (pre ++ [r]))
def a_bf (c : List Nat → Nat) (b : Nat × List Nat) (x : List Nat) : Nat × List Nat := if c x < b.1 then (c x, x) else b
def a_fd (c : List Nat → Nat) (b : Nat × List Nat) (L : List (List Nat)) : Nat × List Nat := L.foldl (a_bf c) b
theorem a_fd_app {c : List Nat → Nat} {b : Nat × List Nat} {L M : List (List Nat)} : a_fd c b (L ++ M) = a_fd c (a_fd c b L) M := List.foldl_append
theorem a_fd_id {c : List Nat → Nat} {b : Nat × List Nat} : ∀ {L : List (List Nat)}, (∀ x ∈ L, b.1 ≤ c x) → a_fd c b L = b
  | [], _ => rfl
  | x :: L, h => by
    show a_fd c (a_bf c b x) L = b
    have h1 : a_bf c b x = b := if_neg (Nat.not_lt.mpr (h x List.mem_cons_self))
    rw [h1]
    exact a_fd_id (fun y hy => h y (List.mem_cons_of_mem _ hy))
theorem a_pc_le {c : List Nat → Nat} (hc : ∀ pre r, c pre ≤ c (pre ++ [r])) (n : Nat) : ∀ m used pre x, x ∈ a_pc n m used pre → c pre ≤ c x
  | 0, _, pre, x, h => by
    rw [List.mem_singleton.mp h]
    exact Nat.le_refl _
  | m + 1, used, pre, x, h => by
    obtain ⟨r, -, h2⟩ := List.mem_flatMap.mp h
    by_cases e : a_hb used r = true
    · rw [if_pos e] at h2
      exact absurd h2 List.not_mem_nil
    · rw [if_neg e] at h2
      exact Nat.le_trans (hc pre r) (a_pc_le hc n m _ _ x h2)
theorem a_or {a j : Nat} (ha : a < 128) (hj : j < 7) (h : a_hb a j = false) : a ||| 2 ^ j = a + 2 ^ j ∧ a + 2 ^ j < 128 := (show ∀ a, a < 128 → ∀ j, j < 7 → a_hb a j = false → a ||| 2 ^ j = a + 2 ^ j ∧ a + 2 ^ j < 128 by decide +kernel) a ha j hj h
theorem a_orI {a j : Nat} (ha : a < 128) (hj : j < 7) (h : a_hb a j = false) : nI a ||| ((1 : Int32) <<< (nI j &&& 31)) = nI (a + 2 ^ j) := by
  obtain ⟨h1, h2⟩ := a_or ha hj h
  rw [nI_bit (by omega), ← h1]
  have hp : 2 ^ j < 2 ^ 31 := Nat.pow_lt_pow_right (by decide) (by omega)
  apply Int32.toBitVec_inj.mp
  apply BitVec.eq_of_toNat_eq
  rw [Int32.toBitVec_or, BitVec.toNat_or, pk_tn (by omega), pk_tn (by omega), pk_tn (by omega)]
/-- the best so far: its number in a field, its order in a row -/
def p_B (h : r_HI) (o j rb n : Nat) (b : Nat × List Nat) : Prop := h o j = nI b.1 ∧ b.1 < 2 ^ 31 ∧ (b.1 = 2147483647 ∨ ∀ i, i < n → h rb i = nI (b.2.getD i 0))
def p_L (h : r_HI) (k : Nat) (pre : List Nat) : Prop := ∀ i, i < pre.length → h k i = nI (pre.getD i 0)
theorem getD_app_lt {pre : List Nat} {r i : Nat} (h : i < pre.length) : (pre ++ [r]).getD i 0 = pre.getD i 0 := by
  simp [List.getD_eq_getElem?_getD, List.getElem?_append_left h]
theorem getD_app_eq {pre : List Nat} {r : Nat} : (pre ++ [r]).getD pre.length 0 = r := by
  simp [List.getD_eq_getElem?_getD]
theorem p_L.app {h : r_HI} {k r : Nat} {pre : List Nat} (hL : p_L h k pre) : p_L (r_up h k pre.length (nI r)) k (pre ++ [r]) := by
  intro i hi
  rw [r_up_k]
  by_cases e : i = pre.length
  · subst e
    rw [getD_app_eq]
    simp [upd]
  · have hi : i < pre.length := by simp at hi; omega
    rw [getD_app_lt hi]
    simp only [upd, if_neg e]
    exact hL i hi
theorem p_L.cut {h : r_HI} {k r : Nat} {pre : List Nat} (hL : p_L h k (pre ++ [r])) : p_L h k pre := fun i hi => by
  rw [hL i (by simp; omega), getD_app_lt hi]
/-- how much a laying of things costs -/
def a_pp (wt : Nat → Nat) (x : List Nat) : Nat := a_sum (fun i => a_sh wt (fun j => x.getD j 0) i i) x.length
theorem a_sh_eq {wt f g : Nat → Nat} {x : Nat} : ∀ {m : Nat}, (∀ j, j < m → f j = g j) → f x = g x → a_sh wt f x m = a_sh wt g x m
  | 0, _, _ => rfl
  | m + 1, h, hx => by
    unfold a_sh
    rw [a_sh_eq (fun j hj => h j (by omega)) hx, h m (by omega), hx]
theorem a_sum_eq {f g : Nat → Nat} : ∀ {n : Nat}, (∀ j, j < n → f j = g j) → a_sum f n = a_sum g n
  | 0, _ => rfl
  | n + 1, h => by
    unfold a_sum
    rw [a_sum_eq (fun j hj => h j (by omega)), h n (by omega)]
theorem a_pp_app {wt : Nat → Nat} {pre : List Nat} {r : Nat} : a_pp wt (pre ++ [r]) = a_pp wt pre + a_sh wt (fun j => (pre ++ [r]).getD j 0) pre.length pre.length := by
  unfold a_pp
  rw [show (pre ++ [r]).length = pre.length + 1 by simp]
  show a_sum _ pre.length + _ = _
  congr 1
  exact a_sum_eq (fun i hi => a_sh_eq (fun j hj => getD_app_lt (by omega)) (getD_app_lt hi))
theorem a_pp_le {wt : Nat → Nat} (pre : List Nat) (r : Nat) : a_pp wt pre ≤ a_pp wt (pre ++ [r]) := by
  rw [a_pp_app]
  omega
theorem a_sh_lt {wt f : Nat → Nat} {x : Nat} (hx : wt x ≤ 9) (hfx : f x < 6) : ∀ {m : Nat}, (∀ j, j < m → wt j ≤ 9 ∧ f j < 6) → a_sh wt f x m ≤ m * 405
  | 0, _ => Nat.zero_le _
  | m + 1, h => by
    unfold a_sh
    have h1 := a_sh_lt (m := m) hx hfx (fun j hj => h j (by omega))
    have h2 := h m (by omega)
    have h3 : wt m * wt x * a_ds (f m) (f x) ≤ 9 * 9 * 5 := Nat.mul_le_mul (Nat.mul_le_mul h2.1 hx) (by unfold a_ds; split <;> omega)
    omega
theorem a_sum_lt {f : Nat → Nat} {c : Nat} : ∀ {n : Nat}, (∀ j, j < n → f j ≤ c) → a_sum f n ≤ n * c
  | 0, _ => Nat.zero_le _
  | n + 1, h => by
    unfold a_sum
    have h1 := a_sum_lt (n := n) (fun j hj => h j (by omega))
    have h2 := h n (by omega)
    rw [Nat.succ_mul]
    omega
theorem a_pp_lt {wt : Nat → Nat} (hw : a_wok wt) {x : List Nat} (h6 : x.length ≤ 6) (hx : ∀ j, j < x.length → x.getD j 0 < 6) : a_pp wt x < 2 ^ 20 := by
  have h1 := a_sum_lt (f := fun i => a_sh wt (fun j => x.getD j 0) i i) (c := 6 * 405) (n := x.length) (fun i hi => Nat.le_trans (a_sh_lt (hw i (by omega)) (hx i hi) (fun j hj => ⟨hw j (by omega), hx j (by omega)⟩)) (Nat.mul_le_mul_right _ (by omega)))
  have h2 : x.length * (6 * 405) ≤ 6 * (6 * 405) := Nat.mul_le_mul_right _ h6
  unfold a_pp
  omega
set_option maxRecDepth 100000 in
set_option maxHeartbeats 4000000 in
theorem c_Th_search {G : r_X} {p q : Nat} {z : r_HL} {wt : Nat → Nat} (hw : a_wok wt) {n : Nat} (hn : n ≤ 6) : ∀ (m : Nat) {d : Nat} {h : r_HI} {F : r_HI → r_HR → r_HL → Prop} {pre : List Nat} {b : Nat × List Nat} {used : Nat} {a1 a2 a3 a4 : Int32}, pre.length + m = n → p_W h 11 wt → p_L h 13 pre → (∀ j, j < pre.length → pre.getD j 0 < 6) → used < 128 → p_B h 11 3 14 n b → a1 = nI pre.length → a2 = nI n → a3 = nI (a_pp wt pre) → a4 = nI used → (∀ h', r_ex [11, 13, 14] h h' → p_L h' 13 pre → p_B h' 11 3 14 n (a_fd (a_pp wt) b (a_pc n m used pre)) → F h' (r_gp p q) z) → r_Cv G m_Th_search (d + m + 2) 61 [.ref (G.2.1 + 11), .int a1, .int a2, .int a3, .int a4] 61 h (r_gp p q) z F := by
  intro m
  induction m with
  | zero =>
    intro d h F pre b used a1 a2 a3 a4 hm hW hL hpr hu hB e1 e2 e3 e4 hF
    subst e1
    subst e2
    subst e3
    subst e4
    have hcl := a_pp_lt hw (x := pre) (by omega) hpr
    refine r_C_of (by decide +kernel) (Nat.le_of_ble_eq_true rfl) ?_
    refine j_ls (ls' := [(0, _), (1, _), (2, _), (3, _), (4, _)]) rfl ?_
    refine j_iload_n d_Th_search_0 rfl rfl ?_
    refine j_aload_n d_Th_search_1 rfl rfl ?_
    refine j_geti d_Th_search_2 f_Th_21 rfl rfl (by decide) ?_
    rw [hB.1]
    refine j_icmp_lt (tgt := 9) d_Th_search_5 rfl (fun bq1 => ?_) (fun bq1 => ?_)
    · refine j_iload_n d_Th_search_9 rfl rfl ?_
      refine j_iload_n d_Th_search_10 rfl rfl ?_
      refine j_icmp_ge (tgt := 20) d_Th_search_11 rfl (fun bq2 => ?_) (fun bq2 => False.elim (bq2 (nI_le (by omega) (by omega))))
      refine j_aload_n d_Th_search_20 rfl rfl ?_
      refine j_iload_n d_Th_search_21 rfl rfl ?_
      refine j_puti d_Th_search_22 f_Th_21 (by decide) rfl rfl (by decide) ?_
      refine j_aload_n d_Th_search_25 rfl rfl ?_
      refine j_getr d_Th_search_26 f_Th_15 rfl rfl (by decide) rfl ?_
      refine j_aload_n d_Th_search_29 rfl rfl ?_
      refine j_getr d_Th_search_30 f_Th_18 rfl rfl (by decide) rfl ?_
      refine q_v s_Th_search_33 rfl (Nat.le_of_ble_eq_true rfl) (Nat.le_of_ble_eq_true rfl) ?_
      refine c_Ra_copyRow rfl rfl (by decide) (by decide) (by decide) ?_
      refine j_vret d_Th_search_36 rfl ?_
      have e9 := (nI_ltI (by omega) hB.2.1).mp bq1
      refine ⟨rfl, hF _ ((r_ex.rf.up (by decide)).rw (by decide)) hL ?_⟩
      show p_B _ 11 3 14 n (a_bf (a_pp wt) b pre)
      rw [a_bf, if_pos e9]
      exact ⟨rfl, show a_pp wt pre < 2 ^ 31 by omega, Or.inr (fun i hi => (if_pos (show i < 6 by omega)).trans (hL i (by omega)))⟩
    · refine j_vret d_Th_search_8 rfl ?_
      have e9 : b.1 ≤ a_pp wt pre := Decidable.byContradiction (fun e8 => bq1 (nI_lt (by omega) hB.2.1))
      refine ⟨rfl, hF _ r_ex.rf hL ?_⟩
      rw [a_fd_id (fun x hx => Nat.le_trans e9 (a_pc_le a_pp_le n _ _ _ x hx))]
      exact hB
  | succ m ih =>
    intro d h F pre b used a1 a2 a3 a4 hm hW hL hpr hu hB e1 e2 e3 e4 hF
    subst e1
    subst e2
    subst e3
    subst e4
    have hcl := a_pp_lt hw (x := pre) (by omega) hpr
    have key : ∀ (e i : Nat) (v : Int32) (h1 : r_HI) (b1 : Nat × List Nat), e + i = n → v = nI i → r_ex [11, 13, 14] h h1 → p_W h1 11 wt → p_L h1 13 pre → p_B h1 11 3 14 n b1 → a_fd (a_pp wt) b1 ((List.range' i e).flatMap (fun r => if a_hb used r then [] else a_pc n m (used + 2 ^ r) (pre ++ [r]))) = a_fd (a_pp wt) b (a_pc n (m + 1) used pre) → r_TM G m_Th_search (d + (m + 1) + 2) 61 61 (fun v h' g' z' => v = none ∧ F h' g' z') 40 [(0, .ref (G.2.1 + 11)), (1, .int (nI pre.length)), (2, .int (nI n)), (3, .int (nI (a_pp wt pre))), (4, .int (nI used)), (5, .int v)] [] 61 h1 (r_gp p q) z := by
      intro e
      induction e with
      | zero =>
        intro i v h1 b1 he hv hx1 hW1 hL1 hB1 hfd
        subst hv
        replace hfd : b1 = a_fd (a_pp wt) b (a_pc n (m + 1) used pre) := hfd
        refine j_iload d_Th_search_40 rfl ?_
        refine j_iload_n d_Th_search_42 rfl rfl ?_
        refine j_icmp_ge (tgt := 101) d_Th_search_43 rfl (fun bq1 => ?_) (fun bq1 => False.elim (bq1 (nI_le (by omega) (by omega))))
        refine j_vret d_Th_search_101 rfl ?_
        exact ⟨rfl, hF _ hx1 hL1 (hfd ▸ hB1)⟩
      | succ e ke =>
        intro i v h1 b1 he hv hx1 hW1 hL1 hB1 hfd
        subst hv
        have hpi : ∀ j, j < (pre ++ [i]).length → (pre ++ [i]).getD j 0 < 6 := by
          intro j hj
          by_cases e9 : j = pre.length
          · subst e9
            rw [getD_app_eq]
            omega
          · have hj : j < pre.length := by simp at hj; omega
            rw [getD_app_lt hj]
            exact hpr j hj
        refine j_iload d_Th_search_40 rfl ?_
        refine j_iload_n d_Th_search_42 rfl rfl ?_
        refine j_icmp_ge (tgt := 101) d_Th_search_43 rfl (fun bq1 => False.elim (nI_ge (by omega) (by omega) bq1)) (fun bq1 => ?_)
        refine j_iload d_Th_search_46 rfl ?_
        refine j_bipush (v := 6) d_Th_search_48 (by decide) ?_
        refine j_icmp_ge (tgt := 101) d_Th_search_50 rfl (fun bq2 => False.elim (nI_ge (b := 6) (by omega) (by omega) bq2)) (fun bq2 => ?_)
        refine j_iload d_Th_search_53 rfl ?_
        refine j_iload d_Th_search_55 rfl ?_
        refine q_i s_Th_search_57 rfl (Nat.le_of_ble_eq_true rfl) (Nat.le_of_ble_eq_true rfl) ?_
        refine c_Ra_hasBit (by omega) (by omega) rfl rfl ?_
        refine j_if_ne (tgt := 95) d_Th_search_60 rfl (fun bq3 => ?_) (fun bq3 => ?_)
        · refine j_iinc (ls' := [(5, _), (0, _), (1, _), (2, _), (3, _), (4, _)]) d_Th_search_95 rfl (by decide) rfl ?_
          refine j_goto (tgt := 40) d_Th_search_98 rfl ?_
          refine j_pick [1, 2, 3, 4, 5, 0] (ls' := [(0, _), (1, _), (2, _), (3, _), (4, _), (5, _)]) rfl ?_
          rw [List.range'_succ, List.flatMap_cons, a_fd_app] at hfd
          first
            | (have e8 : a_hb used i = true := Decidable.byContradiction (fun e6 => bq3 (t10.mpr e6))
               rw [if_pos e8] at hfd
               exact ke (i + 1) _ h1 b1 (by omega) (nI_inc i) hx1 hW1 hL1 hB1 hfd)
            | (rw [if_neg (by rw [e7]; decide)] at hfd
               exact ke (i + 1) _ h2 _ (by omega) (nI_inc i) (r_ex.tr (hx1.up (by decide)) q1 (fun _ q => q)) ((hW1.ex (A := [13]) (r_ex.rf.up (by decide)) (by decide)).ex q1 (by decide)) q2.cut q3 hfd)
            | fail "none"
        · refine j_aload_n d_Th_search_63 rfl rfl ?_
          refine j_getr d_Th_search_64 f_Th_15 rfl rfl (by decide) rfl ?_
          refine j_iload_n d_Th_search_67 rfl rfl ?_
          refine j_iload d_Th_search_68 rfl ?_
          refine q_v s_Th_search_70 rfl (Nat.le_of_ble_eq_true rfl) (Nat.le_of_ble_eq_true rfl) ?_
          refine c_Ra_put (j := pre.length) rfl (by decide) rfl (by omega) ?_
          refine j_aload_n d_Th_search_73 rfl rfl ?_
          refine j_iload_n d_Th_search_74 rfl rfl ?_
          refine j_iconst (v := 1) d_Th_search_75 rfl ?_
          refine j_iadd d_Th_search_76 ?_
          refine j_iload_n d_Th_search_77 rfl rfl ?_
          refine j_iload_n d_Th_search_78 rfl rfl ?_
          refine j_aload_n d_Th_search_79 rfl rfl ?_
          refine j_iload_n d_Th_search_80 rfl rfl ?_
          refine q_i (s_Th_search_81 rfl (by decide)) rfl (Nat.le_of_ble_eq_true rfl) (Nat.le_of_ble_eq_true rfl) ?_
          refine c_Th_share (ly := fun j => (pre ++ [i]).getD j 0) (hW1.ex (A := [13]) (r_ex.rf.up (by decide)) (by decide)) hw (x := pre.length) (by omega) (fun j hj => ⟨hL1.app j (by simp; omega), hpi j (by simp; omega)⟩) rfl ?_
          refine j_iadd d_Th_search_84 ?_
          refine j_iload d_Th_search_85 rfl ?_
          refine j_iconst (v := 1) d_Th_search_87 rfl ?_
          refine j_iload d_Th_search_88 rfl ?_
          refine j_ishl d_Th_search_90 ?_
          refine j_ior d_Th_search_91 ?_
          refine q_v s_Th_search_92 rfl (Nat.le_of_ble_eq_true rfl) (Nat.le_of_ble_eq_true rfl) ?_
          have e7 : a_hb used i = false := by
            cases e8 : a_hb used i
            · rfl
            · exact absurd (t10.mp bq3 e8) (fun e5 => e5)
          refine ih (pre := pre ++ [i]) (used := used + 2 ^ i) (b := b1) (by simp; omega) (hW1.ex (A := [13]) (r_ex.rf.up (by decide)) (by decide)) hL1.app hpi (a_or hu (by omega) e7).2 ⟨hB1.1, hB1.2.1, hB1.2.2⟩ (by simp; exact nI_1 _) rfl (by rw [nI_add, a_pp_app]) (a_orI hu (by omega) e7) (fun h2 q1 q2 q3 => ?_)
          refine j_iinc (ls' := [(5, _), (0, _), (1, _), (2, _), (3, _), (4, _)]) d_Th_search_95 rfl (by decide) rfl ?_
          refine j_goto (tgt := 40) d_Th_search_98 rfl ?_
          refine j_pick [1, 2, 3, 4, 5, 0] (ls' := [(0, _), (1, _), (2, _), (3, _), (4, _), (5, _)]) rfl ?_
          rw [List.range'_succ, List.flatMap_cons, a_fd_app] at hfd
          first
            | (have e8 : a_hb used i = true := Decidable.byContradiction (fun e6 => bq3 (t10.mpr e6))
               rw [if_pos e8] at hfd
               exact ke (i + 1) _ h1 b1 (by omega) (nI_inc i) hx1 hW1 hL1 hB1 hfd)
            | (rw [if_neg (by rw [e7]; decide)] at hfd
               exact ke (i + 1) _ h2 _ (by omega) (nI_inc i) (r_ex.tr (hx1.up (by decide)) q1 (fun _ q => q)) ((hW1.ex (A := [13]) (r_ex.rf.up (by decide)) (by decide)).ex q1 (by decide)) q2.cut q3 hfd)
            | fail "none"
    refine r_C_of (by decide +kernel) (Nat.le_of_ble_eq_true rfl) ?_
    refine j_ls (ls' := [(0, _), (1, _), (2, _), (3, _), (4, _)]) rfl ?_
    refine j_iload_n d_Th_search_0 rfl rfl ?_
    refine j_aload_n d_Th_search_1 rfl rfl ?_
    refine j_geti d_Th_search_2 f_Th_21 rfl rfl (by decide) ?_
    rw [hB.1]
    refine j_icmp_lt (tgt := 9) d_Th_search_5 rfl (fun bq1 => ?_) (fun bq1 => ?_)
    · refine j_iload_n d_Th_search_9 rfl rfl ?_
      refine j_iload_n d_Th_search_10 rfl rfl ?_
      refine j_icmp_ge (tgt := 20) d_Th_search_11 rfl (fun bq2 => False.elim (nI_ge (by omega) (by omega) bq2)) (fun bq2 => ?_)
      refine j_iload_n d_Th_search_14 rfl rfl ?_
      refine j_bipush (v := 6) d_Th_search_15 (by decide) ?_
      refine j_icmp_lt (tgt := 37) d_Th_search_17 rfl (fun bq3 => ?_) (fun bq3 => False.elim (bq3 (nI_lt (b := 6) (by omega) (by omega))))
      refine j_iconst (v := 0) d_Th_search_37 rfl ?_
      refine j_istore (ls' := [(5, _), (0, _), (1, _), (2, _), (3, _), (4, _)]) d_Th_search_38 (by decide) rfl ?_
      refine j_pick [1, 2, 3, 4, 5, 0] (ls' := [(0, _), (1, _), (2, _), (3, _), (4, _), (5, _)]) rfl ?_
      exact key n 0 _ h b (by omega) rfl r_ex.rf hW hL hB rfl
    · refine j_vret d_Th_search_8 rfl ?_
      have e9 : b.1 ≤ a_pp wt pre := Decidable.byContradiction (fun e8 => bq1 (nI_lt (by omega) hB.2.1))
      refine ⟨rfl, hF _ r_ex.rf hL ?_⟩
      rw [a_fd_id (fun x hx => Nat.le_trans e9 (a_pc_le a_pp_le n _ _ _ x hx))]
      exact hB
set_option maxRecDepth 100000 in
set_option maxHeartbeats 4000000 in
theorem c_Th_solve {G : r_X} {d : Nat} {h : r_HI} {p q : Nat} {z : r_HL} {F : r_HI → r_HR → r_HL → Prop} {wt : Nat → Nat} (hW : p_W h 11 wt) (hw : a_wok wt) (hF : ∀ h', r_ex [11, 13, 14] h h' → p_B h' 11 3 14 (a_hm wt 6) (a_fd (a_pp wt) (2147483647, []) (a_pc (a_hm wt 6) (a_hm wt 6) 0 [])) → F h' (r_gp p q) z) : r_Cv G m_Th_solve (d + a_hm wt 6 + 3) 61 [.ref (G.2.1 + 11)] 61 h (r_gp p q) z F := by
  refine r_C_of (by decide +kernel) (Nat.le_of_ble_eq_true rfl) ?_
  refine j_ls (ls' := [(0, _)]) rfl ?_
  refine j_aload_n d_Th_solve_0 rfl rfl ?_
  refine j_ldc d_Th_solve_1 k_Th_37 ?_
  refine j_puti d_Th_solve_3 f_Th_21 (by decide) rfl rfl (by decide) ?_
  refine j_aload_n d_Th_solve_6 rfl rfl ?_
  refine j_iconst (v := 0) d_Th_solve_7 rfl ?_
  refine j_aload_n d_Th_solve_8 rfl rfl ?_
  refine q_i (s_Th_solve_9 rfl (by decide)) rfl (Nat.le_of_ble_eq_true rfl) (Nat.le_of_ble_eq_true rfl) ?_
  refine c_Th_howMany (hW.ex (A := [11]) (r_ex.rf.up (by decide)) (by decide)) hw ?_
  refine j_iconst (v := 0) d_Th_solve_12 rfl ?_
  refine j_iconst (v := 0) d_Th_solve_13 rfl ?_
  refine q_v s_Th_solve_14 rfl (Nat.le_of_ble_eq_true rfl) (Nat.le_of_ble_eq_true rfl) ?_
  have h6 := a_hm_le wt 6
  refine c_Th_search hw (n := a_hm wt 6) h6 (a_hm wt 6) (pre := []) (b := (2147483647, [])) (used := 0) (by simp) (hW.ex (A := [11]) (r_ex.rf.up (by decide)) (by decide)) (fun i hi => absurd hi (Nat.not_lt_zero i)) (fun i hi => absurd hi (Nat.not_lt_zero i)) (by decide) ⟨rfl, by decide, Or.inl rfl⟩ rfl rfl rfl rfl (fun h2 q1 q2 q3 => ?_)
  refine j_vret d_Th_solve_17 rfl ?_
  exact ⟨rfl, hF _ (r_ex.tr (r_ex.rf.up (by decide)) q1 (fun _ q => q)) q3⟩
