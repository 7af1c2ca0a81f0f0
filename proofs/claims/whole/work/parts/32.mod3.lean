theorem a_kok.w {D : a_D} {K : a_K} {w : Nat} (hk : a_kok D K) (hw : w ≤ 1) : a_kok D (K.1, K.2.1, w, K.2.2.2) := ⟨hk.1, hw, hk.2.2.1, hk.2.2.2⟩
def r_yt : List Nat := [15, 16, 17, 18]
def r_yd : List Nat := [15, 16, 17, 18, 26]
set_option maxRecDepth 100000 in
set_option maxHeartbeats 4000000 in
theorem l_run {G : r_X} {d : Nat} {h : r_HI} {p q : Nat} {z : r_HL} {F : Int32 → r_HI → r_HR → r_HL → Prop} {D : a_D} (hN : p_N h D) (ho : a_dok D) {k : Nat} (h5 : k < 5) {b1 b2 b3 b4 : Int32} : ∀ (m : Nat) (K : a_K) (s : Nat) (h1 : r_HI), K.2.2.2.1 = m → a_kok D K → K.1 + 125 * m < 2 ^ 27 → r_ey [52] r_yd h h1 → p_T h1 K → (∀ h', r_ey [52] r_yd h h' → h' 47 26 = h1 47 26 → p_T h' (a_all D k m K s).1 → r_TM G m_Mo_runOf (d + 5) 61 61 (fun v h' g' z' => ∃ r, v = some (.int r) ∧ F r h' g' z') 28 [(0, .ref (G.2.1 + 47)), (1, .int (nI k)), (2, .int b1), (3, .int (nI (a_all D k m K s).2))] [] 61 h' (r_gp p q) z) → r_TM G m_Mo_runOf (d + 5) 61 61 (fun v h' g' z' => ∃ r, v = some (.int r) ∧ F r h' g' z') 6 [(0, .ref (G.2.1 + 47)), (1, .int (nI k)), (2, .int b1), (3, .int (nI s))] [] 61 h1 (r_gp p q) z := by
  intro m
  induction m with
  | zero =>
    intro K s h1 hm hk ht hx hT hF
    refine j_aload_n d_Mo_runOf_6 rfl rfl ?_
    refine j_geti d_Mo_runOf_7 f_Mo_139 rfl rfl (by decide) ?_
    refine j_if_le (tgt := 28) d_Mo_runOf_10 rfl (fun bq1 => ?_) (fun bq1 => False.elim (bq1 (by rw [hT.2.2.2.1, hm]; decide)))
    exact hF _ hx rfl hT
  | succ m ih =>
    intro K s h1 hm hk ht hx hT hF
    have hn7 := hk.2.2.1
    have hN1 : p_N h1 D := hN.ey hx (by decide) (by decide) (by decide) (by decide) (by decide)
    have hnx : a_nx D K k < K.2.2.2.1 := a_nx_lt (by omega)
    have hdl : (a_fo D K k (a_nx D K k)).1 ≤ K.1 + 125 := a_dn_le ho hk.1 (hk.2.2.2 _ hnx).1
    refine j_aload_n d_Mo_runOf_6 rfl rfl ?_
    refine j_geti d_Mo_runOf_7 f_Mo_139 rfl rfl (by decide) ?_
    refine j_if_le (tgt := 28) d_Mo_runOf_10 rfl (fun bq1 => False.elim (nI_nle (n := K.2.2.2.1) (by omega) (by omega) (hT.2.2.2.1 ▸ bq1))) (fun bq1 => ?_)
    refine j_iload_n d_Mo_runOf_13 rfl rfl ?_
    refine j_aload_n d_Mo_runOf_14 rfl rfl ?_
    refine j_aload_n d_Mo_runOf_15 rfl rfl ?_
    refine j_iload_n d_Mo_runOf_16 rfl rfl ?_
    refine q_i (s_Mo_runOf_17 rfl (by decide)) rfl (Nat.le_of_ble_eq_true rfl) (Nat.le_of_ble_eq_true rfl) ?_
    refine c_Mo_nextThen hN1 ho hT hk (by omega) h5 (rfl) (by omega) (fun h2 y1 t1 => ?_)
    refine q_i (s_Mo_runOf_20 rfl (by decide)) rfl (Nat.le_of_ble_eq_true rfl) (Nat.le_of_ble_eq_true rfl) ?_
    refine c_Mo_goTo (hN1.ey y1 (by decide) (by decide) (by decide) (by decide) (by decide)) ho t1 (hk.w (a_tw_le hk.2.1)) (i := a_nx D K k) (by show K.1 < 2 ^ 27; omega) hnx rfl (fun h3 y2 t2 => ?_)
    refine j_iadd d_Mo_runOf_23 ?_
    refine j_istore_n (ls' := [(3, _), (0, _), (1, _), (2, _)]) d_Mo_runOf_24 rfl (by decide) rfl ?_
    refine j_goto (tgt := 6) d_Mo_runOf_25 rfl ?_
    refine j_pick [1, 2, 3, 0] (ls' := [(0, _), (1, _), (2, _), (3, _)]) rfl ?_
    rw [nI_add]
    exact ih (a_fo D K k (a_nx D K k)) (s + a_wt D K (a_nx D K k)) h3 (by show K.2.2.2.1 - 1 = m; omega) (a_fo_ok ho hk hnx) (Nat.lt_of_le_of_lt (Nat.add_le_add_right hdl (125 * m)) (by omega)) ((hx.tr y1 (by decide) (by decide)).tr y2 (by decide) (by decide)) t2 (fun h4 y4 e4 t4 => hF h4 y4 (e4.trans ((y2.2 26 (by decide)).trans (y1.2 26 (by decide)))) t4)
set_option maxRecDepth 100000 in
set_option maxHeartbeats 4000000 in
theorem c_Mo_runOf0 {G : r_X} {d : Nat} {h : r_HI} {p q : Nat} {z : r_HL} {F : Int32 → r_HI → r_HR → r_HL → Prop} {D : a_D} (hN : p_N h D) (ho : a_dok D) {K : a_K} (hJ : p_J h K) (hk : a_kok D K) (ht : K.1 ≤ 100000) {k : Nat} (h5 : k < 5) {a1 a2 : Int32} (e1 : a1 = nI k) (e2 : a2 = 0) (hF : ∀ h', r_ey [52] r_yd h h' → p_T h' (a_all D k K.2.2.2.1 K 0).1 → F (nI (a_all D k K.2.2.2.1 K 0).1.1) h' (r_gp p q) z) : r_Ci G m_Mo_runOf (d + 5) 61 [.ref (G.2.1 + 47), .int a1, .int a2] 61 h (r_gp p q) z F := by
  subst e1
  have hn7 := hk.2.2.1
  refine r_C_of (by decide +kernel) (Nat.le_of_ble_eq_true rfl) ?_
  refine j_ls (ls' := [(0, _), (1, _), (2, _)]) rfl ?_
  refine j_aload_n d_Mo_runOf_0 rfl rfl ?_
  refine q_v (s_Mo_runOf_1 rfl (by decide)) rfl (Nat.le_of_ble_eq_true rfl) (Nat.le_of_ble_eq_true rfl) ?_
  refine c_Mo_begin hJ hk.2.2.1 (fun h1 y1 t1 => ?_)
  refine j_iconst (v := 0) d_Mo_runOf_4 rfl ?_
  refine j_istore_n (ls' := [(3, _), (0, _), (1, _), (2, _)]) d_Mo_runOf_5 rfl (by decide) rfl ?_
  refine j_pick [1, 2, 3, 0] (ls' := [(0, _), (1, _), (2, _), (3, _)]) rfl ?_
  refine l_run hN ho h5 (b1 := a2) (b2 := 0) (b3 := 0) (b4 := 0) K.2.2.2.1 K 0 h1 rfl hk (by omega) (y1.mono (by decide) (by decide)) t1 (fun h2 y2 _ t2 => ?_)
  refine j_iload_n d_Mo_runOf_28 rfl rfl ?_
  refine j_if_ne (tgt := 39) d_Mo_runOf_29 rfl (fun bq1 => False.elim (bq1 e2)) (fun bq1 => ?_)
  refine j_aload_n d_Mo_runOf_32 rfl rfl ?_
  refine j_geti d_Mo_runOf_33 f_Mo_130 rfl rfl (by decide) ?_
  refine j_goto (tgt := 40) d_Mo_runOf_36 rfl ?_
  refine j_iret d_Mo_runOf_40 rfl ?_
  exact q_i1 (hF _ y2 t2) t2.1
set_option maxRecDepth 100000 in
set_option maxHeartbeats 4000000 in
theorem c_Mo_runOf1 {G : r_X} {d : Nat} {h : r_HI} {p q : Nat} {z : r_HL} {F : Int32 → r_HI → r_HR → r_HL → Prop} {D : a_D} (hN : p_N h D) (ho : a_dok D) {K : a_K} (hJ : p_J h K) (hk : a_kok D K) (ht : K.1 ≤ 100000) {k : Nat} (h5 : k < 5) {a1 a2 : Int32} (e1 : a1 = nI k) (e2 : ¬ a2 = 0) (hF : ∀ h', r_ey [52] r_yd h h' → p_T h' (a_all D k K.2.2.2.1 K 0).1 → F (nI (a_all D k K.2.2.2.1 K 0).2) h' (r_gp p q) z) : r_Ci G m_Mo_runOf (d + 5) 61 [.ref (G.2.1 + 47), .int a1, .int a2] 61 h (r_gp p q) z F := by
  subst e1
  have hn7 := hk.2.2.1
  refine r_C_of (by decide +kernel) (Nat.le_of_ble_eq_true rfl) ?_
  refine j_ls (ls' := [(0, _), (1, _), (2, _)]) rfl ?_
  refine j_aload_n d_Mo_runOf_0 rfl rfl ?_
  refine q_v (s_Mo_runOf_1 rfl (by decide)) rfl (Nat.le_of_ble_eq_true rfl) (Nat.le_of_ble_eq_true rfl) ?_
  refine c_Mo_begin hJ hk.2.2.1 (fun h1 y1 t1 => ?_)
  refine j_iconst (v := 0) d_Mo_runOf_4 rfl ?_
  refine j_istore_n (ls' := [(3, _), (0, _), (1, _), (2, _)]) d_Mo_runOf_5 rfl (by decide) rfl ?_
  refine j_pick [1, 2, 3, 0] (ls' := [(0, _), (1, _), (2, _), (3, _)]) rfl ?_
  refine l_run hN ho h5 (b1 := a2) (b2 := 0) (b3 := 0) (b4 := 0) K.2.2.2.1 K 0 h1 rfl hk (by omega) (y1.mono (by decide) (by decide)) t1 (fun h2 y2 _ t2 => ?_)
  refine j_iload_n d_Mo_runOf_28 rfl rfl ?_
  refine j_if_ne (tgt := 39) d_Mo_runOf_29 rfl (fun bq1 => ?_) (fun bq1 => False.elim (e2 bq1))
  refine j_iload_n d_Mo_runOf_39 rfl rfl ?_
  refine j_iret d_Mo_runOf_40 rfl ?_
  exact q_i1 (hF _ y2 t2) rfl
set_option maxRecDepth 100000 in
set_option maxHeartbeats 4000000 in
theorem c_Mo_draw {G : r_X} {d : Nat} {h : r_HI} {p q : Nat} {z : r_HL} {F : Int32 → r_HI → r_HR → r_HL → Prop} {m n : Nat} {a1 : Int32} (hm : h 47 26 = nI m) (hm2 : m < 2 ^ 31) (hn : 0 < n) (hn2 : n < 1000) (e1 : a1 = nI n) (hF : F (nI (a_dr (a_ns m) n)) (r_up h 47 26 (nI (a_ns m))) (r_gp p q) z) : r_Ci G m_Mo_draw (d) 61 [.ref (G.2.1 + 47), .int a1] 61 h (r_gp p q) z F := by
  subst e1
  refine r_C_of (by decide +kernel) (Nat.le_of_ble_eq_true rfl) ?_
  refine j_ls (ls' := [(0, _), (1, _)]) rfl ?_
  refine j_aload_n d_Mo_draw_0 rfl rfl ?_
  refine j_ldc2 d_Mo_draw_1 k_Mo_276 ?_
  refine j_aload_n d_Mo_draw_4 rfl rfl ?_
  refine j_geti d_Mo_draw_5 f_Mo_278 rfl rfl (by decide) ?_
  refine j_i2l d_Mo_draw_8 ?_
  refine j_lmul d_Mo_draw_9 ?_
  refine j_ldc2 d_Mo_draw_10 k_Mo_281 ?_
  refine j_ladd d_Mo_draw_13 ?_
  refine j_ldc2 d_Mo_draw_14 k_Mo_283 ?_
  refine j_land d_Mo_draw_17 ?_
  refine j_l2i d_Mo_draw_18 ?_
  rw [hm, a_nsI hm2]
  refine j_puti d_Mo_draw_19 f_Mo_278 (by decide) rfl rfl (by decide) ?_
  refine j_aload_n d_Mo_draw_22 rfl rfl ?_
  refine j_geti d_Mo_draw_23 f_Mo_278 rfl rfl (by decide) ?_
  refine j_ldcw d_Mo_draw_26 k_Mo_285 ?_
  refine j_idiv d_Mo_draw_29 (by decide) ?_
  refine j_iload_n d_Mo_draw_30 rfl rfl ?_
  refine j_irem d_Mo_draw_31 (nI_ne0 hn (by omega)) ?_
  refine j_iret d_Mo_draw_32 rfl ?_
  exact q_i1 hF (by show nI (a_ns m) / 65536 - nI (a_ns m) / 65536 / nI n * nI n = _; rw [show nI (a_ns m) / 65536 = nI (a_ns m / 65536) from pk_div (d := 65536) (a_ns_lt _) (by decide) (by decide), pk_rem (by have := a_ns_lt m; omega) hn (by omega)]; rfl)
set_option maxRecDepth 100000 in
set_option maxHeartbeats 4000000 in
theorem l_days2 {G : r_X} {d : Nat} {h : r_HI} {p q : Nat} {z : r_HL} {F : Int32 → r_HI → r_HR → r_HL → Prop} {D : a_D} (hN : p_N h D) (ho : a_dok D) {k : Nat} (h5 : k < 5) (h6 : h 47 6 = nI k) {b1 b2 b3 b4 : Int32} : ∀ (m : Nat) (K : a_K) (s : Nat) (h1 : r_HI), K.2.2.2.1 = m → a_kok D K → K.1 + 125 * m < 2 ^ 27 → r_ey [52] r_yd h h1 → p_T h1 K → (∀ h', r_ey [52] r_yd h h' → h' 47 26 = h1 47 26 → p_T h' (a_all D k m K s).1 → r_TM G m_Mo_days (d + 5) 61 61 (fun v h' g' z' => ∃ r, v = some (.int r) ∧ F r h' g' z') 157 [(0, .ref (G.2.1 + 47)), (1, .int b1), (2, .int b2), (3, .int b3), (4, .int (nI (a_all D k m K s).2))] [] 61 h' (r_gp p q) z) → r_TM G m_Mo_days (d + 5) 61 61 (fun v h' g' z' => ∃ r, v = some (.int r) ∧ F r h' g' z') 130 [(0, .ref (G.2.1 + 47)), (1, .int b1), (2, .int b2), (3, .int b3), (4, .int (nI s))] [] 61 h1 (r_gp p q) z := by
  intro m
  induction m with
  | zero =>
    intro K s h1 hm hk ht hx hT hF
    refine j_aload_n d_Mo_days_130 rfl rfl ?_
    refine j_geti d_Mo_days_131 f_Mo_139 rfl rfl (by decide) ?_
    refine j_if_le (tgt := 157) d_Mo_days_134 rfl (fun bq1 => ?_) (fun bq1 => False.elim (bq1 (by rw [hT.2.2.2.1, hm]; decide)))
    exact hF _ hx rfl hT
  | succ m ih =>
    intro K s h1 hm hk ht hx hT hF
    have hn7 := hk.2.2.1
    have hN1 : p_N h1 D := hN.ey hx (by decide) (by decide) (by decide) (by decide) (by decide)
    have hnx : a_nx D K k < K.2.2.2.1 := a_nx_lt (by omega)
    have hdl : (a_fo D K k (a_nx D K k)).1 ≤ K.1 + 125 := a_dn_le ho hk.1 (hk.2.2.2 _ hnx).1
    refine j_aload_n d_Mo_days_130 rfl rfl ?_
    refine j_geti d_Mo_days_131 f_Mo_139 rfl rfl (by decide) ?_
    refine j_if_le (tgt := 157) d_Mo_days_134 rfl (fun bq1 => False.elim (nI_nle (n := K.2.2.2.1) (by omega) (by omega) (hT.2.2.2.1 ▸ bq1))) (fun bq1 => ?_)
    refine j_iload d_Mo_days_137 rfl ?_
    refine j_aload_n d_Mo_days_139 rfl rfl ?_
    refine j_aload_n d_Mo_days_140 rfl rfl ?_
    refine j_aload_n d_Mo_days_141 rfl rfl ?_
    refine j_geti d_Mo_days_142 f_Mo_102 rfl rfl (by decide) ?_
    refine q_i (s_Mo_days_145 rfl (by decide)) rfl (Nat.le_of_ble_eq_true rfl) (Nat.le_of_ble_eq_true rfl) ?_
    refine c_Mo_nextThen hN1 ho hT hk (by omega) h5 (by rw [hx.2 6 (by decide)]; exact h6) (by omega) (fun h2 y1 t1 => ?_)
    refine q_i (s_Mo_days_148 rfl (by decide)) rfl (Nat.le_of_ble_eq_true rfl) (Nat.le_of_ble_eq_true rfl) ?_
    refine c_Mo_goTo (hN1.ey y1 (by decide) (by decide) (by decide) (by decide) (by decide)) ho t1 (hk.w (a_tw_le hk.2.1)) (i := a_nx D K k) (by show K.1 < 2 ^ 27; omega) hnx rfl (fun h3 y2 t2 => ?_)
    refine j_iadd d_Mo_days_151 ?_
    refine j_istore (ls' := [(4, _), (0, _), (1, _), (2, _), (3, _)]) d_Mo_days_152 (by decide) rfl ?_
    refine j_goto (tgt := 130) d_Mo_days_154 rfl ?_
    refine j_pick [1, 2, 3, 4, 0] (ls' := [(0, _), (1, _), (2, _), (3, _), (4, _)]) rfl ?_
    rw [nI_add]
    exact ih (a_fo D K k (a_nx D K k)) (s + a_wt D K (a_nx D K k)) h3 (by show K.2.2.2.1 - 1 = m; omega) (a_fo_ok ho hk hnx) (Nat.lt_of_le_of_lt (Nat.add_le_add_right hdl (125 * m)) (by omega)) ((hx.tr y1 (by decide) (by decide)).tr y2 (by decide) (by decide)) t2 (fun h4 y4 e4 t4 => hF h4 y4 (e4.trans ((y2.2 26 (by decide)).trans (y1.2 26 (by decide)))) t4)
set_option maxRecDepth 100000 in
set_option maxHeartbeats 4000000 in
theorem l_days1 {G : r_X} {d : Nat} {h : r_HI} {p q : Nat} {z : r_HL} {F : Int32 → r_HI → r_HR → r_HL → Prop} {D : a_D} (hN : p_N h D) (ho : a_dok D) (hR : 0 < D.1) {k : Nat} (h5 : k < 5) (h6 : h 47 6 = nI k) {times : Nat} (htm : times ≤ 60) {b2 b3 : Int32} : ∀ (e i : Nat) (v : Int32) (x : Nat × a_K × Nat) (h1 : r_HI), e + i = times → v = nI i → h1 47 26 = nI x.1 → x.1 < 2 ^ 31 → r_ey [52] r_yd h h1 → p_T h1 x.2.1 → a_kok D x.2.1 → x.2.1.2.2.2.1 ≤ 2 → x.2.1.1 + 125 * (e + 3) < 2 ^ 25 → (∀ h', r_ey [52] r_yd h h' → h' 47 26 = nI (a_dy D k e x).1 → p_T h' (a_all D k (a_dy D k e x).2.1.2.2.2.1 (a_dy D k e x).2.1 (a_dy D k e x).2.2).1 → r_TM G m_Mo_days (d + 5) 61 61 (fun v h' g' z' => ∃ r, v = some (.int r) ∧ F r h' g' z') 157 [(0, .ref (G.2.1 + 47)), (1, .int (nI times)), (2, .int b2), (3, .int b3), (4, .int (nI (a_all D k (a_dy D k e x).2.1.2.2.2.1 (a_dy D k e x).2.1 (a_dy D k e x).2.2).2))] [] 61 h' (r_gp p q) z) → r_TM G m_Mo_days (d + 5) 61 61 (fun v h' g' z' => ∃ r, v = some (.int r) ∧ F r h' g' z') 61 [(0, .ref (G.2.1 + 47)), (1, .int (nI times)), (2, .int b2), (3, .int b3), (4, .int (nI x.2.2)), (5, .int v)] [] 61 h1 (r_gp p q) z := by
  intro e
  induction e with
  | zero =>
    intro i v x h1 he hv hsd hs2 hx hT hk hn2 ht hF
    subst hv
    have e0 : i = times := by omega
    subst e0
    refine j_iload d_Mo_days_61 rfl ?_
    refine j_iload_n d_Mo_days_63 rfl rfl ?_
    refine j_icmp_ge (tgt := 130) d_Mo_days_64 rfl (fun bq1 => ?_) (fun bq1 => False.elim (bq1 (nI_le (by omega) (by omega))))
    refine j_pick [0, 1, 2, 3, 4] (ls' := [(0, _), (1, _), (2, _), (3, _), (4, _)]) rfl ?_
    exact l_days2 (b4 := 0) hN ho h5 h6 x.2.1.2.2.2.1 x.2.1 x.2.2 h1 rfl hk (by omega) hx hT (fun h2 y2 e2 t2 => hF h2 y2 (e2.trans hsd) t2)
  | succ e ih =>
    intro i v x h1 he hv hsd hs2 hx hT hk hn2 ht hF
    subst hv
    have h10 := ho.1
    have hN1 : p_N h1 D := hN.ey hx (by decide) (by decide) (by decide) (by decide) (by decide)
    have hrr : a_dr (a_ns x.1) D.1 < D.1 := Nat.mod_lt _ hR
    have hpl : h1 49 (a_dr (a_ns x.1) D.1) = nI (D.2.2.2.1 (a_dr (a_ns x.1) D.1)) := (hN1.2.2.2 _ hrr).1
    obtain ⟨hp2, hp12, -, -, -⟩ := a_pl (ho.2.2.2 _ hrr).1
    have hww : a_dr (a_ns (a_ns x.1)) (D.2.2.2.1 (a_dr (a_ns x.1) D.1)) < D.2.2.2.1 (a_dr (a_ns x.1) D.1) := Nat.mod_lt _ (by omega)
    by_cases g1 : 3 ≤ x.2.1.2.2.2.1 + 1
    · have g2 : a_d1 D k x = (a_ns (a_ns x.1), a_fo D (a_ask x.2.1 (a_dr (a_ns x.1) D.1) (a_dr (a_ns (a_ns x.1)) (D.2.2.2.1 (a_dr (a_ns x.1) D.1)))) k (a_nx D (a_ask x.2.1 (a_dr (a_ns x.1) D.1) (a_dr (a_ns (a_ns x.1)) (D.2.2.2.1 (a_dr (a_ns x.1) D.1)))) k), x.2.2 + a_wt D (a_ask x.2.1 (a_dr (a_ns x.1) D.1) (a_dr (a_ns (a_ns x.1)) (D.2.2.2.1 (a_dr (a_ns x.1) D.1)))) (a_nx D (a_ask x.2.1 (a_dr (a_ns x.1) D.1) (a_dr (a_ns (a_ns x.1)) (D.2.2.2.1 (a_dr (a_ns x.1) D.1)))) k)) := if_pos g1
      refine j_iload d_Mo_days_61 rfl ?_
      refine j_iload_n d_Mo_days_63 rfl rfl ?_
      refine j_icmp_ge (tgt := 130) d_Mo_days_64 rfl (fun bq1 => False.elim (nI_ge (by omega) (by omega) bq1)) (fun bq1 => ?_)
      refine j_aload_n d_Mo_days_67 rfl rfl ?_
      refine j_aload_n d_Mo_days_68 rfl rfl ?_
      refine j_geti d_Mo_days_69 f_Mo_93 rfl rfl (by decide) ?_
      refine q_i (s_Mo_days_72 rfl (by decide)) rfl (Nat.le_of_ble_eq_true rfl) (Nat.le_of_ble_eq_true rfl) ?_
      refine c_Mo_draw hsd hs2 hR (by omega) hN1.1 ?_
      refine j_istore (ls' := [(6, _), (0, _), (1, _), (2, _), (3, _), (4, _), (5, _)]) d_Mo_days_75 (by decide) rfl ?_
      refine j_aload_n d_Mo_days_77 rfl rfl ?_
      refine j_iload d_Mo_days_78 rfl ?_
      refine j_aload_n d_Mo_days_80 rfl rfl ?_
      refine j_aload_n d_Mo_days_81 rfl rfl ?_
      refine j_getr d_Mo_days_82 f_Mo_13 rfl rfl (by decide) rfl ?_
      refine j_iload d_Mo_days_85 rfl ?_
      refine j_iav d_Mo_days_87 rfl (by decide) (j := a_dr (a_ns x.1) D.1) (rfl) (by omega) (by decide) (hpl) ?_
      refine q_i (s_Mo_days_88 rfl (by decide)) rfl (Nat.le_of_ble_eq_true rfl) (Nat.le_of_ble_eq_true rfl) ?_
      refine c_Mo_draw (m := a_ns x.1) rfl (a_ns_lt _) (by omega) (by omega) rfl ?_
      refine q_i (s_Mo_days_91 rfl (by decide)) rfl (Nat.le_of_ble_eq_true rfl) (Nat.le_of_ble_eq_true rfl) ?_
      have ya : r_ey [52] r_yd h1 (r_up (r_up h1 47 26 (nI (a_ns x.1))) 47 26 (nI (a_ns (a_ns x.1)))) := (r_ey.rf.fl (by decide)).fl (by decide)
      have yb : r_ey [] [26] h1 (r_up (r_up h1 47 26 (nI (a_ns x.1))) 47 26 (nI (a_ns (a_ns x.1)))) := (r_ey.rf.fl (by decide)).fl (by decide)
      refine c_Mo_askThen (hT.ey yb (by decide) (by decide) (by decide) (by decide) (by decide)) (by omega) rfl rfl (fun h2 y2 t2 => ?_)
      have yc : r_ey [52] r_yd h h2 := (hx.tr ya (by decide) (by decide)).tr y2 (by decide) (by decide)
      have hN2 : p_N h2 D := hN.ey yc (by decide) (by decide) (by decide) (by decide) (by decide)
      have hk1 : a_kok D (a_ask x.2.1 (a_dr (a_ns x.1) D.1) (a_dr (a_ns (a_ns x.1)) (D.2.2.2.1 (a_dr (a_ns x.1) D.1)))) := a_ask_ok hk (by omega) hrr hww
      have hsd2 : h2 47 26 = nI (a_ns (a_ns x.1)) := y2.2 26 (by decide)
      have hpos : 0 < (a_ask x.2.1 (a_dr (a_ns x.1) D.1) (a_dr (a_ns (a_ns x.1)) (D.2.2.2.1 (a_dr (a_ns x.1) D.1)))).2.2.2.1 := Nat.succ_pos _
      have hnx : a_nx D (a_ask x.2.1 (a_dr (a_ns x.1) D.1) (a_dr (a_ns (a_ns x.1)) (D.2.2.2.1 (a_dr (a_ns x.1) D.1)))) k < (a_ask x.2.1 (a_dr (a_ns x.1) D.1) (a_dr (a_ns (a_ns x.1)) (D.2.2.2.1 (a_dr (a_ns x.1) D.1)))).2.2.2.1 := a_am_lt hpos
      have g4 := a_dn_le ho (t := x.2.1.1) (p := (a_ask x.2.1 (a_dr (a_ns x.1) D.1) (a_dr (a_ns (a_ns x.1)) (D.2.2.2.1 (a_dr (a_ns x.1) D.1)))).2.2.2.2.2.1 (a_nx D (a_ask x.2.1 (a_dr (a_ns x.1) D.1) (a_dr (a_ns (a_ns x.1)) (D.2.2.2.1 (a_dr (a_ns x.1) D.1)))) k)) hk1.1 (hk1.2.2.2 _ hnx).1
      have e18 : h2 47 18 = nI (x.2.1.2.2.2.1 + 1) := t2.2.2.2.1
      refine j_pop d_Mo_days_94 rfl ?_
      refine j_iload d_Mo_days_95 rfl ?_
      refine j_aload_n d_Mo_days_97 rfl rfl ?_
      refine j_geti d_Mo_days_98 f_Mo_139 rfl rfl (by decide) ?_
      refine j_iconst (v := 2) d_Mo_days_101 rfl ?_
      refine j_icmp_le (tgt := 120) d_Mo_days_102 rfl (fun bq2 => False.elim (nI_ge (a := 2) (b := x.2.1.2.2.2.1 + 1) (by omega) (by omega) (e18 ▸ bq2))) (fun bq2 => ?_)
      refine j_aload_n d_Mo_days_105 rfl rfl ?_
      refine j_aload_n d_Mo_days_106 rfl rfl ?_
      refine j_aload_n d_Mo_days_107 rfl rfl ?_
      refine j_geti d_Mo_days_108 f_Mo_102 rfl rfl (by decide) ?_
      refine q_i (s_Mo_days_111 rfl (by decide)) rfl (Nat.le_of_ble_eq_true rfl) (Nat.le_of_ble_eq_true rfl) ?_
      refine c_Mo_nextThen hN2 ho t2 hk1 (by show x.2.1.1 < 2 ^ 27; omega) h5 (by rw [yc.2 6 (by decide)]; exact h6) hpos (fun h3 y3 t3 => ?_)
      refine q_i (s_Mo_days_114 rfl (by decide)) rfl (Nat.le_of_ble_eq_true rfl) (Nat.le_of_ble_eq_true rfl) ?_
      refine c_Mo_goTo (hN2.ey y3 (by decide) (by decide) (by decide) (by decide) (by decide)) ho t3 (hk1.w (a_tw_le hk1.2.1)) (i := a_nx D (a_ask x.2.1 (a_dr (a_ns x.1) D.1) (a_dr (a_ns (a_ns x.1)) (D.2.2.2.1 (a_dr (a_ns x.1) D.1)))) k) (by show x.2.1.1 < 2 ^ 27; omega) hnx rfl (fun h4 y4 t4 => ?_)
      refine j_goto (tgt := 121) d_Mo_days_117 rfl ?_
      refine j_iadd d_Mo_days_121 ?_
      refine j_istore (ls' := [(4, _), (6, _), (0, _), (1, _), (2, _), (3, _), (5, _)]) d_Mo_days_122 (by decide) rfl ?_
      refine j_iinc (ls' := [(5, _), (4, _), (6, _), (0, _), (1, _), (2, _), (3, _)]) d_Mo_days_124 rfl (by decide) rfl ?_
      refine j_goto (tgt := 61) d_Mo_days_127 rfl ?_
      refine j_pick [3, 4, 5, 6, 1, 0] (ls' := [(0, _), (1, _), (2, _), (3, _), (4, _), (5, _)]) rfl ?_
      refine j_ls ?_ (ih (i + 1) _ (a_d1 D k x) h4 (by omega) (nI_inc i) ?_ ?_ ?_ ?_ ?_ ?_ ?_ (by rw [a_dy] at hF; exact hF))
      · rw [g2, nI_add]; rfl
      · rw [g2]; exact (y4.2 26 (by decide)).trans ((y3.2 26 (by decide)).trans hsd2)
      · rw [g2]; exact a_ns_lt _
      · exact (yc.tr y3 (by decide) (by decide)).tr y4 (by decide) (by decide)
      · rw [g2]; exact t4
      · rw [g2]; exact a_fo_ok ho hk1 hnx
      · rw [g2]; show x.2.1.2.2.2.1 + 1 - 1 ≤ 2; omega
      · rw [g2]; exact Nat.lt_of_le_of_lt (Nat.add_le_add_right g4 (125 * (e + 3))) (by omega)
    · have g2 : a_d1 D k x = (a_ns (a_ns x.1), (a_ask x.2.1 (a_dr (a_ns x.1) D.1) (a_dr (a_ns (a_ns x.1)) (D.2.2.2.1 (a_dr (a_ns x.1) D.1)))), x.2.2) := if_neg g1
      refine j_iload d_Mo_days_61 rfl ?_
      refine j_iload_n d_Mo_days_63 rfl rfl ?_
      refine j_icmp_ge (tgt := 130) d_Mo_days_64 rfl (fun bq1 => False.elim (nI_ge (by omega) (by omega) bq1)) (fun bq1 => ?_)
      refine j_aload_n d_Mo_days_67 rfl rfl ?_
      refine j_aload_n d_Mo_days_68 rfl rfl ?_
      refine j_geti d_Mo_days_69 f_Mo_93 rfl rfl (by decide) ?_
      refine q_i (s_Mo_days_72 rfl (by decide)) rfl (Nat.le_of_ble_eq_true rfl) (Nat.le_of_ble_eq_true rfl) ?_
      refine c_Mo_draw hsd hs2 hR (by omega) hN1.1 ?_
      refine j_istore (ls' := [(6, _), (0, _), (1, _), (2, _), (3, _), (4, _), (5, _)]) d_Mo_days_75 (by decide) rfl ?_
      refine j_aload_n d_Mo_days_77 rfl rfl ?_
      refine j_iload d_Mo_days_78 rfl ?_
      refine j_aload_n d_Mo_days_80 rfl rfl ?_
      refine j_aload_n d_Mo_days_81 rfl rfl ?_
      refine j_getr d_Mo_days_82 f_Mo_13 rfl rfl (by decide) rfl ?_
      refine j_iload d_Mo_days_85 rfl ?_
      refine j_iav d_Mo_days_87 rfl (by decide) (j := a_dr (a_ns x.1) D.1) (rfl) (by omega) (by decide) (hpl) ?_
      refine q_i (s_Mo_days_88 rfl (by decide)) rfl (Nat.le_of_ble_eq_true rfl) (Nat.le_of_ble_eq_true rfl) ?_
      refine c_Mo_draw (m := a_ns x.1) rfl (a_ns_lt _) (by omega) (by omega) rfl ?_
      refine q_i (s_Mo_days_91 rfl (by decide)) rfl (Nat.le_of_ble_eq_true rfl) (Nat.le_of_ble_eq_true rfl) ?_
      have ya : r_ey [52] r_yd h1 (r_up (r_up h1 47 26 (nI (a_ns x.1))) 47 26 (nI (a_ns (a_ns x.1)))) := (r_ey.rf.fl (by decide)).fl (by decide)
      have yb : r_ey [] [26] h1 (r_up (r_up h1 47 26 (nI (a_ns x.1))) 47 26 (nI (a_ns (a_ns x.1)))) := (r_ey.rf.fl (by decide)).fl (by decide)
      refine c_Mo_askThen (hT.ey yb (by decide) (by decide) (by decide) (by decide) (by decide)) (by omega) rfl rfl (fun h2 y2 t2 => ?_)
      have yc : r_ey [52] r_yd h h2 := (hx.tr ya (by decide) (by decide)).tr y2 (by decide) (by decide)
      have hN2 : p_N h2 D := hN.ey yc (by decide) (by decide) (by decide) (by decide) (by decide)
      have hk1 : a_kok D (a_ask x.2.1 (a_dr (a_ns x.1) D.1) (a_dr (a_ns (a_ns x.1)) (D.2.2.2.1 (a_dr (a_ns x.1) D.1)))) := a_ask_ok hk (by omega) hrr hww
      have hsd2 : h2 47 26 = nI (a_ns (a_ns x.1)) := y2.2 26 (by decide)
      have hpos : 0 < (a_ask x.2.1 (a_dr (a_ns x.1) D.1) (a_dr (a_ns (a_ns x.1)) (D.2.2.2.1 (a_dr (a_ns x.1) D.1)))).2.2.2.1 := Nat.succ_pos _
      have hnx : a_nx D (a_ask x.2.1 (a_dr (a_ns x.1) D.1) (a_dr (a_ns (a_ns x.1)) (D.2.2.2.1 (a_dr (a_ns x.1) D.1)))) k < (a_ask x.2.1 (a_dr (a_ns x.1) D.1) (a_dr (a_ns (a_ns x.1)) (D.2.2.2.1 (a_dr (a_ns x.1) D.1)))).2.2.2.1 := a_am_lt hpos
      have g4 := a_dn_le ho (t := x.2.1.1) (p := (a_ask x.2.1 (a_dr (a_ns x.1) D.1) (a_dr (a_ns (a_ns x.1)) (D.2.2.2.1 (a_dr (a_ns x.1) D.1)))).2.2.2.2.2.1 (a_nx D (a_ask x.2.1 (a_dr (a_ns x.1) D.1) (a_dr (a_ns (a_ns x.1)) (D.2.2.2.1 (a_dr (a_ns x.1) D.1)))) k)) hk1.1 (hk1.2.2.2 _ hnx).1
      have e18 : h2 47 18 = nI (x.2.1.2.2.2.1 + 1) := t2.2.2.2.1
      refine j_pop d_Mo_days_94 rfl ?_
      refine j_iload d_Mo_days_95 rfl ?_
      refine j_aload_n d_Mo_days_97 rfl rfl ?_
      refine j_geti d_Mo_days_98 f_Mo_139 rfl rfl (by decide) ?_
      refine j_iconst (v := 2) d_Mo_days_101 rfl ?_
      refine j_icmp_le (tgt := 120) d_Mo_days_102 rfl (fun bq2 => ?_) (fun bq2 => False.elim (bq2 (by rw [e18]; exact nI_le (b := 2) (by omega) (by omega))))
      refine j_iconst (v := 0) d_Mo_days_120 rfl ?_
      refine j_iadd d_Mo_days_121 ?_
      refine j_istore (ls' := [(4, _), (6, _), (0, _), (1, _), (2, _), (3, _), (5, _)]) d_Mo_days_122 (by decide) rfl ?_
      refine j_iinc (ls' := [(5, _), (4, _), (6, _), (0, _), (1, _), (2, _), (3, _)]) d_Mo_days_124 rfl (by decide) rfl ?_
      refine j_goto (tgt := 61) d_Mo_days_127 rfl ?_
      refine j_pick [3, 4, 5, 6, 1, 0] (ls' := [(0, _), (1, _), (2, _), (3, _), (4, _), (5, _)]) rfl ?_
      refine j_ls ?_ (ih (i + 1) _ (a_d1 D k x) h2 (by omega) (nI_inc i) ?_ ?_ ?_ ?_ ?_ ?_ ?_ (by rw [a_dy] at hF; exact hF))
      · rw [g2, Int32.add_zero]
      · rw [g2]; exact hsd2
      · rw [g2]; exact a_ns_lt _
      · exact yc
      · rw [g2]; exact t2
      · rw [g2]; exact hk1
      · rw [g2]; show x.2.1.2.2.2.1 + 1 ≤ 2; omega
      · rw [g2]; show x.2.1.1 + 125 * (e + 3) < 2 ^ 25; omega
