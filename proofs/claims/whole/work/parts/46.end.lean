theorem take_at {x : List Nat} {k : Nat} (h : k < x.length) : x.take (k + 1) = x.take k ++ [x.getD k 0] := by
  rw [List.take_add_one, List.getElem?_eq_getElem h, List.getD_eq_getElem?_getD, List.getElem?_eq_getElem h]
  rfl
theorem a_ef_bd {D : a_D} {K : a_K} (ho : a_dok D) (hk : a_kok D K) {x : List Nat} (hx : ∀ i ∈ x, i < K.2.2.2.1) : (a_ef D K x).1 ≤ K.1 + 125 * x.length ∧ (a_ef D K x).2 < 10 := a_ef_le ho hk x (K.1, K.2.1) hk.1 hx
theorem mem_take_lt {x : List Nat} {n k : Nat} (h : ∀ j, j < x.length → x.getD j 0 < n) : ∀ i ∈ x.take k, i < n := by
  intro i hi
  obtain ⟨j, hj, e⟩ := List.mem_iff_getElem.mp (List.mem_of_mem_take hi)
  have := h j hj
  rw [List.getD_eq_getElem?_getD, List.getElem?_eq_getElem hj] at this
  rw [← e]
  exact this
set_option maxRecDepth 100000 in
set_option maxHeartbeats 4000000 in
theorem l_Mo_endOfTried {G : r_X} {d : Nat} {h : r_HI} {p q : Nat} {z : r_HL} {F : Int32 → r_HI → r_HR → r_HL → Prop} {D : a_D} (hN : p_N h D) (ho : a_dok D) {K : a_K} (hJ : p_J h K) (hk : a_kok D K) (ht : K.1 ≤ 100000) {x : List Nat} (hL : p_L h 54 x) (hl : x.length = K.2.2.2.1) (hx : ∀ j, j < x.length → x.getD j 0 < K.2.2.2.1) (hF : F (nI (a_et D K x)) h (r_gp p q) z) : ∀ (e k : Nat) (v : Int32), e + k = x.length → v = nI k → r_TM G m_Mo_endOfTried (d + 2) 61 61 (fun v h' g' z' => ∃ r, v = some (.int r) ∧ F r h' g' z') 12 [(0, .ref (G.2.1 + 47)), (1, .int (nI (a_ef D K (x.take k)).2)), (2, .int (nI (a_ef D K (x.take k)).1)), (3, .int v)] [] 61 h (r_gp p q) z := by
  have hn7 := hk.2.2.1
  intro e
  induction e with
  | zero =>
    intro k v he hv
    subst hv
    refine j_iload_n d_Mo_endOfTried_12 rfl rfl ?_
    refine j_aload_n d_Mo_endOfTried_13 rfl rfl ?_
    refine j_geti d_Mo_endOfTried_14 f_Mo_114 rfl rfl (by decide) ?_
    refine j_icmp_ge (tgt := 71) d_Mo_endOfTried_17 rfl (fun bq1 => ?_) (fun bq1 => False.elim (bq1 (by rw [hJ.2.2.2.1]; exact nI_le (by omega) (by omega))))
    refine j_iload_n d_Mo_endOfTried_71 rfl rfl ?_
    refine j_iret d_Mo_endOfTried_72 rfl ?_
    have e0 : x.take k = x := List.take_of_length_le (by omega)
    rw [e0]
    exact q_i1 hF rfl
  | succ e ih =>
    intro k v he hv
    subst hv
    have hi := hx k (by omega)
    obtain ⟨g1, g2, g3⟩ := hJ.2.2.2.2 (x.getD k 0) hi
    obtain ⟨hr1, hp1, hs1⟩ := hk.2.2.2 (x.getD k 0) hi
    have hb := a_ef_bd ho hk (x := x.take k) (mem_take_lt hx)
    have hlen : (x.take k).length ≤ 7 := by rw [List.length_take]; omega
    refine j_iload_n d_Mo_endOfTried_12 rfl rfl ?_
    refine j_aload_n d_Mo_endOfTried_13 rfl rfl ?_
    refine j_geti d_Mo_endOfTried_14 f_Mo_114 rfl rfl (by decide) ?_
    refine j_icmp_ge (tgt := 71) d_Mo_endOfTried_17 rfl (fun bq1 => False.elim (nI_ge (by omega) (by omega) (hJ.2.2.2.1 ▸ bq1))) (fun bq1 => ?_)
    refine j_aload_n d_Mo_endOfTried_20 rfl rfl ?_
    refine j_getr d_Mo_endOfTried_21 f_Mo_28 rfl rfl (by decide) rfl ?_
    refine j_iload_n d_Mo_endOfTried_24 rfl rfl ?_
    refine j_iav d_Mo_endOfTried_25 rfl (by decide) (j := k) (rfl) (by omega) (by decide) (hL k (by omega)) ?_
    refine j_istore (ls' := [(4, _), (0, _), (1, _), (2, _), (3, _)]) d_Mo_endOfTried_26 (by decide) rfl ?_
    refine j_aload_n d_Mo_endOfTried_28 rfl rfl ?_
    refine j_iload_n d_Mo_endOfTried_29 rfl rfl ?_
    refine j_iload_n d_Mo_endOfTried_30 rfl rfl ?_
    refine j_aload_n d_Mo_endOfTried_31 rfl rfl ?_
    refine j_getr d_Mo_endOfTried_32 f_Mo_19 rfl rfl (by decide) rfl ?_
    refine j_iconst (v := 3) d_Mo_endOfTried_35 rfl ?_
    refine j_iload d_Mo_endOfTried_36 rfl ?_
    refine j_imul d_Mo_endOfTried_38 ?_
    refine j_iav d_Mo_endOfTried_39 rfl (by decide) (j := 3 * (x.getD k 0)) (m3_0 _) (by omega) (by decide) (g1) ?_
    refine j_aload_n d_Mo_endOfTried_40 rfl rfl ?_
    refine j_getr d_Mo_endOfTried_41 f_Mo_19 rfl rfl (by decide) rfl ?_
    refine j_iconst (v := 3) d_Mo_endOfTried_44 rfl ?_
    refine j_iload d_Mo_endOfTried_45 rfl ?_
    refine j_imul d_Mo_endOfTried_47 ?_
    refine j_iconst (v := 1) d_Mo_endOfTried_48 rfl ?_
    refine j_iadd d_Mo_endOfTried_49 ?_
    refine j_iav d_Mo_endOfTried_50 rfl (by decide) (j := 3 * (x.getD k 0) + 1) (m3_1 _) (by omega) (by decide) (g2) ?_
    refine q_i (s_Mo_endOfTried_51 rfl (by decide)) rfl (Nat.le_of_ble_eq_true rfl) (Nat.le_of_ble_eq_true rfl) ?_
    refine c_Mo_doneBy hN ho (by omega) hb.2 hr1 hp1 rfl rfl rfl rfl ?_
    refine j_istore_n (ls' := [(2, _), (4, _), (0, _), (1, _), (3, _)]) d_Mo_endOfTried_54 rfl (by decide) rfl ?_
    refine j_aload_n d_Mo_endOfTried_55 rfl rfl ?_
    refine j_getr d_Mo_endOfTried_56 f_Mo_19 rfl rfl (by decide) rfl ?_
    refine j_iconst (v := 3) d_Mo_endOfTried_59 rfl ?_
    refine j_iload d_Mo_endOfTried_60 rfl ?_
    refine j_imul d_Mo_endOfTried_62 ?_
    refine j_iav d_Mo_endOfTried_63 rfl (by decide) (j := 3 * (x.getD k 0)) (m3_0 _) (by omega) (by decide) (g1) ?_
    refine j_istore_n (ls' := [(1, _), (2, _), (4, _), (0, _), (3, _)]) d_Mo_endOfTried_64 rfl (by decide) rfl ?_
    refine j_iinc (ls' := [(3, _), (1, _), (2, _), (4, _), (0, _)]) d_Mo_endOfTried_65 rfl (by decide) rfl ?_
    refine j_goto (tgt := 12) d_Mo_endOfTried_68 rfl ?_
    refine j_pick [4, 1, 2, 0] (ls' := [(0, _), (1, _), (2, _), (3, _)]) rfl ?_
    have ih1 := ih (k + 1) _ (by omega) (nI_inc k)
    rw [take_at (by omega), a_ef_app] at ih1
    exact ih1
set_option maxRecDepth 100000 in
set_option maxHeartbeats 4000000 in
theorem c_Mo_endOfTried {G : r_X} {d : Nat} {h : r_HI} {p q : Nat} {z : r_HL} {F : Int32 → r_HI → r_HR → r_HL → Prop} {D : a_D} (hN : p_N h D) (ho : a_dok D) {K : a_K} (hJ : p_J h K) (hk : a_kok D K) (ht : K.1 ≤ 100000) {x : List Nat} (hL : p_L h 54 x) (hl : x.length = K.2.2.2.1) (hx : ∀ j, j < x.length → x.getD j 0 < K.2.2.2.1) (hF : F (nI (a_et D K x)) h (r_gp p q) z) : r_Ci G m_Mo_endOfTried (d + 2) 61 [.ref (G.2.1 + 47)] 61 h (r_gp p q) z F := by
  refine r_C_of (by decide +kernel) (Nat.le_of_ble_eq_true rfl) ?_
  refine j_ls (ls' := [(0, _)]) rfl ?_
  refine j_aload_n d_Mo_endOfTried_0 rfl rfl ?_
  refine j_geti d_Mo_endOfTried_1 f_Mo_108 rfl rfl (by decide) ?_
  rw [hJ.2.1]
  refine j_istore_n (ls' := [(1, _), (0, _)]) d_Mo_endOfTried_4 rfl (by decide) rfl ?_
  refine j_aload_n d_Mo_endOfTried_5 rfl rfl ?_
  refine j_geti d_Mo_endOfTried_6 f_Mo_105 rfl rfl (by decide) ?_
  rw [hJ.1]
  refine j_istore_n (ls' := [(2, _), (1, _), (0, _)]) d_Mo_endOfTried_9 rfl (by decide) rfl ?_
  refine j_iconst (v := 0) d_Mo_endOfTried_10 rfl ?_
  refine j_istore_n (ls' := [(3, _), (2, _), (1, _), (0, _)]) d_Mo_endOfTried_11 rfl (by decide) rfl ?_
  refine j_pick [3, 2, 1, 0] (ls' := [(0, _), (1, _), (2, _), (3, _)]) rfl ?_
  exact l_Mo_endOfTried hN ho hJ hk ht hL hl hx hF x.length 0 _ (by omega) rfl
