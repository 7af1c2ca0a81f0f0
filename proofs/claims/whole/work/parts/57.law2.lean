set_option maxRecDepth 100000 in
set_option maxHeartbeats 4000000 in
theorem law_loop {G : r_X} {b L : Nat} {xs : Nat → Int32} (hL : L ≤ 2048) : ∀ (e i : Nat) (Z : a_Z) (h : r_HI) (p q : Nat) (z : r_HL) (v : Int32), L < i + 4 + 4 * e → i ≤ 2048 → v = nI i → z_I Z i → p_C h p q Z → p_M h Z → r_L G b L xs 18 [(0, .ref b), (1, .ref (G.2.1 + 0)), (2, .ref (G.2.1 + 47)), (3, .int v)] [] 61 h (r_gp p q) z := by
  intro e
  induction e with
  | zero =>
    intro i Z h p q z v he hi hv hI hC hM
    subst hv
    refine j_iload_n d_Lw_law_18 rfl rfl ?_
    refine j_aload_n d_Lw_law_19 rfl rfl ?_
    refine j_slen d_Lw_law_20 ?_
    refine j_iconst (v := 4) d_Lw_law_21 rfl ?_
    refine j_isub d_Lw_law_22 ?_
    refine j_icmp_gt (tgt := 895) d_Lw_law_23 rfl (fun bq => ?_) (fun bq => absurd ((lw_gt hL (by omega)).mpr (by omega)) bq)
    refine j_iconst (v := 1) d_Lw_law_895 rfl ?_
    exact j_lwret d_Lw_law_896 (by decide) (by decide +kernel)
  | succ e ih =>
    intro i Z h p q z v he hi hv hI hC hM
    subst hv
    have key : ∀ (Z' : a_Z) (h' : r_HI) (p' q' : Nat) (z' : r_HL), i + 4 ≤ L → z_I Z' (i + 4) → p_C h' p' q' Z' → p_M h' Z' → r_L G b L xs 889 [(0, .ref b), (1, .ref (G.2.1 + 0)), (2, .ref (G.2.1 + 47)), (3, .int (nI i))] [] 61 h' (r_gp p' q') z' := by
      intro Z' h' p' q' z' hi4 hI' hC' hM'
      refine j_iinc (ls' := [(3, _), (0, _), (1, _), (2, _)]) d_Lw_law_889 rfl (by decide) rfl ?_
      refine j_goto (tgt := 18) d_Lw_law_892 rfl ?_
      refine j_pick [1, 2, 3, 0] (ls' := [(0, _), (1, _), (2, _), (3, _)]) rfl ?_
      exact ih (i + 4) Z' h' p' q' z' _ (by omega) (by omega) (nI_add i 4) hI' hC' hM'
    refine j_iload_n d_Lw_law_18 rfl rfl ?_
    refine j_aload_n d_Lw_law_19 rfl rfl ?_
    refine j_slen d_Lw_law_20 ?_
    refine j_iconst (v := 4) d_Lw_law_21 rfl ?_
    refine j_isub d_Lw_law_22 ?_
    refine j_icmp_gt (tgt := 895) d_Lw_law_23 rfl (fun bq => ?_) (fun bq => ?_)
    · refine j_iconst (v := 1) d_Lw_law_895 rfl ?_
      exact j_lwret d_Lw_law_896 (by decide) (by decide +kernel)
    · have hi4 : i + 4 ≤ L := Nat.le_of_not_lt (fun q => bq ((lw_gt hL (by omega)).mpr q))
      have key := fun Z' h' p' q' z' => key Z' h' p' q' z' hi4
      refine j_aload_n d_Lw_law_26 rfl rfl ?_
      refine j_iload_n d_Lw_law_27 rfl rfl ?_
      refine j_sld (j := i) d_Lw_law_28 rfl (by omega) hL ?_
      refine j_bipush (v := 31) d_Lw_law_29 (by decide) ?_
      refine j_iand d_Lw_law_31 ?_
      generalize xs i &&& 31 = x
      by_cases t1 : x.toInt < 0
      · refine j_tabOut (tgt := 889) d_Lw_law_32 (Or.inl t1) rfl ?_
        exact key _ _ _ _ _ (hI.mono (by omega)) hC hM
      by_cases t2 : 29 < x.toInt
      · refine j_tabOut (tgt := 889) d_Lw_law_32 (Or.inr t2) rfl ?_
        exact key _ _ _ _ _ (hI.mono (by omega)) hC hM
      obtain ⟨k, t9⟩ : ∃ k : Nat, x.toInt = (k : Int) := ⟨x.toInt.toNat, by omega⟩
      have hk : k < 30 := by omega
      match k, hk, t9 with
      | 0, _, t9 =>
        refine j_tabIn (off := 136) (tgt := 168) d_Lw_law_32 t1 t2 (by rw [t9]; rfl) rfl ?_
        exact w_law_0 hL hi4 hI hC hM key
      | 1, _, t9 =>
        refine j_tabIn (off := 159) (tgt := 191) d_Lw_law_32 t1 t2 (by rw [t9]; rfl) rfl ?_
        exact w_law_1 hL hi4 hI hC hM key
      | 2, _, t9 =>
        refine j_tabIn (off := 172) (tgt := 204) d_Lw_law_32 t1 t2 (by rw [t9]; rfl) rfl ?_
        exact w_law_2 hL hi4 hI hC hM key
      | 3, _, t9 =>
        refine j_tabIn (off := 185) (tgt := 217) d_Lw_law_32 t1 t2 (by rw [t9]; rfl) rfl ?_
        exact w_law_3 hL hi4 hI hC hM key
      | 4, _, t9 =>
        refine j_tabIn (off := 198) (tgt := 230) d_Lw_law_32 t1 t2 (by rw [t9]; rfl) rfl ?_
        exact w_law_4 hL hi4 hI hC hM key
      | 5, _, t9 =>
        refine j_tabIn (off := 231) (tgt := 263) d_Lw_law_32 t1 t2 (by rw [t9]; rfl) rfl ?_
        exact w_law_5 hL hi4 hI hC hM key
      | 6, _, t9 =>
        refine j_tabIn (off := 264) (tgt := 296) d_Lw_law_32 t1 t2 (by rw [t9]; rfl) rfl ?_
        exact w_law_6 hL hi4 hI hC hM key
      | 7, _, t9 =>
        refine j_tabIn (off := 287) (tgt := 319) d_Lw_law_32 t1 t2 (by rw [t9]; rfl) rfl ?_
        exact w_law_7 hL hi4 hI hC hM key
      | 8, _, t9 =>
        refine j_tabIn (off := 300) (tgt := 332) d_Lw_law_32 t1 t2 (by rw [t9]; rfl) rfl ?_
        exact w_law_8 hL hi4 hI hC hM key
      | 9, _, t9 =>
        refine j_tabIn (off := 333) (tgt := 365) d_Lw_law_32 t1 t2 (by rw [t9]; rfl) rfl ?_
        exact w_law_9 hL hi4 hI hC hM key
      | 10, _, t9 =>
        refine j_tabIn (off := 346) (tgt := 378) d_Lw_law_32 t1 t2 (by rw [t9]; rfl) rfl ?_
        exact w_law_10 hL hi4 hI hC hM key
      | 11, _, t9 =>
        refine j_tabIn (off := 369) (tgt := 401) d_Lw_law_32 t1 t2 (by rw [t9]; rfl) rfl ?_
        exact w_law_11 hL hi4 hI hC hM key
      | 12, _, t9 =>
        refine j_tabIn (off := 392) (tgt := 424) d_Lw_law_32 t1 t2 (by rw [t9]; rfl) rfl ?_
        exact w_law_12 hL hi4 hI hC hM key
      | 13, _, t9 =>
        refine j_tabIn (off := 415) (tgt := 447) d_Lw_law_32 t1 t2 (by rw [t9]; rfl) rfl ?_
        exact w_law_13 hL hi4 hI hC hM key
      | 14, _, t9 =>
        refine j_tabIn (off := 448) (tgt := 480) d_Lw_law_32 t1 t2 (by rw [t9]; rfl) rfl ?_
        exact w_law_14 hL hi4 hI hC hM key
      | 15, _, t9 =>
        refine j_tabIn (off := 481) (tgt := 513) d_Lw_law_32 t1 t2 (by rw [t9]; rfl) rfl ?_
        exact w_law_15 hL hi4 hI hC hM key
      | 16, _, t9 =>
        refine j_tabIn (off := 514) (tgt := 546) d_Lw_law_32 t1 t2 (by rw [t9]; rfl) rfl ?_
        exact w_law_16 hL hi4 hI hC hM key
      | 17, _, t9 =>
        refine j_tabIn (off := 537) (tgt := 569) d_Lw_law_32 t1 t2 (by rw [t9]; rfl) rfl ?_
        exact w_law_17 hL hi4 hI hC hM key
      | 18, _, t9 =>
        refine j_tabIn (off := 570) (tgt := 602) d_Lw_law_32 t1 t2 (by rw [t9]; rfl) rfl ?_
        exact w_law_18 hL hi4 hI hC hM key
      | 19, _, t9 =>
        refine j_tabIn (off := 593) (tgt := 625) d_Lw_law_32 t1 t2 (by rw [t9]; rfl) rfl ?_
        exact w_law_19 hL hi4 hI hC hM key
      | 20, _, t9 =>
        refine j_tabIn (off := 636) (tgt := 668) d_Lw_law_32 t1 t2 (by rw [t9]; rfl) rfl ?_
        exact w_law_20 hL hi4 hI hC hM key
      | 21, _, t9 =>
        refine j_tabIn (off := 679) (tgt := 711) d_Lw_law_32 t1 t2 (by rw [t9]; rfl) rfl ?_
        exact w_law_21 hL hi4 hI hC hM key
      | 22, _, t9 =>
        refine j_tabIn (off := 712) (tgt := 744) d_Lw_law_32 t1 t2 (by rw [t9]; rfl) rfl ?_
        exact w_law_22 hL hi4 hI hC hM key
      | 23, _, t9 =>
        refine j_tabIn (off := 725) (tgt := 757) d_Lw_law_32 t1 t2 (by rw [t9]; rfl) rfl ?_
        exact w_law_23 hL hi4 hI hC hM key
      | 24, _, t9 =>
        refine j_tabIn (off := 738) (tgt := 770) d_Lw_law_32 t1 t2 (by rw [t9]; rfl) rfl ?_
        exact w_law_24 hL hi4 hI hC hM key
      | 25, _, t9 =>
        refine j_tabIn (off := 751) (tgt := 783) d_Lw_law_32 t1 t2 (by rw [t9]; rfl) rfl ?_
        exact w_law_25 hL hi4 hI hC hM key
      | 26, _, t9 =>
        refine j_tabIn (off := 794) (tgt := 826) d_Lw_law_32 t1 t2 (by rw [t9]; rfl) rfl ?_
        exact w_law_26 hL hi4 hI hC hM key
      | 27, _, t9 =>
        refine j_tabIn (off := 807) (tgt := 839) d_Lw_law_32 t1 t2 (by rw [t9]; rfl) rfl ?_
        exact w_law_27 hL hi4 hI hC hM key
      | 28, _, t9 =>
        refine j_tabIn (off := 820) (tgt := 852) d_Lw_law_32 t1 t2 (by rw [t9]; rfl) rfl ?_
        exact w_law_28 hL hi4 hI hC hM key
      | 29, _, t9 =>
        refine j_tabIn (off := 843) (tgt := 875) d_Lw_law_32 t1 t2 (by rw [t9]; rfl) rfl ?_
        exact w_law_29 hL hi4 hI hC hM key
      | k + 30, h, _ => exact absurd h (by omega)
set_option maxRecDepth 100000 in
set_option maxHeartbeats 4000000 in
theorem law_run {G : r_X} {b L : Nat} {xs : Nat → Int32} (hL : L ≤ 2048) : r_L G b L xs 0 [(0, .ref b)] [] 0 (r_hl []) (r_gl []) (fun _ _ => 0) := by
  refine j_new (c := 11) d_Lw_law_0 (by decide) rfl l_Lw_7 b_Ra n_Ra rfl (r_hl_no (m := 0) rfl (by decide)) (r_gl_no (m := 0) rfl (by decide)) rfl ⟨by decide +kernel, by decide +kernel⟩ ?_
  refine j_dup d_Lw_law_3 rfl ?_
  refine q_n (d := 4) (n2 := 47) s_Lw_law_4 rfl ⟨by decide, by decide, by decide, by decide, by decide +kernel⟩ (Nat.le_of_ble_eq_true rfl) ?_
  refine i_Ra ?_
  refine j_astore_n (ls' := [(1, _), (0, _)]) d_Lw_law_7 rfl (by decide) rfl ?_
  refine j_new (c := 12) d_Lw_law_8 (by decide) rfl l_Lw_10 b_Mo n_Mo rfl (r_hl_no (m := 47) rfl (by decide)) (r_gl_no (m := 47) rfl (by decide)) rfl ⟨by decide +kernel, by decide +kernel⟩ ?_
  refine j_dup d_Lw_law_11 rfl ?_
  refine q_n (d := 1) (n2 := 61) s_Lw_law_12 rfl ⟨by decide, by decide, by decide, by decide, by decide +kernel⟩ (Nat.le_of_ble_eq_true rfl) ?_
  refine i_Mo_47 (A := [((40, 7), 1), ((29, 7), 1), ((7, 7), 1)]) rfl ?_
  refine j_astore_n (ls' := [(2, _), (1, _), (0, _)]) d_Lw_law_15 rfl (by decide) rfl ?_
  refine j_iconst (v := 0) d_Lw_law_16 rfl ?_
  refine j_istore_n (ls' := [(3, _), (2, _), (1, _), (0, _)]) d_Lw_law_17 rfl (by decide) rfl ?_
  refine j_pick [3, 2, 1, 0] (ls' := [(0, _), (1, _), (2, _), (3, _)]) rfl ?_
  have K := law_loop (G := G) (b := b) (xs := xs) hL 512 0 z_0 (r_hl a_61) 24 24 (fun _ _ => 0) 0 (by omega) (by omega) rfl zi_0 a_61_C a_61_M
  rw [← b_61_gp] at K
  exact K
