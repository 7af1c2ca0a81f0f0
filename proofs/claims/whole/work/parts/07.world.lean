/-- the references, by place and field, behind the constructors; p: the policy, q: the kept one -/
def r_gp (p q : Nat) : r_HR := fun a j => (([[some 1, some 3, some 7, some 11, some 15, some 18, some p, some 25, some 29, some 33, some 37, some q, none, some 40, some 44], [some 2], [], [some 4, some 5, some 6], [], [], [], [some 3, some 8, some 9, some 10], [], [], [], [some 12, some 13, some 14], [], [], [], [some 16, some 17], [], [], [some 19, some 20, some 21, some 22, some 23], [], [], [], [], [], [], [some 26, some 27, some 28], [], [], [], [some 25, some 30, some 31, some 32], [], [], [], [some 34, some 35, some 36], [], [], [], [some 38, some 39], [], [], [some 3, some 41, some 42, some 43], [], [], [], [some 45, some 46], [], [], [some 48, none, none, none, none, none, none, none, none, none, none, none, some 49, some 50, some 51, none, none, none, none, some 52, none, some 53, some 54, some 55, none, some 56, none, none, none, none, none, none, none, none, none, none, some 57, some 58, some 59, some 60], [], [], [], [], [], [], [], [], [], [], [], [], []] : List (List (Option Nat))).getD a []).getD j none
/-- a contract out of a walk of the body, for a method that no table of the machine overrides -/
theorem r_C_ofF {G : r_X} {M : r_M} {d n1 : Nat} {av : List Value} {n : Nat} {h : r_HI} {g : r_HR} {z : r_HL} {F : r_F} (hp : plainFor M.1 = true) (hl : (lg_sl av).length ≤ M.2.2.1)
    (k : r_TM G M d n n1 F 0 (lv_args 0 av) [] n h g z) : r_C G M d n1 av n h g z F := by
  unfold r_C Met
  refine MetFree.of_bodySF (code := M.2.1) (maxLocals := M.2.2.1) (ret := M.2.2.2) hp ?_ ?_
  · intro args s m h hn
    obtain ⟨meth, c, h1, h2, h3, h4, h5, h6, -, -⟩ := Cond.code_spec hn (atoms_spec (ws := Cond.code M.1 M.2.1 M.2.2.1 M.2.2.2 :: r_wg) h _ List.mem_cons_self)
    exact ⟨meth, c, h1, h2, h3, h4, h5, h6⟩
  · intro p e s m args below meth c s₁ B hml hv _
    obtain ⟨rfl, ⟨hsz, hP, hK⟩, how, hb0⟩ := hv
    have hh0 : s₁.heap = s.heap := by rw [B.state]; rfl
    have hts := atoms_spec (ws := Cond.code M.1 M.2.1 M.2.2.1 M.2.2.2 :: r_wg) B.pre
    have hl0 := lv_entry av (n := M.2.2.1) hl
    have K := k p e s m av.toArray below meth c s.heap [] 0 0 _ ⟨B.exec, B.bytes, hml, B.returns, B.notSynchronized, (name_of_methodNamed B.named B.method).1, findClass_of_methodNamed B.named, fun w hw => hts w (List.mem_cons_of_mem _ hw), how, hb0, hK⟩ trivial hsz hP va_S.rf (Nat.zero_add _) (Nat.zero_add _) hl0
    rw [← lg_entry_eq] at K
    obtain ⟨t, a1, o, b1, b2, b3⟩ := K s₁ hh0 (Stand.of_body B)
    exact ⟨t, o, a1, b1, b2, ⟨b3.1, b3.2⟩⟩
theorem r_gp_p {p q p' : Nat} : r_ug (r_gp p q) 0 6 (some p') = r_gp p' q := by
  funext a
  by_cases e : a = 0
  · subst e
    rw [r_ug_k]
    funext j
    match j with
    | 0 => rfl
    | 1 => rfl
    | 2 => rfl
    | 3 => rfl
    | 4 => rfl
    | 5 => rfl
    | 6 => rfl
    | 7 => rfl
    | 8 => rfl
    | 9 => rfl
    | 10 => rfl
    | 11 => rfl
    | 12 => rfl
    | 13 => rfl
    | 14 => rfl
    | j + 15 => rfl
  · rw [r_ug_ne e]
    match a, e with
    | 0, e => exact absurd rfl e
    | a + 1, _ => rfl
theorem r_gp_q {p q q' : Nat} : r_ug (r_gp p q) 0 11 (some q') = r_gp p q' := by
  funext a
  by_cases e : a = 0
  · subst e
    rw [r_ug_k]
    funext j
    match j with
    | 0 => rfl
    | 1 => rfl
    | 2 => rfl
    | 3 => rfl
    | 4 => rfl
    | 5 => rfl
    | 6 => rfl
    | 7 => rfl
    | 8 => rfl
    | 9 => rfl
    | 10 => rfl
    | 11 => rfl
    | 12 => rfl
    | 13 => rfl
    | 14 => rfl
    | j + 15 => rfl
  · rw [r_ug_ne e]
    match a, e with
    | 0, e => exact absurd rfl e
    | a + 1, _ => rfl
section
variable {G : r_X} {M M' : r_M} {R : Room} {n0 n1 : Nat} {X : State → Prop} {Z : List Frame → Array Value → State → State → Prop} {F : r_F} {pc n : Nat} {ls ls' : List (Nat × Value)} {st : List Value} {h : r_HI} {g : r_HR} {z : r_HL}
theorem j_ls (e : ls = ls') (k : r_T G M R n0 X Z pc ls' st n h g z) : r_T G M R n0 X Z pc ls st n h g z := e ▸ k
theorem j_st {st' : List Value} (e : st = st') (k : r_T G M R n0 X Z pc ls st' n h g z) : r_T G M R n0 X Z pc ls st n h g z := e ▸ k
theorem j_h {h' : r_HI} (e : h = h') (k : r_T G M R n0 X Z pc ls st n h' g z) : r_T G M R n0 X Z pc ls st n h g z := e ▸ k
theorem j_pick (ks : List Nat) (e : lv_pick ls ks = ls') (k : r_T G M R n0 X Z pc ls' st n h g z) : r_T G M R n0 X Z pc ls st n h g z := by
  intro p e1 s m args below meth c0 H locs cells slots L0 B hX hz hP hS hc hs hl
  exact k p e1 s m args below meth c0 H locs cells slots L0 B hX hz hP hS hc hs (lv_sub hl ks e)
theorem q_i {av rest : List Value} {d n : Nat} (hcl : r_cl G M M' pc av n h g z) (hst : av.reverse ++ rest = st) (hm : M'.2.2.1 ≤ 41) (hcat : (rest.map fun v => v.category).sum ≤ 8) (hC : r_Ci G M' d n av n h g z (fun r h' g' z' => r_T G M (r_rm (d + 1) n n) n X Z (pc + 3) ls (.int r :: rest) n h' g' z')) : r_T G M (r_rm (d + 1) n n) n X Z pc ls st n h g z := j_calli hcl hC (r_ok_m (n1 := 0) hm) hcat hst
theorem q_l {av rest : List Value} {d n : Nat} (hcl : r_cl G M M' pc av n h g z) (hst : av.reverse ++ rest = st) (hm : M'.2.2.1 ≤ 41) (hcat : (rest.map fun v => v.category).sum ≤ 8) (hC : r_Cl G M' d n av n h g z (fun r h' g' z' => r_T G M (r_rm (d + 1) n n) n X Z (pc + 3) ls (.long r :: rest) n h' g' z')) : r_T G M (r_rm (d + 1) n n) n X Z pc ls st n h g z := j_calll hcl hC (r_ok_m (n1 := 0) hm) hcat hst
theorem q_a {av rest : List Value} {d n : Nat} (hcl : r_cl G M M' pc av n h g z) (hst : av.reverse ++ rest = st) (hm : M'.2.2.1 ≤ 41) (hcat : (rest.map fun v => v.category).sum ≤ 8) (hC : r_Ca G M' d n av n h g z (fun r h' g' z' => r_T G M (r_rm (d + 1) n n) n X Z (pc + 3) ls (.ref (G.2.1 + r) :: rest) n h' g' z')) : r_T G M (r_rm (d + 1) n n) n X Z pc ls st n h g z := j_calla hcl hC (r_ok_m (n1 := 0) hm) hcat hst
theorem q_v {av rest : List Value} {d n : Nat} (hcl : r_cl G M M' pc av n h g z) (hst : av.reverse ++ rest = st) (hm : M'.2.2.1 ≤ 41) (hcat : (rest.map fun v => v.category).sum ≤ 8) (hC : r_Cv G M' d n av n h g z (fun h' g' z' => r_T G M (r_rm (d + 1) n n) n X Z (pc + 3) ls rest n h' g' z')) : r_T G M (r_rm (d + 1) n n) n X Z pc ls st n h g z := j_callv hcl hC (r_ok_m (n1 := 0) hm) hcat hst
end
