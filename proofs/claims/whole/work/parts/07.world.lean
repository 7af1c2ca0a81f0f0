/-- the references, by place and field, behind the constructors: 0 stands for none -/
def r_lay (a j : Nat) : Nat := (([[1, 3, 7, 11, 15, 18, 0, 25, 29, 33, 37, 0, 0, 40, 44], [2], [], [4, 5, 6], [], [], [], [3, 8, 9, 10], [], [], [], [12, 13, 14], [], [], [], [16, 17], [], [], [19, 20, 21, 22, 23], [], [], [], [], [], [], [26, 27, 28], [], [], [], [25, 30, 31, 32], [], [], [], [34, 35, 36], [], [], [], [38, 39], [], [], [3, 41, 42, 43], [], [], [], [45, 46], [], [], [48, 0, 0, 0, 0, 0, 0, 0, 0, 0, 0, 0, 49, 50, 51, 0, 0, 0, 0, 52, 0, 53, 54, 55, 0, 56, 0, 0, 0, 0, 0, 0, 0, 0, 0, 0, 57, 58, 59, 60], [], [], [], [], [], [], [], [], [], [], [], [], []] : List (List Nat)).getD a []).getD j 0
/-- a contract out of a walk of the body, for a method that no table of the machine overrides -/
theorem r_C_ofF {G : r_X} {M : r_M} {d n1 : Nat} {av : List Value} {n : Nat} {h : r_HI} {g : r_HR} {z : r_HL} {F : r_F} (hp : plainFor M.1 = true) (hl : (lg_sl av).length ≤ M.2.2.1)
    (k : r_TM G M d n n1 F 0 (lv_args 0 av) [] n h g z) : r_C G M d n1 av n h g z F := by
  unfold r_C Met
  refine MetFree.of_bodySF (code := M.2.1) (maxLocals := M.2.2.1) (ret := M.2.2.2) hp ?_ ?_
  · intro args s m h hn
    obtain ⟨meth, c, h1, h2, h3, h4, h5, h6, -, -⟩ := Cond.code_spec hn (atoms_spec (ws := Cond.code M.1 M.2.1 M.2.2.1 M.2.2.2 :: r_wg) h _ List.mem_cons_self)
    exact ⟨meth, c, h1, h2, h3, h4, h5, h6⟩
  · intro p e s m args below meth c s₁ B hml hv _
    obtain ⟨rfl, ⟨hsz, hP, hK⟩, how, hb0⟩ := hv
    have hh0 : s₁.heap = s.heap := by rw [B.state]; rfl
    have hts := atoms_spec (ws := Cond.code M.1 M.2.1 M.2.2.1 M.2.2.2 :: r_wg) B.pre
    have hl0 := lv_entry av (n := M.2.2.1) hl
    have K := k p e s m av.toArray below meth c s.heap [] 0 0 _ ⟨B.exec, B.bytes, hml, B.returns, B.notSynchronized, (name_of_methodNamed B.named B.method).1, findClass_of_methodNamed B.named, fun w hw => hts w (List.mem_cons_of_mem _ hw), how, hb0, hK⟩ trivial hsz hP va_S.rf (Nat.zero_add _) (Nat.zero_add _) hl0
    rw [← lg_entry_eq] at K
    obtain ⟨t, a1, o, b1, b2, b3⟩ := K s₁ hh0 (Stand.of_body B)
    exact ⟨t, o, a1, b1, b2, ⟨b3.1, b3.2⟩⟩
/-- the references; p: the policy, q: the kept one -/
def r_gp (p q : Nat) : r_HR := fun a j => if a = 0 ∧ j = 6 then some p else if a = 0 ∧ j = 11 then some q else if r_lay a j = 0 then none else some (r_lay a j)
section
variable {G : r_X} {M M' : r_M} {R : Room} {n0 n1 : Nat} {X : State → Prop} {Z : List Frame → Array Value → State → State → Prop} {F : r_F} {pc n : Nat} {ls ls' : List (Nat × Value)} {st : List Value} {h : r_HI} {g : r_HR} {z : r_HL}
theorem j_ls (e : ls = ls') (k : r_T G M R n0 X Z pc ls' st n h g z) : r_T G M R n0 X Z pc ls st n h g z := e ▸ k
theorem j_st {st' : List Value} (e : st = st') (k : r_T G M R n0 X Z pc ls st' n h g z) : r_T G M R n0 X Z pc ls st n h g z := e ▸ k
theorem j_h {h' : r_HI} (e : h = h') (k : r_T G M R n0 X Z pc ls st n h' g z) : r_T G M R n0 X Z pc ls st n h g z := e ▸ k
theorem j_pick (ks : List Nat) (e : lv_pick ls ks = ls') (k : r_T G M R n0 X Z pc ls' st n h g z) : r_T G M R n0 X Z pc ls st n h g z := by
  intro p e1 s m args below meth c0 H locs cells slots L0 B hX hz hP hS hc hs hl
  exact k p e1 s m args below meth c0 H locs cells slots L0 B hX hz hP hS hc hs (lv_sub hl ks e)
theorem q_i {av rest : List Value} {d n : Nat} (hcl : r_cl G M M' pc av n h g z) (hst : av.reverse ++ rest = st) (hm : M'.2.2.1 ≤ 41) (hcat : (rest.map fun v => v.category).sum ≤ 8) (hC : r_Ci G M' d n av n h g z (fun r h' g' z' => r_T G M (r_rm (d + 1) n n) n X Z (pc + 3) ls (.int r :: rest) n h' g' z')) : r_T G M (r_rm (d + 1) n n) n X Z pc ls st n h g z := j_calli hcl hC (r_ok_m (n1 := 0) hm) hcat hst
theorem q_l {av rest : List Value} {d n : Nat} (hcl : r_cl G M M' pc av n h g z) (hst : av.reverse ++ rest = st) (hm : M'.2.2.1 ≤ 41) (hcat : (rest.map fun v => v.category).sum ≤ 8) (hC : r_Cl G M' d n av n h g z (fun r h' g' z' => r_T G M (r_rm (d + 1) n n) n X Z (pc + 3) ls (.long r :: rest) n h' g' z')) : r_T G M (r_rm (d + 1) n n) n X Z pc ls st n h g z := j_calll hcl hC (r_ok_m (n1 := 0) hm) hcat hst
theorem q_a {av rest : List Value} {d n : Nat} (hcl : r_cl G M M' pc av n h g z) (hst : av.reverse ++ rest = st) (hm : M'.2.2.1 ≤ 41) (hcat : (rest.map fun v => v.category).sum ≤ 8) (hC : r_Ca G M' d n av n h g z (fun r h' g' z' => r_T G M (r_rm (d + 1) n n) n X Z (pc + 3) ls (.ref (G.2.1 + r) :: rest) n h' g' z')) : r_T G M (r_rm (d + 1) n n) n X Z pc ls st n h g z := j_calla hcl hC (r_ok_m (n1 := 0) hm) hcat hst
theorem q_v {av rest : List Value} {d n : Nat} (hcl : r_cl G M M' pc av n h g z) (hst : av.reverse ++ rest = st) (hm : M'.2.2.1 ≤ 41) (hcat : (rest.map fun v => v.category).sum ≤ 8) (hC : r_Cv G M' d n av n h g z (fun h' g' z' => r_T G M (r_rm (d + 1) n n) n X Z (pc + 3) ls rest n h' g' z')) : r_T G M (r_rm (d + 1) n n) n X Z pc ls st n h g z := j_callv hcl hC (r_ok_m (n1 := 0) hm) hcat hst
end
