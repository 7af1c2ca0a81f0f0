theorem r_wa : Cond.arrayClass .int ∈ r_wg := r_in 39 (by decide +kernel) (by decide +kernel)
theorem r_wo1 : Cond.instanceMethod Lib.objectInit ∈ r_wg := r_in 21 (by decide +kernel) (by decide +kernel)
theorem r_wo2 : Cond.code Lib.objectInit ⟨#[0xb1]⟩ 1 none ∈ r_wg := r_in 22 (by decide +kernel) (by decide +kernel)
section
variable {G : r_X} {M M' : r_M} {R : Room} {n0 n1 : Nat} {X : State → Prop} {Z : List Frame → Array Value → State → State → Prop} {F : r_F} {pc n : Nat} {ls : List (Nat × Value)} {st : List Value} {h : r_HI} {g : r_HR} {z : r_HL}
theorem r_W_succ : r_W G (n + 1) h g z = r_W G n h g z ++ [(G.2.1 + n, r_E G h g z n)] := by simp [r_W, List.range_succ]
theorem r_sz_o {c : Nat} (hp : r_pk n = (0, c)) : r_tot (n + 1) = r_tot n + r_nf c := by simp [r_tot, r_sz, hp]
theorem r_sz_a {q : Nat} (hp : r_pk n = (1, q)) : r_tot (n + 1) = r_tot n + q := by simp [r_tot, r_sz, hp]
theorem r_sz_q {q : Nat} (hp : r_pk n = (2, q)) : r_tot (n + 1) = r_tot n + q := by simp [r_tot, r_sz, hp]
theorem r_P_push {H H1 : Heap} (hz : H.size = G.2.1 + n) (hP : va_P (r_G G) r_cl0 (r_W G n h g z) H) (o1 : ∀ q, q < G.2.1 + n → H1[q]? = H[q]?) (he : va_at (r_G G) r_cl0 (G.2.1 + n, r_E G h g z n) H1) : va_P (r_G G) r_cl0 (r_W G (n + 1) h g z) H1 := by
  rw [r_W_succ]
  refine (hP.kept (fun k x hx => o1 x.1 (hz ▸ (hP k x hx).lt))).app (fun k x hx => ?_)
  have hk : k < 1 := (List.getElem?_eq_some_iff.mp hx).1
  rw [show k = 0 by omega] at hx
  cases hx
  exact he
theorem r_S_push {H0 H H1 : Heap} {locs : List Loc} {A : Nat → Prop} {b : Nat} (hz : H.size = b) (z1 : H1.size = b + 1) (hS : va_S A H0 H locs) (o1 : ∀ q, q < b → H1[q]? = H[q]?) : va_S A H0 H1 locs :=
  ⟨Nat.le_trans hS.1 (by omega), fun x h1 h2 => (o1 x (hz ▸ Nat.lt_of_lt_of_le h1 hS.1)).trans (hS.2.1 x h1 h2), hS.2.2⟩
theorem r_cn_at {c : Nat} (hc : c < 13) : ∃ q : vw_C, r_cl0[c]? = some q ∧ r_cn c = q.1 := by
  have h1 : r_cl0[c]? = some (r_cl0[c]'(by simpa [r_cl0] using hc)) := List.getElem?_eq_getElem _
  exact ⟨_, h1, by rw [r_cn, h1]⟩
theorem j_new {i c : Nat} {C : String} (hd : decode M.2.1 pc = .ok (.new i, 3)) (hc1 : c < 13) (hcn : r_cn c = C) (hl1 : Cond.classLink M.1.cls i C ∈ r_wg) (hi : Cond.instantiable C (r_nf c) ∈ r_wg) (hini : Cond.initialized C ∈ r_wg) (hp : r_pk n = (0, c)) (h0 : h n = fun _ => 0) (g0 : g n = fun _ => none) (z0 : z n = fun _ => 0) (hR : n + 1 ≤ n0 + R.cells ∧ r_tot n + r_nf c ≤ r_tot n0 + R.slots)
    (kk : r_T G M R n0 X Z (pc + 3) ls (.ref (G.2.1 + n) :: st) (n + 1) h g z) : r_T G M R n0 X Z pc ls st n h g z := by
  intro p e s m args below meth c0 H locs cells slots L0 B hX hz hP hS hc hs hl
  obtain ⟨⟨C', T, N⟩, hq, e0⟩ := r_cn_at hc1
  have hO := r_clOK hq
  have hN : N = r_nf c := hO.2.1
  have eC : C' = C := e0.symm.trans hcn
  subst hN; subst eC
  have hKn := B.2.2.2.2.2.2.2.2.2.2.1 c _ hq
  refine W.newcK B.1 B.2.1 B.2.2.2.2.2.2.1 (B.2.2.2.2.2.2.2.1 _ hl1) (B.2.2.2.2.2.2.2.1 _ hi) (B.2.2.2.2.2.2.2.1 _ hini) rfl hd (by omega) (by omega) hKn.2.1 hz fun H1 kC hkC e1 z1 o1 => ?_
  refine kk p e s m args below meth c0 H1 locs (cells + 1) (slots + r_nf c) L0 B hX z1 (r_P_push hz hP o1 ?_) (r_S_push hz z1 hS o1) (by omega) (by rw [r_sz_o hp]; omega) hl
  rw [r_E_o hp]
  refine ⟨_, hq, (u_born (r_y c) B.2.2.2.2.2.2.2.1 hO.1 hKn hkC e1 hO.2.2.1).to (fun j hj => ?_)⟩
  have hD := hO.2.2.2.2 j hj
  have e2 : vp_V (r_fs G.2.1 c h g z n) j = r_fv G.2.1 (r_ft c j) h g z n j := by
    show (r_fs G.2.1 c h g z n).getD j .null = _
    rw [List.getD_eq_getElem?_getD, r_fs_at hj]
    rfl
  rw [e2]
  have h4 := hD.2.2.2
  rcases (show r_ft c j = 0 ∨ r_ft c j = 1 ∨ r_ft c j = 2 ∨ r_ft c j = 3 by omega) with q | q | q | q
  · rw [hD.1 (Or.inl q)]; simp [r_fv, q, h0]
  · rw [hD.2.1 q]; simp [r_fv, q, g0, va_rf]
  · rw [hD.2.2.1 q]; simp [r_fv, q, z0]
  · rw [hD.1 (Or.inr q)]; simp [r_fv, q, h0]
theorem j_newa {q : Nat} {v : Int32} (hd : decode M.2.1 pc = .ok (.newarray .int, 2)) (hp : r_pk n = (1, q)) (hv0 : ¬ v < 0) (hv : v.toNatClampNeg = q) (hb : q * componentBytes (newarray.typeOf .int) ≤ 536870912) (h0 : h n = fun _ => 0) (hR : n + 1 ≤ n0 + R.cells ∧ r_tot n + q ≤ r_tot n0 + R.slots)
    (kk : r_T G M R n0 X Z (pc + 2) ls (.ref (G.2.1 + n) :: st) (n + 1) h g z) : r_T G M R n0 X Z pc ls (.int v :: st) n h g z := by
  intro p e s m args below meth c0 H locs cells slots L0 B hX hz hP hS hc hs hl
  refine va_newaK (atype := .int) B.1 B.2.1 (B.2.2.2.2.2.2.2.1 _ r_wa) rfl hd rfl hv0 hv hb (by omega) (by omega) hz fun H1 cA e1 z1 o1 hAr hNm => ?_
  have ec : cA = G.2.2.2.2.1 := by
    have h1 : s.vm.findClass ("[" ++ FieldType.int.toString) = some G.2.2.2.2.1 := (B.2.2.2.2.2.2.2.2.2.2.2 0 _ rfl).2
    exact Option.some.inj (hNm.symm.trans h1)
  subst ec
  refine kk p e s m args below meth c0 H1 locs (cells + 1) (slots + q) L0 B hX z1 (r_P_push hz hP o1 ?_) (r_S_push hz z1 hS o1) (by omega) (by rw [r_sz_a hp]; omega) hl
  rw [r_E_i hp]
  show H1[G.2.1 + n]? = some (vp_cell _ _)
  rw [e1, vp_cell_i, h0]
  rfl
theorem j_anew {i q : Nat} {v : Int32} (hd : decode M.2.1 pc = .ok (.anewarray i, 3)) (hl1 : Cond.classLink M.1.cls i "RingArm$First" ∈ r_wg) (hp : r_pk n = (2, q)) (hv0 : ¬ v < 0) (hv : v.toNatClampNeg = q) (hb : q * 4 ≤ 536870912) (g0 : g n = fun _ => none) (hR : n + 1 ≤ n0 + R.cells ∧ r_tot n + q ≤ r_tot n0 + R.slots)
    (kk : r_T G M R n0 X Z (pc + 3) ls (.ref (G.2.1 + n) :: st) (n + 1) h g z) : r_T G M R n0 X Z pc ls (.int v :: st) n h g z := by
  intro p e s m args below meth c0 H locs cells slots L0 B hX hz hP hS hc hs hl
  subst hv
  refine W.anew B.1 B.2.1 B.2.2.2.2.2.2.1 (B.2.2.2.2.2.2.2.1 _ hl1) (va_AO.use B.2.2.2.2.2.2.2.2.1.2.2.2) rfl hd rfl hv0 hb (by omega) (by omega) fun cA kA comp f1 f2 f3 f4 => ?_
  have ec : cA = G.2.2.2.2.2 := by
    obtain ⟨_, _, -, -, -, h1⟩ := (B.2.2.2.2.2.2.2.2.2.2.2 1 _ rfl).2
    exact Option.some.inj (f1.symm.trans h1)
  subst ec
  generalize hH1 : H.push ({ cls := G.2.2.2.2.2, slots := Array.replicate v.toNatClampNeg .null, vm := .none } : Cell) = H1
  have z1 : H1.size = G.2.1 + n + 1 := by rw [← hH1, Array.size_push, hz]
  have e1 : H1[G.2.1 + n]? = some (arrV G.2.2.2.2.2 v.toNatClampNeg (fun _ => .null)) := by rw [← hH1, ← hz, Array.getElem?_push_size, ← arrV_new]
  have o1 : ∀ q : Nat, q < G.2.1 + n → H1[q]? = H[q]? := fun q hq => by rw [← hH1, Array.getElem?_push, if_neg (Nat.ne_of_lt (hz ▸ hq))]
  rw [hz]
  refine kk p e s m args below meth c0 H1 locs (cells + 1) (slots + v.toNatClampNeg) L0 B hX z1 (r_P_push hz hP o1 ?_) (r_S_push hz z1 hS o1) (by omega) (by rw [r_sz_q hp]; omega) hl
  rw [r_E_q hp]
  show H1[G.2.1 + n]? = some (vp_cell _ _)
  rw [vp_cell_q, e1, g0]
  rfl
theorem j_oinit {i a : Nat} (hd : decode M.2.1 pc = .ok (.invokespecial i, 3)) (hl1 : Cond.methodLink M.1.cls i Lib.objectInit ∈ r_wg) (hR : 1 ≤ R.frames ∧ (st.map fun v => v.category).sum + 12 ≤ R.locals) (k : r_T G M R n0 X Z (pc + 3) ls st n h g z) : r_T G M R n0 X Z pc ls (.ref a :: st) n h g z := by
  intro p e s m args below meth c0 H locs cells slots L0 B hX hz hP hS hc hs hl
  refine W.objInit B.1 B.2.1 B.2.2.2.2.2.2.1 (B.2.2.2.2.2.2.2.1 _ hl1) (B.2.2.2.2.2.2.2.1 _ r_wo1) (B.2.2.2.2.2.2.2.1 _ r_wo2) rfl (by rw [B.2.2.1]; exact hl.1) rfl hd hR.1 ?_ ?_
  · show 2 * 0 + _ + 12 ≤ _
    rw [Nat.mul_zero, Nat.zero_add]
    exact hR.2
  · exact k p e s m args below meth c0 H locs cells slots L0 B hX hz hP hS hc hs hl
theorem r_recv {s : State} {H : Heap} {k c : Nat} (hK : va_K (r_G G) r_cl0 (r_ty G) s) (hP : va_P (r_G G) r_cl0 (r_W G n h g z) H) (hp : r_pk k = (0, c)) (hk : k < n) (hc1 : c < 13) : ∃ cell : Cell, H[G.2.1 + k]? = some cell ∧ cell.vm.isStatics = false ∧ s.vm.findClass (r_cn c) = some cell.cls := by
  obtain ⟨q, hq, e0⟩ := r_cn_at hc1
  rw [e0]
  exact va_recv hK hP hq (q0 := k) (by rw [r_W_at hk, r_E_o hp])
theorem j_instY {i k c : Nat} {nm : String} (hd : decode M.2.1 pc = .ok (.instanceof i, 3)) (hl1 : Cond.classLink M.1.cls i nm ∈ r_wg) (hc1 : c < 13) (hca : (r_cn c, nm) ∈ r_cast) (hp : r_pk k = (0, c)) (hk : k < n) (kk : r_T G M R n0 X Z (pc + 3) ls (.int 1 :: st) n h g z) : r_T G M R n0 X Z pc ls (.ref (G.2.1 + k) :: st) n h g z := by
  intro p e s m args below meth c0 H locs cells slots L0 B hX hz hP hS hc hs hl
  exact va_instY B.1 B.2.1 B.2.2.2.2.2.2.1 (B.2.2.2.2.2.2.2.1 _ hl1) (B.2.2.2.2.2.2.2.2.1.2.1 _ hca) (r_recv B.2.2.2.2.2.2.2.2.2.2 hP hp hk hc1) hd (kk p e s m args below meth c0 H locs cells slots L0 B hX hz hP hS hc hs hl)
theorem j_instN {i k c : Nat} {nm : String} (hd : decode M.2.1 pc = .ok (.instanceof i, 3)) (hl1 : Cond.classLink M.1.cls i nm ∈ r_wg) (hc1 : c < 13) (hca : (r_cn c, nm) ∈ r_ncast) (hp : r_pk k = (0, c)) (hk : k < n) (kk : r_T G M R n0 X Z (pc + 3) ls (.int 0 :: st) n h g z) : r_T G M R n0 X Z pc ls (.ref (G.2.1 + k) :: st) n h g z := by
  intro p e s m args below meth c0 H locs cells slots L0 B hX hz hP hS hc hs hl
  exact va_instNo B.1 B.2.1 B.2.2.2.2.2.2.1 (B.2.2.2.2.2.2.2.1 _ hl1) (B.2.2.2.2.2.2.2.2.1.2.2.1 _ hca) (r_recv B.2.2.2.2.2.2.2.2.2.2 hP hp hk hc1) hd (kk p e s m args below meth c0 H locs cells slots L0 B hX hz hP hS hc hs hl)
theorem j_instS {i k c : Nat} (hd : decode M.2.1 pc = .ok (.instanceof i, 3)) (hl1 : Cond.classLink M.1.cls i (r_cn c) ∈ r_wg) (hc1 : c < 13) (hp : r_pk k = (0, c)) (hk : k < n) (kk : r_T G M R n0 X Z (pc + 3) ls (.int 1 :: st) n h g z) : r_T G M R n0 X Z pc ls (.ref (G.2.1 + k) :: st) n h g z := by
  intro p e s m args below meth c0 H locs cells slots L0 B hX hz hP hS hc hs hl
  obtain ⟨q, hq, e0⟩ := r_cn_at hc1
  have hca := (B.2.2.2.2.2.2.2.2.2.2.1 c _ hq).2
  rw [← e0] at hca
  exact va_instS B.1 B.2.1 B.2.2.2.2.2.2.1 (B.2.2.2.2.2.2.2.1 _ hl1) hca (r_recv B.2.2.2.2.2.2.2.2.2.2 hP hp hk hc1) hd (kk p e s m args below meth c0 H locs cells slots L0 B hX hz hP hS hc hs hl)
theorem j_aast {k y c q9 : Nat} {i : Int32} (hd : decode M.2.1 pc = .ok (.aastore, 1)) (hp : r_pk k = (2, q9)) (hk : k < n) (hy : r_pk y = (0, c)) (hyn : y < n) (hc1 : c < 13) (hca : c = 2 ∨ (r_cn c, "RingArm$First") ∈ r_cast) (hi : vp_in i q9) (kk : r_T G M R n0 X Z (pc + 1) ls st n h (r_ug g k i.toNatClampNeg (some y)) z) : r_T G M R n0 X Z pc ls (.ref (G.2.1 + y) :: .int i :: .ref (G.2.1 + k) :: st) n h g z := by
  intro p e s m args below meth c0 H locs cells slots L0 B hX hz hP hS hc hs hl
  have hat : (r_W G n h g z)[k]? = some (G.2.1 + k, .inl (G.2.2.2.2.2, q9, .inr (.inr (.inr (.inr (fun j => (g k j).map (G.2.1 + ·))))))) := by rw [r_W_at hk, r_E_q hp]
  have hlt : i.toNatClampNeg < q9 := Nat.not_le.mp fun q => hi (Or.inr q)
  have h0 : ¬ i < 0 := fun q => hi (Or.inl q)
  obtain ⟨q, hq, e0⟩ := r_cn_at hc1
  have haty : (r_W G n h g z)[y]? = some (G.2.1 + y, .inr (c, r_fs G.2.1 c h g z y)) := by rw [r_W_at hyn, r_E_o hy]
  obtain ⟨r', hr', cellV, g1, g2, g3, -⟩ := hP y _ haty
  have hcls := (B.2.2.2.2.2.2.2.2.2.2.1 c q hq).2
  obtain ⟨kA, comp, k1, k2, k3, -⟩ := (B.2.2.2.2.2.2.2.2.2.2.2 1 _ rfl).2
  obtain ⟨kE, hkE, -⟩ := Vm.findClass_spec k3
  have hasg : s.vm.assignable (r_G G |>.1 c) comp = true := by
    rcases hca with rfl | hca
    · have e1 : q.1 = "RingArm$First" := by rw [← e0]; rfl
      rw [← e1] at k3
      have e2 : comp = (r_G G).1 2 := Option.some.inj (k3.symm.trans hcls.1)
      rw [e2]
      exact va_asg _ _
    · obtain ⟨c1, t1, f1, f2, f3⟩ := Cond.castable_spec (va_Nw.use (A := args) rfl (B.2.2.2.2.2.2.2.2.1.2.1 _ hca))
      rw [e0] at f1
      cases hcls.1.symm.trans f1
      cases k3.symm.trans f2
      exact f3
  obtain ⟨kC, hkC, -⟩ := hcls.2
  refine W.aast B.1 B.2.1 (hP k _ hat) (fun q h => by cases h) (fun h => by cases h) k1 k2 rfl hkE ⟨h0, by show _ < (arrV _ _ _).slots.size; rw [arrV_size]; exact hlt⟩ g1 (fun q h => by rw [g3] at h; cases h) (by rw [g2]; exact hkC) (by rw [g2]; exact hasg) rfl rfl hd fun H1 e1 z1 oq => ?_
  refine kk p e s m args below meth c0 H1 _ cells slots L0 B hX (z1.trans hz) ?_ (hS.put z1 oq (Nat.le_add_right _ _)) hc hs hl
  rw [← r_set_q (j := i.toNatClampNeg) (v := some y) hp]
  refine hP.set r_D hat ?_ oq
  show H1[G.2.1 + k]? = some (vp_cell _ _)
  rw [e1, vp_cell_q, vp_cell_q, arrV_store]
  refine congrArg (fun f => some (arrV G.2.2.2.2.2 q9 f)) (funext fun q => ?_)
  by_cases hq : q = i.toNatClampNeg
  · simp [updV, va_up, hq, va_rf]
  · simp [updV, va_up, hq]
end
/-- A CALL of M' at pc of M with the arguments av: whatever M' is known to do, the machine does -/
def r_cl (G : r_X) (M M' : r_M) (pc : Nat) (av : List Value) (n : Nat) (h : r_HI) (g : r_HR) (z : r_HL) : Prop :=
  ∀ (p : Program) (e : Env) (R : Room) (s : State) (m : MethodId) (args : Array Value) (below : List Frame) (meth : Method) (c : Code) (H : Heap) (locs : List Loc) (cells slots : Nat) (L0 : Array Slot) (rest : List Value) (rm : Room) (Pc : Array Value → State → Prop) (Qc : Array Value → State → Outcome → State → Prop) (mc ms : Nat) (free : Addr → Prop),
    r_bs G M p s m args meth c → va_P (r_G G) r_cl0 (r_W G n h g z) H → Met G.1 M'.1 (Cond.code M'.1 M'.2.1 M'.2.2.1 M'.2.2.2 :: r_wg) rm Pc Qc mc ms free → FrameBlind Pc → (∀ U : State, U.heap = H → s.WarmedH U.vm → Pc av.toArray U) →
    rm.cells = mc → rm.slots = ms → rm.frames + 1 ≤ R.frames → 8 + (M'.2.2.1 + 11) + rm.locals ≤ R.locals → cells + mc ≤ R.cells ∧ slots + ms ≤ R.slots → L0.size = M.2.2.1 → (rest.map fun v => v.category).sum ≤ 8 →
    va_Run p G.1 e R s m args below meth c H locs cells slots mc ms (F0 m pc L0 (av.reverse ++ rest)) rest (Qc av.toArray) free
abbrev r_mh (y : MethodName) (k : Nat) : Prop := y.cls ≠ "java/lang/invoke/MethodHandle" ∧ y.cls ≠ "java/lang/invoke/VarHandle" ∧ (parseMethodDescriptor y.desc).map (fun d => d.parameters.length) = some k
abbrev r_cw (M : r_M) : Cond := Cond.code M.1 M.2.1 M.2.2.1 M.2.2.2
theorem r_len {y : MethodName} {k : Nat} (h : r_mh y k) : ∀ sig, parseMethodDescriptor y.desc = some sig → k = sig.parameters.length := by
  intro sig hs
  have h2 := h.2.2
  rw [hs] at h2
  exact (Option.some.inj h2).symm
section
variable {G : r_X} {M M' : r_M} {R : Room} {n0 n1 : Nat} {X : State → Prop} {Z : List Frame → Array Value → State → State → Prop} {F : r_F} {pc n : Nat} {ls : List (Nat × Value)} {st : List Value} {h : r_HI} {g : r_HR} {z : r_HL}
theorem r_clS {i : Nat} {av : List Value} (hd : decode M.2.1 pc = .ok (.invokestatic i, 3)) (hk : r_cw M' ∈ r_wg) (hl : Cond.methodLink M.1.cls i M'.1 ∈ r_wg) (hst : Cond.static M'.1 ∈ r_wg) (hi : Cond.initialized M'.1.cls ∈ r_wg) (hm : r_mh M'.1 av.length) : r_cl G M M' pc av n h g z := by
  intro p e R s m args below meth c0 H locs cells slots L0 rest rm Pc Qc mc ms free B hP hM hbl hpre hrc hrs hfr hlo hf hL hcat
  exact va_runS (cc := M.2.1) (nL := M.2.2.1) (Ts := r_wg) (own := M.1.cls) ⟨B.1, B.2.1, B.2.2.1, B.2.2.2.2.2.2.1, B.2.2.2.2.2.2.2.1⟩ hM ⟨⟨hrc, hrs, hfr, hlo, r_pay B.2.2.2.2.2.2.2.1 hk, List.mem_cons_self, B.2.2.2.2.2.2.2.1 _ hk, B.2.2.2.2.2.2.2.1 _ hi, ⟨hm.1, hm.2.1⟩, r_len hm, B.2.2.2.2.2.2.2.1 _ hl⟩, B.2.2.2.2.2.2.2.1 _ hst⟩ ⟨hbl, hpre⟩ rfl rfl hL rfl (lv_room hcat) hd hf
theorem r_clSN {i : Nat} {av : List Value} {host : String} (hd : decode M.2.1 pc = .ok (.invokestatic i, 3)) (hk : r_cw M' ∈ r_wg) (hl : (M.1.cls, i, M'.1, host) ∈ r_nest) (hst : Cond.static M'.1 ∈ r_wg) (hi : Cond.initialized M'.1.cls ∈ r_wg) (hm : r_mh M'.1 av.length) : r_cl G M M' pc av n h g z := by
  intro p e R s m args below meth c0 H locs cells slots L0 rest rm Pc Qc mc ms free B hP hM hbl hpre hrc hrs hfr hlo hf hL hcat
  exact va_runSN (cc := M.2.1) (nL := M.2.2.1) (Ts := r_wg) (own := M.1.cls) (host := host) ⟨B.1, B.2.1, B.2.2.1, B.2.2.2.2.2.2.1, B.2.2.2.2.2.2.2.1⟩ hM ⟨⟨⟨hrc, hrs, hfr, hlo, r_pay B.2.2.2.2.2.2.2.1 hk, List.mem_cons_self⟩, B.2.2.2.2.2.2.2.1 _ hk, B.2.2.2.2.2.2.2.1 _ hi, ⟨hm.1, hm.2.1⟩, r_len hm, va_Nw.use rfl (B.2.2.2.2.2.2.2.2.1.1 _ hl)⟩, B.2.2.2.2.2.2.2.1 _ hst, trivial⟩ ⟨hbl, hpre⟩ rfl rfl hL rfl (lv_room hcat) hd hf
theorem r_clV {i c k : Nat} {As : List Value} (hd : decode M.2.1 pc = .ok (.invokevirtual i, 3)) (hk : r_cw M' ∈ r_wg) (hl : Cond.methodLink M.1.cls i M'.1 ∈ r_wg) (hst : Cond.instanceMethod M'.1 ∈ r_wg) (hse : Cond.selects (r_cn c) M'.1 M'.1 ∈ r_wg) (hi : Cond.initialized M'.1.cls ∈ r_wg) (hm : r_mh M'.1 As.length) (hp : r_pk k = (0, c)) (hkn : k < n) (hc1 : c < 13) : r_cl G M M' pc (.ref (G.2.1 + k) :: As) n h g z := by
  intro p e R s m args below meth c0 H locs cells slots L0 rest rm Pc Qc mc ms free B hP hM hbl hpre hrc hrs hfr hlo hf hL hcat
  exact va_runV (cc := M.2.1) (nL := M.2.2.1) (Ts := r_wg) (own := M.1.cls) (C := r_cn c) ⟨B.1, B.2.1, B.2.2.1, B.2.2.2.2.2.2.1, B.2.2.2.2.2.2.2.1⟩ hM ⟨⟨hrc, hrs, hfr, hlo, r_pay B.2.2.2.2.2.2.2.1 hk, List.mem_cons_self, B.2.2.2.2.2.2.2.1 _ hk, B.2.2.2.2.2.2.2.1 _ hi, ⟨hm.1, hm.2.1⟩, r_len hm, B.2.2.2.2.2.2.2.1 _ hl⟩, B.2.2.2.2.2.2.2.1 _ hst, B.2.2.2.2.2.2.2.1 _ hse⟩ ⟨hbl, r_recv B.2.2.2.2.2.2.2.2.2.2 hP hp hkn hc1, hpre⟩ rfl rfl hL (by simp) (lv_room hcat) hd hf
theorem r_clVN {i c k : Nat} {As : List Value} {host : String} (hd : decode M.2.1 pc = .ok (.invokevirtual i, 3)) (hk : r_cw M' ∈ r_wg) (hl : (M.1.cls, i, M'.1, host) ∈ r_nest) (hst : Cond.instanceMethod M'.1 ∈ r_wg) (hse : Cond.selects (r_cn c) M'.1 M'.1 ∈ r_wg) (hi : Cond.initialized M'.1.cls ∈ r_wg) (hm : r_mh M'.1 As.length) (hp : r_pk k = (0, c)) (hkn : k < n) (hc1 : c < 13) : r_cl G M M' pc (.ref (G.2.1 + k) :: As) n h g z := by
  intro p e R s m args below meth c0 H locs cells slots L0 rest rm Pc Qc mc ms free B hP hM hbl hpre hrc hrs hfr hlo hf hL hcat
  exact va_runVN (cc := M.2.1) (nL := M.2.2.1) (Ts := r_wg) (own := M.1.cls) (host := host) (C := r_cn c) ⟨B.1, B.2.1, B.2.2.1, B.2.2.2.2.2.2.1, B.2.2.2.2.2.2.2.1⟩ hM ⟨⟨⟨hrc, hrs, hfr, hlo, r_pay B.2.2.2.2.2.2.2.1 hk, List.mem_cons_self⟩, B.2.2.2.2.2.2.2.1 _ hk, B.2.2.2.2.2.2.2.1 _ hi, ⟨hm.1, hm.2.1⟩, r_len hm, va_Nw.use rfl (B.2.2.2.2.2.2.2.2.1.1 _ hl)⟩, B.2.2.2.2.2.2.2.1 _ hst, B.2.2.2.2.2.2.2.1 _ hse⟩ ⟨hbl, r_recv B.2.2.2.2.2.2.2.2.2.2 hP hp hkn hc1, hpre⟩ rfl rfl hL (by simp) (lv_room hcat) hd hf
theorem r_clU {i c k : Nat} {x : MethodName} {owner : String} {As : List Value} {M0 : r_M} (hd : decode M.2.1 pc = .ok (.invokevirtual i, 3)) (hk : r_cw M' ∈ r_wg) (hl : Cond.methodLink M.1.cls i x ∈ r_wg) (hsm : Cond.sameMethod x.cls owner x.name x.desc ∈ r_wg) (hst0 : Cond.instanceMethod ⟨owner, x.name, x.desc⟩ ∈ r_wg) (hk0 : r_cw M0 ∈ r_wg) (hM0 : M0.1 = ⟨owner, x.name, x.desc⟩) (hst : Cond.instanceMethod M'.1 ∈ r_wg) (hse : Cond.selects (r_cn c) x M'.1 ∈ r_wg) (hi : Cond.initialized M'.1.cls ∈ r_wg) (ho : owner ≠ "java/lang/invoke/MethodHandle" ∧ owner ≠ "java/lang/invoke/VarHandle") (hm : r_mh x As.length) (hp : r_pk k = (0, c)) (hkn : k < n) (hc1 : c < 13) : r_cl G M M' pc (.ref (G.2.1 + k) :: As) n h g z := by
  intro p e R s m args below meth c0 H locs cells slots L0 rest rm Pc Qc mc ms free B hP hM hbl hpre hrc hrs hfr hlo hf hL hcat
  have hdc : va_Decl s ⟨owner, x.name, x.desc⟩ := by
    have h1 := B.2.2.2.2.2.2.2.1 _ hk0
    rw [r_cw, hM0] at h1
    exact va_Decl.of (B.2.2.2.2.2.2.2.1 _ hst0) h1
  exact va_runU (cc := M.2.1) (nL := M.2.2.1) (Ts := r_wg) (own := M.1.cls) (C := r_cn c) (owner := owner) ⟨B.1, B.2.1, B.2.2.1, B.2.2.2.2.2.2.1, B.2.2.2.2.2.2.2.1⟩ hM ⟨⟨hrc, hrs, hfr, hlo, r_pay B.2.2.2.2.2.2.2.1 hk, List.mem_cons_self⟩, B.2.2.2.2.2.2.2.1 _ hk, B.2.2.2.2.2.2.2.1 _ hi, ho, r_len hm, B.2.2.2.2.2.2.2.1 _ hl, B.2.2.2.2.2.2.2.1 _ hsm, hdc, B.2.2.2.2.2.2.2.1 _ hse, B.2.2.2.2.2.2.2.1 _ hst⟩ ⟨hbl, r_recv B.2.2.2.2.2.2.2.2.2.2 hP hp hkn hc1, hpre⟩ rfl rfl hL (by simp) (lv_room hcat) hd hf
theorem r_clI {i a : Nat} {As : List Value} (hd : decode M.2.1 pc = .ok (.invokespecial i, 3)) (hk : r_cw M' ∈ r_wg) (hrt : M'.2.2.2 = none) (hl : Cond.methodLink M.1.cls i M'.1 ∈ r_wg) (hst : Cond.instanceMethod M'.1 ∈ r_wg) (hnm : M'.1.name = "<init>") (hi : Cond.initialized M'.1.cls ∈ r_wg) (hm : r_mh M'.1 As.length) : r_cl G M M' pc (.ref a :: As) n h g z := by
  intro p e R s m args below meth c0 H locs cells slots L0 rest rm Pc Qc mc ms free B hP hM hbl hpre hrc hrs hfr hlo hf hL hcat
  rw [hrt] at hM
  rw [r_cw, hrt] at hk
  exact va_runI (cc := M.2.1) (nL := M.2.2.1) (Ts := r_wg) (own := M.1.cls) ⟨B.1, B.2.1, B.2.2.1, B.2.2.2.2.2.2.1, B.2.2.2.2.2.2.2.1⟩ hM ⟨⟨hrc, hrs, hfr, hlo, r_pay B.2.2.2.2.2.2.2.1 hk, List.mem_cons_self, B.2.2.2.2.2.2.2.1 _ hk, B.2.2.2.2.2.2.2.1 _ hi, ⟨hm.1, hm.2.1⟩, r_len hm, B.2.2.2.2.2.2.2.1 _ hl⟩, hnm, B.2.2.2.2.2.2.2.1 _ hst⟩ ⟨hbl, hpre⟩ rfl rfl hL (by simp) (lv_room hcat) hd hf
theorem r_clIN {i a : Nat} {As : List Value} {host : String} (hd : decode M.2.1 pc = .ok (.invokespecial i, 3)) (hk : r_cw M' ∈ r_wg) (hrt : M'.2.2.2 = none) (hl : (M.1.cls, i, M'.1, host) ∈ r_nest) (hst : Cond.instanceMethod M'.1 ∈ r_wg) (hnm : M'.1.name = "<init>") (hi : Cond.initialized M'.1.cls ∈ r_wg) (hm : r_mh M'.1 As.length) : r_cl G M M' pc (.ref a :: As) n h g z := by
  intro p e R s m args below meth c0 H locs cells slots L0 rest rm Pc Qc mc ms free B hP hM hbl hpre hrc hrs hfr hlo hf hL hcat
  rw [hrt] at hM
  rw [r_cw, hrt] at hk
  exact va_runIN (cc := M.2.1) (nL := M.2.2.1) (Ts := r_wg) (own := M.1.cls) (host := host) ⟨B.1, B.2.1, B.2.2.1, B.2.2.2.2.2.2.1, B.2.2.2.2.2.2.2.1⟩ hM ⟨⟨⟨hrc, hrs, hfr, hlo, r_pay B.2.2.2.2.2.2.2.1 hk, List.mem_cons_self⟩, B.2.2.2.2.2.2.2.1 _ hk, B.2.2.2.2.2.2.2.1 _ hi, ⟨hm.1, hm.2.1⟩, r_len hm, va_Nw.use rfl (B.2.2.2.2.2.2.2.2.1.1 _ hl)⟩, hnm, B.2.2.2.2.2.2.2.1 _ hst⟩ ⟨hbl, hpre⟩ rfl rfl hL (by simp) (lv_room hcat) hd hf
/-- the room of a call -/
def r_ok (R : Room) (n0 n n1 d mL : Nat) : Prop := d + 1 ≤ R.frames ∧ 8 + (mL + 11) + 60 * d ≤ R.locals ∧ n ≤ n1 ∧ n1 ≤ n0 + R.cells ∧ r_tot n1 ≤ r_tot n0 + R.slots
theorem j_call {av rest : List Value} {d n2 : Nat} (hcl : r_cl G M M' pc av n h g z) (hC : r_C G M' d n2 av n h g z (fun v h' g' z' => r_T G M R n0 X Z (pc + 3) ls (v.toList ++ rest) n2 h' g' z')) (hok : r_ok R n0 n n2 d M'.2.2.1) (hcat : (rest.map fun v => v.category).sum ≤ 8) (hst : av.reverse ++ rest = st) : r_T G M R n0 X Z pc ls st n h g z := by
  subst hst
  intro p e s m args below meth c0 H locs cells slots L0 B hX hz hP hS hc hs hl
  obtain ⟨o1, o2, o3, o4, o5⟩ := hok
  have ht := r_tot_mono o3
  have run := hcl p e R s m args below meth c0 H locs cells slots L0 rest _ _ _ _ _ _ B hP hC (fun a U fr mk q => by
      obtain ⟨q0, ⟨q1, q2, q3⟩, q4, q5⟩ := q
      exact ⟨q0, ⟨q1, q2, va_K.moved (u := U) (U := U.calling fr mk a) (Vm.Alike.refl U.vm) q3⟩, r_ow.same (s := U) rfl q4, q5⟩)
    (fun U hU hW => ⟨rfl, ⟨by rw [hU]; exact hz, by rw [hU]; exact hP, va_K.moved hW.alike B.2.2.2.2.2.2.2.2.2.2⟩, r_ow.moved hW B.2.2.2.2.2.2.2.2.1, by rw [hU, hz]; exact Nat.le_add_right _ _⟩) rfl rfl o1 o2 ⟨by omega, by omega⟩ hl.1 hcat
  intro T hT X1
  obtain ⟨v, st₀, t, T', L, h0, X', hL, e1, e2, ⟨⟨v', h', g', z', hv, hF, w1, w2, w3⟩, hz1, hk1⟩, hst⟩ := run T hT X1
  cases hv
  rw [h0] at hz1 hk1
  obtain ⟨t2, a1, b1⟩ := hF p e s m args below meth c0 T'.heap (locs ++ L) (cells + (n2 - n)) (slots + (r_tot n2 - r_tot n)) L0 B hX (by rw [e1]; exact w1) (by rw [e1]; exact w2)
    ⟨Nat.le_trans hS.1 (by rw [e1]; exact hz1), fun q h1 h2 => by rw [e1, hk1 q (Nat.lt_of_lt_of_le h1 hS.1) h2]; exact hS.2.1 q h1 h2, fun q hq => by
      rcases List.mem_append.mp hq with h | h
      · exact hS.2.2 q h
      · exact hL q h⟩ (by omega) (by omega) hl T' rfl X'
  exact ⟨t2, hst t2 a1, b1⟩
end
abbrev r_Ci (G : r_X) (M : r_M) (d n1 : Nat) (av : List Value) (n : Nat) (h : r_HI) (g : r_HR) (z : r_HL) (F : Int32 → r_HI → r_HR → r_HL → Prop) : Prop := r_C G M d n1 av n h g z (fun v h' g' z' => ∃ r, v = some (.int r) ∧ F r h' g' z')
abbrev r_Cl (G : r_X) (M : r_M) (d n1 : Nat) (av : List Value) (n : Nat) (h : r_HI) (g : r_HR) (z : r_HL) (F : Int64 → r_HI → r_HR → r_HL → Prop) : Prop := r_C G M d n1 av n h g z (fun v h' g' z' => ∃ r, v = some (.long r) ∧ F r h' g' z')
abbrev r_Cv (G : r_X) (M : r_M) (d n1 : Nat) (av : List Value) (n : Nat) (h : r_HI) (g : r_HR) (z : r_HL) (F : r_HI → r_HR → r_HL → Prop) : Prop := r_C G M d n1 av n h g z (fun v h' g' z' => v = none ∧ F h' g' z')
abbrev r_Ca (G : r_X) (M : r_M) (d n1 : Nat) (av : List Value) (n : Nat) (h : r_HI) (g : r_HR) (z : r_HL) (F : Nat → r_HI → r_HR → r_HL → Prop) : Prop := r_C G M d n1 av n h g z (fun v h' g' z' => ∃ y, v = some (.ref (G.2.1 + y)) ∧ F y h' g' z')
theorem r_C_mono {G : r_X} {M : r_M} {d n1 : Nat} {av : List Value} {n : Nat} {h : r_HI} {g : r_HR} {z : r_HL} {F F' : r_F} (hF : ∀ v h' g' z', F v h' g' z' → F' v h' g' z') (hC : r_C G M d n1 av n h g z F) : r_C G M d n1 av n h g z F' := by
  intro p e ha hc hk s m args below hf happ hP hT
  obtain ⟨t, o, h1, h2, h3, ⟨⟨v, h', g', z', ho, hv, hw⟩, hfr⟩, hL⟩ := hC p e ha hc hk s m args below hf happ hP hT
  exact ⟨t, o, h1, h2, h3, ⟨⟨v, h', g', z', ho, hF _ _ _ _ hv, hw⟩, hfr⟩, hL⟩
section
variable {G : r_X} {M M' : r_M} {R : Room} {n0 n1 : Nat} {X : State → Prop} {Z : List Frame → Array Value → State → State → Prop} {F : r_F} {pc n : Nat} {ls : List (Nat × Value)} {st : List Value} {h : r_HI} {g : r_HR} {z : r_HL}
theorem j_calli {av rest : List Value} {d n2 : Nat} (hcl : r_cl G M M' pc av n h g z) (hC : r_Ci G M' d n2 av n h g z (fun r h' g' z' => r_T G M R n0 X Z (pc + 3) ls (.int r :: rest) n2 h' g' z')) (hok : r_ok R n0 n n2 d M'.2.2.1) (hcat : (rest.map fun v => v.category).sum ≤ 8) (hst : av.reverse ++ rest = st) : r_T G M R n0 X Z pc ls st n h g z :=
  j_call hcl (r_C_mono (fun v h' g' z' q => by obtain ⟨r, rfl, q⟩ := q; exact q) hC) hok hcat hst
theorem j_calll {av rest : List Value} {d n2 : Nat} (hcl : r_cl G M M' pc av n h g z) (hC : r_Cl G M' d n2 av n h g z (fun r h' g' z' => r_T G M R n0 X Z (pc + 3) ls (.long r :: rest) n2 h' g' z')) (hok : r_ok R n0 n n2 d M'.2.2.1) (hcat : (rest.map fun v => v.category).sum ≤ 8) (hst : av.reverse ++ rest = st) : r_T G M R n0 X Z pc ls st n h g z :=
  j_call hcl (r_C_mono (fun v h' g' z' q => by obtain ⟨r, rfl, q⟩ := q; exact q) hC) hok hcat hst
theorem j_calla {av rest : List Value} {d n2 : Nat} (hcl : r_cl G M M' pc av n h g z) (hC : r_Ca G M' d n2 av n h g z (fun r h' g' z' => r_T G M R n0 X Z (pc + 3) ls (.ref (G.2.1 + r) :: rest) n2 h' g' z')) (hok : r_ok R n0 n n2 d M'.2.2.1) (hcat : (rest.map fun v => v.category).sum ≤ 8) (hst : av.reverse ++ rest = st) : r_T G M R n0 X Z pc ls st n h g z :=
  j_call hcl (r_C_mono (fun v h' g' z' q => by obtain ⟨r, rfl, q⟩ := q; exact q) hC) hok hcat hst
theorem j_callv {av rest : List Value} {d n2 : Nat} (hcl : r_cl G M M' pc av n h g z) (hC : r_Cv G M' d n2 av n h g z (fun h' g' z' => r_T G M R n0 X Z (pc + 3) ls rest n2 h' g' z')) (hok : r_ok R n0 n n2 d M'.2.2.1) (hcat : (rest.map fun v => v.category).sum ≤ 8) (hst : av.reverse ++ rest = st) : r_T G M R n0 X Z pc ls st n h g z :=
  j_call hcl (r_C_mono (fun v h' g' z' q => by obtain ⟨rfl, q⟩ := q; exact q) hC) hok hcat hst
theorem r_ok_m {d n n1 mL : Nat} (hm : mL ≤ 41) : r_ok (r_rm (d + 1) n n) n n n d mL := ⟨Nat.le_refl _, by simp only [r_rm]; omega, Nat.le_refl _, Nat.le_add_right _ _, Nat.le_add_right _ _⟩
end
