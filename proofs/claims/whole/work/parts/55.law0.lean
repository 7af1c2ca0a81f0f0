/-! ===== the law: its words, its rows ===== -/
def R_law : String := "RingArmLaw"
def lw_P (b : Addr) (xs : List Int32) (args : Array Value) (s : State) : Prop := args = #[.ref b] ∧ s.IntsAt b xs ∧ xs.length ≤ 2048 ∧ (Jvm.Cond.and given_1 narrow_1).before args s = true
def lw_Q (_ : Array Value) (s : State) (o : Outcome) (t : State) : Prop := o = .returned (some (.int 1)) ∧ Framed s o t [] 600000 7302250
def lw_Z (below : List Frame) (a : Array Value) (s : State) : State → Prop := fun t => ∃ o, t.status = .running ∧ Ended t below o ∧ lw_Q a s o t
/-- the law's own end, with 1 on the stack -/
theorem lw_ret {p : Program} {l : Launch} {e : Env} {s : State} {m : MethodId} {args : Array Value} {below : List Frame} {meth : Method} {c : Code} (hx : p.tables.exec = Jvm.exec) (hb : c.code = code) (hr : meth.sig.returnType = ret) (hlocks : meth.locks = false) {pc : Nat} {H : Heap} {ls : Array Slot} (hdg : decode code pc = .ok (.ireturn, 1)) : W p l e room_1 s m args below meth c H [] 600000 7302250 (lw_Z below args s) (F0 m pc ls [.int 1]) := by
  intro T hT X
  obtain ⟨fs, hret, hrun, hended, hW, hframe⟩ := X.leave (v := some (.int 1)) (hlocks := hlocks) (fun h => by rw [hr] at h; cases h)
  have hmeth' : T.vm.method? m = some meth := X.method'
  refine ⟨T.setFrames fs, ?_, .returned (some (.int 1)), hrun, hended, rfl, ⟨_, rfl⟩, hW, hframe⟩
  jvm_step X.here [X.here.top, hx, hb, hdg, hmeth', hr, ret, narrow_b1]
  (try refine ⟨rfl, ?_⟩); (try refine ⟨rfl, ?_⟩)
  first | (intro acts; rw [hret _ acts rfl rfl rfl]) | rw [hret _ _ rfl rfl rfl]
  exact Steps.refl _
/-- what holds at the law's entry -/
def lw_At (p : Program) (s : State) (m : MethodId) (meth : Method) (c : Code) (b L : Nat) (xs : Nat → Int32) : Prop :=
  p.tables.exec = Jvm.exec ∧ c.code = code ∧ meth.sig.returnType = ret ∧ c.maxLocals = 4 ∧ s.vm.findClass R_law = some m.cls ∧ (∀ w ∈ lw_tbl, w.before #[Value.ref b] s = true) ∧ va_X b L xs s s.heap ∧ b < s.heap.size ∧ meth.locks = false ∧ (Jvm.Cond.and given_1 narrow_1).before #[Value.ref b] s = true ∧ meth.name = m_Lw_law.1.name
/-- the script -/
def lw_X (G : r_X) (b L : Nat) (xs : Nat → Int32) : State → Prop := fun s => va_X b L xs s s.heap ∧ b < s.heap.size ∧ G.2.1 = s.heap.size
abbrev r_L (G : r_X) (b L : Nat) (xs : Nat → Int32) (pc : Nat) (ls : List (Nat × Value)) (st : List Value) (n : Nat) (h : r_HI) (g : r_HR) (z : r_HL) : Prop := r_T G m_Lw_law room_1 0 (lw_X G b L xs) lw_Z pc ls st n h g z
section
variable {G : r_X} {b L : Nat} {xs : Nat → Int32} {pc n : Nat} {ls : List (Nat × Value)} {st : List Value} {h : r_HI} {g : r_HR} {z : r_HL}
theorem j_slen (hd : decode m_Lw_law.2.1 pc = .ok (.arraylength, 1)) (k : r_L G b L xs (pc + 1) ls (.int (nI L) :: st) n h g z) : r_L G b L xs pc ls (.ref b :: st) n h g z := by
  intro p e s m args below meth c H locs cells slots L0 B hX hz hP hS hc hs hl
  obtain ⟨x1, x2, x3⟩ := id hX
  exact va_slen B.1 B.2.1 x1 x2 (by show ¬ G.2.1 ≤ b; omega) hS hd (k p e s m args below meth c H locs cells slots L0 B hX hz hP hS hc hs hl)
theorem j_sld {i : Int32} {j : Nat} (hd : decode m_Lw_law.2.1 pc = .ok (.iaload, 1)) (hi : i = nI j) (hj : j < L) (hL : L ≤ 2048) (k : r_L G b L xs (pc + 1) ls (.int (xs j) :: st) n h g z) : r_L G b L xs pc ls (.int i :: .ref b :: st) n h g z := by
  intro p e s m args below meth c H locs cells slots L0 B hX hz hP hS hc hs hl
  obtain ⟨x1, x2, x3⟩ := id hX
  have hL2 : L < 2 ^ 31 := by omega
  have K := k p e s m args below meth c H locs cells slots L0 B hX hz hP hS hc hs hl
  have e9 : i.toNatClampNeg = j := by rw [hi]; exact nI_cl (by omega)
  refine va_sld B.1 B.2.1 x1 x2 (by show ¬ G.2.1 ≤ b; omega) hS (i := i) (by rw [hi]; exact nI_ix hj hL2) hd ?_
  rw [e9]
  exact K
theorem j_lwret (hd : decode m_Lw_law.2.1 pc = .ok (.ireturn, 1)) (hn : n ≤ 600000) (ht : r_tot n ≤ 7302250) : r_L G b L xs pc ls [.int 1] n h g z := by
  intro p e s m args below meth c H locs cells slots L0 B hX hz hP hS hc hs hl
  obtain ⟨x1, x2, x3⟩ := id hX
  have h0 : r_tot 0 = 0 := rfl
  refine W.widen (k := 600000) (n := 7302250) (by omega) (by omega) ?_
  refine va_forget (fun q hq => ?_) ?_
  · have := hS.2.2 q hq
    show s.heap.size ≤ q.base
    rw [← x3]
    exact this
  · exact lw_ret B.1 B.2.1 B.2.2.2.1 B.2.2.2.2.1 hd
theorem lw_ok {mL : Nat} (h : mL ≤ 41) : r_ok room_1 0 61 61 22 mL := by
  refine ⟨?_, ?_, Nat.le_refl _, ?_, ?_⟩
  · show 23 ≤ 2048
    omega
  · show 8 + (mL + 11) + 60 * 22 ≤ 84000
    omega
  · show 61 ≤ 0 + 600000
    omega
  · show r_tot 61 ≤ r_tot 0 + 7302250
    decide +kernel
theorem q_Li {M' : r_M} {X : State → Prop} {Z : List Frame → Array Value → State → State → Prop} {av rest : List Value} (hcl : r_cl G m_Lw_law M' pc av 61 h g z) (hst : av.reverse ++ rest = st) (hm : M'.2.2.1 ≤ 41) (hcat : (rest.map fun v => v.category).sum ≤ 8) (hC : r_Ci G M' 22 61 av 61 h g z (fun r h' g' z' => r_T G m_Lw_law room_1 0 X Z (pc + 3) ls (.int r :: rest) 61 h' g' z')) : r_T G m_Lw_law room_1 0 X Z pc ls st 61 h g z := j_calli hcl hC (lw_ok hm) hcat hst
theorem q_Ll {M' : r_M} {X : State → Prop} {Z : List Frame → Array Value → State → State → Prop} {av rest : List Value} (hcl : r_cl G m_Lw_law M' pc av 61 h g z) (hst : av.reverse ++ rest = st) (hm : M'.2.2.1 ≤ 41) (hcat : (rest.map fun v => v.category).sum ≤ 8) (hC : r_Cl G M' 22 61 av 61 h g z (fun r h' g' z' => r_T G m_Lw_law room_1 0 X Z (pc + 3) ls (.long r :: rest) 61 h' g' z')) : r_T G m_Lw_law room_1 0 X Z pc ls st 61 h g z := j_calll hcl hC (lw_ok hm) hcat hst
end
/-! ===== the two states beside each other ===== -/
theorem p_D.ml {h h' : r_HI} {k : Nat} {D : a_D} (hD : p_D h k D) (e : r_ml h h') (hk : k + 3 < 47) : p_D h' k D := by
  unfold p_D
  rw [e k (by omega), e (k + 1) (by omega), e (k + 2) (by omega), e (k + 3) (by omega)]
  exact hD
theorem p_K.ml {h h' : r_HI} {k : Nat} {K : a_K} (hK : p_K h k K) (e : r_ml h h') (hk : k + 3 < 47) : p_K h' k K := by
  unfold p_K
  rw [e k (by omega), e (k + 1) (by omega), e (k + 2) (by omega), e (k + 3) (by omega)]
  exact hK
theorem p_W.ml {h h' : r_HI} {k : Nat} {w : Nat → Nat} (hW : p_W h k w) (e : r_ml h h') (hk : k + 1 < 47) : p_W h' k w := by
  unfold p_W
  rw [e (k + 1) (by omega)]
  exact hW
theorem p_S.ml {h h' : r_HI} {k : Nat} {S : a_S} (hS : p_S h k S) (e : r_ml h h') (hk : k + 2 < 47) : p_S h' k S := by
  unfold p_S
  rw [e k (by omega), e (k + 1) (by omega), e (k + 2) (by omega)]
  exact hS
theorem p_V.ml {h h' : r_HI} {V : a_V} {a b c d : Nat} (hV : p_V h a b c d V) (e : r_ml h h') (ha : a + 3 < 47) (hb : b + 3 < 47) (hc : c + 1 < 47) (hd : d + 2 < 47) : p_V h' a b c d V := ⟨hV.1.ml e ha, hV.2.1.ml e hb, hV.2.2.1.ml e hc, hV.2.2.2.ml e hd⟩
theorem p_C.ml {h h' : r_HI} {p q : Nat} {Z : a_Z} (hC : p_C h p q Z) (e : r_ml h h') : p_C h' p q Z := by
  obtain ⟨c1, c2, c3, c4, c5, c6, c7, c8, c9⟩ := hC
  have e0 : h' 0 = h 0 := e 0 (by decide)
  refine ⟨?_, c2.ml e (by decide) (by decide) (by decide) (by decide), by rw [e0]; exact c3, by rw [e0]; exact c4, by rw [e0]; exact c5, c6, c7, c8, fun f => ⟨(c9 f).1.ml e (by decide) (by decide) (by decide) (by decide), (c9 f).2⟩⟩
  unfold p_P
  rw [e 1 (by decide), e 2 (by decide)]
  exact c1
theorem p_M.mo {h h' : r_HI} {Z : a_Z} (hM : p_M h Z) (e : r_mo h h') : p_M h' Z := by
  have e47 := e 47 (by decide)
  have e48 := e 48 (by decide)
  have e49 := e 49 (by decide)
  have e50 := e 50 (by decide)
  have e51 := e 51 (by decide)
  have e55 := e 55 (by decide)
  have e56 := e 56 (by decide)
  have e57 := e 57 (by decide)
  have e58 := e 58 (by decide)
  have e59 := e 59 (by decide)
  have e60 := e 60 (by decide)
  unfold p_M p_G p_N p_J p_A p_Wm p_Sm p_kk p_kp p_A p_Wm p_Sm at hM ⊢
  rw [e47, e48, e49, e50, e51, e55, e56, e57, e58, e59, e60]
  exact hM
theorem z_I.mono {Z : a_Z} {k k' : Nat} (h : z_I Z k) (hk : k ≤ k') : z_I Z k' := ⟨h.1, Nat.le_trans h.2 hk⟩
theorem lg_same (x : Int64) : lg_cmp x x = 0 := by
  have h1 : ¬ lg_cmp x x < 0 := fun e => absurd (lgc_lt.mp e) (by omega)
  have h2 : ¬ 0 < lg_cmp x x := fun e => absurd (lgc_gt.mp e) (by omega)
  rw [Int32.lt_iff_toInt_lt] at h1 h2
  have e0 : (0 : Int32).toInt = 0 := by decide
  apply Int32.toInt_inj.mp
  rw [e0] at h1 h2 ⊢
  omega
theorem lw_gt {L i : Nat} (hL : L ≤ 2048) (hi : i ≤ 4096) : nI L - 4 < nI i ↔ L < i + 4 := by
  rw [show (4 : Int32) = nI 4 from rfl]
  simp only [iI_n, iI_sub]
  rw [iI_lt (by omega) (by omega) (by omega) (by omega)]
  omega
