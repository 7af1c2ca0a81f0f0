/-! ===== the world: places by their order of making; ints, references (to places) and longs by place and index ===== -/
abbrev r_HI : Type := Nat → Nat → Int32
abbrev r_HR : Type := Nat → Nat → Option Nat
abbrev r_HL : Type := Nat → Nat → Int64
/-- the launch, the first address, the classes' numbers and slots, the two array classes -/
abbrev r_X : Type := Launch × Nat × (Nat → ClassId) × (Nat → Nat → Nat) × ClassId × ClassId
/-- what lies at a place: (0, number of its class), (1, length) an int array, (2, length) an array of First -/
def r_pk (k : Nat) : Nat × Nat := ([(0, 11), (0, 5), (1, 28), (0, 1), (1, 10), (1, 10), (1, 10), (0, 0), (1, 7), (1, 7), (1, 7), (0, 10), (1, 6), (1, 6), (1, 6), (0, 7), (1, 6), (1, 6), (2, 5), (0, 2), (0, 3), (0, 9), (0, 6), (0, 8), (0, 2), (0, 1), (1, 10), (1, 10), (1, 10), (0, 0), (1, 7), (1, 7), (1, 7), (0, 10), (1, 6), (1, 6), (1, 6), (0, 7), (1, 6), (1, 6), (0, 0), (1, 7), (1, 7), (1, 7), (0, 4), (1, 7), (1, 7), (0, 12), (1, 28), (1, 10), (1, 10), (1, 21), (1, 21), (1, 896), (1, 7), (1, 6), (1, 12), (1, 10), (1, 21), (1, 6), (1, 12)] : List (Nat × Nat)).getD k (9, 0)
/-- the kind of a field: 0 a number, 1 a reference, 2 a long, 3 a truth value -/
def r_ft (c j : Nat) : Nat := (([[1, 1, 1, 1, 0, 0, 0, 3, 0], [1, 1, 1, 0, 0, 0], [], [], [1, 1, 0, 0], [1, 0], [], [1, 1, 0], [], [], [1, 1, 1, 0], [1, 1, 1, 1, 1, 1, 1, 1, 1, 1, 1, 1, 3, 1, 1, 0, 0], [1, 0, 0, 0, 0, 0, 0, 0, 0, 0, 0, 0, 1, 1, 1, 0, 0, 0, 0, 1, 0, 1, 1, 1, 0, 1, 0, 0, 0, 0, 0, 0, 0, 0, 0, 0, 1, 1, 1, 1, 2]] : List (List Nat)).getD c []).getD j 9
def r_nf (c : Nat) : Nat := ([9, 6, 0, 0, 4, 2, 0, 3, 0, 0, 4, 17, 41] : List Nat).getD c 0
def r_sz (k : Nat) : Nat := if (r_pk k).1 = 0 then r_nf (r_pk k).2 else (r_pk k).2
def r_tot : Nat → Nat | 0 => 0 | n + 1 => r_tot n + r_sz n
def r_up (h : r_HI) (k j : Nat) (v : Int32) : r_HI := fun a => if a = k then upd (h a) j v else h a
def r_ug (g : r_HR) (k j : Nat) (v : Option Nat) : r_HR := fun a => if a = k then va_up (g a) j v else g a
def r_uz (z : r_HL) (k j : Nat) (v : Int64) : r_HL := fun a => if a = k then vp_updL (z a) j v else z a
def r_fv (b t : Nat) (h : r_HI) (g : r_HR) (z : r_HL) (k j : Nat) : Value := match t with
  | 0 => .int (h k j)
  | 1 => va_rf ((g k j).map (b + ·))
  | 2 => .long (z k j)
  | _ => .int (h k j)
def r_fs (b c : Nat) (h : r_HI) (g : r_HR) (z : r_HL) (k : Nat) : List Value := (List.range (r_nf c)).map (fun j => r_fv b (r_ft c j) h g z k j)
def r_E (G : r_X) (h : r_HI) (g : r_HR) (z : r_HL) (k : Nat) : va_E := match r_pk k with
  | (0, c) => .inr (c, r_fs G.2.1 c h g z k)
  | (1, n) => .inl (G.2.2.2.2.1, n, .inl (h k))
  | (_, n) => .inl (G.2.2.2.2.2, n, .inr (.inr (.inr (.inr (fun j => (g k j).map (G.2.1 + ·))))))
def r_W (G : r_X) (n : Nat) (h : r_HI) (g : r_HR) (z : r_HL) : va_W := (List.range n).map (fun k => (G.2.1 + k, r_E G h g z k))
section
variable {G : r_X} {n k : Nat} {h h' : r_HI} {g g' : r_HR} {z z' : r_HL}
theorem r_W_at (hk : k < n) : (r_W G n h g z)[k]? = some (G.2.1 + k, r_E G h g z k) := by simp [r_W, hk]
theorem r_W_inv {p : Nat × va_E} (e : (r_W G n h g z)[k]? = some p) : k < n ∧ p = (G.2.1 + k, r_E G h g z k) := by
  by_cases hk : k < n
  · rw [r_W_at hk] at e
    exact ⟨hk, (Option.some.inj e).symm⟩
  · have hl : (r_W G n h g z)[k]? = none := by simp [r_W]; omega
    rw [hl] at e
    cases e
theorem r_D : va_D (fun q => G.2.1 ≤ q) (r_W G n h g z) := by
  refine ⟨fun i j p q hi hj e => ?_, fun k q hk => ?_⟩
  · have h1 := (r_W_inv hi).2
    have h2 := (r_W_inv hj).2
    subst h1; subst h2
    exact Nat.add_left_cancel e
  · have h1 := (r_W_inv hk).2
    subst h1
    exact Nat.le_add_right _ _
theorem r_E_eq (h1 : h' k = h k) (h2 : g' k = g k) (h3 : z' k = z k) : r_E G h' g' z' k = r_E G h g z k := by
  simp only [r_E, r_fs, r_fv, h1, h2, h3]
theorem r_W_set {e : va_E} (he : e = r_E G h' g' z' k) (ho : ∀ a, a ≠ k → h' a = h a ∧ g' a = g a ∧ z' a = z a) : (r_W G n h g z).set k (G.2.1 + k, e) = r_W G n h' g' z' := by
  subst he
  apply List.ext_getElem?
  intro i
  by_cases hi : i < n
  · by_cases hik : k = i
    · subst hik
      rw [List.getElem?_set_self (by simp [r_W, hi]), r_W_at hi]
    · rw [List.getElem?_set_ne hik, r_W_at hi, r_W_at hi, r_E_eq (ho i (fun q => hik q.symm)).1 (ho i (fun q => hik q.symm)).2.1 (ho i (fun q => hik q.symm)).2.2]
  · have h1 : ((r_W G n h g z).set k (G.2.1 + k, r_E G h' g' z' k))[i]? = none := by simp [r_W]; omega
    have h2 : (r_W G n h' g' z')[i]? = none := by simp [r_W]; omega
    rw [h1, h2]
theorem r_E_o {c : Nat} (hp : r_pk k = (0, c)) : r_E G h g z k = .inr (c, r_fs G.2.1 c h g z k) := by simp [r_E, hp]
theorem r_E_i {m : Nat} (hp : r_pk k = (1, m)) : r_E G h g z k = .inl (G.2.2.2.2.1, m, .inl (h k)) := by simp [r_E, hp]
theorem r_E_q {m : Nat} (hp : r_pk k = (2, m)) : r_E G h g z k = .inl (G.2.2.2.2.2, m, .inr (.inr (.inr (.inr (fun j => (g k j).map (G.2.1 + ·)))))) := by simp [r_E, hp]
theorem r_fs_at {b c j : Nat} (hj : j < r_nf c) : (r_fs b c h g z k)[j]? = some (r_fv b (r_ft c j) h g z k j) := by simp [r_fs, hj]
theorem r_fs_set {b c j : Nat} {v : Value} (hj : j < r_nf c) (hv : v = r_fv b (r_ft c j) h' g' z' k j) (ho : ∀ i, i ≠ j → r_fv b (r_ft c i) h' g' z' k i = r_fv b (r_ft c i) h g z k i) : (r_fs b c h g z k).set j v = r_fs b c h' g' z' k := by
  subst hv
  apply List.ext_getElem?
  intro i
  by_cases hi : i < r_nf c
  · by_cases hij : j = i
    · subst hij
      rw [List.getElem?_set_self (by simp [r_fs, hi]), r_fs_at hi]
    · rw [List.getElem?_set_ne hij, r_fs_at hi, r_fs_at hi, ho i (fun q => hij q.symm)]
  · have h1 : ((r_fs b c h g z k).set j (r_fv b (r_ft c j) h' g' z' k j))[i]? = none := by simp [r_fs]; omega
    have h2 : (r_fs b c h' g' z' k)[i]? = none := by simp [r_fs]; omega
    rw [h1, h2]
theorem r_up_k {j : Nat} {v : Int32} : r_up h k j v k = upd (h k) j v := by simp [r_up]
theorem r_up_ne {a j : Nat} {v : Int32} (e : a ≠ k) : r_up h k j v a = h a := by simp [r_up, e]
theorem r_ug_k {j : Nat} {v : Option Nat} : r_ug g k j v k = va_up (g k) j v := by simp [r_ug]
theorem r_ug_ne {a j : Nat} {v : Option Nat} (e : a ≠ k) : r_ug g k j v a = g a := by simp [r_ug, e]
theorem r_uz_k {j : Nat} {v : Int64} : r_uz z k j v k = vp_updL (z k) j v := by simp [r_uz]
theorem r_uz_ne {a j : Nat} {v : Int64} (e : a ≠ k) : r_uz z k j v a = z a := by simp [r_uz, e]
theorem r_set_i {c j : Nat} {v : Int32} (hp : r_pk k = (0, c)) (hj : j < r_nf c) (ht : r_ft c j = 0) : (r_W G n h g z).set k (G.2.1 + k, .inr (c, (r_fs G.2.1 c h g z k).set j (.int v))) = r_W G n (r_up h k j v) g z := by
  refine r_W_set ?_ (fun a ha => ⟨r_up_ne ha, rfl, rfl⟩)
  rw [r_E_o hp, r_fs_set (h' := r_up h k j v) (g' := g) (z' := z) hj]
  · simp [r_fv, ht, r_up, upd]
  · intro i hi
    simp only [r_fv, r_up_k]
    simp [upd, hi]
theorem r_set_z {c j : Nat} {v : Int32} (hp : r_pk k = (0, c)) (hj : j < r_nf c) (ht : r_ft c j = 3) : (r_W G n h g z).set k (G.2.1 + k, .inr (c, (r_fs G.2.1 c h g z k).set j (.int v))) = r_W G n (r_up h k j v) g z := by
  refine r_W_set ?_ (fun a ha => ⟨r_up_ne ha, rfl, rfl⟩)
  rw [r_E_o hp, r_fs_set (h' := r_up h k j v) (g' := g) (z' := z) hj]
  · simp [r_fv, ht, r_up, upd]
  · intro i hi
    simp only [r_fv, r_up_k]
    simp [upd, hi]
theorem r_set_r {c j : Nat} {v : Option Nat} (hp : r_pk k = (0, c)) (hj : j < r_nf c) (ht : r_ft c j = 1) : (r_W G n h g z).set k (G.2.1 + k, .inr (c, (r_fs G.2.1 c h g z k).set j (va_rf (v.map (G.2.1 + ·))))) = r_W G n h (r_ug g k j v) z := by
  refine r_W_set ?_ (fun a ha => ⟨rfl, r_ug_ne ha, rfl⟩)
  rw [r_E_o hp, r_fs_set (h' := h) (g' := r_ug g k j v) (z' := z) hj]
  · simp [r_fv, ht, r_ug, va_up]
  · intro i hi
    simp only [r_fv, r_ug_k]
    simp [va_up, hi]
theorem r_set_l {c j : Nat} {v : Int64} (hp : r_pk k = (0, c)) (hj : j < r_nf c) (ht : r_ft c j = 2) : (r_W G n h g z).set k (G.2.1 + k, .inr (c, (r_fs G.2.1 c h g z k).set j (.long v))) = r_W G n h g (r_uz z k j v) := by
  refine r_W_set ?_ (fun a ha => ⟨rfl, rfl, r_uz_ne ha⟩)
  rw [r_E_o hp, r_fs_set (h' := h) (g' := g) (z' := r_uz z k j v) hj]
  · simp [r_fv, ht, r_uz, vp_updL]
  · intro i hi
    simp only [r_fv, r_uz_k]
    simp [vp_updL, hi]
theorem r_set_a {m j : Nat} {v : Int32} (hp : r_pk k = (1, m)) : (r_W G n h g z).set k (G.2.1 + k, .inl (G.2.2.2.2.1, m, .inl (upd (h k) j v))) = r_W G n (r_up h k j v) g z := by
  refine r_W_set ?_ (fun a ha => ⟨r_up_ne ha, rfl, rfl⟩)
  rw [r_E_i hp, r_up_k]
theorem r_set_q {m j : Nat} {v : Option Nat} (hp : r_pk k = (2, m)) : (r_W G n h g z).set k (G.2.1 + k, .inl (G.2.2.2.2.2, m, .inr (.inr (.inr (.inr (va_up (fun j => (g k j).map (G.2.1 + ·)) j (v.map (G.2.1 + ·)))))))) = r_W G n h (r_ug g k j v) z := by
  refine r_W_set ?_ (fun a ha => ⟨rfl, r_ug_ne ha, rfl⟩)
  rw [r_E_q hp]
  refine congrArg (fun f => Sum.inl (G.2.2.2.2.2, m, Sum.inr (Sum.inr (Sum.inr (Sum.inr f))))) (funext fun i => ?_)
  rw [r_ug_k]
  by_cases hi : i = j
  · simp [va_up, hi]
  · simp [va_up, hi]
end
def r_nest : List (String × Nat × MethodName × String) := [("RingArm", 9, ⟨"RingArm$Page", "<init>", "()V"⟩, "RingArm"), ("RingArm", 18, ⟨"RingArm$Disc", "<init>", "()V"⟩, "RingArm"), ("RingArm", 34, ⟨"RingArm$Things", "<init>", "()V"⟩, "RingArm"), ("RingArm", 41, ⟨"RingArm$Sight", "<init>", "()V"⟩, "RingArm"), ("RingArm", 48, ⟨"RingArm$First", "<init>", "()V"⟩, "RingArm"), ("RingArm", 51, ⟨"RingArm$Nearest", "<init>", "()V"⟩, "RingArm"), ("RingArm$Nearest", 3, ⟨"RingArm$First", "<init>", "()V"⟩, "RingArm"), ("RingArm", 54, ⟨"RingArm$Sweep", "<init>", "()V"⟩, "RingArm"), ("RingArm$Sweep", 3, ⟨"RingArm$First", "<init>", "()V"⟩, "RingArm"), ("RingArm", 57, ⟨"RingArm$Round", "<init>", "()V"⟩, "RingArm"), ("RingArm$Round", 3, ⟨"RingArm$Sweep", "<init>", "()V"⟩, "RingArm"), ("RingArm", 60, ⟨"RingArm$Soonest", "<init>", "()V"⟩, "RingArm"), ("RingArm$Soonest", 3, ⟨"RingArm$Nearest", "<init>", "()V"⟩, "RingArm"), ("RingArm", 93, ⟨"RingArm$Orders", "<init>", "()V"⟩, "RingArm"), ("RingArm$Page", 19, ⟨"RingArm", "put", "([III)V"⟩, "RingArm"), ("RingArm$Page", 23, ⟨"RingArm", "at", "([II)I"⟩, "RingArm"), ("RingArm$Disc", 46, ⟨"RingArm", "at", "([II)I"⟩, "RingArm"), ("RingArm$Disc", 54, ⟨"RingArm", "put", "([III)V"⟩, "RingArm"), ("RingArm$Things", 25, ⟨"RingArm", "put", "([III)V"⟩, "RingArm"), ("RingArm$Desk", 46, ⟨"RingArm", "at", "([II)I"⟩, "RingArm"), ("RingArm$Nearest", 15, ⟨"RingArm", "at", "([II)I"⟩, "RingArm"), ("RingArm$Round", 15, ⟨"RingArm", "at", "([II)I"⟩, "RingArm"), ("RingArm$Soonest", 26, ⟨"RingArm", "at", "([II)I"⟩, "RingArm"), ("RingArm$Sweep", 15, ⟨"RingArm", "at", "([II)I"⟩, "RingArm"), ("RingArm$Desk", 56, ⟨"RingArm", "put", "([III)V"⟩, "RingArm"), ("RingArm$Desk", 42, ⟨"RingArm", "copyRow", "([I[I)V"⟩, "RingArm"), ("RingArm$Orders", 45, ⟨"RingArm", "copyRow", "([I[I)V"⟩, "RingArm"), ("RingArm$Orders", 49, ⟨"RingArm", "hasBit", "(II)Z"⟩, "RingArm"), ("RingArm$Orders", 56, ⟨"RingArm", "at", "([II)I"⟩, "RingArm"), ("RingArm$Orders", 60, ⟨"RingArm", "put", "([III)V"⟩, "RingArm"), ("RingArm$Things", 33, ⟨"RingArm", "at", "([II)I"⟩, "RingArm"), ("RingArm$Things", 29, ⟨"RingArm", "copyRow", "([I[I)V"⟩, "RingArm"), ("RingArm$Things", 46, ⟨"RingArm", "hasBit", "(II)Z"⟩, "RingArm"), ("RingArm$Sight", 22, ⟨"RingArm", "put", "([III)V"⟩, "RingArm"), ("RingArm$Sight", 34, ⟨"RingArm", "at", "([II)I"⟩, "RingArm"), ("RingArm$Disc", 58, ⟨"RingArm", "copyRow", "([I[I)V"⟩, "RingArm"), ("RingArm$Sight", 26, ⟨"RingArm", "copyRow", "([I[I)V"⟩, "RingArm")]
def r_cast : List (String × String) := [("RingArm$Soonest", "RingArm$Nearest"), ("RingArm$Round", "RingArm$Sweep"), ("RingArm$Nearest", "RingArm$First"), ("RingArm$Sweep", "RingArm$First"), ("RingArm$Round", "RingArm$First"), ("RingArm$Soonest", "RingArm$First")]
def r_ncast : List (String × String) := [("RingArm$First", "RingArm$Nearest"), ("RingArm$First", "RingArm$Sweep"), ("RingArm$First", "RingArm$Round"), ("RingArm$First", "RingArm$Soonest"), ("RingArm$Nearest", "RingArm$Sweep"), ("RingArm$Nearest", "RingArm$Round"), ("RingArm$Nearest", "RingArm$Soonest"), ("RingArm$Sweep", "RingArm$Nearest"), ("RingArm$Sweep", "RingArm$Round"), ("RingArm$Sweep", "RingArm$Soonest"), ("RingArm$Round", "RingArm$Nearest"), ("RingArm$Round", "RingArm$Soonest"), ("RingArm$Soonest", "RingArm$Sweep"), ("RingArm$Soonest", "RingArm$Round")]
def r_ow (s : State) : Prop := (∀ q ∈ r_nest, va_Nw (.methodLinkNest q.1 q.2.1 q.2.2.1 q.2.2.2) s) ∧ (∀ q ∈ r_cast, va_Nw (.castable q.1 q.2) s) ∧ (∀ q ∈ r_ncast, va_Nc q.1 q.2 s) ∧ va_AO "RingArm$First" s
theorem r_ow.moved {s U : State} (hW : s.WarmedH U.vm) (h : r_ow s) : r_ow U := ⟨fun q hq => va_Nw.warmM hW (h.1 q hq), fun q hq => va_Nw.warmC hW (h.2.1 q hq), fun q hq => va_Nc.moved hW.alike (h.2.2.1 q hq), va_AO.moved hW.alike h.2.2.2⟩
theorem r_ow.same {s U : State} (hv : s.vm = U.vm) (h : r_ow s) : r_ow U := ⟨fun q hq => va_Nw.same rfl hv (h.1 q hq), fun q hq => va_Nw.same rfl hv (h.2.1 q hq), fun q hq => va_Nc.moved (by rw [hv]; exact Vm.Alike.refl _) (h.2.2.1 q hq), va_AO.moved (by rw [hv]; exact Vm.Alike.refl _) h.2.2.2⟩
abbrev r_ty (G : r_X) : List (ClassId × FieldType) := [(G.2.2.2.2.1, .int), (G.2.2.2.2.2, .object "RingArm$First")]
abbrev r_G (G : r_X) : va_G := (G.2.2.1, G.2.2.2.1)
def r_wd (G : r_X) (n : Nat) (h : r_HI) (g : r_HR) (z : r_HL) (U : State) : Prop := U.heap.size = G.2.1 + n ∧ va_P (r_G G) r_cl0 (r_W G n h g z) U.heap ∧ va_K (r_G G) r_cl0 (r_ty G) U
/-- where a method stands: its machine, its code, the words, the classes -/
def r_bs (G : r_X) (M : r_M) (p : Program) (s : State) (m : MethodId) (args : Array Value) (meth : Method) (c : Code) : Prop :=
  p.tables.exec = Jvm.exec ∧ c.code = M.2.1 ∧ c.maxLocals = M.2.2.1 ∧ meth.sig.returnType = M.2.2.2 ∧ meth.locks = false ∧ meth.name = M.1.name ∧ s.vm.findClass M.1.cls = some m.cls ∧ (∀ w ∈ r_wg, w.before args s = true) ∧ r_ow s ∧ G.2.1 ≤ s.heap.size ∧ va_K (r_G G) r_cl0 (r_ty G) s
/-- THE JUDGEMENT: from pc, with locals ls, stack st and the world (n, h, g, z), the machine comes to an end that Z tells -/
def r_T (G : r_X) (M : r_M) (R : Room) (n0 : Nat) (X : State → Prop) (Z : List Frame → Array Value → State → State → Prop) (pc : Nat) (ls : List (Nat × Value)) (st : List Value) (n : Nat) (h : r_HI) (g : r_HR) (z : r_HL) : Prop :=
  ∀ (p : Program) (e : Env) (s : State) (m : MethodId) (args : Array Value) (below : List Frame) (meth : Method) (c : Code) (H : Heap) (locs : List Loc) (cells slots : Nat) (L0 : Array Slot),
    r_bs G M p s m args meth c → X s → H.size = G.2.1 + n → va_P (r_G G) r_cl0 (r_W G n h g z) H → va_S (fun q => G.2.1 ≤ q) s.heap H locs → cells + n0 = n → slots + r_tot n0 = r_tot n → lv_has L0 M.2.2.1 ls →
    W p G.1 e R s m args below meth c H locs cells slots (Z below args s) (F0 m pc L0 st)
abbrev r_F : Type := Option Value → r_HI → r_HR → r_HL → Prop
def r_cQ (G : r_X) (n1 : Nat) (F : r_F) : Array Value → State → Outcome → State → Prop := fun _ st o t => (∃ (v : Option Value) (h : r_HI) (g : r_HR) (z : r_HL), o = .returned v ∧ F v h g z ∧ r_wd G n1 h g z t) ∧ va_F (fun q => G.2.1 ≤ q) st t
def r_rm (d n0 n1 : Nat) : Room := { frames := d, cells := n1 - n0, slots := r_tot n1 - r_tot n0, locals := 60 * d }
/-- a method's end -/
def r_mz (G : r_X) (n0 n1 : Nat) (F : r_F) : List Frame → Array Value → State → State → Prop := fun below args s => MQ below (r_cQ G n1 F) args s (n1 - n0) (r_tot n1 - r_tot n0) (fun q => G.2.1 ≤ q)
/-- A CONTRACT: called with av in the world (n, h, g, z), with room for d frames, the method returns what F tells -/
def r_C (G : r_X) (M : r_M) (d n1 : Nat) (av : List Value) (n : Nat) (h : r_HI) (g : r_HR) (z : r_HL) (F : r_F) : Prop :=
  Met G.1 M.1 (Cond.code M.1 M.2.1 M.2.2.1 M.2.2.2 :: r_wg) (r_rm d n n1) (va_Pc av (fun U => r_wd G n h g z U ∧ r_ow U ∧ G.2.1 ≤ U.heap.size)) (r_cQ G n1 F) (n1 - n) (r_tot n1 - r_tot n) (fun q => G.2.1 ≤ q)
abbrev r_TM (G : r_X) (M : r_M) (d n0 n1 : Nat) (F : r_F) (pc : Nat) (ls : List (Nat × Value)) (st : List Value) (n : Nat) (h : r_HI) (g : r_HR) (z : r_HL) : Prop := r_T G M (r_rm d n0 n1) n0 (fun _ => True) (r_mz G n0 n1 F) pc ls st n h g z
theorem r_tot_le (n k : Nat) : r_tot n ≤ r_tot (n + k) := by
  induction k with
  | zero => exact Nat.le_refl _
  | succ k ih => exact Nat.le_trans ih (Nat.le_add_right _ _)
theorem r_tot_mono {n m : Nat} (h : n ≤ m) : r_tot n ≤ r_tot m := by
  obtain ⟨k, rfl⟩ := Nat.le.dest h
  exact r_tot_le n k
/-- a contract out of a walk of the body -/
theorem r_C_of {G : r_X} {M : r_M} {d n1 : Nat} {av : List Value} {n : Nat} {h : r_HI} {g : r_HR} {z : r_HL} {F : r_F} (hp : plainName M.1.cls = true) (hl : (lg_sl av).length ≤ M.2.2.1)
    (k : r_TM G M d n n1 F 0 (lv_args 0 av) [] n h g z) : r_C G M d n1 av n h g z F := by
  refine Met.ofW (cc := M.2.1) (maxL := M.2.2.1) (ret := M.2.2.2) hp rfl ?_
  intro p e s m args below meth c s₁ B hml hv
  obtain ⟨rfl, ⟨hsz, hP, hK⟩, how, hb0⟩ := hv
  have hts := atoms_spec (ws := Cond.code M.1 M.2.1 M.2.2.1 M.2.2.2 :: r_wg) B.pre
  have hl0 := lv_entry av (n := M.2.2.1) hl
  rw [lg_entry_eq]
  exact k p e s m av.toArray below meth c s.heap [] 0 0 _ ⟨B.exec, B.bytes, hml, B.returns, B.notSynchronized, (name_of_methodNamed B.named B.method).1, findClass_of_methodNamed B.named, fun w hw => hts w (List.mem_cons_of_mem _ hw), how, hb0, hK⟩ trivial hsz hP va_S.rf (Nat.zero_add _) (Nat.zero_add _) hl0
theorem r_pay {s : State} {args : Array Value} {w0 : Cond} (hts : ∀ w ∈ r_wg, w.before args s = true) (h0 : w0 ∈ r_wg) : ∀ w ∈ w0 :: r_wg, ∀ (a' : Array Value) (U : State), s.WarmedH U.vm → w.before a' U = true := by
  intro w hw a' U hW
  have hm : w ∈ r_wg := by
    rcases List.mem_cons.mp hw with rfl | h
    · exact h0
    · exact h
  exact word_at hW (good_of_word (List.mem_filter.mp hm).2) (hts w hm)
section
variable {G : r_X} {M M' : r_M} {R : Room} {n0 n1 : Nat} {X : State → Prop} {Z : List Frame → Array Value → State → State → Prop} {F : r_F} {pc n : Nat} {ls : List (Nat × Value)} {st : List Value} {h : r_HI} {g : r_HR} {z : r_HL}
theorem j_iadd {x y : Int32} (hd : decode M.2.1 pc = .ok (.iadd, 1)) (k : r_T G M R n0 X Z (pc + 1) ls (.int (x + y) :: st) n h g z) : r_T G M R n0 X Z pc ls (.int y :: .int x :: st) n h g z := by
  intro p e s m args below meth c H locs cells slots L0 B hX hz hP hS hc hs hl
  exact lv_iadd B.1 B.2.1 hd (k p e s m args below meth c H locs cells slots L0 B hX hz hP hS hc hs hl)
theorem j_isub {x y : Int32} (hd : decode M.2.1 pc = .ok (.isub, 1)) (k : r_T G M R n0 X Z (pc + 1) ls (.int (x - y) :: st) n h g z) : r_T G M R n0 X Z pc ls (.int y :: .int x :: st) n h g z := by
  intro p e s m args below meth c H locs cells slots L0 B hX hz hP hS hc hs hl
  exact lv_isub B.1 B.2.1 hd (k p e s m args below meth c H locs cells slots L0 B hX hz hP hS hc hs hl)
theorem j_imul {x y : Int32} (hd : decode M.2.1 pc = .ok (.imul, 1)) (k : r_T G M R n0 X Z (pc + 1) ls (.int (x * y) :: st) n h g z) : r_T G M R n0 X Z pc ls (.int y :: .int x :: st) n h g z := by
  intro p e s m args below meth c H locs cells slots L0 B hX hz hP hS hc hs hl
  exact lv_imul B.1 B.2.1 hd (k p e s m args below meth c H locs cells slots L0 B hX hz hP hS hc hs hl)
theorem j_iand {x y : Int32} (hd : decode M.2.1 pc = .ok (.iand, 1)) (k : r_T G M R n0 X Z (pc + 1) ls (.int (x &&& y) :: st) n h g z) : r_T G M R n0 X Z pc ls (.int y :: .int x :: st) n h g z := by
  intro p e s m args below meth c H locs cells slots L0 B hX hz hP hS hc hs hl
  exact lv_iand B.1 B.2.1 hd (k p e s m args below meth c H locs cells slots L0 B hX hz hP hS hc hs hl)
theorem j_ior {x y : Int32} (hd : decode M.2.1 pc = .ok (.ior, 1)) (k : r_T G M R n0 X Z (pc + 1) ls (.int (x ||| y) :: st) n h g z) : r_T G M R n0 X Z pc ls (.int y :: .int x :: st) n h g z := by
  intro p e s m args below meth c H locs cells slots L0 B hX hz hP hS hc hs hl
  exact lv_ior B.1 B.2.1 hd (k p e s m args below meth c H locs cells slots L0 B hX hz hP hS hc hs hl)
theorem j_ixor {x y : Int32} (hd : decode M.2.1 pc = .ok (.ixor, 1)) (k : r_T G M R n0 X Z (pc + 1) ls (.int (x ^^^ y) :: st) n h g z) : r_T G M R n0 X Z pc ls (.int y :: .int x :: st) n h g z := by
  intro p e s m args below meth c H locs cells slots L0 B hX hz hP hS hc hs hl
  exact lv_ixor B.1 B.2.1 hd (k p e s m args below meth c H locs cells slots L0 B hX hz hP hS hc hs hl)
theorem j_ishl {x y : Int32} (hd : decode M.2.1 pc = .ok (.ishl, 1)) (k : r_T G M R n0 X Z (pc + 1) ls (.int (x <<< (y &&& 31)) :: st) n h g z) : r_T G M R n0 X Z pc ls (.int y :: .int x :: st) n h g z := by
  intro p e s m args below meth c H locs cells slots L0 B hX hz hP hS hc hs hl
  exact lv_ishl B.1 B.2.1 hd (k p e s m args below meth c H locs cells slots L0 B hX hz hP hS hc hs hl)
theorem j_ishr {x y : Int32} (hd : decode M.2.1 pc = .ok (.ishr, 1)) (k : r_T G M R n0 X Z (pc + 1) ls (.int (x >>> (y &&& 31)) :: st) n h g z) : r_T G M R n0 X Z pc ls (.int y :: .int x :: st) n h g z := by
  intro p e s m args below meth c H locs cells slots L0 B hX hz hP hS hc hs hl
  exact lv_ishr B.1 B.2.1 hd (k p e s m args below meth c H locs cells slots L0 B hX hz hP hS hc hs hl)
theorem j_idiv {x y : Int32} (hd : decode M.2.1 pc = .ok (.idiv, 1)) (hne : ¬ y = 0) (k : r_T G M R n0 X Z (pc + 1) ls (.int (x / y) :: st) n h g z) : r_T G M R n0 X Z pc ls (.int y :: .int x :: st) n h g z := by
  intro p e s m args below meth c H locs cells slots L0 B hX hz hP hS hc hs hl
  exact lv_idiv B.1 B.2.1 hd hne (k p e s m args below meth c H locs cells slots L0 B hX hz hP hS hc hs hl)
theorem j_irem {x y : Int32} (hd : decode M.2.1 pc = .ok (.irem, 1)) (hne : ¬ y = 0) (k : r_T G M R n0 X Z (pc + 1) ls (.int (x - x / y * y) :: st) n h g z) : r_T G M R n0 X Z pc ls (.int y :: .int x :: st) n h g z := by
  intro p e s m args below meth c H locs cells slots L0 B hX hz hP hS hc hs hl
  exact lv_irem B.1 B.2.1 hd hne (k p e s m args below meth c H locs cells slots L0 B hX hz hP hS hc hs hl)
theorem j_ineg {x : Int32} (hd : decode M.2.1 pc = .ok (.ineg, 1)) (k : r_T G M R n0 X Z (pc + 1) ls (.int (-x) :: st) n h g z) : r_T G M R n0 X Z pc ls (.int x :: st) n h g z := by
  intro p e s m args below meth c H locs cells slots L0 B hX hz hP hS hc hs hl
  exact lv_ineg B.1 B.2.1 hd (k p e s m args below meth c H locs cells slots L0 B hX hz hP hS hc hs hl)
theorem j_ladd {x y : Int64} (hd : decode M.2.1 pc = .ok (.ladd, 1)) (k : r_T G M R n0 X Z (pc + 1) ls (.long (x + y) :: st) n h g z) : r_T G M R n0 X Z pc ls (.long y :: .long x :: st) n h g z := by
  intro p e s m args below meth c H locs cells slots L0 B hX hz hP hS hc hs hl
  exact lv_ladd B.1 B.2.1 hd (k p e s m args below meth c H locs cells slots L0 B hX hz hP hS hc hs hl)
theorem j_lmul {x y : Int64} (hd : decode M.2.1 pc = .ok (.lmul, 1)) (k : r_T G M R n0 X Z (pc + 1) ls (.long (x * y) :: st) n h g z) : r_T G M R n0 X Z pc ls (.long y :: .long x :: st) n h g z := by
  intro p e s m args below meth c H locs cells slots L0 B hX hz hP hS hc hs hl
  exact lv_lmul B.1 B.2.1 hd (k p e s m args below meth c H locs cells slots L0 B hX hz hP hS hc hs hl)
theorem j_land {x y : Int64} (hd : decode M.2.1 pc = .ok (.land, 1)) (k : r_T G M R n0 X Z (pc + 1) ls (.long (x &&& y) :: st) n h g z) : r_T G M R n0 X Z pc ls (.long y :: .long x :: st) n h g z := by
  intro p e s m args below meth c H locs cells slots L0 B hX hz hP hS hc hs hl
  exact lv_land B.1 B.2.1 hd (k p e s m args below meth c H locs cells slots L0 B hX hz hP hS hc hs hl)
theorem j_lcmp {x y : Int64} (hd : decode M.2.1 pc = .ok (.lcmp, 1)) (k : r_T G M R n0 X Z (pc + 1) ls (.int (lg_cmp x y) :: st) n h g z) : r_T G M R n0 X Z pc ls (.long y :: .long x :: st) n h g z := by
  intro p e s m args below meth c H locs cells slots L0 B hX hz hP hS hc hs hl
  exact W.lcmp B.1 B.2.1 hd (k p e s m args below meth c H locs cells slots L0 B hX hz hP hS hc hs hl)
theorem j_i2l {x : Int32} (hd : decode M.2.1 pc = .ok (.i2l, 1)) (k : r_T G M R n0 X Z (pc + 1) ls (.long x.toInt64 :: st) n h g z) : r_T G M R n0 X Z pc ls (.int x :: st) n h g z := by
  intro p e s m args below meth c H locs cells slots L0 B hX hz hP hS hc hs hl
  exact lv_i2l B.1 B.2.1 hd rfl (k p e s m args below meth c H locs cells slots L0 B hX hz hP hS hc hs hl)
theorem j_l2i {x : Int64} (hd : decode M.2.1 pc = .ok (.l2i, 1)) (k : r_T G M R n0 X Z (pc + 1) ls (.int x.toInt32 :: st) n h g z) : r_T G M R n0 X Z pc ls (.long x :: st) n h g z := by
  intro p e s m args below meth c H locs cells slots L0 B hX hz hP hS hc hs hl
  exact lv_l2i B.1 B.2.1 hd rfl (k p e s m args below meth c H locs cells slots L0 B hX hz hP hS hc hs hl)
theorem j_dup {v : Value} (hd : decode M.2.1 pc = .ok (.dup, 1)) (hv : v.category = 1) (k : r_T G M R n0 X Z (pc + 1) ls (v :: v :: st) n h g z) : r_T G M R n0 X Z pc ls (v :: st) n h g z := by
  intro p e s m args below meth c H locs cells slots L0 B hX hz hP hS hc hs hl
  exact lv_dup B.1 B.2.1 hd hv (k p e s m args below meth c H locs cells slots L0 B hX hz hP hS hc hs hl)
theorem j_pop {v : Value} (hd : decode M.2.1 pc = .ok (.pop, 1)) (hv : v.category = 1) (k : r_T G M R n0 X Z (pc + 1) ls (st) n h g z) : r_T G M R n0 X Z pc ls (v :: st) n h g z := by
  intro p e s m args below meth c H locs cells slots L0 B hX hz hP hS hc hs hl
  exact lv_pop B.1 B.2.1 hd hv (k p e s m args below meth c H locs cells slots L0 B hX hz hP hS hc hs hl)
theorem j_iconst {i : Int} {v : Int32} (hd : decode M.2.1 pc = .ok (.iconst i, 1)) (hv : Int32.ofInt i = v) (k : r_T G M R n0 X Z (pc + 1) ls (.int v :: st) n h g z) : r_T G M R n0 X Z pc ls (st) n h g z := by
  intro p e s m args below meth c H locs cells slots L0 B hX hz hP hS hc hs hl
  exact lv_iconst B.1 B.2.1 hd hv (k p e s m args below meth c H locs cells slots L0 B hX hz hP hS hc hs hl)
theorem j_bipush {i : Int} {v : Int32} (hd : decode M.2.1 pc = .ok (.bipush i, 2)) (hv : (Int8.ofInt i).toInt32 = v) (k : r_T G M R n0 X Z (pc + 2) ls (.int v :: st) n h g z) : r_T G M R n0 X Z pc ls (st) n h g z := by
  intro p e s m args below meth c H locs cells slots L0 B hX hz hP hS hc hs hl
  exact lv_bipush B.1 B.2.1 hd hv (k p e s m args below meth c H locs cells slots L0 B hX hz hP hS hc hs hl)
theorem j_sipush {i : Int} {v : Int32} (hd : decode M.2.1 pc = .ok (.sipush i, 3)) (hv : (Int16.ofInt i).toInt32 = v) (k : r_T G M R n0 X Z (pc + 3) ls (.int v :: st) n h g z) : r_T G M R n0 X Z pc ls (st) n h g z := by
  intro p e s m args below meth c H locs cells slots L0 B hX hz hP hS hc hs hl
  exact lv_sipush B.1 B.2.1 hd hv (k p e s m args below meth c H locs cells slots L0 B hX hz hP hS hc hs hl)
theorem j_lconst {i : Fin 2} {v : Int64} (hd : decode M.2.1 pc = .ok (.lconst i, 1)) (hv : Int64.ofNat (i : Nat) = v) (k : r_T G M R n0 X Z (pc + 1) ls (.long v :: st) n h g z) : r_T G M R n0 X Z pc ls (st) n h g z := by
  intro p e s m args below meth c H locs cells slots L0 B hX hz hP hS hc hs hl
  exact lv_lconst B.1 B.2.1 hd hv (k p e s m args below meth c H locs cells slots L0 B hX hz hP hS hc hs hl)
theorem r_look {i : Nat} {v : Value} {L0 : Array Slot} {nL : Nat} (hl : lv_has L0 nL ls) (hv : ls.lookup i = some v) : L0[i]? = some (.val v) := by
  obtain ⟨l1, l2, e, -⟩ := List.lookup_eq_some_iff.mp hv
  exact hl.2.2 (i, v) (by rw [e]; simp)
theorem j_iload_n {q : Fin 4} {i : Nat} {x : Int32} (hd : decode M.2.1 pc = .ok (.iload_n q, 1)) (hi : (q : Nat) = i) (hv : ls.lookup i = some (.int x)) (k : r_T G M R n0 X Z (pc + 1) ls (.int x :: st) n h g z) : r_T G M R n0 X Z pc ls st n h g z := by
  intro p e s m args below meth c H locs cells slots L0 B hX hz hP hS hc hs hl
  exact lv_iload_n B.1 B.2.1 hd hi (r_look hl hv) (k p e s m args below meth c H locs cells slots L0 B hX hz hP hS hc hs hl)
theorem j_iload {i : Nat} {x : Int32} (hd : decode M.2.1 pc = .ok (.iload i, 2)) (hv : ls.lookup i = some (.int x)) (k : r_T G M R n0 X Z (pc + 2) ls (.int x :: st) n h g z) : r_T G M R n0 X Z pc ls st n h g z := by
  intro p e s m args below meth c H locs cells slots L0 B hX hz hP hS hc hs hl
  exact lv_iload B.1 B.2.1 hd (r_look hl hv) (k p e s m args below meth c H locs cells slots L0 B hX hz hP hS hc hs hl)
theorem j_lload_n {q : Fin 4} {i : Nat} {x : Int64} (hd : decode M.2.1 pc = .ok (.lload_n q, 1)) (hi : (q : Nat) = i) (hv : ls.lookup i = some (.long x)) (k : r_T G M R n0 X Z (pc + 1) ls (.long x :: st) n h g z) : r_T G M R n0 X Z pc ls st n h g z := by
  intro p e s m args below meth c H locs cells slots L0 B hX hz hP hS hc hs hl
  exact lv_lload_n B.1 B.2.1 hd hi (r_look hl hv) (k p e s m args below meth c H locs cells slots L0 B hX hz hP hS hc hs hl)
theorem j_lload {i : Nat} {x : Int64} (hd : decode M.2.1 pc = .ok (.lload i, 2)) (hv : ls.lookup i = some (.long x)) (k : r_T G M R n0 X Z (pc + 2) ls (.long x :: st) n h g z) : r_T G M R n0 X Z pc ls st n h g z := by
  intro p e s m args below meth c H locs cells slots L0 B hX hz hP hS hc hs hl
  exact lv_lload B.1 B.2.1 hd (r_look hl hv) (k p e s m args below meth c H locs cells slots L0 B hX hz hP hS hc hs hl)
theorem j_aload_n {q : Fin 4} {i : Nat} {x : Nat} (hd : decode M.2.1 pc = .ok (.aload_n q, 1)) (hi : (q : Nat) = i) (hv : ls.lookup i = some (.ref x)) (k : r_T G M R n0 X Z (pc + 1) ls (.ref x :: st) n h g z) : r_T G M R n0 X Z pc ls st n h g z := by
  intro p e s m args below meth c H locs cells slots L0 B hX hz hP hS hc hs hl
  exact lv_aload_n B.1 B.2.1 hd hi (r_look hl hv) (k p e s m args below meth c H locs cells slots L0 B hX hz hP hS hc hs hl)
theorem j_aload {i : Nat} {x : Nat} (hd : decode M.2.1 pc = .ok (.aload i, 2)) (hv : ls.lookup i = some (.ref x)) (k : r_T G M R n0 X Z (pc + 2) ls (.ref x :: st) n h g z) : r_T G M R n0 X Z pc ls st n h g z := by
  intro p e s m args below meth c H locs cells slots L0 B hX hz hP hS hc hs hl
  exact lv_aload B.1 B.2.1 hd (r_look hl hv) (k p e s m args below meth c H locs cells slots L0 B hX hz hP hS hc hs hl)
/-- a store into the locals -/
def r_st1 (ls : List (Nat × Value)) (i : Nat) (v : Value) : List (Nat × Value) := (i, v) :: ls.filter (fun q => !(q.1 == i) && !(q.1 + 1 == i && q.2.category == 2))
def r_st2 (ls : List (Nat × Value)) (i : Nat) (v : Value) : List (Nat × Value) := (i, v) :: ls.filter (fun q => !(q.1 == i) && (!(q.1 == i + 1) && !(q.1 + 1 == i && q.2.category == 2)))
theorem j_istore_n {q : Fin 4} {i : Nat} {x : Int32} {ls' : List (Nat × Value)} (hd : decode M.2.1 pc = .ok (.istore_n q, 1)) (hi : (q : Nat) = i) (hn : i < M.2.2.1) (he : r_st1 ls i (.int x) = ls') (k : r_T G M R n0 X Z (pc + 1) ls' st n h g z) : r_T G M R n0 X Z pc ls (.int x :: st) n h g z := by
  intro p e s m args below meth c H locs cells slots L0 B hX hz hP hS hc hs hl
  exact lv_istore_n B.1 B.2.1 hd hi hl hn he (fun L1 hl => k p e s m args below meth c H locs cells slots L1 B hX hz hP hS hc hs hl)
theorem j_istore {i : Nat} {x : Int32} {ls' : List (Nat × Value)} (hd : decode M.2.1 pc = .ok (.istore i, 2)) (hn : i < M.2.2.1) (he : r_st1 ls i (.int x) = ls') (k : r_T G M R n0 X Z (pc + 2) ls' st n h g z) : r_T G M R n0 X Z pc ls (.int x :: st) n h g z := by
  intro p e s m args below meth c H locs cells slots L0 B hX hz hP hS hc hs hl
  exact lv_istore B.1 B.2.1 hd hl hn he (fun L1 hl => k p e s m args below meth c H locs cells slots L1 B hX hz hP hS hc hs hl)
theorem j_lstore_n {q : Fin 4} {i : Nat} {x : Int64} {ls' : List (Nat × Value)} (hd : decode M.2.1 pc = .ok (.lstore_n q, 1)) (hi : (q : Nat) = i) (hn : i + 1 < M.2.2.1) (he : r_st2 ls i (.long x) = ls') (k : r_T G M R n0 X Z (pc + 1) ls' st n h g z) : r_T G M R n0 X Z pc ls (.long x :: st) n h g z := by
  intro p e s m args below meth c H locs cells slots L0 B hX hz hP hS hc hs hl
  exact lv_lstore_n B.1 B.2.1 hd hi hl hn he (fun L1 hl => k p e s m args below meth c H locs cells slots L1 B hX hz hP hS hc hs hl)
theorem j_astore_n {q : Fin 4} {i : Nat} {x : Nat} {ls' : List (Nat × Value)} (hd : decode M.2.1 pc = .ok (.astore_n q, 1)) (hi : (q : Nat) = i) (hn : i < M.2.2.1) (he : r_st1 ls i (.ref x) = ls') (k : r_T G M R n0 X Z (pc + 1) ls' st n h g z) : r_T G M R n0 X Z pc ls (.ref x :: st) n h g z := by
  intro p e s m args below meth c H locs cells slots L0 B hX hz hP hS hc hs hl
  exact lv_astore_n B.1 B.2.1 hd hi hl hn he (fun L1 hl => k p e s m args below meth c H locs cells slots L1 B hX hz hP hS hc hs hl)
theorem j_astore {i : Nat} {x : Nat} {ls' : List (Nat × Value)} (hd : decode M.2.1 pc = .ok (.astore i, 2)) (hn : i < M.2.2.1) (he : r_st1 ls i (.ref x) = ls') (k : r_T G M R n0 X Z (pc + 2) ls' st n h g z) : r_T G M R n0 X Z pc ls (.ref x :: st) n h g z := by
  intro p e s m args below meth c H locs cells slots L0 B hX hz hP hS hc hs hl
  exact lv_astore B.1 B.2.1 hd hl hn he (fun L1 hl => k p e s m args below meth c H locs cells slots L1 B hX hz hP hS hc hs hl)
theorem r_lk {i : Nat} {v : Value} (hv : ls.lookup i = some v) : ∃ q : Nat, ls[q]? = some (i, v) := by
  obtain ⟨l1, l2, e, -⟩ := List.lookup_eq_some_iff.mp hv
  exact ⟨l1.length, by rw [e]; simp⟩
theorem j_iinc {i : Nat} {j : Int} {x : Int32} {ls' : List (Nat × Value)} (hd : decode M.2.1 pc = .ok (.iinc i j, 3)) (hv : ls.lookup i = some (.int x)) (hn : i < M.2.2.1) (he : r_st1 ls i (.int (x + Int32.ofInt j)) = ls') (k : r_T G M R n0 X Z (pc + 3) ls' st n h g z) : r_T G M R n0 X Z pc ls st n h g z := by
  intro p e s m args below meth c H locs cells slots L0 B hX hz hP hS hc hs hl
  obtain ⟨q, hq⟩ := r_lk hv
  exact lv_iinc B.1 B.2.1 hd hl hq rfl hn he (fun L1 hl => k p e s m args below meth c H locs cells slots L1 B hX hz hP hS hc hs hl)
theorem j_if_eq {x : Int32} {off : Int} {tgt : Nat} (hd : decode M.2.1 pc = .ok (.ifCond .eq off, 3)) (ht : (pc : Int) + off = (tgt : Int)) (kt : x = 0 → r_T G M R n0 X Z tgt ls st n h g z) (kf : ¬ x = 0 → r_T G M R n0 X Z (pc + 3) ls st n h g z) : r_T G M R n0 X Z pc ls (.int x :: st) n h g z := by
  intro p e s m args below meth c H locs cells slots L0 B hX hz hP hS hc hs hl
  exact lv_if_eq B.1 B.2.1 hd ht (fun q => kt q p e s m args below meth c H locs cells slots L0 B hX hz hP hS hc hs hl) (fun q => kf q p e s m args below meth c H locs cells slots L0 B hX hz hP hS hc hs hl)
theorem j_icmp_eq {x y : Int32} {off : Int} {tgt : Nat} (hd : decode M.2.1 pc = .ok (.if_icmp .eq off, 3)) (ht : (pc : Int) + off = (tgt : Int)) (kt : x = y → r_T G M R n0 X Z tgt ls st n h g z) (kf : ¬ x = y → r_T G M R n0 X Z (pc + 3) ls st n h g z) : r_T G M R n0 X Z pc ls (.int y :: .int x :: st) n h g z := by
  intro p e s m args below meth c H locs cells slots L0 B hX hz hP hS hc hs hl
  exact lv_icmp_eq B.1 B.2.1 hd ht (fun q => kt q p e s m args below meth c H locs cells slots L0 B hX hz hP hS hc hs hl) (fun q => kf q p e s m args below meth c H locs cells slots L0 B hX hz hP hS hc hs hl)
theorem j_if_ne {x : Int32} {off : Int} {tgt : Nat} (hd : decode M.2.1 pc = .ok (.ifCond .ne off, 3)) (ht : (pc : Int) + off = (tgt : Int)) (kt : ¬ x = 0 → r_T G M R n0 X Z tgt ls st n h g z) (kf : x = 0 → r_T G M R n0 X Z (pc + 3) ls st n h g z) : r_T G M R n0 X Z pc ls (.int x :: st) n h g z := by
  intro p e s m args below meth c H locs cells slots L0 B hX hz hP hS hc hs hl
  exact lv_if_ne B.1 B.2.1 hd ht (fun q => kt q p e s m args below meth c H locs cells slots L0 B hX hz hP hS hc hs hl) (fun q => kf q p e s m args below meth c H locs cells slots L0 B hX hz hP hS hc hs hl)
theorem j_icmp_ne {x y : Int32} {off : Int} {tgt : Nat} (hd : decode M.2.1 pc = .ok (.if_icmp .ne off, 3)) (ht : (pc : Int) + off = (tgt : Int)) (kt : ¬ x = y → r_T G M R n0 X Z tgt ls st n h g z) (kf : x = y → r_T G M R n0 X Z (pc + 3) ls st n h g z) : r_T G M R n0 X Z pc ls (.int y :: .int x :: st) n h g z := by
  intro p e s m args below meth c H locs cells slots L0 B hX hz hP hS hc hs hl
  exact lv_icmp_ne B.1 B.2.1 hd ht (fun q => kt q p e s m args below meth c H locs cells slots L0 B hX hz hP hS hc hs hl) (fun q => kf q p e s m args below meth c H locs cells slots L0 B hX hz hP hS hc hs hl)
theorem j_if_lt {x : Int32} {off : Int} {tgt : Nat} (hd : decode M.2.1 pc = .ok (.ifCond .lt off, 3)) (ht : (pc : Int) + off = (tgt : Int)) (kt : x < 0 → r_T G M R n0 X Z tgt ls st n h g z) (kf : ¬ x < 0 → r_T G M R n0 X Z (pc + 3) ls st n h g z) : r_T G M R n0 X Z pc ls (.int x :: st) n h g z := by
  intro p e s m args below meth c H locs cells slots L0 B hX hz hP hS hc hs hl
  exact lv_if_lt B.1 B.2.1 hd ht (fun q => kt q p e s m args below meth c H locs cells slots L0 B hX hz hP hS hc hs hl) (fun q => kf q p e s m args below meth c H locs cells slots L0 B hX hz hP hS hc hs hl)
theorem j_icmp_lt {x y : Int32} {off : Int} {tgt : Nat} (hd : decode M.2.1 pc = .ok (.if_icmp .lt off, 3)) (ht : (pc : Int) + off = (tgt : Int)) (kt : x < y → r_T G M R n0 X Z tgt ls st n h g z) (kf : ¬ x < y → r_T G M R n0 X Z (pc + 3) ls st n h g z) : r_T G M R n0 X Z pc ls (.int y :: .int x :: st) n h g z := by
  intro p e s m args below meth c H locs cells slots L0 B hX hz hP hS hc hs hl
  exact lv_icmp_lt B.1 B.2.1 hd ht (fun q => kt q p e s m args below meth c H locs cells slots L0 B hX hz hP hS hc hs hl) (fun q => kf q p e s m args below meth c H locs cells slots L0 B hX hz hP hS hc hs hl)
theorem j_if_ge {x : Int32} {off : Int} {tgt : Nat} (hd : decode M.2.1 pc = .ok (.ifCond .ge off, 3)) (ht : (pc : Int) + off = (tgt : Int)) (kt : 0 ≤ x → r_T G M R n0 X Z tgt ls st n h g z) (kf : ¬ 0 ≤ x → r_T G M R n0 X Z (pc + 3) ls st n h g z) : r_T G M R n0 X Z pc ls (.int x :: st) n h g z := by
  intro p e s m args below meth c H locs cells slots L0 B hX hz hP hS hc hs hl
  exact lv_if_ge B.1 B.2.1 hd ht (fun q => kt q p e s m args below meth c H locs cells slots L0 B hX hz hP hS hc hs hl) (fun q => kf q p e s m args below meth c H locs cells slots L0 B hX hz hP hS hc hs hl)
theorem j_icmp_ge {x y : Int32} {off : Int} {tgt : Nat} (hd : decode M.2.1 pc = .ok (.if_icmp .ge off, 3)) (ht : (pc : Int) + off = (tgt : Int)) (kt : y ≤ x → r_T G M R n0 X Z tgt ls st n h g z) (kf : ¬ y ≤ x → r_T G M R n0 X Z (pc + 3) ls st n h g z) : r_T G M R n0 X Z pc ls (.int y :: .int x :: st) n h g z := by
  intro p e s m args below meth c H locs cells slots L0 B hX hz hP hS hc hs hl
  exact lv_icmp_ge B.1 B.2.1 hd ht (fun q => kt q p e s m args below meth c H locs cells slots L0 B hX hz hP hS hc hs hl) (fun q => kf q p e s m args below meth c H locs cells slots L0 B hX hz hP hS hc hs hl)
theorem j_if_gt {x : Int32} {off : Int} {tgt : Nat} (hd : decode M.2.1 pc = .ok (.ifCond .gt off, 3)) (ht : (pc : Int) + off = (tgt : Int)) (kt : 0 < x → r_T G M R n0 X Z tgt ls st n h g z) (kf : ¬ 0 < x → r_T G M R n0 X Z (pc + 3) ls st n h g z) : r_T G M R n0 X Z pc ls (.int x :: st) n h g z := by
  intro p e s m args below meth c H locs cells slots L0 B hX hz hP hS hc hs hl
  exact lv_if_gt B.1 B.2.1 hd ht (fun q => kt q p e s m args below meth c H locs cells slots L0 B hX hz hP hS hc hs hl) (fun q => kf q p e s m args below meth c H locs cells slots L0 B hX hz hP hS hc hs hl)
theorem j_icmp_gt {x y : Int32} {off : Int} {tgt : Nat} (hd : decode M.2.1 pc = .ok (.if_icmp .gt off, 3)) (ht : (pc : Int) + off = (tgt : Int)) (kt : y < x → r_T G M R n0 X Z tgt ls st n h g z) (kf : ¬ y < x → r_T G M R n0 X Z (pc + 3) ls st n h g z) : r_T G M R n0 X Z pc ls (.int y :: .int x :: st) n h g z := by
  intro p e s m args below meth c H locs cells slots L0 B hX hz hP hS hc hs hl
  exact lv_icmp_gt B.1 B.2.1 hd ht (fun q => kt q p e s m args below meth c H locs cells slots L0 B hX hz hP hS hc hs hl) (fun q => kf q p e s m args below meth c H locs cells slots L0 B hX hz hP hS hc hs hl)
theorem j_if_le {x : Int32} {off : Int} {tgt : Nat} (hd : decode M.2.1 pc = .ok (.ifCond .le off, 3)) (ht : (pc : Int) + off = (tgt : Int)) (kt : x ≤ 0 → r_T G M R n0 X Z tgt ls st n h g z) (kf : ¬ x ≤ 0 → r_T G M R n0 X Z (pc + 3) ls st n h g z) : r_T G M R n0 X Z pc ls (.int x :: st) n h g z := by
  intro p e s m args below meth c H locs cells slots L0 B hX hz hP hS hc hs hl
  exact lv_if_le B.1 B.2.1 hd ht (fun q => kt q p e s m args below meth c H locs cells slots L0 B hX hz hP hS hc hs hl) (fun q => kf q p e s m args below meth c H locs cells slots L0 B hX hz hP hS hc hs hl)
theorem j_icmp_le {x y : Int32} {off : Int} {tgt : Nat} (hd : decode M.2.1 pc = .ok (.if_icmp .le off, 3)) (ht : (pc : Int) + off = (tgt : Int)) (kt : x ≤ y → r_T G M R n0 X Z tgt ls st n h g z) (kf : ¬ x ≤ y → r_T G M R n0 X Z (pc + 3) ls st n h g z) : r_T G M R n0 X Z pc ls (.int y :: .int x :: st) n h g z := by
  intro p e s m args below meth c H locs cells slots L0 B hX hz hP hS hc hs hl
  exact lv_icmp_le B.1 B.2.1 hd ht (fun q => kt q p e s m args below meth c H locs cells slots L0 B hX hz hP hS hc hs hl) (fun q => kf q p e s m args below meth c H locs cells slots L0 B hX hz hP hS hc hs hl)
theorem j_goto {off : Int} {tgt : Nat} (hd : decode M.2.1 pc = .ok (.goto off, 3)) (ht : (pc : Int) + off = (tgt : Int)) (k : r_T G M R n0 X Z tgt ls st n h g z) : r_T G M R n0 X Z pc ls st n h g z := by
  intro p e s m args below meth c H locs cells slots L0 B hX hz hP hS hc hs hl
  exact lv_goto B.1 B.2.1 hd ht (k p e s m args below meth c H locs cells slots L0 B hX hz hP hS hc hs hl)
theorem j_tabOut {dflt lo hi : Int} {offs : Array Int} {len : Nat} {x : Int32} {tgt : Nat} (hd : decode M.2.1 pc = .ok (.tableswitch dflt lo hi offs, len)) (hx : x.toInt < lo ∨ hi < x.toInt) (ht : (pc : Int) + dflt = (tgt : Int)) (k : r_T G M R n0 X Z tgt ls st n h g z) : r_T G M R n0 X Z pc ls (.int x :: st) n h g z := by
  intro p e s m args below meth c H locs cells slots L0 B hX hz hP hS hc hs hl
  exact lv_tableOut B.1 B.2.1 hd hx ht (k p e s m args below meth c H locs cells slots L0 B hX hz hP hS hc hs hl)
theorem j_tabIn {dflt lo hi : Int} {offs : Array Int} {len : Nat} {x : Int32} {off : Int} {tgt : Nat} (hd : decode M.2.1 pc = .ok (.tableswitch dflt lo hi offs, len)) (h1 : ¬ x.toInt < lo) (h2 : ¬ hi < x.toInt) (ho : offs[(x.toInt - lo).toNat]? = some off) (ht : (pc : Int) + off = (tgt : Int)) (k : r_T G M R n0 X Z tgt ls st n h g z) : r_T G M R n0 X Z pc ls (.int x :: st) n h g z := by
  intro p e s m args below meth c H locs cells slots L0 B hX hz hP hS hc hs hl
  exact lv_tableIn B.1 B.2.1 hd h1 h2 ho ht (k p e s m args below meth c H locs cells slots L0 B hX hz hP hS hc hs hl)
theorem j_lookup {dflt : Int} {ps : Array (Int × Int)} {len : Nat} {x : Int32} {off : Int} {tgt : Nat} (hd : decode M.2.1 pc = .ok (.lookupswitch dflt ps, len)) (hp : (ps.toList.zip (ps.toList.drop 1)).all (fun (a, next) => a.1 < next.1) = true) (ho : Op.lookupswitch.offset ps.toList dflt x.toInt = off) (ht : (pc : Int) + off = (tgt : Int)) (k : r_T G M R n0 X Z tgt ls st n h g z) : r_T G M R n0 X Z pc ls (.int x :: st) n h g z := by
  intro p e s m args below meth c H locs cells slots L0 B hX hz hP hS hc hs hl
  exact lv_lookup B.1 B.2.1 hd hp ho ht (k p e s m args below meth c H locs cells slots L0 B hX hz hP hS hc hs hl)
theorem j_ldc {i : Nat} {v : Int32} (hd : decode M.2.1 pc = .ok (.ldc i, 2)) (hw : Cond.constant M.1.cls i v ∈ r_wg) (k : r_T G M R n0 X Z (pc + 2) ls (.int v :: st) n h g z) : r_T G M R n0 X Z pc ls st n h g z := by
  intro p e s m args below meth c H locs cells slots L0 B hX hz hP hS hc hs hl
  exact lv_ldc B.1 B.2.1 B.2.2.2.2.2.2.1 (B.2.2.2.2.2.2.2.1 _ hw) hd (k p e s m args below meth c H locs cells slots L0 B hX hz hP hS hc hs hl)
theorem j_ldcw {i : Nat} {v : Int32} (hd : decode M.2.1 pc = .ok (.ldc_w i, 3)) (hw : Cond.constant M.1.cls i v ∈ r_wg) (k : r_T G M R n0 X Z (pc + 3) ls (.int v :: st) n h g z) : r_T G M R n0 X Z pc ls st n h g z := by
  intro p e s m args below meth c H locs cells slots L0 B hX hz hP hS hc hs hl
  exact lv_ldcw B.1 B.2.1 B.2.2.2.2.2.2.1 (B.2.2.2.2.2.2.2.1 _ hw) hd (k p e s m args below meth c H locs cells slots L0 B hX hz hP hS hc hs hl)
theorem j_ldc2 {i : Nat} {v : Int64} (hd : decode M.2.1 pc = .ok (.ldc2_w i, 3)) (hw : Cond.constantLong M.1.cls i v ∈ r_wg) (k : r_T G M R n0 X Z (pc + 3) ls (.long v :: st) n h g z) : r_T G M R n0 X Z pc ls st n h g z := by
  intro p e s m args below meth c H locs cells slots L0 B hX hz hP hS hc hs hl
  exact lv_ldc2 B.1 B.2.1 B.2.2.2.2.2.2.1 (B.2.2.2.2.2.2.2.1 _ hw) hd (k p e s m args below meth c H locs cells slots L0 B hX hz hP hS hc hs hl)
theorem j_nonnull {x : Nat} {off : Int} {tgt : Nat} (hd : decode M.2.1 pc = .ok (.ifnonnull off, 3)) (ht : (pc : Int) + off = (tgt : Int)) (k : r_T G M R n0 X Z tgt ls st n h g z) : r_T G M R n0 X Z pc ls (.ref x :: st) n h g z := by
  intro p e s m args below meth c H locs cells slots L0 B hX hz hP hS hc hs hl
  exact lv_ifnonnull B.1 B.2.1 hd ht (k p e s m args below meth c H locs cells slots L0 B hX hz hP hS hc hs hl)
theorem j_locals {ls' : List (Nat × Value)} (hv : ∀ q ∈ ls', q ∈ ls) (k : r_T G M R n0 X Z pc ls' st n h g z) : r_T G M R n0 X Z pc ls st n h g z := by
  intro p e s m args below meth c H locs cells slots L0 B hX hz hP hS hc hs hl
  exact k p e s m args below meth c H locs cells slots L0 B hX hz hP hS hc hs ⟨hl.1, hl.2.1, fun q hq => hl.2.2 q (hv q hq)⟩
end
