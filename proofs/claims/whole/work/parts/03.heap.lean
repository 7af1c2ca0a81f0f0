def r_y0 : Nat → FieldType := fun k => match k with
  | 0 => (.object "RingArm$Disc")
  | 1 => (.array .int)
  | 2 => (.array .int)
  | 3 => (.array .int)
  | 4 => .int
  | 5 => .int
  | 6 => .int
  | 7 => .boolean
  | _ => .int
theorem r_y0_ok : (∀ k, k < 9 → parseFieldDescriptor (r_T0 k).2.2.1 = some (r_y0 k)) ∧ (∀ a, a < 9 → ∀ b, b < 9 → a ≠ b → (r_T0 a).2.1 ≠ (r_T0 b).2.1) ∧ (∀ k, k < 9 → ((r_ft 0 k = 0 ∨ r_ft 0 k = 3) → defaultValue (r_y0 k) = .int 0) ∧ (r_ft 0 k = 1 → defaultValue (r_y0 k) = .null) ∧ (r_ft 0 k = 2 → defaultValue (r_y0 k) = .long 0) ∧ r_ft 0 k < 4) := by decide +kernel
def r_y1 : Nat → FieldType := fun k => match k with
  | 0 => (.array .int)
  | 1 => (.array .int)
  | 2 => (.array .int)
  | 3 => .int
  | 4 => .int
  | _ => .int
theorem r_y1_ok : (∀ k, k < 6 → parseFieldDescriptor (r_T1 k).2.2.1 = some (r_y1 k)) ∧ (∀ a, a < 6 → ∀ b, b < 6 → a ≠ b → (r_T1 a).2.1 ≠ (r_T1 b).2.1) ∧ (∀ k, k < 6 → ((r_ft 1 k = 0 ∨ r_ft 1 k = 3) → defaultValue (r_y1 k) = .int 0) ∧ (r_ft 1 k = 1 → defaultValue (r_y1 k) = .null) ∧ (r_ft 1 k = 2 → defaultValue (r_y1 k) = .long 0) ∧ r_ft 1 k < 4) := by decide +kernel
def r_y2 : Nat → FieldType := fun k => match k with
  | _ => .int
theorem r_y2_ok : (∀ k, k < 0 → parseFieldDescriptor (r_T2 k).2.2.1 = some (r_y2 k)) ∧ (∀ a, a < 0 → ∀ b, b < 0 → a ≠ b → (r_T2 a).2.1 ≠ (r_T2 b).2.1) ∧ (∀ k, k < 0 → ((r_ft 2 k = 0 ∨ r_ft 2 k = 3) → defaultValue (r_y2 k) = .int 0) ∧ (r_ft 2 k = 1 → defaultValue (r_y2 k) = .null) ∧ (r_ft 2 k = 2 → defaultValue (r_y2 k) = .long 0) ∧ r_ft 2 k < 4) := by decide +kernel
def r_y3 : Nat → FieldType := fun k => match k with
  | _ => .int
theorem r_y3_ok : (∀ k, k < 0 → parseFieldDescriptor (r_T3 k).2.2.1 = some (r_y3 k)) ∧ (∀ a, a < 0 → ∀ b, b < 0 → a ≠ b → (r_T3 a).2.1 ≠ (r_T3 b).2.1) ∧ (∀ k, k < 0 → ((r_ft 3 k = 0 ∨ r_ft 3 k = 3) → defaultValue (r_y3 k) = .int 0) ∧ (r_ft 3 k = 1 → defaultValue (r_y3 k) = .null) ∧ (r_ft 3 k = 2 → defaultValue (r_y3 k) = .long 0) ∧ r_ft 3 k < 4) := by decide +kernel
def r_y4 : Nat → FieldType := fun k => match k with
  | 0 => (.array .int)
  | 1 => (.array .int)
  | 2 => .int
  | _ => .int
theorem r_y4_ok : (∀ k, k < 4 → parseFieldDescriptor (r_T4 k).2.2.1 = some (r_y4 k)) ∧ (∀ a, a < 4 → ∀ b, b < 4 → a ≠ b → (r_T4 a).2.1 ≠ (r_T4 b).2.1) ∧ (∀ k, k < 4 → ((r_ft 4 k = 0 ∨ r_ft 4 k = 3) → defaultValue (r_y4 k) = .int 0) ∧ (r_ft 4 k = 1 → defaultValue (r_y4 k) = .null) ∧ (r_ft 4 k = 2 → defaultValue (r_y4 k) = .long 0) ∧ r_ft 4 k < 4) := by decide +kernel
def r_y5 : Nat → FieldType := fun k => match k with
  | 0 => (.array .int)
  | _ => .int
theorem r_y5_ok : (∀ k, k < 2 → parseFieldDescriptor (r_T5 k).2.2.1 = some (r_y5 k)) ∧ (∀ a, a < 2 → ∀ b, b < 2 → a ≠ b → (r_T5 a).2.1 ≠ (r_T5 b).2.1) ∧ (∀ k, k < 2 → ((r_ft 5 k = 0 ∨ r_ft 5 k = 3) → defaultValue (r_y5 k) = .int 0) ∧ (r_ft 5 k = 1 → defaultValue (r_y5 k) = .null) ∧ (r_ft 5 k = 2 → defaultValue (r_y5 k) = .long 0) ∧ r_ft 5 k < 4) := by decide +kernel
def r_y6 : Nat → FieldType := fun k => match k with
  | _ => .int
theorem r_y6_ok : (∀ k, k < 0 → parseFieldDescriptor (r_T6 k).2.2.1 = some (r_y6 k)) ∧ (∀ a, a < 0 → ∀ b, b < 0 → a ≠ b → (r_T6 a).2.1 ≠ (r_T6 b).2.1) ∧ (∀ k, k < 0 → ((r_ft 6 k = 0 ∨ r_ft 6 k = 3) → defaultValue (r_y6 k) = .int 0) ∧ (r_ft 6 k = 1 → defaultValue (r_y6 k) = .null) ∧ (r_ft 6 k = 2 → defaultValue (r_y6 k) = .long 0) ∧ r_ft 6 k < 4) := by decide +kernel
def r_y7 : Nat → FieldType := fun k => match k with
  | 0 => (.array .int)
  | 1 => (.array .int)
  | _ => .int
theorem r_y7_ok : (∀ k, k < 3 → parseFieldDescriptor (r_T7 k).2.2.1 = some (r_y7 k)) ∧ (∀ a, a < 3 → ∀ b, b < 3 → a ≠ b → (r_T7 a).2.1 ≠ (r_T7 b).2.1) ∧ (∀ k, k < 3 → ((r_ft 7 k = 0 ∨ r_ft 7 k = 3) → defaultValue (r_y7 k) = .int 0) ∧ (r_ft 7 k = 1 → defaultValue (r_y7 k) = .null) ∧ (r_ft 7 k = 2 → defaultValue (r_y7 k) = .long 0) ∧ r_ft 7 k < 4) := by decide +kernel
def r_y8 : Nat → FieldType := fun k => match k with
  | _ => .int
theorem r_y8_ok : (∀ k, k < 0 → parseFieldDescriptor (r_T8 k).2.2.1 = some (r_y8 k)) ∧ (∀ a, a < 0 → ∀ b, b < 0 → a ≠ b → (r_T8 a).2.1 ≠ (r_T8 b).2.1) ∧ (∀ k, k < 0 → ((r_ft 8 k = 0 ∨ r_ft 8 k = 3) → defaultValue (r_y8 k) = .int 0) ∧ (r_ft 8 k = 1 → defaultValue (r_y8 k) = .null) ∧ (r_ft 8 k = 2 → defaultValue (r_y8 k) = .long 0) ∧ r_ft 8 k < 4) := by decide +kernel
def r_y9 : Nat → FieldType := fun k => match k with
  | _ => .int
theorem r_y9_ok : (∀ k, k < 0 → parseFieldDescriptor (r_T9 k).2.2.1 = some (r_y9 k)) ∧ (∀ a, a < 0 → ∀ b, b < 0 → a ≠ b → (r_T9 a).2.1 ≠ (r_T9 b).2.1) ∧ (∀ k, k < 0 → ((r_ft 9 k = 0 ∨ r_ft 9 k = 3) → defaultValue (r_y9 k) = .int 0) ∧ (r_ft 9 k = 1 → defaultValue (r_y9 k) = .null) ∧ (r_ft 9 k = 2 → defaultValue (r_y9 k) = .long 0) ∧ r_ft 9 k < 4) := by decide +kernel
def r_y10 : Nat → FieldType := fun k => match k with
  | 0 => (.array .int)
  | 1 => (.array .int)
  | 2 => (.array .int)
  | _ => .int
theorem r_y10_ok : (∀ k, k < 4 → parseFieldDescriptor (r_T10 k).2.2.1 = some (r_y10 k)) ∧ (∀ a, a < 4 → ∀ b, b < 4 → a ≠ b → (r_T10 a).2.1 ≠ (r_T10 b).2.1) ∧ (∀ k, k < 4 → ((r_ft 10 k = 0 ∨ r_ft 10 k = 3) → defaultValue (r_y10 k) = .int 0) ∧ (r_ft 10 k = 1 → defaultValue (r_y10 k) = .null) ∧ (r_ft 10 k = 2 → defaultValue (r_y10 k) = .long 0) ∧ r_ft 10 k < 4) := by decide +kernel
def r_y11 : Nat → FieldType := fun k => match k with
  | 0 => (.object "RingArm$Page")
  | 1 => (.object "RingArm$Disc")
  | 2 => (.object "RingArm$Desk")
  | 3 => (.object "RingArm$Things")
  | 4 => (.object "RingArm$Sight")
  | 5 => (.array (.object "RingArm$First"))
  | 6 => (.object "RingArm$First")
  | 7 => (.object "RingArm$Disc")
  | 8 => (.object "RingArm$Desk")
  | 9 => (.object "RingArm$Things")
  | 10 => (.object "RingArm$Sight")
  | 11 => (.object "RingArm$First")
  | 12 => .boolean
  | 13 => (.object "RingArm$Desk")
  | 14 => (.object "RingArm$Orders")
  | 15 => .int
  | _ => .int
theorem r_y11_ok : (∀ k, k < 17 → parseFieldDescriptor (r_T11 k).2.2.1 = some (r_y11 k)) ∧ (∀ a, a < 17 → ∀ b, b < 17 → a ≠ b → (r_T11 a).2.1 ≠ (r_T11 b).2.1) ∧ (∀ k, k < 17 → ((r_ft 11 k = 0 ∨ r_ft 11 k = 3) → defaultValue (r_y11 k) = .int 0) ∧ (r_ft 11 k = 1 → defaultValue (r_y11 k) = .null) ∧ (r_ft 11 k = 2 → defaultValue (r_y11 k) = .long 0) ∧ r_ft 11 k < 4) := by decide +kernel
def r_y12 : Nat → FieldType := fun k => match k with
  | 0 => (.array .int)
  | 1 => .int
  | 2 => .int
  | 3 => .int
  | 4 => .int
  | 5 => .int
  | 6 => .int
  | 7 => .int
  | 8 => .int
  | 9 => .int
  | 10 => .int
  | 11 => .int
  | 12 => (.array .int)
  | 13 => (.array .int)
  | 14 => (.array .int)
  | 15 => .int
  | 16 => .int
  | 17 => .int
  | 18 => .int
  | 19 => (.array .int)
  | 20 => .int
  | 21 => (.array .int)
  | 22 => (.array .int)
  | 23 => (.array .int)
  | 24 => .int
  | 25 => (.array .int)
  | 26 => .int
  | 27 => .int
  | 28 => .int
  | 29 => .int
  | 30 => .int
  | 31 => .int
  | 32 => .int
  | 33 => .int
  | 34 => .int
  | 35 => .int
  | 36 => (.array .int)
  | 37 => (.array .int)
  | 38 => (.array .int)
  | 39 => (.array .int)
  | _ => .long
theorem r_y12_ok : (∀ k, k < 41 → parseFieldDescriptor (r_T12 k).2.2.1 = some (r_y12 k)) ∧ (∀ a, a < 41 → ∀ b, b < 41 → a ≠ b → (r_T12 a).2.1 ≠ (r_T12 b).2.1) ∧ (∀ k, k < 41 → ((r_ft 12 k = 0 ∨ r_ft 12 k = 3) → defaultValue (r_y12 k) = .int 0) ∧ (r_ft 12 k = 1 → defaultValue (r_y12 k) = .null) ∧ (r_ft 12 k = 2 → defaultValue (r_y12 k) = .long 0) ∧ r_ft 12 k < 4) := by decide +kernel
def r_y (c : Nat) : Nat → FieldType := match c with
  | 0 => r_y0
  | 1 => r_y1
  | 2 => r_y2
  | 3 => r_y3
  | 4 => r_y4
  | 5 => r_y5
  | 6 => r_y6
  | 7 => r_y7
  | 8 => r_y8
  | 9 => r_y9
  | 10 => r_y10
  | 11 => r_y11
  | _ => r_y12
theorem r_clOK {c : Nat} {q : vw_C} (hc : r_cl0[c]? = some q) : (∀ w ∈ u_ws q.1 q.2.1 q.2.2, w ∈ r_wg) ∧ q.2.2 = r_nf c ∧ (∀ k, k < q.2.2 → parseFieldDescriptor (q.2.1 k).2.2.1 = some (r_y c k)) ∧ (∀ a, a < q.2.2 → ∀ b, b < q.2.2 → a ≠ b → (q.2.1 a).2.1 ≠ (q.2.1 b).2.1) ∧ (∀ k, k < q.2.2 → ((r_ft c k = 0 ∨ r_ft c k = 3) → defaultValue (r_y c k) = .int 0) ∧ (r_ft c k = 1 → defaultValue (r_y c k) = .null) ∧ (r_ft c k = 2 → defaultValue (r_y c k) = .long 0) ∧ r_ft c k < 4) := by
  match c, hc with
  | 0, hc => cases hc; exact ⟨r_lay0, rfl, r_y0_ok.1, r_y0_ok.2.1, r_y0_ok.2.2⟩
  | 1, hc => cases hc; exact ⟨r_lay1, rfl, r_y1_ok.1, r_y1_ok.2.1, r_y1_ok.2.2⟩
  | 2, hc => cases hc; exact ⟨r_lay2, rfl, r_y2_ok.1, r_y2_ok.2.1, r_y2_ok.2.2⟩
  | 3, hc => cases hc; exact ⟨r_lay3, rfl, r_y3_ok.1, r_y3_ok.2.1, r_y3_ok.2.2⟩
  | 4, hc => cases hc; exact ⟨r_lay4, rfl, r_y4_ok.1, r_y4_ok.2.1, r_y4_ok.2.2⟩
  | 5, hc => cases hc; exact ⟨r_lay5, rfl, r_y5_ok.1, r_y5_ok.2.1, r_y5_ok.2.2⟩
  | 6, hc => cases hc; exact ⟨r_lay6, rfl, r_y6_ok.1, r_y6_ok.2.1, r_y6_ok.2.2⟩
  | 7, hc => cases hc; exact ⟨r_lay7, rfl, r_y7_ok.1, r_y7_ok.2.1, r_y7_ok.2.2⟩
  | 8, hc => cases hc; exact ⟨r_lay8, rfl, r_y8_ok.1, r_y8_ok.2.1, r_y8_ok.2.2⟩
  | 9, hc => cases hc; exact ⟨r_lay9, rfl, r_y9_ok.1, r_y9_ok.2.1, r_y9_ok.2.2⟩
  | 10, hc => cases hc; exact ⟨r_lay10, rfl, r_y10_ok.1, r_y10_ok.2.1, r_y10_ok.2.2⟩
  | 11, hc => cases hc; exact ⟨r_lay11, rfl, r_y11_ok.1, r_y11_ok.2.1, r_y11_ok.2.2⟩
  | 12, hc => cases hc; exact ⟨r_lay12, rfl, r_y12_ok.1, r_y12_ok.2.1, r_y12_ok.2.2⟩
  | c + 13, hc => simp [r_cl0] at hc
/-- a field by its entry of the pool: which one it is, its type, whether it is final -/
def r_fl (own : String) (i c j : Nat) (ty : FieldType) (fin : Bool) : Prop := ∃ q : vw_C, r_cl0[c]? = some q ∧ j < q.2.2 ∧ Cond.fieldLink own i (q.2.1 j).1 (q.2.1 j).2.1 (q.2.1 j).2.2.1 ∈ r_wg ∧ parseFieldDescriptor (q.2.1 j).2.2.1 = some ty ∧ (q.2.1 j).2.2.2 = fin ∧ (q.2.1 j).1 = q.1
section
variable {G : r_X} {M M' : r_M} {R : Room} {n0 n1 : Nat} {X : State → Prop} {Z : List Frame → Array Value → State → State → Prop} {F : r_F} {pc n : Nat} {ls : List (Nat × Value)} {st : List Value} {h : r_HI} {g : r_HR} {z : r_HL}
theorem j_geti {i c j k : Nat} {ty : FieldType} {fin : Bool} (hd : decode M.2.1 pc = .ok (.getfield i, 3)) (hf : r_fl M.1.cls i c j ty fin) (ht : r_ft c j = 0) (hp : r_pk k = (0, c)) (hk : k < n) (kk : r_T G M R n0 X Z (pc + 3) ls (.int (h k j) :: st) n h g z) : r_T G M R n0 X Z pc ls (.ref (G.2.1 + k) :: st) n h g z := by
  intro p e s m args below meth c0 H locs cells slots L0 B hX hz hP hS hc hs hl
  obtain ⟨⟨C, T, N⟩, hc0, hj, hw, -, -⟩ := hf
  have hO := r_clOK hc0
  exact va_get (D := r_G G) (cl := r_cl0) (ci := c) B.1 B.2.1 B.2.2.2.2.2.2.2.1 hO.1 B.2.2.2.2.2.2.1 B.2.2.2.2.2.2.2.2.2.2 hP k (by rw [r_W_at hk, r_E_o hp]) hc0 j hj (B.2.2.2.2.2.2.2.1 _ hw) (fun _ h9 => h9) (v := .int (h k j)) (by rw [r_fs_at (hO.2.1 ▸ hj)]; simp [r_fv, ht]) hd (kk p e s m args below meth c0 H locs cells slots L0 B hX hz hP hS hc hs hl)
theorem j_getz {i c j k : Nat} {ty : FieldType} {fin : Bool} (hd : decode M.2.1 pc = .ok (.getfield i, 3)) (hf : r_fl M.1.cls i c j ty fin) (ht : r_ft c j = 3) (hp : r_pk k = (0, c)) (hk : k < n) (kk : r_T G M R n0 X Z (pc + 3) ls (.int (h k j) :: st) n h g z) : r_T G M R n0 X Z pc ls (.ref (G.2.1 + k) :: st) n h g z := by
  intro p e s m args below meth c0 H locs cells slots L0 B hX hz hP hS hc hs hl
  obtain ⟨⟨C, T, N⟩, hc0, hj, hw, -, -⟩ := hf
  have hO := r_clOK hc0
  exact va_get (D := r_G G) (cl := r_cl0) (ci := c) B.1 B.2.1 B.2.2.2.2.2.2.2.1 hO.1 B.2.2.2.2.2.2.1 B.2.2.2.2.2.2.2.2.2.2 hP k (by rw [r_W_at hk, r_E_o hp]) hc0 j hj (B.2.2.2.2.2.2.2.1 _ hw) (fun _ h9 => h9) (v := .int (h k j)) (by rw [r_fs_at (hO.2.1 ▸ hj)]; simp [r_fv, ht]) hd (kk p e s m args below meth c0 H locs cells slots L0 B hX hz hP hS hc hs hl)
theorem j_getl {i c j k : Nat} {ty : FieldType} {fin : Bool} (hd : decode M.2.1 pc = .ok (.getfield i, 3)) (hf : r_fl M.1.cls i c j ty fin) (ht : r_ft c j = 2) (hp : r_pk k = (0, c)) (hk : k < n) (kk : r_T G M R n0 X Z (pc + 3) ls (.long (z k j) :: st) n h g z) : r_T G M R n0 X Z pc ls (.ref (G.2.1 + k) :: st) n h g z := by
  intro p e s m args below meth c0 H locs cells slots L0 B hX hz hP hS hc hs hl
  obtain ⟨⟨C, T, N⟩, hc0, hj, hw, -, -⟩ := hf
  have hO := r_clOK hc0
  exact va_get (D := r_G G) (cl := r_cl0) (ci := c) B.1 B.2.1 B.2.2.2.2.2.2.2.1 hO.1 B.2.2.2.2.2.2.1 B.2.2.2.2.2.2.2.2.2.2 hP k (by rw [r_W_at hk, r_E_o hp]) hc0 j hj (B.2.2.2.2.2.2.2.1 _ hw) (fun _ h9 => h9) (v := .long (z k j)) (by rw [r_fs_at (hO.2.1 ▸ hj)]; simp [r_fv, ht]) hd (kk p e s m args below meth c0 H locs cells slots L0 B hX hz hP hS hc hs hl)
theorem j_getr {i c j k y : Nat} {ty : FieldType} {fin : Bool} (hd : decode M.2.1 pc = .ok (.getfield i, 3)) (hf : r_fl M.1.cls i c j ty fin) (ht : r_ft c j = 1) (hp : r_pk k = (0, c)) (hk : k < n) (hy : g k j = some y) (kk : r_T G M R n0 X Z (pc + 3) ls (.ref (G.2.1 + y) :: st) n h g z) : r_T G M R n0 X Z pc ls (.ref (G.2.1 + k) :: st) n h g z := by
  intro p e s m args below meth c0 H locs cells slots L0 B hX hz hP hS hc hs hl
  obtain ⟨⟨C, T, N⟩, hc0, hj, hw, -, -⟩ := hf
  have hO := r_clOK hc0
  exact va_get (D := r_G G) (cl := r_cl0) (ci := c) B.1 B.2.1 B.2.2.2.2.2.2.2.1 hO.1 B.2.2.2.2.2.2.1 B.2.2.2.2.2.2.2.2.2.2 hP k (by rw [r_W_at hk, r_E_o hp]) hc0 j hj (B.2.2.2.2.2.2.2.1 _ hw) (fun _ h9 => h9) (v := .ref (G.2.1 + y)) (by rw [r_fs_at (hO.2.1 ▸ hj)]; simp [r_fv, ht, hy, va_rf]) hd (kk p e s m args below meth c0 H locs cells slots L0 B hX hz hP hS hc hs hl)
def r_cn (c : Nat) : String := match r_cl0[c]? with | some q => q.1 | none => ""
theorem r_putN {i c j k : Nat} {ty : FieldType} {v : Value} {h' : r_HI} {g' : r_HR} {z' : r_HL} (hd : decode M.2.1 pc = .ok (.putfield i, 3)) (hf : r_fl M.1.cls i c j ty false) (hp : r_pk k = (0, c)) (hk : k < n) (hn : narrow ty v = v) (hfit : fits ty v = true)
    (hset : (r_W G n h g z).set k (G.2.1 + k, .inr (c, (r_fs G.2.1 c h g z k).set j v)) = r_W G n h' g' z') (kk : r_T G M R n0 X Z (pc + 3) ls st n h' g' z') : r_T G M R n0 X Z pc ls (v :: .ref (G.2.1 + k) :: st) n h g z := by
  intro p e s m args below meth c0 H locs cells slots L0 B hX hz hP hS hc hs hl
  obtain ⟨⟨C, T, N⟩, hc0, hj, hw, hpt, hfin, hdc⟩ := hf
  have hO := r_clOK hc0
  have hK := B.2.2.2.2.2.2.2.2.2.2
  have hts := B.2.2.2.2.2.2.2.1
  have hap := va_apart (own := C) hts hO.1 (r_y c) hO.2.2.1 hO.2.2.2.1 hK hc0
  have hat : (r_W G n h g z)[k]? = some (G.2.1 + k, .inr (c, r_fs G.2.1 c h g z k)) := by rw [r_W_at hk, r_E_o hp]
  obtain ⟨r, h1, cell, q1, q2, q3, q4⟩ := hP k _ hat
  obtain rfl : r = (C, T, N) := Option.some.inj (h1.symm.trans hc0)
  obtain ⟨hSl, hfc, kC, hkC, hkind⟩ := hK.1 c _ hc0
  obtain ⟨cf, kf, fi, f, hi, hsl⟩ := hSl j hj
  have hlay := hts _ (hO.1 _ (u_in_lay hj))
  have hst := (u_facts hfc hkC (u_lays hts hO.1 hj) hi).1
  have hlen : j < (r_fs G.2.1 c h g z k).length := by
    simp only [r_fs, List.length_map, List.length_range]
    exact hO.2.1 ▸ hj
  unfold u_lay at hlay

  rw [if_neg (by rw [hfin]; decide)] at hlay
  refine W.putK B.1 B.2.1 (f := f) ⟨B.2.2.2.2.2.2.1, hts _ hw, ⟨_, _, _, hi⟩, hst⟩ (by rw [q2]; exact u_store hfc hkC hkind hlay hi hpt hn hfit) q1 q3 (by rw [hsl]; exact k2_hasslot (q4 j hj)) rfl rfl hd fun H' e1 e2 e3 => ?_
  rw [hsl] at e1 ⊢
  refine kk p e s m args below meth c0 H' _ cells slots L0 B hX (e2.trans hz) ?_ (hS.put e2 e3 (Nat.le_add_right _ _)) hc hs hl
  rw [← hset]
  exact hP.set r_D hat ⟨_, hc0, t_OB.to (V := updV (vp_V (r_fs G.2.1 c h g z k)) j v) ⟨_, e1, q2, q3, t_set q4 hap hj v⟩ (fun i _ => vp_updV_set hlen v i)⟩ e3
theorem r_putF {i c j k : Nat} {ty : FieldType} {v : Value} {h' : r_HI} {g' : r_HR} {z' : r_HL} (hd : decode M.2.1 pc = .ok (.putfield i, 3)) (hf : r_fl M.1.cls i c j ty true) (hp : r_pk k = (0, c)) (hk : k < n) (hin : M.1.name = "<init>") (hcls : r_cn c = M.1.cls) (hn : narrow ty v = v) (hfit : fits ty v = true)
    (hset : (r_W G n h g z).set k (G.2.1 + k, .inr (c, (r_fs G.2.1 c h g z k).set j v)) = r_W G n h' g' z') (kk : r_T G M R n0 X Z (pc + 3) ls st n h' g' z') : r_T G M R n0 X Z pc ls (v :: .ref (G.2.1 + k) :: st) n h g z := by
  intro p e s m args below meth c0 H locs cells slots L0 B hX hz hP hS hc hs hl
  obtain ⟨⟨C, T, N⟩, hc0, hj, hw, hpt, hfin, hdc⟩ := hf
  have hO := r_clOK hc0
  have hK := B.2.2.2.2.2.2.2.2.2.2
  have hts := B.2.2.2.2.2.2.2.1
  have hap := va_apart (own := C) hts hO.1 (r_y c) hO.2.2.1 hO.2.2.2.1 hK hc0
  have hat : (r_W G n h g z)[k]? = some (G.2.1 + k, .inr (c, r_fs G.2.1 c h g z k)) := by rw [r_W_at hk, r_E_o hp]
  obtain ⟨r, h1, cell, q1, q2, q3, q4⟩ := hP k _ hat
  obtain rfl : r = (C, T, N) := Option.some.inj (h1.symm.trans hc0)
  obtain ⟨hSl, hfc, kC, hkC, hkind⟩ := hK.1 c _ hc0
  obtain ⟨cf, kf, fi, f, hi, hsl⟩ := hSl j hj
  have hlay := hts _ (hO.1 _ (u_in_lay hj))
  have hst := (u_facts hfc hkC (u_lays hts hO.1 hj) hi).1
  have hlen : j < (r_fs G.2.1 c h g z k).length := by
    simp only [r_fs, List.length_map, List.length_range]
    exact hO.2.1 ▸ hj
  unfold u_lay at hlay

  rw [if_pos hfin] at hlay
  have hcf : m.cls = cf := by
    obtain ⟨_, _, c', _, _, _, -, -, hf', -, -, -, hown2, -⟩ := Cond.laysFinal_spec hlay
    have e1 : c' = cf := by have := hi.symm.trans hf'; simp at this; exact this.1.symm
    have e2 : (T j).1 = M.1.cls := by
      rw [← hcls]
      have e3 : r_cn c = C := by rw [r_cn, hc0]
      rw [e3]
      exact hdc
    have hown := B.2.2.2.2.2.2.1
    rw [← e2] at hown
    rw [← e1]
    exact Option.some.inj (hown.symm.trans hown2)
  refine W.putFinK B.1 B.2.1 B.2.2.2.2.2.2.1 (hts _ hw) hi hst hcf (B.2.2.2.2.2.1.trans hin) (by rw [q2]; exact u_fits hfc hkC hkind (Or.inr hlay) hi hpt hn hfit) q1 q3 (by rw [hsl]; exact k2_hasslot (q4 j hj)) rfl rfl hd fun H' e1 e2 e3 => ?_
  rw [hsl] at e1 ⊢
  refine kk p e s m args below meth c0 H' _ cells slots L0 B hX (e2.trans hz) ?_ (hS.put e2 e3 (Nat.le_add_right _ _)) hc hs hl
  rw [← hset]
  exact hP.set r_D hat ⟨_, hc0, t_OB.to (V := updV (vp_V (r_fs G.2.1 c h g z k)) j v) ⟨_, e1, q2, q3, t_set q4 hap hj v⟩ (fun i _ => vp_updV_set hlen v i)⟩ e3
theorem j_puti {i c j k : Nat} {v : Int32} (hd : decode M.2.1 pc = .ok (.putfield i, 3)) (hf : r_fl M.1.cls i c j .int false) (hj : j < r_nf c) (ht : r_ft c j = 0) (hp : r_pk k = (0, c)) (hk : k < n) (kk : r_T G M R n0 X Z (pc + 3) ls st n (r_up h k j v) g z) : r_T G M R n0 X Z pc ls (.int v :: .ref (G.2.1 + k) :: st) n h g z :=
  r_putN hd hf hp hk rfl rfl (r_set_i hp hj ht) kk
theorem j_putz {i c j k : Nat} {v : Int32} (hd : decode M.2.1 pc = .ok (.putfield i, 3)) (hf : r_fl M.1.cls i c j .boolean false) (hj : j < r_nf c) (ht : r_ft c j = 3) (hp : r_pk k = (0, c)) (hk : k < n) (hv : v = 0 ∨ v = 1) (kk : r_T G M R n0 X Z (pc + 3) ls st n (r_up h k j v) g z) : r_T G M R n0 X Z pc ls (.int v :: .ref (G.2.1 + k) :: st) n h g z :=
  r_putN hd hf hp hk (by rcases hv with rfl | rfl <;> rfl) (by rcases hv with rfl | rfl <;> rfl) (r_set_z hp hj ht) kk
theorem j_putl {i c j k : Nat} {v : Int64} (hd : decode M.2.1 pc = .ok (.putfield i, 3)) (hf : r_fl M.1.cls i c j .long false) (hj : j < r_nf c) (ht : r_ft c j = 2) (hp : r_pk k = (0, c)) (hk : k < n) (kk : r_T G M R n0 X Z (pc + 3) ls st n h g (r_uz z k j v)) : r_T G M R n0 X Z pc ls (.long v :: .ref (G.2.1 + k) :: st) n h g z :=
  r_putN hd hf hp hk rfl rfl (r_set_l hp hj ht) kk
theorem j_putr {i c j k : Nat} {y : Nat} {C1 : String} (hd : decode M.2.1 pc = .ok (.putfield i, 3)) (hf : r_fl M.1.cls i c j (.object C1) false) (hj : j < r_nf c) (ht : r_ft c j = 1) (hp : r_pk k = (0, c)) (hk : k < n) (kk : r_T G M R n0 X Z (pc + 3) ls st n h (r_ug g k j (some y)) z) : r_T G M R n0 X Z pc ls (.ref (G.2.1 + y) :: .ref (G.2.1 + k) :: st) n h g z :=
  r_putN hd hf hp hk rfl rfl (r_set_r (v := some y) hp hj ht) kk
theorem j_putFo {i c j k : Nat} {y : Nat} {C1 : String} (hd : decode M.2.1 pc = .ok (.putfield i, 3)) (hf : r_fl M.1.cls i c j (.object C1) true) (hj : j < r_nf c) (ht : r_ft c j = 1) (hp : r_pk k = (0, c)) (hk : k < n) (hin : M.1.name = "<init>") (hcls : r_cn c = M.1.cls) (kk : r_T G M R n0 X Z (pc + 3) ls st n h (r_ug g k j (some y)) z) : r_T G M R n0 X Z pc ls (.ref (G.2.1 + y) :: .ref (G.2.1 + k) :: st) n h g z :=
  r_putF hd hf hp hk hin hcls rfl rfl (r_set_r (v := some y) hp hj ht) kk
theorem j_putFa {i c j k : Nat} {y : Nat} {t1 : FieldType} (hd : decode M.2.1 pc = .ok (.putfield i, 3)) (hf : r_fl M.1.cls i c j (.array t1) true) (hj : j < r_nf c) (ht : r_ft c j = 1) (hp : r_pk k = (0, c)) (hk : k < n) (hin : M.1.name = "<init>") (hcls : r_cn c = M.1.cls) (kk : r_T G M R n0 X Z (pc + 3) ls st n h (r_ug g k j (some y)) z) : r_T G M R n0 X Z pc ls (.ref (G.2.1 + y) :: .ref (G.2.1 + k) :: st) n h g z :=
  r_putF hd hf hp hk hin hcls rfl rfl (r_set_r (v := some y) hp hj ht) kk
theorem j_iald {k m : Nat} {i : Int32} (hd : decode M.2.1 pc = .ok (.iaload, 1)) (hp : r_pk k = (1, m)) (hk : k < n) (hi : vp_in i m) (kk : r_T G M R n0 X Z (pc + 1) ls (.int (h k i.toNatClampNeg) :: st) n h g z) : r_T G M R n0 X Z pc ls (.int i :: .ref (G.2.1 + k) :: st) n h g z := by
  intro p e s m args below meth c0 H locs cells slots L0 B hX hz hP hS hc hs hl
  exact va_iald B.1 B.2.1 B.2.2.2.2.2.2.2.2.2.2 hP k 0 (by rw [r_W_at hk, r_E_i hp]) rfl hi hd (kk p e s m args below meth c0 H locs cells slots L0 B hX hz hP hS hc hs hl)
theorem j_alen {k m : Nat} {v : Int32} (hd : decode M.2.1 pc = .ok (.arraylength, 1)) (hp : r_pk k = (1, m)) (hk : k < n) (hv : Int32.ofNat m = v) (kk : r_T G M R n0 X Z (pc + 1) ls (.int v :: st) n h g z) : r_T G M R n0 X Z pc ls (.ref (G.2.1 + k) :: st) n h g z := by
  intro p e s m args below meth c0 H locs cells slots L0 B hX hz hP hS hc hs hl
  exact va_alen B.1 B.2.1 B.2.2.2.2.2.2.2.2.2.2 hP k 0 (by rw [r_W_at hk, r_E_i hp]) (ty := .int) rfl hv hd (kk p e s m args below meth c0 H locs cells slots L0 B hX hz hP hS hc hs hl)
theorem j_alenq {k m : Nat} {v : Int32} (hd : decode M.2.1 pc = .ok (.arraylength, 1)) (hp : r_pk k = (2, m)) (hk : k < n) (hv : Int32.ofNat m = v) (kk : r_T G M R n0 X Z (pc + 1) ls (.int v :: st) n h g z) : r_T G M R n0 X Z pc ls (.ref (G.2.1 + k) :: st) n h g z := by
  intro p e s m args below meth c0 H locs cells slots L0 B hX hz hP hS hc hs hl
  exact va_alen B.1 B.2.1 B.2.2.2.2.2.2.2.2.2.2 hP k 1 (by rw [r_W_at hk, r_E_q hp]) (ty := .object "RingArm$First") rfl hv hd (kk p e s m args below meth c0 H locs cells slots L0 B hX hz hP hS hc hs hl)
theorem j_aald {k m y : Nat} {i : Int32} (hd : decode M.2.1 pc = .ok (.aaload, 1)) (hp : r_pk k = (2, m)) (hk : k < n) (hi : vp_in i m) (hy : g k i.toNatClampNeg = some y) (kk : r_T G M R n0 X Z (pc + 1) ls (.ref (G.2.1 + y) :: st) n h g z) : r_T G M R n0 X Z pc ls (.int i :: .ref (G.2.1 + k) :: st) n h g z := by
  intro p e s m args below meth c0 H locs cells slots L0 B hX hz hP hS hc hs hl
  refine va_aldq B.1 B.2.1 B.2.2.2.2.2.2.2.2.2.2 hP k 1 (by rw [r_W_at hk, r_E_q hp]) rfl hi hd ?_
  have e1 : va_rf ((g k i.toNatClampNeg).map (G.2.1 + ·)) = .ref (G.2.1 + y) := by rw [hy]; rfl
  rw [e1]
  exact kk p e s m args below meth c0 H locs cells slots L0 B hX hz hP hS hc hs hl
theorem j_iast {k q9 : Nat} {i v : Int32} (hd : decode M.2.1 pc = .ok (.iastore, 1)) (hp : r_pk k = (1, q9)) (hk : k < n) (hi : vp_in i q9) (kk : r_T G M R n0 X Z (pc + 1) ls st n (r_up h k i.toNatClampNeg v) g z) : r_T G M R n0 X Z pc ls (.int v :: .int i :: .ref (G.2.1 + k) :: st) n h g z := by
  intro p e s m args below meth c0 H locs cells slots L0 B hX hz hP hS hc hs hl
  have hat : (r_W G n h g z)[k]? = some (G.2.1 + k, .inl (G.2.2.2.2.1, q9, .inl (h k))) := by rw [r_W_at hk, r_E_i hp]
  have hcell : H[G.2.1 + k]? = some (arrV G.2.2.2.2.1 q9 (fun j => .int (h k j))) := hP k _ hat
  have hAr := (B.2.2.2.2.2.2.2.2.2.2.2 0 _ rfl).1
  refine W.iast B.1 B.2.1 hcell (hAr q9 _) (fun q => by cases q) (by rw [arrV_size]; exact hi) rfl rfl hd fun H' e1 e2 e3 => ?_
  refine kk p e s m args below meth c0 H' _ cells slots L0 B hX (e2.trans hz) ?_ (hS.put e2 e3 (Nat.le_add_right _ _)) hc hs hl
  rw [← r_set_a (j := i.toNatClampNeg) (v := v) hp]
  refine hP.set r_D hat ?_ e3
  show H'[G.2.1 + k]? = some (vp_cell _ _)
  rw [e1, vp_cell_i, arrV_store]
  refine congrArg (fun f => some (arrV G.2.2.2.2.1 q9 f)) (funext fun q => ?_)
  by_cases hq : q = i.toNatClampNeg
  · simp [updV, upd, hq]
  · simp [updV, upd, hq]
theorem j_iret {i : Int32} (hd : decode M.2.1 pc = .ok (.ireturn, 1)) (hr : M.2.2.2 = some .int) (hF : F (some (.int i)) h g z) : r_T G M R n0 X (r_mz G n0 n F) pc ls [.int i] n h g z := by
  intro p e s m args below meth c0 H locs cells slots L0 B hX hz hP hS hc hs hl
  have e1 : cells = n - n0 := by omega
  have e2 : slots = r_tot n - r_tot n0 := by omega
  subst e1; subst e2
  exact W.iret B.1 B.2.1 (B.2.2.2.1.trans hr) (fun t ht hW => ⟨⟨_, h, g, z, rfl, hF, by rw [ht]; exact hz, by rw [ht]; exact hP, va_K.moved hW.alike B.2.2.2.2.2.2.2.2.2.2⟩, hS.F ht⟩) hS.2.2 hd (hlocks := B.2.2.2.2.1)
theorem j_zret {i : Int32} (hd : decode M.2.1 pc = .ok (.ireturn, 1)) (hr : M.2.2.2 = some .boolean) (hv : i = 0 ∨ i = 1) (hF : F (some (.int i)) h g z) : r_T G M R n0 X (r_mz G n0 n F) pc ls [.int i] n h g z := by
  intro p e s m args below meth c0 H locs cells slots L0 B hX hz hP hS hc hs hl
  have e1 : cells = n - n0 := by omega
  have e2 : slots = r_tot n - r_tot n0 := by omega
  subst e1; subst e2
  exact W.zret B.1 B.2.1 (B.2.2.2.1.trans hr) (by rcases hv with rfl | rfl <;> rfl) (fun t ht hW => ⟨⟨_, h, g, z, rfl, hF, by rw [ht]; exact hz, by rw [ht]; exact hP, va_K.moved hW.alike B.2.2.2.2.2.2.2.2.2.2⟩, hS.F ht⟩) hS.2.2 hd (hlocks := B.2.2.2.2.1)
theorem j_lret {i : Int64} (hd : decode M.2.1 pc = .ok (.lreturn, 1)) (hr : M.2.2.2 = some .long) (hF : F (some (.long i)) h g z) : r_T G M R n0 X (r_mz G n0 n F) pc ls [.long i] n h g z := by
  intro p e s m args below meth c0 H locs cells slots L0 B hX hz hP hS hc hs hl
  have e1 : cells = n - n0 := by omega
  have e2 : slots = r_tot n - r_tot n0 := by omega
  subst e1; subst e2
  exact W.lret B.1 B.2.1 (B.2.2.2.1.trans hr) (fun t ht hW => ⟨⟨_, h, g, z, rfl, hF, by rw [ht]; exact hz, by rw [ht]; exact hP, va_K.moved hW.alike B.2.2.2.2.2.2.2.2.2.2⟩, hS.F ht⟩) hS.2.2 hd (hlocks := B.2.2.2.2.1)
theorem j_aret {y : Nat} {C1 : String} (hd : decode M.2.1 pc = .ok (.areturn, 1)) (hr : M.2.2.2 = some (.object C1)) (hF : F (some (.ref (G.2.1 + y))) h g z) : r_T G M R n0 X (r_mz G n0 n F) pc ls [.ref (G.2.1 + y)] n h g z := by
  intro p e s m args below meth c0 H locs cells slots L0 B hX hz hP hS hc hs hl
  have e1 : cells = n - n0 := by omega
  have e2 : slots = r_tot n - r_tot n0 := by omega
  subst e1; subst e2
  exact W.aret B.1 B.2.1 (B.2.2.2.1.trans hr) (Or.inl ⟨_, rfl⟩) (Or.inr ⟨_, rfl⟩) (fun t ht hW => ⟨⟨_, h, g, z, rfl, hF, by rw [ht]; exact hz, by rw [ht]; exact hP, va_K.moved hW.alike B.2.2.2.2.2.2.2.2.2.2⟩, hS.F ht⟩) hS.2.2 hd (hlocks := B.2.2.2.2.1)
theorem j_vret (hd : decode M.2.1 pc = .ok (.return_, 1)) (hr : M.2.2.2 = none) (hF : F none h g z) : r_T G M R n0 X (r_mz G n0 n F) pc ls [] n h g z := by
  intro p e s m args below meth c0 H locs cells slots L0 B hX hz hP hS hc hs hl
  have e1 : cells = n - n0 := by omega
  have e2 : slots = r_tot n - r_tot n0 := by omega
  subst e1; subst e2
  exact W.vret B.1 B.2.1 (B.2.2.2.1.trans hr) (fun t ht hW => ⟨⟨_, h, g, z, rfl, hF, by rw [ht]; exact hz, by rw [ht]; exact hP, va_K.moved hW.alike B.2.2.2.2.2.2.2.2.2.2⟩, hS.F ht⟩) hS.2.2 hd (hlocks := B.2.2.2.2.1)
end
