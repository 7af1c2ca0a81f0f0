/-- an integer as an int -/
def iI (a : Int) : Int32 := Int32.ofInt a
theorem iI_n (n : Nat) : nI n = iI (n : Int) := by
  apply Int32.toBitVec_inj.mp
  simp [nI, iI, Int32.ofNat, Int32.ofInt]
theorem iI_add (a b : Int) : iI a + iI b = iI (a + b) := by simp [iI, Int32.ofInt_add]
theorem iI_sub (a b : Int) : iI a - iI b = iI (a - b) := by simp [iI, Int32.ofInt_sub]
theorem iI_mul (a b : Int) : iI a * iI b = iI (a * b) := by simp [iI, Int32.ofInt_mul]
theorem iI_neg (a : Int) : -iI a = iI (-a) := by simp [iI, Int32.ofInt_neg]
theorem iI_to {a : Int} (h1 : -2147483648 ≤ a) (h2 : a < 2147483648) : (iI a).toInt = a := Int32.toInt_ofInt_of_le h1 h2
theorem iI_of (x : Int32) : x = iI x.toInt := by simp [iI]
theorem iI_lt {a b : Int} (h1 : -2147483648 ≤ a) (h2 : a < 2147483648) (h3 : -2147483648 ≤ b) (h4 : b < 2147483648) : iI a < iI b ↔ a < b := by rw [Int32.lt_iff_toInt_lt, iI_to h1 h2, iI_to h3 h4]
theorem iI_le {a b : Int} (h1 : -2147483648 ≤ a) (h2 : a < 2147483648) (h3 : -2147483648 ≤ b) (h4 : b < 2147483648) : iI a ≤ iI b ↔ a ≤ b := by rw [Int32.le_iff_toInt_le, iI_to h1 h2, iI_to h3 h4]
theorem iI_eq {a b : Int} (h1 : -2147483648 ≤ a) (h2 : a < 2147483648) (h3 : -2147483648 ≤ b) (h4 : b < 2147483648) : iI a = iI b ↔ a = b := by
  constructor
  · intro h
    have h5 := congrArg Int32.toInt h
    rwa [iI_to h1 h2, iI_to h3 h4] at h5
  · exact fun h => by rw [h]
theorem iI_lit (n : Nat) : (OfNat.ofNat n : Int32) = iI (n : Int) := by rw [← iI_n]; rfl
theorem iI_m1 : (-1 : Int32) = iI (-1) := rfl
theorem q_i1 {F : Int32 → r_HI → r_HR → r_HL → Prop} {h : r_HI} {g : r_HR} {z : r_HL} {r r' : Int32} (hF : F r' h g z) (e : r = r') : ∃ q, some (Value.int r) = some (Value.int q) ∧ F q h g z := ⟨r, rfl, e ▸ hF⟩
theorem q_h1 {F : Int32 → r_HI → r_HR → r_HL → Prop} {h h' : r_HI} {g : r_HR} {z : r_HL} {r r' : Int32} (hF : F r' h' g z) (e : r = r') (eh : h = h') : ∃ q, some (Value.int r) = some (Value.int q) ∧ F q h g z := ⟨r, rfl, e ▸ eh ▸ hF⟩
theorem q_v1 {F : r_HI → r_HR → r_HL → Prop} {h h' : r_HI} {g : r_HR} {z : r_HL} (hF : F h' g z) (eh : h = h') : (none : Option Value) = none ∧ F h g z := ⟨rfl, eh ▸ hF⟩
theorem r_up_row {h : r_HI} {k j : Nat} {v : Int32} : r_up h k j v k = upd (h k) j v := by simp [r_up]
/-- a whole row put -/
def r_rw (h : r_HI) (k : Nat) (f : Nat → Int32) : r_HI := fun a => if a = k then f else h a
theorem r_rw_k {h : r_HI} {k : Nat} {f : Nat → Int32} : r_rw h k f k = f := by simp [r_rw]
theorem r_rw_ne {h : r_HI} {k a : Nat} {f : Nat → Int32} (e : a ≠ k) : r_rw h k f a = h a := by simp [r_rw, e]
theorem r_rw_self {h : r_HI} {k : Nat} : r_rw h k (h k) = h := by
  funext a
  by_cases e : a = k
  · simp [r_rw, e]
  · simp [r_rw, e]
theorem r_rw_up {h : r_HI} {k j : Nat} {f : Nat → Int32} {v : Int32} : r_up (r_rw h k f) k j v = r_rw h k (upd f j v) := by
  funext a
  by_cases e : a = k
  · simp [r_rw, r_up, e]
  · simp [r_rw, r_up, e]
theorem r_up_self {h : r_HI} {k j : Nat} {v : Int32} (e : h k j = v) : r_up h k j v = h := by
  funext a
  by_cases q : a = k
  · subst q
    rw [r_up_k]
    funext i
    by_cases hi : i = j
    · subst hi; simp [upd, e]
    · simp [upd, hi]
  · simp [r_up, q]
theorem nI_ix {i n : Nat} (h : i < n) (hn : n < 2 ^ 31) : vp_in (nI i) n := vp_in_nI h hn
theorem nI_cl {i : Nat} (h : i < 2 ^ 31) : (nI i).toNatClampNeg = i := nI_clamp h
