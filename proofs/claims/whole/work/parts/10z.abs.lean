/-! ===== the words of the document, over natural numbers ===== -/
/-- a plate: how many rings, START, STEP, their places, their offsets -/
abbrev a_D : Type := Nat × Nat × Nat × (Nat → Nat) × (Nat → Nat)
/-- the arm: the tick, where, which way (1 inward), how many are asked, their rings, places, since when -/
abbrev a_K : Type := Nat × Nat × Nat × Nat × (Nat → Nat) × (Nat → Nat) × (Nat → Nat)
def a_pls : List Nat := [2, 3, 4, 6, 8, 12]
def a_dok (D : a_D) : Prop := D.1 ≤ 10 ∧ D.2.1 ≤ 9 ∧ D.2.2.1 ≤ 9 ∧ ∀ i, i < D.1 → D.2.2.2.1 i ∈ a_pls ∧ D.2.2.2.2 i < 24
theorem a_pl {n : Nat} (h : n ∈ a_pls) : 2 ≤ n ∧ n ≤ 12 ∧ n * (24 / n) = 24 ∧ 2 ≤ 24 / n ∧ 24 / n ≤ 12 := by
  simp only [a_pls, List.mem_cons, List.not_mem_nil, or_false] at h
  rcases h with rfl | rfl | rfl | rfl | rfl | rfl <;> decide
def a_tr (D : a_D) (x y : Nat) : Nat := if x = y then 0 else D.2.1 + D.2.2.1 * (if x < y then y - x else x - y)
def a_ls (D : a_D) (r : Nat) : Nat := 24 / D.2.2.2.1 r
/-- when a place is done, if the arm sets out at tick t from ring x -/
def a_dn (D : a_D) (t x r p : Nat) : Nat := t + a_tr D x r + (D.2.2.2.2 r + p * a_ls D r + 23 * (t + a_tr D x r)) % 24 + a_ls D r
def a_ds (x y : Nat) : Nat := if x < y then y - x else x - y
/-- is what is asked ahead, as the arm goes -/
def a_ah (K : a_K) (i : Nat) : Bool := if K.2.2.1 = 1 then decide (K.2.1 ≤ K.2.2.2.2.1 i) else decide (K.2.2.2.2.1 i ≤ K.2.1)
/-- what the next one has least of, by a kind -/
def a_pr (D : a_D) (K : a_K) (kd i : Nat) : Nat := match kd with
  | 1 => a_ds (K.2.2.2.2.1 i) K.2.1
  | 2 => if a_ah K i then a_ds (K.2.2.2.2.1 i) K.2.1 else 10 + a_ds (K.2.2.2.2.1 i) K.2.1
  | 3 => if K.2.1 ≤ K.2.2.2.2.1 i then K.2.2.2.2.1 i - K.2.1 else 10 + K.2.2.2.2.1 i
  | 4 => a_dn D K.1 K.2.1 (K.2.2.2.2.1 i) (K.2.2.2.2.2.1 i)
  | _ => i
/-- the first of the least among the first n -/
def a_am (f : Nat → Nat) : Nat → Nat
  | 0 => 0
  | n + 1 => if n = 0 then 0 else if f n < f (a_am f n) then n else a_am f n
def a_nx (D : a_D) (K : a_K) (kd : Nat) : Nat := a_am (a_pr D K kd) K.2.2.2.1
/-- the way behind the one that is done -/
def a_tw (K : a_K) (kd i : Nat) : Nat := if kd = 2 ∧ a_ah K i = false then 1 - K.2.2.1 else K.2.2.1
def a_rm (f : Nat → Nat) (i : Nat) : Nat → Nat := fun j => if j < i then f j else f (j + 1)
/-- one is done -/
def a_fin (D : a_D) (K : a_K) (i : Nat) : a_K := (a_dn D K.1 K.2.1 (K.2.2.2.2.1 i) (K.2.2.2.2.2.1 i), K.2.2.2.2.1 i, K.2.2.1, K.2.2.2.1 - 1, a_rm K.2.2.2.2.1 i, a_rm K.2.2.2.2.2.1 i, a_rm K.2.2.2.2.2.2 i)
def a_wt (D : a_D) (K : a_K) (i : Nat) : Nat := a_dn D K.1 K.2.1 (K.2.2.2.2.1 i) (K.2.2.2.2.2.1 i) - K.2.2.2.2.2.2 i
def a_fo (D : a_D) (K : a_K) (kd i : Nat) : a_K := a_fin D (K.1, K.2.1, a_tw K kd i, K.2.2.2) i
/-- one is asked -/
def a_ask (K : a_K) (r p : Nat) : a_K := (K.1, K.2.1, K.2.2.1, K.2.2.2.1 + 1, va_up K.2.2.2.2.1 K.2.2.2.1 r, va_up K.2.2.2.2.2.1 K.2.2.2.1 p, va_up K.2.2.2.2.2.2 K.2.2.2.1 K.1)
/-- all are done, one behind the other, by a kind; with how long they waited -/
def a_all (D : a_D) (kd : Nat) : Nat → a_K → Nat → a_K × Nat
  | 0, K, s => (K, s)
  | n + 1, K, s => a_all D kd n (a_fo D K kd (a_nx D K kd)) (s + a_wt D K (a_nx D K kd))
/-- what is asked is on rings of the plate, and none since a later tick -/
def a_kok (D : a_D) (K : a_K) : Prop := K.2.1 < 10 ∧ K.2.2.1 ≤ 1 ∧ K.2.2.2.1 ≤ 7 ∧ ∀ i, i < K.2.2.2.1 → K.2.2.2.2.1 i < D.1 ∧ K.2.2.2.2.2.1 i < D.2.2.2.1 (K.2.2.2.2.1 i) ∧ K.2.2.2.2.2.2 i ≤ K.1
def a_sum (f : Nat → Nat) : Nat → Nat
  | 0 => 0
  | n + 1 => a_sum f n + f n
/-- no divisor in common, from d on, m of them -/
def a_nd : Nat → Nat → Nat → Nat → Bool
  | 0, _, _, _ => true
  | m + 1, d, x, y => if x % d = 0 ∧ y % d = 0 then false else a_nd m (d + 1) x y
def a_gt (n th gap : Nat) : Nat := (n - 1) * ((24 / n + th) + (gap * (24 / n) + 23 * (24 / n + th)) % 24) + 24 / n
def a_bg (n th : Nat) : Nat → Nat → Nat → Nat
  | 0, _, b => b
  | m + 1, gap, b => a_bg n th m (gap + 1) (if a_nd (gap - 1) 2 gap n && decide (a_gt n th gap < a_gt n th b) then gap else b)
/-- the bits of those that are on a ring -/
def a_bits (f : Nat → Nat) (r : Nat) : Nat → Int32
  | 0 => 0
  | n + 1 => if f n = r then a_bits f r n ||| (1 <<< (nI n &&& 31)) else a_bits f r n
theorem a_tr_le {D : a_D} (h : a_dok D) {x y : Nat} (hx : x < 10) (hy : y < 10) : a_tr D x y ≤ 90 := by
  unfold a_tr
  split
  · omega
  · have h1 := h.2.1
    have h2 := h.2.2.1
    have h3 : D.2.2.1 * (if x < y then y - x else x - y) ≤ 9 * 9 := Nat.mul_le_mul h2 (by split <;> omega)
    omega
theorem a_dn_ge {D : a_D} {t x r p : Nat} : t ≤ a_dn D t x r p := by unfold a_dn; omega
theorem a_dn_le {D : a_D} (h : a_dok D) {t x r p : Nat} (hx : x < 10) (hr : r < D.1) : a_dn D t x r p ≤ t + 125 := by
  have h1 := a_tr_le h hx (Nat.lt_of_lt_of_le hr h.1)
  have h2 := (a_pl (h.2.2.2 r hr).1).2.2.2.2
  unfold a_dn a_ls
  have h3 := Nat.mod_lt (D.2.2.2.2 r + p * (24 / D.2.2.2.1 r) + 23 * (t + a_tr D x r)) (show 0 < 24 by decide)
  omega
theorem a_pls_mul {n p : Nat} (h : n ∈ a_pls) (hp : p < n) : p * (24 / n) ≤ 24 := by
  have h1 := (a_pl h).2.2.1
  have h2 : p * (24 / n) ≤ n * (24 / n) := Nat.mul_le_mul_right _ (Nat.le_of_lt hp)
  omega
/-- waiting for a place, in ints -/
theorem a_dnI {t u f q l : Nat} (h1 : t + u < 2 ^ 28) (h2 : f + q < 2 ^ 28) : nI t + nI u + iI ((nI f + nI q - (nI t + nI u)).toInt % 24) + nI l = nI (t + u + (f + q + 23 * (t + u)) % 24 + l) := by
  simp only [iI_n, iI_add, iI_sub]
  rw [iI_to (by omega) (by omega)]
  congr 1
  omega
/-! ===== and in the class's cells ===== -/
def p_D (h : r_HI) (k : Nat) (D : a_D) : Prop := h k 3 = nI D.1 ∧ h k 4 = nI D.2.1 ∧ h k 5 = nI D.2.2.1 ∧ ∀ i, i < D.1 → h (k + 1) i = nI (D.2.2.2.1 i) ∧ h (k + 2) i = nI (D.2.2.2.2 i) ∧ h (k + 3) i = nI (24 / D.2.2.2.1 i)
def p_K (h : r_HI) (k : Nat) (K : a_K) : Prop := h k 4 = nI K.2.2.2.1 ∧ h k 5 = nI K.1 ∧ h k 6 = nI K.2.1 ∧ h k 7 = nI K.2.2.1 ∧ ∀ i, i < K.2.2.2.1 → h (k + 1) i = nI (K.2.2.2.2.1 i) ∧ h (k + 2) i = nI (K.2.2.2.2.2.1 i) ∧ h (k + 3) i = nI (K.2.2.2.2.2.2 i)
/-- all rows but these are as they were -/
def r_ex (A : List Nat) (h h' : r_HI) : Prop := ∀ a, a ∉ A → h' a = h a
theorem r_ex.rf {A : List Nat} {h : r_HI} : r_ex A h h := fun _ _ => rfl
theorem r_ex.tr {A B : List Nat} {h h1 h2 : r_HI} (e1 : r_ex A h h1) (e2 : r_ex B h1 h2) (hs : ∀ a, a ∈ B → a ∈ A) : r_ex A h h2 := fun a ha => (e2 a (fun q => ha (hs a q))).trans (e1 a ha)
theorem r_ex.up {A : List Nat} {h h1 : r_HI} {k j : Nat} {v : Int32} (e1 : r_ex A h h1) (hk : k ∈ A) : r_ex A h (r_up h1 k j v) := fun a ha => by
  rw [r_up_ne (fun q => ha (by rw [q]; exact hk))]
  exact e1 a ha
theorem r_ex.rw {A : List Nat} {h h1 : r_HI} {k : Nat} {f : Nat → Int32} (e1 : r_ex A h h1) (hk : k ∈ A) : r_ex A h (r_rw h1 k f) := fun a ha => by
  rw [r_rw_ne (fun q => ha (by rw [q]; exact hk))]
  exact e1 a ha
theorem p_D.ex {A : List Nat} {h h' : r_HI} {k : Nat} {D : a_D} (e : r_ex A h h') (hD : p_D h k D) (h0 : k ∉ A) (h1 : k + 1 ∉ A) (h2 : k + 2 ∉ A) (h3 : k + 3 ∉ A) : p_D h' k D := by
  unfold p_D
  rw [e k h0, e _ h1, e _ h2, e _ h3]
  exact hD
theorem p_K.ex {A : List Nat} {h h' : r_HI} {k : Nat} {K : a_K} (e : r_ex A h h') (hK : p_K h k K) (h0 : k ∉ A) (h1 : k + 1 ∉ A) (h2 : k + 2 ∉ A) (h3 : k + 3 ∉ A) : p_K h' k K := by
  unfold p_K
  rw [e k h0, e _ h1, e _ h2, e _ h3]
  exact hK
