theorem xlt {x : Int32} {n : Nat} (hn : n < 2 ^ 31) : x < nI n ↔ x.toInt < n := by rw [Int32.lt_iff_toInt_lt, nI_toInt hn]
theorem xle {x : Int32} {n : Nat} (hn : n < 2 ^ 31) : x ≤ nI n ↔ x.toInt ≤ n := by rw [Int32.le_iff_toInt_le, nI_toInt hn]
theorem nlx {x : Int32} {n : Nat} (hn : n < 2 ^ 31) : nI n < x ↔ (n : Int) < x.toInt := by rw [Int32.lt_iff_toInt_lt, nI_toInt hn]
theorem nlex {x : Int32} {n : Nat} (hn : n < 2 ^ 31) : nI n ≤ x ↔ (n : Int) ≤ x.toInt := by rw [Int32.le_iff_toInt_le, nI_toInt hn]
def z_P (Z : a_Z) (P : a_P) : a_Z := (P, Z.2)
def z_V (Z : a_Z) (V : a_V) : a_Z := (Z.1, V, Z.2.2)
def z_D (Z : a_Z) (D : a_D) : a_Z := z_V Z (D, Z.2.1.2)
def z_K (Z : a_Z) (K : a_K) : a_Z := z_V Z (Z.2.1.1, K, Z.2.1.2.2)
def z_W (Z : a_Z) (w : Nat → Nat) : a_Z := z_V Z (Z.2.1.1, Z.2.1.2.1, w, Z.2.1.2.2.2)
def z_S (Z : a_Z) (S : a_S) : a_Z := z_V Z (Z.2.1.1, Z.2.1.2.1, Z.2.1.2.2.1, S, Z.2.1.2.2.2.2)
def z_k (Z : a_Z) (k : Nat) : a_Z := z_V Z (Z.2.1.1, Z.2.1.2.1, Z.2.1.2.2.1, Z.2.1.2.2.2.1, k)
def s_letter (Z : a_Z) (x : Int32) : Int32 × a_Z := match a_ix x 127 with
  | none => (-102, Z)
  | some c => if c = 0 then (-102, Z) else if 28 ≤ Z.1.1 then (-104, Z) else (nI (Z.1.1 + 1), z_P Z (Z.1.1 + 1, va_up Z.1.2 Z.1.1 c))
def s_blank (Z : a_Z) : Int32 × a_Z := (nI Z.1.1, z_P Z (0, Z.1.2))
def s_fault (Z : a_Z) : Int32 × a_Z := (nI (a_fl Z.1.2 Z.1.1 0 0).1, Z)
def a_ipb (P : a_P) : Bool := decide ((a_fl P.2 P.1 0 0).1 = P.1) && decide (P.1 = a_re P.2 P.1 0 + 5)
theorem a_ipb_iff {P : a_P} : a_ipb P = true ↔ a_ip P := by simp [a_ipb, a_ip]
def a_K0 : a_K := (0, 0, 1, 0, (fun _ => 0), (fun _ => 0), (fun _ => 0))
def s_plate (Z : a_Z) : Int32 × a_Z := if a_ipb Z.1 then (nI (a_re Z.1.2 Z.1.1 0 / 2), ((0, Z.1.2), (a_rd Z.1.2 (a_re Z.1.2 Z.1.1 0), a_K0, (fun _ => 0), (0, Z.2.1.2.2.2.1.2), a_ko (Z.1.2 (Z.1.1 - 1))), Z.2.2.1 + 1, Z.2.2.2.1, 0, Z.2.2.2.2.2)) else (-103, Z)
def s_ring (Z : a_Z) (x w : Int32) : Int32 := match a_ix x Z.2.1.1.1 with
  | none => -101
  | some r => match a_ix w 5 with
    | none => -102
    | some v => if v = 0 then nI (Z.2.1.1.2.2.2.1 r) else if v = 1 then nI (Z.2.1.1.2.2.2.2 r) else if v = 2 then nI (24 / Z.2.1.1.2.2.2.1 r) else if v = 3 then a_bits Z.2.1.2.1.2.2.2.2.1 r Z.2.1.2.1.2.2.2.1 else nI (a_tr Z.2.1.1 Z.2.1.2.1.2.1 r)
def s_asked (Z : a_Z) (x w : Int32) : Int32 := match a_ix x Z.2.1.2.1.2.2.2.1 with
  | none => -101
  | some i => match a_ix w 4 with
    | none => -102
    | some v => if v = 0 then nI (Z.2.1.2.1.2.2.2.2.1 i) else if v = 1 then nI (Z.2.1.2.1.2.2.2.2.2.1 i) else if v = 2 then nI (Z.2.1.2.1.2.2.2.2.2.2 i) else nI (a_dn Z.2.1.1 Z.2.1.2.1.1 Z.2.1.2.1.2.1 (Z.2.1.2.1.2.2.2.2.1 i) (Z.2.1.2.1.2.2.2.2.2.1 i))
def s_as (Z : a_Z) (x : Int32) : Int32 := match a_ix x 5 with
  | none => -102
  | some k => if Z.2.1.1.1 = 0 then -103 else if a_is Z.2.1.2.2.2.2 k then nI Z.2.1.2.2.2.2 else -1
def s_next (Z : a_Z) : Int32 := if Z.2.1.1.1 = 0 then -103 else if Z.2.1.2.1.2.2.2.1 = 0 then -1 else nI (a_nx Z.2.1.1 Z.2.1.2.1 Z.2.1.2.2.2.2)
def s_ask (Z : a_Z) (x y : Int32) : Int32 × a_Z := match a_ix x Z.2.1.1.1 with
  | none => (-101, Z)
  | some r => match a_ix y (Z.2.1.1.2.2.2.1 r) with
    | none => (-101, Z)
    | some w => if 7 ≤ Z.2.1.2.1.2.2.2.1 then (-104, Z) else (nI (Z.2.1.2.1.2.2.2.1 + 1), z_K Z (a_ask Z.2.1.2.1 r w))
def a_dnK (Z : a_Z) (i : Nat) : Nat := a_dn Z.2.1.1 Z.2.1.2.1.1 Z.2.1.2.1.2.1 (Z.2.1.2.1.2.2.2.2.1 i) (Z.2.1.2.1.2.2.2.2.2.1 i)
def s_serve (Z : a_Z) : Int32 × a_Z := if Z.2.1.1.1 = 0 ∨ Z.2.1.2.1.2.2.2.1 = 0 then (-103, Z) else if 100000 < a_dnK Z (a_nx Z.2.1.1 Z.2.1.2.1 Z.2.1.2.2.2.2) then (-104, Z) else (nI (a_dnK Z (a_nx Z.2.1.1 Z.2.1.2.1 Z.2.1.2.2.2.2)), z_K Z (a_fo Z.2.1.1 Z.2.1.2.1 Z.2.1.2.2.2.2 (a_nx Z.2.1.1 Z.2.1.2.1 Z.2.1.2.2.2.2)))
def s_read (Z : a_Z) (x : Int32) : Int32 × a_Z := match a_ix x Z.2.1.2.1.2.2.2.1 with
  | none => (-101, Z)
  | some i => if 100000 < a_dnK Z i then (-104, Z) else (nI (a_dnK Z i), z_K Z (a_fin Z.2.1.1 Z.2.1.2.1 i))
def s_pass (Z : a_Z) (x : Int32) : Int32 × a_Z := match a_ix x 100 with
  | none => (-102, Z)
  | some t => if t = 0 then (-102, Z) else if Z.2.1.1.1 = 0 then (-103, Z) else if 100000 < Z.2.1.2.1.1 + t then (-104, Z) else (nI (Z.2.1.2.1.1 + t), z_K Z (Z.2.1.2.1.1 + t, Z.2.1.2.1.2))
def s_choose (Z : a_Z) (x : Int32) : Int32 × a_Z := match a_ix x 5 with
  | none => (-102, Z)
  | some k => if Z.2.1.1.1 = 0 then (-103, Z) else (nI Z.2.1.2.2.2.2, z_k Z k)
def s_skew (Z : a_Z) (x y : Int32) : Int32 × a_Z := match a_ix x Z.2.1.1.1 with
  | none => (-101, Z)
  | some r => match a_ix y 24 with
    | none => (-102, Z)
    | some v => (nI (Z.2.1.1.2.2.2.2 r), z_D Z (Z.2.1.1.1, Z.2.1.1.2.1, Z.2.1.1.2.2.1, Z.2.1.1.2.2.2.1, va_up Z.2.1.1.2.2.2.2 r v))
def s_gear (Z : a_Z) (x y : Int32) : Int32 × a_Z := match a_ix x 10 with
  | none => (-102, Z)
  | some s => match a_ix y 10 with
    | none => (-102, Z)
    | some t => if t = 0 then (-102, Z) else if Z.2.1.1.1 = 0 then (-103, Z) else (nI Z.2.1.1.2.2.1, z_D Z (Z.2.1.1.1, s, t, Z.2.1.1.2.2.2))
def s_run (Z : a_Z) (x w : Int32) : Int32 := match a_ix x 5 with
  | none => -102
  | some k => match a_ix w 2 with
    | none => -102
    | some v => if Z.2.1.1.1 = 0 then -103 else if v = 0 then nI (a_all Z.2.1.1 k Z.2.1.2.1.2.2.2.1 Z.2.1.2.1 0).1.1 else nI (a_all Z.2.1.1 k Z.2.1.2.1.2.2.2.1 Z.2.1.2.1 0).2
def a_lst (Z : a_Z) : Nat × List Nat := a_fd (a_et Z.2.1.1 Z.2.1.2.1) (2147483647, []) (a_pc Z.2.1.2.1.2.2.2.1 Z.2.1.2.1.2.2.2.1 0 [])
def s_least (Z : a_Z) (x : Int32) : Int32 × a_Z := match a_ix x 17 with
  | none => (-102, Z)
  | some v => if v ≠ 0 ∧ v < 10 then (-102, Z) else if Z.2.1.1.1 = 0 ∨ 16 ≤ Z.2.2.2.1 then (-103, Z) else (if v = 0 then nI (a_lst Z).1 else if v - 10 < Z.2.1.2.1.2.2.2.1 then nI ((a_lst Z).2.getD (v - 10) 0) else -1, (Z.1, Z.2.1, Z.2.2.1, Z.2.2.2.1 + 1, Z.2.2.2.2))
def s_weigh (Z : a_Z) (x y : Int32) : Int32 × a_Z := match a_ix x 6 with
  | none => (-101, Z)
  | some r => if Z.2.1.1.1 ≤ r then (-101, Z) else match a_ix y 10 with
    | none => (-102, Z)
    | some v => (nI (Z.2.1.2.2.1 r), z_W Z (va_up Z.2.1.2.2.1 r v))
def a_lyy (wt : Nat → Nat) : Nat × List Nat := a_fd (a_pp wt) (2147483647, []) (a_pc (a_hm wt 6) (a_hm wt 6) 0 [])
def a_lay1 (wt : Nat → Nat) (v : Nat) : Int32 := if v = 0 then nI (a_lyy wt).1 else if v - 10 < a_hm wt 6 then nI ((a_lyy wt).2.getD (v - 10) 0) else -1
def s_lay (Z : a_Z) (x : Int32) : Int32 := match a_ix x 16 with
  | none => -102
  | some v => if v ≠ 0 ∧ v < 10 then -102 else if Z.2.1.1.1 = 0 then -103 else a_lay1 Z.2.1.2.2.1 v
def a_be (D : a_D) (x y v : Nat) : Nat := if v = 0 then 48 + a_tr D x y + (D.2.2.2.2 y + 23 * (D.2.2.2.2 x + 24 + a_tr D x y)) % 24 else if v = 1 then (D.2.2.2.2 x + a_tr D x y) % 24 else 48 + a_tr D x y
def s_behind (Z : a_Z) (x y w : Int32) : Int32 := match a_ix x Z.2.1.1.1 with
  | none => -101
  | some r => match a_ix y Z.2.1.1.1 with
    | none => -101
    | some t => if r = t then -101 else match a_ix w 3 with
      | none => -102
      | some v => nI (a_be Z.2.1.1 r t v)
def a_ap (n th v : Nat) : Nat := if v = 0 then a_bg n th (n - 2) 2 1 else a_gt n th (a_bg n th (n - 2) 2 1)
def s_apart (Z : a_Z) (x y w : Int32) : Int32 := match a_ix x Z.2.1.1.1 with
  | none => -101
  | some r => match a_ix y 24 with
    | none => -102
    | some t => match a_ix w 2 with
      | none => -102
      | some v => nI (a_ap (Z.2.1.1.2.2.2.1 r) t v)
def s_see (Z : a_Z) (x y : Int32) : Int32 × a_Z := match a_ix x 10 with
  | none => (-102, Z)
  | some r => if r = 0 then (-102, Z) else match a_ix y 100 with
    | none => (-102, Z)
    | some t => if Z.2.1.1.1 = 0 then (-103, Z) else if 6 ≤ Z.2.1.2.2.2.1.1 then (-104, Z) else (nI (Z.2.1.2.2.2.1.1 + 1), z_S Z (Z.2.1.2.2.2.1.1 + 1, va_up Z.2.1.2.2.2.1.2.1 Z.2.1.2.2.2.1.1 r, va_up Z.2.1.2.2.2.1.2.2 Z.2.1.2.2.2.1.1 t))
def s_forget (Z : a_Z) : Int32 × a_Z := (nI Z.2.1.2.2.2.1.1, z_S Z (0, Z.2.1.2.2.2.1.2))
def s_steps (Z : a_Z) : Int32 := if Z.2.1.1.1 = 0 then -103 else nI (a_ft Z.2.1.1.2.1 Z.2.1.2.2.2.1 9)
def a_tri (b : Nat) : Int32 := if b = 0 then -1 else a_mi (a_bt b 9 1 (10, 0)).2
def s_trial (Z : a_Z) : Int32 := if Z.2.1.1.1 = 0 then -103 else a_tri (a_ft Z.2.1.1.2.1 Z.2.1.2.2.2.1 9)
def s_days (Z : a_Z) (x y w : Int32) : Int32 := match a_ix x 61 with
  | none => -102
  | some t => if t = 0 ∨ y.toInt < 0 then -102 else match a_ix w 3 with
    | none => -102
    | some v => if Z.2.1.1.1 = 0 then -103 else if v = 0 then nI (a_days Z.2.1.1 Z.2.1.2.2.2.2 t y.toInt.toNat Z.2.1.2.1).2.1.1 else if v = 1 then nI (a_days Z.2.1.1 Z.2.1.2.2.2.2 t y.toInt.toNat Z.2.1.2.1).2.2 else nI (a_days Z.2.1.1 Z.2.1.2.2.2.2 t y.toInt.toNat Z.2.1.2.1).1
def s_image (Z : a_Z) : Int32 × a_Z := if Z.2.1.1.1 = 0 then (-103, Z) else (nI Z.2.1.2.1.1, (Z.1, Z.2.1, Z.2.2.1, Z.2.2.2.1, 1, Z.2.1))
def s_restore (Z : a_Z) : Int32 × a_Z := if Z.2.2.2.2.1 = 0 then (-103, Z) else (nI Z.2.2.2.2.2.2.1.1, z_V Z Z.2.2.2.2.2)
def a_cnt (Z : a_Z) (v : Nat) : Int32 := if v = 0 then nI Z.2.1.1.1 else if v = 1 then nI (a_sum Z.2.1.1.2.2.2.1 Z.2.1.1.1) else if v = 2 then nI Z.2.1.2.1.1 else if v = 3 then nI Z.2.1.2.1.2.1 else if v = 4 then (if 0 < Z.2.1.1.1 ∧ Z.2.1.2.1.2.2.1 = 1 then 1 else 0) else if v = 5 then nI Z.2.1.2.1.2.2.2.1 else if v = 6 then nI Z.2.1.1.2.1 else if v = 7 then nI Z.2.1.1.2.2.1 else if v = 8 then nI (a_hm Z.2.1.2.2.1 6) else if v = 9 then nI Z.2.1.2.2.2.1.1 else if v = 10 then nI Z.1.1 else if v = 11 then nI Z.2.2.1 else nI Z.2.2.2.1
def s_count (Z : a_Z) (x : Int32) : Int32 := match a_ix x 13 with
  | none => -102
  | some v => a_cnt Z v
