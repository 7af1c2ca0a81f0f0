/-! ===== the start ===== -/
theorem lw_in0 (ws : List Cond) (ps : List Nat) (hp : ws = ps.filterMap (fun i => tables_1[i]?)) : ∀ w ∈ ws, w ∈ lw_tbl := by
  intro w hw
  rw [hp] at hw
  obtain ⟨i, -, h2⟩ := List.mem_filterMap.mp hw
  exact List.mem_append_right _ (List.mem_of_getElem? h2)
theorem lw_nest : ∀ w ∈ r_nest.map (fun q => Cond.methodLinkNest q.1 q.2.1 q.2.2.1 q.2.2.2), w ∈ lw_tbl := lw_in0 _ [25, 42, 134, 154, 172, 179, 182, 186, 189, 193, 196, 200, 203, 207, 287, 306, 350, 352, 361, 379, 455, 462, 466, 471, 485, 543, 565, 566, 569, 570, 589, 593, 594, 633, 650, 693, 702] (by decide +kernel)
theorem lw_cast : ∀ w ∈ r_cast.map (fun q => Cond.castable q.1 q.2), w ∈ lw_tbl := lw_in0 _ [1203, 1204, 1205, 1206, 1207, 1208] (by decide +kernel)
theorem lw_ao : Cond.arrayOver (.object "RingArm$First") ∈ lw_tbl := List.mem_append_right _ (List.mem_of_getElem? (i := 170) (by decide +kernel))
theorem lw_ins : ∀ q ∈ r_cl0, Cond.instantiable q.1 q.2.2 ∈ r_wg := List.forall_mem_cons.mpr ⟨b_Dk, List.forall_mem_cons.mpr ⟨b_Di, List.forall_mem_cons.mpr ⟨b_Fi, List.forall_mem_cons.mpr ⟨b_Ne, List.forall_mem_cons.mpr ⟨b_Or, List.forall_mem_cons.mpr ⟨b_Pa, List.forall_mem_cons.mpr ⟨b_Ro, List.forall_mem_cons.mpr ⟨b_Si, List.forall_mem_cons.mpr ⟨b_So, List.forall_mem_cons.mpr ⟨b_Sw, List.forall_mem_cons.mpr ⟨b_Th, List.forall_mem_cons.mpr ⟨b_Ra, List.forall_mem_cons.mpr ⟨b_Mo, fun _ h => absurd h List.not_mem_nil⟩⟩⟩⟩⟩⟩⟩⟩⟩⟩⟩⟩⟩
theorem lw_wg {w : Cond} (h : w ∈ r_wg) : w ∈ lw_tbl := (List.mem_filter.mp h).1
theorem lw_ow {s : State} {b : Nat} (hts : ∀ w ∈ lw_tbl, w.before #[Value.ref b] s = true) (hgv : (Jvm.Cond.and given_1 narrow_1).before #[Value.ref b] s = true) : r_ow s := by
  have hs := flat_of_before _ hgv
  refine ⟨fun q hq => va_Nw.of rfl (hts _ (lw_nest _ (List.mem_map.mpr ⟨q, hq, rfl⟩))), fun q hq => va_Nw.of rfl (hts _ (lw_cast _ (List.mem_map.mpr ⟨q, hq, rfl⟩))), ?_, va_AO.of (hts _ lw_ao)⟩
  exact List.forall_mem_cons.mpr ⟨va_Nc.of (hs (Cond.not (.castable "RingArm$First" "RingArm$Nearest")) (by decide +kernel)), List.forall_mem_cons.mpr ⟨va_Nc.of (hs (Cond.not (.castable "RingArm$First" "RingArm$Sweep")) (by decide +kernel)), List.forall_mem_cons.mpr ⟨va_Nc.of (hs (Cond.not (.castable "RingArm$First" "RingArm$Round")) (by decide +kernel)), List.forall_mem_cons.mpr ⟨va_Nc.of (hs (Cond.not (.castable "RingArm$First" "RingArm$Soonest")) (by decide +kernel)), List.forall_mem_cons.mpr ⟨va_Nc.of (hs (Cond.not (.castable "RingArm$Nearest" "RingArm$Sweep")) (by decide +kernel)), List.forall_mem_cons.mpr ⟨va_Nc.of (hs (Cond.not (.castable "RingArm$Nearest" "RingArm$Round")) (by decide +kernel)), List.forall_mem_cons.mpr ⟨va_Nc.of (hs (Cond.not (.castable "RingArm$Nearest" "RingArm$Soonest")) (by decide +kernel)), List.forall_mem_cons.mpr ⟨va_Nc.of (hs (Cond.not (.castable "RingArm$Sweep" "RingArm$Nearest")) (by decide +kernel)), List.forall_mem_cons.mpr ⟨va_Nc.of (hs (Cond.not (.castable "RingArm$Sweep" "RingArm$Round")) (by decide +kernel)), List.forall_mem_cons.mpr ⟨va_Nc.of (hs (Cond.not (.castable "RingArm$Sweep" "RingArm$Soonest")) (by decide +kernel)), List.forall_mem_cons.mpr ⟨va_Nc.of (hs (Cond.not (.castable "RingArm$Round" "RingArm$Nearest")) (by decide +kernel)), List.forall_mem_cons.mpr ⟨va_Nc.of (hs (Cond.not (.castable "RingArm$Round" "RingArm$Soonest")) (by decide +kernel)), List.forall_mem_cons.mpr ⟨va_Nc.of (hs (Cond.not (.castable "RingArm$Soonest" "RingArm$Sweep")) (by decide +kernel)), List.forall_mem_cons.mpr ⟨va_Nc.of (hs (Cond.not (.castable "RingArm$Soonest" "RingArm$Round")) (by decide +kernel)), fun _ h => absurd h List.not_mem_nil⟩⟩⟩⟩⟩⟩⟩⟩⟩⟩⟩⟩⟩⟩
/-- from the entry, for every script of at most 2048 ints, the law comes to its end with true -/
theorem whole_start {p : Program} {e : Env} {s : State} {m : MethodId} {below : List Frame} {meth : Method} {c : Code} (l : Launch) {b L : Nat} {xs : Nat → Int32} (hL : L ≤ 2048) (C0 : lw_At p s m meth c b L xs) : W p l e room_1 s m #[Value.ref b] below meth c s.heap [] 0 0 (lw_Z below #[Value.ref b] s) (entryFrame m ([Value.ref b] : List Value).toArray 4) := by
  obtain ⟨hx, hb, hr, hml, hown, hts, hX, hbl, hlocks, hgv, hname⟩ := id C0
  have hall : ∀ k : Nat, ∃ y : ClassId × (Nat → Nat), ∀ q : vw_C, r_cl0[k]? = some q → u_Kn s q.1 q.2.1 q.2.2 y.1 y.2 := by
    intro k
    cases hk : r_cl0[k]? with
    | none => exact ⟨(m.cls, fun _ => 0), fun q h => by cases h⟩
    | some q =>
      obtain ⟨cC, iS, hK⟩ := u_known (ws := r_wg) (fun w hw => hts w (lw_wg hw)) (r_clOK hk).1 (hts _ (lw_wg (lw_ins q (List.mem_of_getElem? hk))))
      exact ⟨(cC, iS), fun q' h => by injection h with h; subst h; exact hK⟩
  obtain ⟨f, hf⟩ := Classical.axiomOfChoice hall
  obtain ⟨cI, kI, compI, i1, i2, i3⟩ := Cond.arrayClass_spec (hts _ (lw_wg r_wa))
  obtain ⟨compF, cF, kF, f1, f2, f3, f4, f5⟩ := Cond.arrayOver_spec (hts _ lw_ao)
  have hK : va_K ((fun k => (f k).1), (fun k => (f k).2)) r_cl0 [(cI, .int), (cF, .object "RingArm$First")] s := by
    refine ⟨fun k q hq => hf k q hq, fun k q hq => ?_⟩
    match k, hq with
    | 0, hq =>
      injection hq with hq
      subst hq
      exact ⟨fun n z => ⟨fun k h => (by cases h), kI, i2, compI, i3⟩, i1⟩
    | 1, hq =>
      injection hq with hq
      subst hq
      exact ⟨fun n z => ⟨fun k h => (by cases h), kF, f3, compF, f4⟩, ⟨kF, compF, f3, f4, f1, f5⟩⟩
    | k + 2, hq => cases hq
  have hl := lv_entry ([.ref b]) (n := 4) (Nat.le_of_ble_eq_true rfl)
  rw [lg_entry_eq]
  generalize (lg_sl ([.ref b]) ++ List.replicate (4 - (lg_sl ([.ref b])).length) Slot.unset).toArray = ls at hl ⊢
  have hl : lv_has ls 4 [(0, .ref b)] := hl
  exact law_run (G := (l, s.heap.size, (fun k => (f k).1), (fun k => (f k).2), cI, cF)) hL p e s m #[Value.ref b] below meth c s.heap [] 0 0 ls ⟨hx, hb, hml, hr, hlocks, hname, hown, fun w hw => hts w (lw_wg hw), lw_ow hts hgv, Nat.le_refl _, hK⟩ ⟨hX, hbl, rfl⟩ rfl (fun k q h => by simp [r_W] at h) va_S.rf rfl rfl hl
