/-! what stands still: statics, texts, links of nest mates, as the start gives them -/
theorem tG1 {w : Cond} (i : Nat) (h : tables_1_1[i]? = some w) : w ∈ lw_tbl := List.mem_append_right _ (List.mem_append_left _ (List.mem_of_getElem? h))
theorem tG2 {w : Cond} (i : Nat) (h : tables_1_2[i]? = some w) : w ∈ lw_tbl := List.mem_append_right _ (List.mem_append_right _ (List.mem_append_left _ (List.mem_of_getElem? h)))
theorem tG3 {w : Cond} (i : Nat) (h : tables_1_3[i]? = some w) : w ∈ lw_tbl := List.mem_append_right _ (List.mem_append_right _ (List.mem_append_right _ (List.mem_append_left _ (List.mem_of_getElem? h))))
theorem tG4 {w : Cond} (i : Nat) (h : tables_1_4[i]? = some w) : w ∈ lw_tbl := List.mem_append_right _ (List.mem_append_right _ (List.mem_append_right _ (List.mem_append_right _ (List.mem_of_getElem? h))))
theorem st_TAKING {b : Nat} {s : State} (hts : ∀ w ∈ lw_tbl, w.before #[Value.ref b] s = true) (hgv : (Jvm.Cond.and given_1 narrow_1).before #[Value.ref b] s = true) : ∃ t : Nat, va_Z RX5 "TAKING" "[I" (.ref t) (fun q : Nat => s.heap.size ≤ q) s s.heap ∧ va_T .int t 5 (fun j => .int (jTak j)) (fun q : Nat => s.heap.size ≤ q) s s.heap := by
  have hs := flat_of_before _ hgv
  have hA : ∀ a : Nat, a < s.heap.size → ¬ (fun q : Nat => s.heap.size ≤ q) a := fun a h => Nat.not_le.mpr h
  have hel : ∀ j : Nat, j < 5 → (Term.elem (.static "EvenHold" "TAKING" "[I") (.int (Int32.ofNat j))).eval #[Value.ref b] s none [] s = some (.int (jTak j)) := by
    intro j hj
    match j, hj with
    | 0, _ => exact va_eqt (hs (Cond.eq (.elem (.static "EvenHold" "TAKING" "[I") (.int 0)) (.int 2)) (by decide +kernel))
    | 1, _ => exact va_eqt (hs (Cond.eq (.elem (.static "EvenHold" "TAKING" "[I") (.int 1)) (.int 1)) (by decide +kernel))
    | 2, _ => exact va_eqt (hs (Cond.eq (.elem (.static "EvenHold" "TAKING" "[I") (.int 2)) (.int 3)) (by decide +kernel))
    | 3, _ => exact va_eqt (hs (Cond.eq (.elem (.static "EvenHold" "TAKING" "[I") (.int 3)) (.int 2)) (by decide +kernel))
    | 4, _ => exact va_eqt (hs (Cond.eq (.elem (.static "EvenHold" "TAKING" "[I") (.int 4)) (.int 4)) (by decide +kernel))
    | j + 5, hj => exact absurd hj (by omega)
  obtain ⟨t, h1, h2⟩ := va_Tof (tm := .static "EvenHold" "TAKING" "[I") (ty := .int) (N := 5) (f := fun j => .int (jTak j)) (by decide) (hs (Cond.arrayOf (.static "EvenHold" "TAKING" "[I") .int) (by decide +kernel)) (va_eqt (hs (Cond.eq (.length (.static "EvenHold" "TAKING" "[I")) (.int 5)) (by decide +kernel))) hel hA
  exact ⟨t, va_Zof (hts _ (tG2 105 rfl)) (hts _ (wsG_in _ kw_1)) h1 hA, h2⟩
theorem st_CARRYING {b : Nat} {s : State} (hts : ∀ w ∈ lw_tbl, w.before #[Value.ref b] s = true) (hgv : (Jvm.Cond.and given_1 narrow_1).before #[Value.ref b] s = true) : ∃ t : Nat, va_Z RX5 "CARRYING" "[I" (.ref t) (fun q : Nat => s.heap.size ≤ q) s s.heap ∧ va_T .int t 5 (fun j => .int (jCar j)) (fun q : Nat => s.heap.size ≤ q) s s.heap := by
  have hs := flat_of_before _ hgv
  have hA : ∀ a : Nat, a < s.heap.size → ¬ (fun q : Nat => s.heap.size ≤ q) a := fun a h => Nat.not_le.mpr h
  have hel : ∀ j : Nat, j < 5 → (Term.elem (.static "EvenHold" "CARRYING" "[I") (.int (Int32.ofNat j))).eval #[Value.ref b] s none [] s = some (.int (jCar j)) := by
    intro j hj
    match j, hj with
    | 0, _ => exact va_eqt (hs (Cond.eq (.elem (.static "EvenHold" "CARRYING" "[I") (.int 0)) (.int 2)) (by decide +kernel))
    | 1, _ => exact va_eqt (hs (Cond.eq (.elem (.static "EvenHold" "CARRYING" "[I") (.int 1)) (.int 2)) (by decide +kernel))
    | 2, _ => exact va_eqt (hs (Cond.eq (.elem (.static "EvenHold" "CARRYING" "[I") (.int 2)) (.int 2)) (by decide +kernel))
    | 3, _ => exact va_eqt (hs (Cond.eq (.elem (.static "EvenHold" "CARRYING" "[I") (.int 3)) (.int 2)) (by decide +kernel))
    | 4, _ => exact va_eqt (hs (Cond.eq (.elem (.static "EvenHold" "CARRYING" "[I") (.int 4)) (.int 3)) (by decide +kernel))
    | j + 5, hj => exact absurd hj (by omega)
  obtain ⟨t, h1, h2⟩ := va_Tof (tm := .static "EvenHold" "CARRYING" "[I") (ty := .int) (N := 5) (f := fun j => .int (jCar j)) (by decide) (hs (Cond.arrayOf (.static "EvenHold" "CARRYING" "[I") .int) (by decide +kernel)) (va_eqt (hs (Cond.eq (.length (.static "EvenHold" "CARRYING" "[I")) (.int 5)) (by decide +kernel))) hel hA
  exact ⟨t, va_Zof (hts _ (tG2 108 rfl)) (hts _ (wsG_in _ kw_1)) h1 hA, h2⟩
theorem st_ACTS {b : Nat} {s : State} (hts : ∀ w ∈ lw_tbl, w.before #[Value.ref b] s = true) (hgv : (Jvm.Cond.and given_1 narrow_1).before #[Value.ref b] s = true) : ∃ t : Nat, va_Z RX5 "ACTS" "[I" (.ref t) (fun q : Nat => s.heap.size ≤ q) s s.heap ∧ va_T .int t 20 (fun j => .int (jAct j)) (fun q : Nat => s.heap.size ≤ q) s s.heap := by
  have hs := flat_of_before _ hgv
  have hA : ∀ a : Nat, a < s.heap.size → ¬ (fun q : Nat => s.heap.size ≤ q) a := fun a h => Nat.not_le.mpr h
  have hel : ∀ j : Nat, j < 20 → (Term.elem (.static "EvenHold" "ACTS" "[I") (.int (Int32.ofNat j))).eval #[Value.ref b] s none [] s = some (.int (jAct j)) := by
    intro j hj
    match j, hj with
    | 0, _ => exact va_eqt (hs (Cond.eq (.elem (.static "EvenHold" "ACTS" "[I") (.int 0)) (.int 0)) (by decide +kernel))
    | 1, _ => exact va_eqt (hs (Cond.eq (.elem (.static "EvenHold" "ACTS" "[I") (.int 1)) (.int 1)) (by decide +kernel))
    | 2, _ => exact va_eqt (hs (Cond.eq (.elem (.static "EvenHold" "ACTS" "[I") (.int 2)) (.int 2)) (by decide +kernel))
    | 3, _ => exact va_eqt (hs (Cond.eq (.elem (.static "EvenHold" "ACTS" "[I") (.int 3)) (.int 3)) (by decide +kernel))
    | 4, _ => exact va_eqt (hs (Cond.eq (.elem (.static "EvenHold" "ACTS" "[I") (.int 4)) (.int 4)) (by decide +kernel))
    | 5, _ => exact va_eqt (hs (Cond.eq (.elem (.static "EvenHold" "ACTS" "[I") (.int 5)) (.int 5)) (by decide +kernel))
    | 6, _ => exact va_eqt (hs (Cond.eq (.elem (.static "EvenHold" "ACTS" "[I") (.int 6)) (.int 7)) (by decide +kernel))
    | 7, _ => exact va_eqt (hs (Cond.eq (.elem (.static "EvenHold" "ACTS" "[I") (.int 7)) (.int 8)) (by decide +kernel))
    | 8, _ => exact va_eqt (hs (Cond.eq (.elem (.static "EvenHold" "ACTS" "[I") (.int 8)) (.int 12)) (by decide +kernel))
    | 9, _ => exact va_eqt (hs (Cond.eq (.elem (.static "EvenHold" "ACTS" "[I") (.int 9)) (.int 15)) (by decide +kernel))
    | 10, _ => exact va_eqt (hs (Cond.eq (.elem (.static "EvenHold" "ACTS" "[I") (.int 10)) (.int 18)) (by decide +kernel))
    | 11, _ => exact va_eqt (hs (Cond.eq (.elem (.static "EvenHold" "ACTS" "[I") (.int 11)) (.int 21)) (by decide +kernel))
    | 12, _ => exact va_eqt (hs (Cond.eq (.elem (.static "EvenHold" "ACTS" "[I") (.int 12)) (.int 22)) (by decide +kernel))
    | 13, _ => exact va_eqt (hs (Cond.eq (.elem (.static "EvenHold" "ACTS" "[I") (.int 13)) (.int 25)) (by decide +kernel))
    | 14, _ => exact va_eqt (hs (Cond.eq (.elem (.static "EvenHold" "ACTS" "[I") (.int 14)) (.int 26)) (by decide +kernel))
    | 15, _ => exact va_eqt (hs (Cond.eq (.elem (.static "EvenHold" "ACTS" "[I") (.int 15)) (.int 29)) (by decide +kernel))
    | 16, _ => exact va_eqt (hs (Cond.eq (.elem (.static "EvenHold" "ACTS" "[I") (.int 16)) (.int 32)) (by decide +kernel))
    | 17, _ => exact va_eqt (hs (Cond.eq (.elem (.static "EvenHold" "ACTS" "[I") (.int 17)) (.int 35)) (by decide +kernel))
    | 18, _ => exact va_eqt (hs (Cond.eq (.elem (.static "EvenHold" "ACTS" "[I") (.int 18)) (.int 39)) (by decide +kernel))
    | 19, _ => exact va_eqt (hs (Cond.eq (.elem (.static "EvenHold" "ACTS" "[I") (.int 19)) (.int 40)) (by decide +kernel))
    | j + 20, hj => exact absurd hj (by omega)
  obtain ⟨t, h1, h2⟩ := va_Tof (tm := .static "EvenHold" "ACTS" "[I") (ty := .int) (N := 20) (f := fun j => .int (jAct j)) (by decide) (hs (Cond.arrayOf (.static "EvenHold" "ACTS" "[I") .int) (by decide +kernel)) (va_eqt (hs (Cond.eq (.length (.static "EvenHold" "ACTS" "[I")) (.int 20)) (by decide +kernel))) hel hA
  exact ⟨t, va_Zof (hts _ (tG2 224 rfl)) (hts _ (wsG_in _ kw_1)) h1 hA, h2⟩
def tmS (i : Nat) : Term := match i with
  | 0 => .string "EvenHold" 72
  | _ => .string "EvenHold" 117
theorem st_texts {b : Nat} {s : State} (hts : ∀ w ∈ lw_tbl, w.before #[Value.ref b] s = true) (hgv : (Jvm.Cond.and given_1 narrow_1).before #[Value.ref b] s = true) : ∃ adK adV : Nat → Nat, vk_S 2 jLen jByt adK adV (fun q : Nat => s.heap.size ≤ q) s s.heap ∧ ∀ i : Nat, i < 2 → (tmS i).eval #[Value.ref b] s none [] s = some (.ref (adK i)) := by
  have hs := flat_of_before _ hgv
  have hA : ∀ a : Nat, a < s.heap.size → ¬ (fun q : Nat => s.heap.size ≤ q) a := fun a h => Nat.not_le.mpr h
  refine vk_Sof (tm := tmS) (fun i hi => ?_) (fun i hi => ?_) (fun i hi => ?_) (fun i hi => ?_) (fun i hi => ?_) (fun i hi j hj => ?_) (fun i j hi hj hij => ?_) hA
  · match i, hi with
    | 0, _ => exact (by decide)
    | 1, _ => exact (by decide)
    | i + 2, hi => exact absurd hi (by omega)
  · match i, hi with
    | 0, _ => exact hs (Cond.exactly (.string "EvenHold" 72) "java/lang/String") (by decide +kernel)
    | 1, _ => exact hs (Cond.exactly (.string "EvenHold" 117) "java/lang/String") (by decide +kernel)
    | i + 2, hi => exact absurd hi (by omega)
  · match i, hi with
    | 0, _ => exact hs (Cond.eq (.field (.string "EvenHold" 72) "java/lang/String" "coder" "B") (.int 0)) (by decide +kernel)
    | 1, _ => exact hs (Cond.eq (.field (.string "EvenHold" 117) "java/lang/String" "coder" "B") (.int 0)) (by decide +kernel)
    | i + 2, hi => exact absurd hi (by omega)
  · match i, hi with
    | 0, _ => exact hs (Cond.arrayOf (.field (.string "EvenHold" 72) "java/lang/String" "value" "[B") .byte) (by decide +kernel)
    | 1, _ => exact hs (Cond.arrayOf (.field (.string "EvenHold" 117) "java/lang/String" "value" "[B") .byte) (by decide +kernel)
    | i + 2, hi => exact absurd hi (by omega)
  · match i, hi with
    | 0, _ => exact hs (Cond.eq (.length (.field (.string "EvenHold" 72) "java/lang/String" "value" "[B")) (.int 14)) (by decide +kernel)
    | 1, _ => exact hs (Cond.eq (.length (.field (.string "EvenHold" 117) "java/lang/String" "value" "[B")) (.int 5)) (by decide +kernel)
    | i + 2, hi => exact absurd hi (by omega)
  · match i, hi with
    | 0, _ =>
      match j, hj with
      | 0, _ => exact hs (Cond.eq (.elem (.field (.string "EvenHold" 72) "java/lang/String" "value" "[B") (.int 0)) (.int 107)) (by decide +kernel)
      | 1, _ => exact hs (Cond.eq (.elem (.field (.string "EvenHold" 72) "java/lang/String" "value" "[B") (.int 1)) (.int 51)) (by decide +kernel)
      | 2, _ => exact hs (Cond.eq (.elem (.field (.string "EvenHold" 72) "java/lang/String" "value" "[B") (.int 2)) (.int 51)) (by decide +kernel)
      | 3, _ => exact hs (Cond.eq (.elem (.field (.string "EvenHold" 72) "java/lang/String" "value" "[B") (.int 3)) (.int 44)) (by decide +kernel)
      | 4, _ => exact hs (Cond.eq (.elem (.field (.string "EvenHold" 72) "java/lang/String" "value" "[B") (.int 4)) (.int 107)) (by decide +kernel)
      | 5, _ => exact hs (Cond.eq (.elem (.field (.string "EvenHold" 72) "java/lang/String" "value" "[B") (.int 5)) (.int 51)) (by decide +kernel)
      | 6, _ => exact hs (Cond.eq (.elem (.field (.string "EvenHold" 72) "java/lang/String" "value" "[B") (.int 6)) (.int 51)) (by decide +kernel)
      | 7, _ => exact hs (Cond.eq (.elem (.field (.string "EvenHold" 72) "java/lang/String" "value" "[B") (.int 7)) (.int 44)) (by decide +kernel)
      | 8, _ => exact hs (Cond.eq (.elem (.field (.string "EvenHold" 72) "java/lang/String" "value" "[B") (.int 8)) (.int 107)) (by decide +kernel)
      | 9, _ => exact hs (Cond.eq (.elem (.field (.string "EvenHold" 72) "java/lang/String" "value" "[B") (.int 9)) (.int 51)) (by decide +kernel)
      | 10, _ => exact hs (Cond.eq (.elem (.field (.string "EvenHold" 72) "java/lang/String" "value" "[B") (.int 10)) (.int 51)) (by decide +kernel)
      | 11, _ => exact hs (Cond.eq (.elem (.field (.string "EvenHold" 72) "java/lang/String" "value" "[B") (.int 11)) (.int 59)) (by decide +kernel)
      | 12, _ => exact hs (Cond.eq (.elem (.field (.string "EvenHold" 72) "java/lang/String" "value" "[B") (.int 12)) (.int 57)) (by decide +kernel)
      | 13, _ => exact hs (Cond.eq (.elem (.field (.string "EvenHold" 72) "java/lang/String" "value" "[B") (.int 13)) (.int 57)) (by decide +kernel)
      | j + 14, hj => exact absurd hj (Nat.not_lt.mpr (Nat.le_add_left _ _))
    | 1, _ =>
      match j, hj with
      | 0, _ => exact hs (Cond.eq (.elem (.field (.string "EvenHold" 117) "java/lang/String" "value" "[B") (.int 0)) (.int 98)) (by decide +kernel)
      | 1, _ => exact hs (Cond.eq (.elem (.field (.string "EvenHold" 117) "java/lang/String" "value" "[B") (.int 1)) (.int 110)) (by decide +kernel)
      | 2, _ => exact hs (Cond.eq (.elem (.field (.string "EvenHold" 117) "java/lang/String" "value" "[B") (.int 2)) (.int 102)) (by decide +kernel)
      | 3, _ => exact hs (Cond.eq (.elem (.field (.string "EvenHold" 117) "java/lang/String" "value" "[B") (.int 3)) (.int 104)) (by decide +kernel)
      | 4, _ => exact hs (Cond.eq (.elem (.field (.string "EvenHold" 117) "java/lang/String" "value" "[B") (.int 4)) (.int 100)) (by decide +kernel)
      | j + 5, hj => exact absurd hj (Nat.not_lt.mpr (Nat.le_add_left _ _))
    | i + 2, hi => exact absurd hi (by omega)
  · match i, j, hi, hj, hij with
    | 0, 0, _, _, h => exact absurd rfl h
    | 1, 1, _, _, h => exact absurd rfl h
    | 0, 1, _, _, _ => exact Or.inl (hs (Cond.not (Cond.eq (.string "EvenHold" 72) (.string "EvenHold" 117))) (by decide +kernel))
    | 1, 0, _, _, _ => exact Or.inr (hs (Cond.not (Cond.eq (.string "EvenHold" 72) (.string "EvenHold" 117))) (by decide +kernel))
    | i + 2, _, hi, _, _ => exact absurd hi (by omega)
    | 0, j + 2, _, hj, _ => exact absurd hj (by omega)
    | 1, j + 2, _, hj, _ => exact absurd hj (by omega)
theorem st_NM {b : Nat} {s : State} (hts : ∀ w ∈ lw_tbl, w.before #[Value.ref b] s = true) : ∀ q ∈ jNM, va_Nw (.methodLinkNest q.1 q.2.1 q.2.2 RX5) s := by
  intro q hq
  simp only [jNM, List.mem_cons, List.not_mem_nil, or_false] at hq
  rcases hq with rfl | rfl | rfl | rfl | rfl | rfl | rfl | rfl | rfl | rfl | rfl | rfl | rfl | rfl
  · exact va_Nw.of rfl (hts _ (tG1 25 rfl))
  · exact va_Nw.of rfl (hts _ (tG1 54 rfl))
  · exact va_Nw.of rfl (hts _ (tG1 88 rfl))
  · exact va_Nw.of rfl (hts _ (tG1 132 rfl))
  · exact va_Nw.of rfl (hts _ (tG1 145 rfl))
  · exact va_Nw.of rfl (hts _ (tG2 106 rfl))
  · exact va_Nw.of rfl (hts _ (tG2 156 rfl))
  · exact va_Nw.of rfl (hts _ (tG2 157 rfl))
  · exact va_Nw.of rfl (hts _ (tG2 182 rfl))
  · exact va_Nw.of rfl (hts _ (tG2 183 rfl))
  · exact va_Nw.of rfl (hts _ (tG2 209 rfl))
  · exact va_Nw.of rfl (hts _ (tG3 14 rfl))
  · exact va_Nw.of rfl (hts _ (tG3 15 rfl))
  · exact va_Nw.of rfl (hts _ (tG3 42 rfl))
theorem st_NF {b : Nat} {s : State} (hts : ∀ w ∈ lw_tbl, w.before #[Value.ref b] s = true) : ∀ q ∈ jNF, va_Nw (.fieldLinkNest q.1 q.2.1 RX5 q.2.2 "[I" RX5) s := by
  intro q hq
  simp only [jNF, List.mem_cons, List.not_mem_nil, or_false] at hq
  rcases hq with rfl | rfl | rfl | rfl | rfl
  · exact va_Nw.of rfl (hts _ (tG2 104 rfl))
  · exact va_Nw.of rfl (hts _ (tG2 107 rfl))
  · exact va_Nw.of rfl (hts _ (tG2 223 rfl))
  · exact va_Nw.of rfl (hts _ (tG3 12 rfl))
  · exact va_Nw.of rfl (hts _ (tG3 37 rfl))
theorem jSt_start {b : Nat} {s : State} (hts : ∀ w ∈ lw_tbl, w.before #[Value.ref b] s = true) (hgv : (Jvm.Cond.and given_1 narrow_1).before #[Value.ref b] s = true) : ∃ z : Nat → Nat, jSt z (fun q : Nat => s.heap.size ≤ q) s s.heap := by
  have hs := flat_of_before _ hgv
  have hA : ∀ a : Nat, a < s.heap.size → ¬ (fun q : Nat => s.heap.size ≤ q) a := fun a h => Nat.not_le.mpr h
  obtain ⟨t0, z0, T0⟩ := st_TAKING hts hgv
  obtain ⟨t1, z1, T1⟩ := st_CARRYING hts hgv
  obtain ⟨t2, z2, T2⟩ := st_ACTS hts hgv
  obtain ⟨adK, adV, hS, hE⟩ := st_texts hts hgv
  refine ⟨fun j => [t0, t1, t2, adK 0, adK 1, adV 0, adV 1].getD j 0, st_NM hts, st_NF hts, z0, T0, z1, T1, z2, T2, vk_R.of (hts _ (tG1 214 rfl)) (hE 0 (by decide)), vk_R.of (hts _ (tG2 23 rfl)) (hE 1 (by decide)), ⟨fun i hi => ?_, fun i j hi hj e => ?_⟩, va_Zof (hts _ (tG1 224 rfl)) (hts _ (wsG_in _ kw_8)) (va_eqi (hs (Cond.eq (.static "java/lang/String" "COMPACT_STRINGS" "Z") (.int 1)) (by decide +kernel))) hA, va_Zqof (hts _ (tG2 0 rfl)) (hts _ (wsG_in _ kw_10)) (hs (Cond.isRef (.static "jdk/internal/util/Preconditions" "SIOOBE_FORMATTER" "Ljava/util/function/BiFunction;")) (by decide +kernel)) hA⟩
  · match i, hi with
    | 0, _ => exact hS.1 0 (by decide)
    | 1, _ => exact hS.1 1 (by decide)
    | i + 2, hi => exact absurd hi (by omega)
  · match i, j, hi, hj, e with
    | 0, 0, _, _, _ => rfl
    | 1, 1, _, _, _ => rfl
    | 0, 1, h0, h1, e => exact hS.2 0 1 h0 h1 e
    | 1, 0, h1, h0, e => exact hS.2 1 0 h1 h0 e
    | i + 2, _, hi, _, _ => exact absurd hi (by omega)
    | 0, j + 2, _, hj, _ => exact absurd hj (by omega)
    | 1, j + 2, _, hj, _ => exact absurd hj (by omega)
