/-! ===== the J layer: a walk of a method, what stands still in it bundled ===== -/
abbrev jX : Type := Program × Launch × Env × Room × State × MethodId × Array Value × List Frame × Method × Code × (State → Prop) × (Nat → Prop) × va_G × Nat
def jT (cI cZ : ClassId) : List (ClassId × FieldType) := [(cI, .int), (cZ, .boolean)]
def jTak (j : Nat) : Int32 := ([2, 1, 3, 2, 4] : List Int32).getD j 0
def jCar (j : Nat) : Int32 := ([2, 2, 2, 2, 3] : List Int32).getD j 0
def jAct (j : Nat) : Int32 := ([0, 1, 2, 3, 4, 5, 7, 8, 12, 15, 18, 21, 22, 25, 26, 29, 32, 35, 39, 40] : List Int32).getD j 0
def jByt : List (List Int32) := [[107, 51, 51, 44, 107, 51, 51, 44, 107, 51, 51, 59, 57, 57], [98, 110, 102, 104, 100]]
def jLen : List Nat := [14, 5]
/-- nest mates' links: methods and static fields -/
def jNM : List (String × Nat × MethodName) := [(RX5, 19, yX2_init), (RX5, 30, yX3_init), (RX5, 49, yX4_init), (RX5, 56, yX0_init), (RX5, 63, yX1_init), (RX2, 31, yX5_at), (RX2, 38, yX5_bentBy), (RX2, 42, yX5_listingBy), (RX2, 45, yX5_cellFrom), (RX2, 56, yX5_cellInto), (RX4, 46, yX5_tonsOf), (RX0, 41, yX5_listingBy), (RX0, 49, yX5_bentBy), (RX1, 46, yX5_bentBy)]
def jNF : List (String × Nat × String) := [(RX2, 28, "TAKING"), (RX2, 35, "CARRYING"), (RX4, 73, "ACTS"), (RX0, 32, "ACTS"), (RX1, 26, "ACTS")]
def jSt (z : Nat → Nat) (A : Nat → Prop) (U : State) (H : Heap) : Prop :=
  (∀ q ∈ jNM, va_Nw (.methodLinkNest q.1 q.2.1 q.2.2 RX5) U) ∧ (∀ q ∈ jNF, va_Nw (.fieldLinkNest q.1 q.2.1 RX5 q.2.2 "[I" RX5) U) ∧
  va_Z RX5 "TAKING" "[I" (.ref (z 0)) A U H ∧ va_T .int (z 0) 5 (fun j => .int (jTak j)) A U H ∧
  va_Z RX5 "CARRYING" "[I" (.ref (z 1)) A U H ∧ va_T .int (z 1) 5 (fun j => .int (jCar j)) A U H ∧
  va_Z RX5 "ACTS" "[I" (.ref (z 2)) A U H ∧ va_T .int (z 2) 20 (fun j => .int (jAct j)) A U H ∧
  vk_R RX5 72 "k33,k33,k33;99" (z 3) U ∧ vk_R RX5 117 "bnfhd" (z 4) U ∧ vk_S 2 jLen jByt (fun i => z (3 + i)) (fun i => z (5 + i)) A U H ∧
  va_Z "java/lang/String" "COMPACT_STRINGS" "Z" (.int 1) A U H ∧ va_Zq "jdk/internal/util/Preconditions" "SIOOBE_FORMATTER" "Ljava/util/function/BiFunction;" A U H
theorem jZq_narrow {C n d : String} {A B : Nat → Prop} {U : State} {H : Heap} (h : va_Zq C n d A U H) (hAB : ∀ q, B q → A q) : va_Zq C n d B U H := by
  rcases h with h | ⟨t, h⟩
  · exact Or.inl (h.narrow hAB)
  · exact Or.inr ⟨t, h.narrow hAB⟩
theorem jSt.go {z : Nat → Nat} {A B : Nat → Prop} {s U : State} {H : Heap} {locs : List Loc} (h : jSt z A s s.heap) (hW : s.WarmedH U.vm) (hH : U.heap = H) (hS : va_S A s.heap H locs) (hB : ∀ q, B q → A q) : jSt z B U U.heap := by
  obtain ⟨h1, h2, h3, h4, h5, h6, h7, h8, h9, h10, h11, h12, h13⟩ := h
  have hq : ∀ a : Nat, a < s.heap.size → ¬ A a → U.heap[a]? = s.heap[a]? := fun a ha hn => by rw [hH]; exact hS.2.1 a ha hn
  exact ⟨fun q hm => va_Nw.warmM hW (h1 q hm), fun q hm => va_Nw.warmF hW (h2 q hm), ((h3.moved hW.alike).kept hq).narrow hB, ((h4.moved hW.alike).kept hq).narrow hB, ((h5.moved hW.alike).kept hq).narrow hB, ((h6.moved hW.alike).kept hq).narrow hB, ((h7.moved hW.alike).kept hq).narrow hB, ((h8.moved hW.alike).kept hq).narrow hB, h9.warm hW, h10.warm hW, ((h11.moved hW.alike).kept hq).narrow hB, ((h12.moved hW.alike).kept hq).narrow hB, jZq_narrow ((h13.moved hW.alike).kept hq) hB⟩
theorem jSt.bl {z : Nat → Nat} {A : Nat → Prop} {U V : State} (hv : U.vm = V.vm) (hh : V.heap = U.heap) (h : jSt z A U U.heap) : jSt z A V V.heap := by
  obtain ⟨h1, h2, h3, h4, h5, h6, h7, h8, h9, h10, h11, h12, h13⟩ := h
  have ha : U.vm.Alike V.vm := by rw [← hv]; exact Vm.Alike.refl _
  rw [hh]
  exact ⟨fun q hm => va_Nw.same rfl hv (h1 q hm), fun q hm => va_Nw.same rfl hv (h2 q hm), h3.moved ha, h4.moved ha, h5.moved ha, h6.moved ha, h7.moved ha, h8.moved ha, h9.same hv.symm, h10.same hv.symm, h11.moved ha, h12.moved ha, h13.moved ha⟩


def jI (X : jX) (b : Bool) (ws : va_W) (H : Heap) (locs : List Loc) : Prop :=
  match X with
  | (_, _, _, _, s, _, _, _, _, _, _, A, D, _) => va_P D vwCl ws H ∧ (match b with | true => va_D A ws ∧ va_S A s.heap H locs | false => H = s.heap ∧ locs = [])
def J (X : jX) (b : Bool) (k n pc : Nat) (lv : List (Nat × Value)) (st : List Value) (ws : va_W) : Prop :=
  match X with
  | (p, l, e, R, s, m, args, below, meth, c, Q, A, D, nL) => ∀ (H : Heap) (locs : List Loc) (ls : Array Slot), jI (p, l, e, R, s, m, args, below, meth, c, Q, A, D, nL) b ws H locs → lv_has ls nL lv → W p l e R s m args below meth c H locs k n Q (F0 m pc ls st)
def JF (X : jX) (cc : ByteArray) (own : String) (cI cZ : ClassId) (z : Nat → Nat) : Prop :=
  match X with
  | (p, _, _, _, s, m, args, _, meth, c, _, A, D, nL) => p.tables.exec = Jvm.exec ∧ c.code = cc ∧ c.maxLocals = nL ∧ s.vm.findClass own = some m.cls ∧ (∀ w ∈ wsG, w.before args s = true) ∧ meth.locks = false ∧ va_K D vwCl (jT cI cZ) s ∧ jSt z A s s.heap
/-- a word on the number of locals -/
def jL (X : jX) (P : Nat → Prop) : Prop :=
  match X with
  | (_, _, _, _, _, _, _, _, _, _, _, _, _, nL) => P nL
def jD (X : jX) : va_G :=
  match X with
  | (_, _, _, _, _, _, _, _, _, _, _, _, D, _) => D
def jR (X : jX) : Room :=
  match X with
  | (_, _, _, R, _, _, _, _, _, _, _, _, _, _) => R
def jl (X : jX) : Launch :=
  match X with
  | (_, l, _, _, _, _, _, _, _, _, _, _, _, _) => l
/-- what the method makes is its own -/
def jA (X : jX) : Prop :=
  match X with
  | (_, _, _, _, s, _, _, _, _, _, _, A, _, _) => ∀ q : Nat, s.heap.size ≤ q → A q

theorem J_iconst {X : jX} {b : Bool} {k : Nat} {n : Nat} {pc : Nat} {pc' : Nat} {lv : List (Nat × Value)} {st : List Value} {ws : va_W} {cc : ByteArray} {own : String} {cI : ClassId} {cZ : ClassId} {z : Nat → Nat} {i : Int} {v : Int32} (F : JF X cc own cI cZ z) (hd : decode cc pc = .ok (.iconst i, 1)) (hv : Int32.ofInt i = v) (hn : pc + 1 = pc') (kk : J X b k n pc' lv (.int v :: st) ws) : J X b k n pc lv (st) ws := by
  obtain ⟨p, l, e, R, s, m, args, below, meth, c, Q, A, D, nL⟩ := X
  obtain ⟨hx, hb, hml, hown, hts, hlk, hK, hZ⟩ := F
  subst hn
  exact fun H locs ls hI hl => lv_iconst hx hb hd hv (kk H locs ls hI hl)
theorem J_bipush {X : jX} {b : Bool} {k : Nat} {n : Nat} {pc : Nat} {pc' : Nat} {lv : List (Nat × Value)} {st : List Value} {ws : va_W} {cc : ByteArray} {own : String} {cI : ClassId} {cZ : ClassId} {z : Nat → Nat} {i : Int} {v : Int32} (F : JF X cc own cI cZ z) (hd : decode cc pc = .ok (.bipush i, 2)) (hv : (Int8.ofInt i).toInt32 = v) (hn : pc + 2 = pc') (kk : J X b k n pc' lv (.int v :: st) ws) : J X b k n pc lv (st) ws := by
  obtain ⟨p, l, e, R, s, m, args, below, meth, c, Q, A, D, nL⟩ := X
  obtain ⟨hx, hb, hml, hown, hts, hlk, hK, hZ⟩ := F
  subst hn
  exact fun H locs ls hI hl => lv_bipush hx hb hd hv (kk H locs ls hI hl)
theorem J_sipush {X : jX} {b : Bool} {k : Nat} {n : Nat} {pc : Nat} {pc' : Nat} {lv : List (Nat × Value)} {st : List Value} {ws : va_W} {cc : ByteArray} {own : String} {cI : ClassId} {cZ : ClassId} {z : Nat → Nat} {i : Int} {v : Int32} (F : JF X cc own cI cZ z) (hd : decode cc pc = .ok (.sipush i, 3)) (hv : (Int16.ofInt i).toInt32 = v) (hn : pc + 3 = pc') (kk : J X b k n pc' lv (.int v :: st) ws) : J X b k n pc lv (st) ws := by
  obtain ⟨p, l, e, R, s, m, args, below, meth, c, Q, A, D, nL⟩ := X
  obtain ⟨hx, hb, hml, hown, hts, hlk, hK, hZ⟩ := F
  subst hn
  exact fun H locs ls hI hl => lv_sipush hx hb hd hv (kk H locs ls hI hl)
theorem J_lconst {X : jX} {b : Bool} {k : Nat} {n : Nat} {pc : Nat} {pc' : Nat} {lv : List (Nat × Value)} {st : List Value} {ws : va_W} {cc : ByteArray} {own : String} {cI : ClassId} {cZ : ClassId} {z : Nat → Nat} {i : Fin 2} {v : Int64} (F : JF X cc own cI cZ z) (hd : decode cc pc = .ok (.lconst i, 1)) (hv : Int64.ofNat (i : Nat) = v) (hn : pc + 1 = pc') (kk : J X b k n pc' lv (.long v :: st) ws) : J X b k n pc lv (st) ws := by
  obtain ⟨p, l, e, R, s, m, args, below, meth, c, Q, A, D, nL⟩ := X
  obtain ⟨hx, hb, hml, hown, hts, hlk, hK, hZ⟩ := F
  subst hn
  exact fun H locs ls hI hl => lv_lconst hx hb hd hv (kk H locs ls hI hl)
theorem J_ldc {X : jX} {b : Bool} {k : Nat} {n : Nat} {pc : Nat} {pc' : Nat} {lv : List (Nat × Value)} {st : List Value} {ws : va_W} {cc : ByteArray} {own : String} {cI : ClassId} {cZ : ClassId} {z : Nat → Nat} {i : Nat} {v : Int32} (F : JF X cc own cI cZ z) (hd : decode cc pc = .ok (.ldc i, 2)) (hm : Cond.constant own i v ∈ wsG) (hn : pc + 2 = pc') (kk : J X b k n pc' lv (.int v :: st) ws) : J X b k n pc lv st ws := by
  obtain ⟨p, l, e, R, s, m, args, below, meth, c, Q, A, D, nL⟩ := X
  obtain ⟨hx, hb, hml, hown, hts, hlk, hK, hZ⟩ := F
  subst hn
  exact fun H locs ls hI hl => lv_ldc hx hb hown (hts _ hm) hd (kk H locs ls hI hl)
theorem J_ldc2 {X : jX} {b : Bool} {k : Nat} {n : Nat} {pc : Nat} {pc' : Nat} {lv : List (Nat × Value)} {st : List Value} {ws : va_W} {cc : ByteArray} {own : String} {cI : ClassId} {cZ : ClassId} {z : Nat → Nat} {i : Nat} {v : Int64} (F : JF X cc own cI cZ z) (hd : decode cc pc = .ok (.ldc2_w i, 3)) (hm : Cond.constantLong own i v ∈ wsG) (hn : pc + 3 = pc') (kk : J X b k n pc' lv (.long v :: st) ws) : J X b k n pc lv st ws := by
  obtain ⟨p, l, e, R, s, m, args, below, meth, c, Q, A, D, nL⟩ := X
  obtain ⟨hx, hb, hml, hown, hts, hlk, hK, hZ⟩ := F
  subst hn
  exact fun H locs ls hI hl => lv_ldc2 hx hb hown (hts _ hm) hd (kk H locs ls hI hl)
theorem J_iload_n {X : jX} {b : Bool} {k : Nat} {n : Nat} {pc : Nat} {pc' : Nat} {lv : List (Nat × Value)} {st : List Value} {ws : va_W} {cc : ByteArray} {own : String} {cI : ClassId} {cZ : ClassId} {z : Nat → Nat} {i : Fin 4} {q : Nat} {x : Int32} (F : JF X cc own cI cZ z) (hd : decode cc pc = .ok (.iload_n i, 1)) (hq : lv[q]? = some ((i : Nat), .int x)) (hn : pc + 1 = pc') (kk : J X b k n pc' lv (.int x :: st) ws) : J X b k n pc lv st ws := by
  obtain ⟨p, l, e, R, s, m, args, below, meth, c, Q, A, D, nL⟩ := X
  obtain ⟨hx, hb, hml, hown, hts, hlk, hK, hZ⟩ := F
  subst hn
  exact fun H locs ls hI hl => lv_iload_n hx hb hd rfl (lv_at hl q hq) (kk H locs ls hI hl)
theorem J_iload {X : jX} {b : Bool} {k : Nat} {n : Nat} {pc : Nat} {pc' : Nat} {lv : List (Nat × Value)} {st : List Value} {ws : va_W} {cc : ByteArray} {own : String} {cI : ClassId} {cZ : ClassId} {z : Nat → Nat} {i q : Nat} {x : Int32} (F : JF X cc own cI cZ z) (hd : decode cc pc = .ok (.iload i, 2)) (hq : lv[q]? = some (i, .int x)) (hn : pc + 2 = pc') (kk : J X b k n pc' lv (.int x :: st) ws) : J X b k n pc lv st ws := by
  obtain ⟨p, l, e, R, s, m, args, below, meth, c, Q, A, D, nL⟩ := X
  obtain ⟨hx, hb, hml, hown, hts, hlk, hK, hZ⟩ := F
  subst hn
  exact fun H locs ls hI hl => lv_iload hx hb hd (lv_at hl q hq) (kk H locs ls hI hl)
theorem J_lload_n {X : jX} {b : Bool} {k : Nat} {n : Nat} {pc : Nat} {pc' : Nat} {lv : List (Nat × Value)} {st : List Value} {ws : va_W} {cc : ByteArray} {own : String} {cI : ClassId} {cZ : ClassId} {z : Nat → Nat} {i : Fin 4} {q : Nat} {x : Int64} (F : JF X cc own cI cZ z) (hd : decode cc pc = .ok (.lload_n i, 1)) (hq : lv[q]? = some ((i : Nat), .long x)) (hn : pc + 1 = pc') (kk : J X b k n pc' lv (.long x :: st) ws) : J X b k n pc lv st ws := by
  obtain ⟨p, l, e, R, s, m, args, below, meth, c, Q, A, D, nL⟩ := X
  obtain ⟨hx, hb, hml, hown, hts, hlk, hK, hZ⟩ := F
  subst hn
  exact fun H locs ls hI hl => lv_lload_n hx hb hd rfl (lv_at hl q hq) (kk H locs ls hI hl)
theorem J_lload {X : jX} {b : Bool} {k : Nat} {n : Nat} {pc : Nat} {pc' : Nat} {lv : List (Nat × Value)} {st : List Value} {ws : va_W} {cc : ByteArray} {own : String} {cI : ClassId} {cZ : ClassId} {z : Nat → Nat} {i q : Nat} {x : Int64} (F : JF X cc own cI cZ z) (hd : decode cc pc = .ok (.lload i, 2)) (hq : lv[q]? = some (i, .long x)) (hn : pc + 2 = pc') (kk : J X b k n pc' lv (.long x :: st) ws) : J X b k n pc lv st ws := by
  obtain ⟨p, l, e, R, s, m, args, below, meth, c, Q, A, D, nL⟩ := X
  obtain ⟨hx, hb, hml, hown, hts, hlk, hK, hZ⟩ := F
  subst hn
  exact fun H locs ls hI hl => lv_lload hx hb hd (lv_at hl q hq) (kk H locs ls hI hl)
theorem J_aload_n {X : jX} {b : Bool} {k : Nat} {n : Nat} {pc : Nat} {pc' : Nat} {lv : List (Nat × Value)} {st : List Value} {ws : va_W} {cc : ByteArray} {own : String} {cI : ClassId} {cZ : ClassId} {z : Nat → Nat} {i : Fin 4} {q : Nat} {x : Nat} (F : JF X cc own cI cZ z) (hd : decode cc pc = .ok (.aload_n i, 1)) (hq : lv[q]? = some ((i : Nat), .ref x)) (hn : pc + 1 = pc') (kk : J X b k n pc' lv (.ref x :: st) ws) : J X b k n pc lv st ws := by
  obtain ⟨p, l, e, R, s, m, args, below, meth, c, Q, A, D, nL⟩ := X
  obtain ⟨hx, hb, hml, hown, hts, hlk, hK, hZ⟩ := F
  subst hn
  exact fun H locs ls hI hl => lv_aload_n hx hb hd rfl (lv_at hl q hq) (kk H locs ls hI hl)
theorem J_aload {X : jX} {b : Bool} {k : Nat} {n : Nat} {pc : Nat} {pc' : Nat} {lv : List (Nat × Value)} {st : List Value} {ws : va_W} {cc : ByteArray} {own : String} {cI : ClassId} {cZ : ClassId} {z : Nat → Nat} {i q : Nat} {x : Nat} (F : JF X cc own cI cZ z) (hd : decode cc pc = .ok (.aload i, 2)) (hq : lv[q]? = some (i, .ref x)) (hn : pc + 2 = pc') (kk : J X b k n pc' lv (.ref x :: st) ws) : J X b k n pc lv st ws := by
  obtain ⟨p, l, e, R, s, m, args, below, meth, c, Q, A, D, nL⟩ := X
  obtain ⟨hx, hb, hml, hown, hts, hlk, hK, hZ⟩ := F
  subst hn
  exact fun H locs ls hI hl => lv_aload hx hb hd (lv_at hl q hq) (kk H locs ls hI hl)
theorem J_istore_n {X : jX} {b : Bool} {k : Nat} {n : Nat} {pc : Nat} {pc' : Nat} {lv : List (Nat × Value)} {st : List Value} {ws : va_W} {cc : ByteArray} {own : String} {cI : ClassId} {cZ : ClassId} {z : Nat → Nat} {i9 : Fin 4} {i : Nat} {x : Int32} (ks : List Nat) (lv' : List (Nat × Value)) (F : JF X cc own cI cZ z) (hd : decode cc pc = .ok (.istore_n i9, 1)) (hi : (i9 : Nat) = i) (hnl : jL X (fun nn => i < nn)) (hk : lv_pick ((i, Value.int x) :: lv.filter (fun q => !(q.1 == i) && !(q.1 + 1 == i && q.2.category == 2))) ks = lv') (hn : pc + 1 = pc') (kk : J X b k n pc' lv' st ws) : J X b k n pc lv (.int x :: st) ws := by
  obtain ⟨p, l, e, R, s, m, args, below, meth, c, Q, A, D, nL⟩ := X
  obtain ⟨hx, hb, hml, hown, hts, hlk, hK, hZ⟩ := F
  subst hn
  exact fun H locs ls hI hl => lv_istore_n hx hb hd hi hl hnl rfl (fun ls' hl' => kk H locs ls' hI (lv_sub hl' ks hk))
theorem J_istore {X : jX} {b : Bool} {k : Nat} {n : Nat} {pc : Nat} {pc' : Nat} {lv : List (Nat × Value)} {st : List Value} {ws : va_W} {cc : ByteArray} {own : String} {cI : ClassId} {cZ : ClassId} {z : Nat → Nat} {i : Nat} {x : Int32} (ks : List Nat) (lv' : List (Nat × Value)) (F : JF X cc own cI cZ z) (hd : decode cc pc = .ok (.istore i, 2)) (hnl : jL X (fun nn => i < nn)) (hk : lv_pick ((i, Value.int x) :: lv.filter (fun q => !(q.1 == i) && !(q.1 + 1 == i && q.2.category == 2))) ks = lv') (hn : pc + 2 = pc') (kk : J X b k n pc' lv' st ws) : J X b k n pc lv (.int x :: st) ws := by
  obtain ⟨p, l, e, R, s, m, args, below, meth, c, Q, A, D, nL⟩ := X
  obtain ⟨hx, hb, hml, hown, hts, hlk, hK, hZ⟩ := F
  subst hn
  exact fun H locs ls hI hl => lv_istore hx hb hd hl hnl rfl (fun ls' hl' => kk H locs ls' hI (lv_sub hl' ks hk))
theorem J_astore_n {X : jX} {b : Bool} {k : Nat} {n : Nat} {pc : Nat} {pc' : Nat} {lv : List (Nat × Value)} {st : List Value} {ws : va_W} {cc : ByteArray} {own : String} {cI : ClassId} {cZ : ClassId} {z : Nat → Nat} {i9 : Fin 4} {i : Nat} {x : Nat} (ks : List Nat) (lv' : List (Nat × Value)) (F : JF X cc own cI cZ z) (hd : decode cc pc = .ok (.astore_n i9, 1)) (hi : (i9 : Nat) = i) (hnl : jL X (fun nn => i < nn)) (hk : lv_pick ((i, Value.ref x) :: lv.filter (fun q => !(q.1 == i) && !(q.1 + 1 == i && q.2.category == 2))) ks = lv') (hn : pc + 1 = pc') (kk : J X b k n pc' lv' st ws) : J X b k n pc lv (.ref x :: st) ws := by
  obtain ⟨p, l, e, R, s, m, args, below, meth, c, Q, A, D, nL⟩ := X
  obtain ⟨hx, hb, hml, hown, hts, hlk, hK, hZ⟩ := F
  subst hn
  exact fun H locs ls hI hl => lv_astore_n hx hb hd hi hl hnl rfl (fun ls' hl' => kk H locs ls' hI (lv_sub hl' ks hk))
theorem J_astore {X : jX} {b : Bool} {k : Nat} {n : Nat} {pc : Nat} {pc' : Nat} {lv : List (Nat × Value)} {st : List Value} {ws : va_W} {cc : ByteArray} {own : String} {cI : ClassId} {cZ : ClassId} {z : Nat → Nat} {i : Nat} {x : Nat} (ks : List Nat) (lv' : List (Nat × Value)) (F : JF X cc own cI cZ z) (hd : decode cc pc = .ok (.astore i, 2)) (hnl : jL X (fun nn => i < nn)) (hk : lv_pick ((i, Value.ref x) :: lv.filter (fun q => !(q.1 == i) && !(q.1 + 1 == i && q.2.category == 2))) ks = lv') (hn : pc + 2 = pc') (kk : J X b k n pc' lv' st ws) : J X b k n pc lv (.ref x :: st) ws := by
  obtain ⟨p, l, e, R, s, m, args, below, meth, c, Q, A, D, nL⟩ := X
  obtain ⟨hx, hb, hml, hown, hts, hlk, hK, hZ⟩ := F
  subst hn
  exact fun H locs ls hI hl => lv_astore hx hb hd hl hnl rfl (fun ls' hl' => kk H locs ls' hI (lv_sub hl' ks hk))
theorem J_lstore_n {X : jX} {b : Bool} {k : Nat} {n : Nat} {pc : Nat} {pc' : Nat} {lv : List (Nat × Value)} {st : List Value} {ws : va_W} {cc : ByteArray} {own : String} {cI : ClassId} {cZ : ClassId} {z : Nat → Nat} {i9 : Fin 4} {i : Nat} {x : Int64} (ks : List Nat) (lv' : List (Nat × Value)) (F : JF X cc own cI cZ z) (hd : decode cc pc = .ok (.lstore_n i9, 1)) (hi : (i9 : Nat) = i) (hnl : jL X (fun nn => i + 1 < nn)) (hk : lv_pick ((i, Value.long x) :: lv.filter (fun q => !(q.1 == i) && (!(q.1 == i + 1) && !(q.1 + 1 == i && q.2.category == 2)))) ks = lv') (hn : pc + 1 = pc') (kk : J X b k n pc' lv' st ws) : J X b k n pc lv (.long x :: st) ws := by
  obtain ⟨p, l, e, R, s, m, args, below, meth, c, Q, A, D, nL⟩ := X
  obtain ⟨hx, hb, hml, hown, hts, hlk, hK, hZ⟩ := F
  subst hn
  exact fun H locs ls hI hl => lv_lstore_n hx hb hd hi hl hnl rfl (fun ls' hl' => kk H locs ls' hI (lv_sub hl' ks hk))
theorem J_lstore {X : jX} {b : Bool} {k : Nat} {n : Nat} {pc : Nat} {pc' : Nat} {lv : List (Nat × Value)} {st : List Value} {ws : va_W} {cc : ByteArray} {own : String} {cI : ClassId} {cZ : ClassId} {z : Nat → Nat} {i : Nat} {x : Int64} (ks : List Nat) (lv' : List (Nat × Value)) (F : JF X cc own cI cZ z) (hd : decode cc pc = .ok (.lstore i, 2)) (hnl : jL X (fun nn => i + 1 < nn)) (hk : lv_pick ((i, Value.long x) :: lv.filter (fun q => !(q.1 == i) && (!(q.1 == i + 1) && !(q.1 + 1 == i && q.2.category == 2)))) ks = lv') (hn : pc + 2 = pc') (kk : J X b k n pc' lv' st ws) : J X b k n pc lv (.long x :: st) ws := by
  obtain ⟨p, l, e, R, s, m, args, below, meth, c, Q, A, D, nL⟩ := X
  obtain ⟨hx, hb, hml, hown, hts, hlk, hK, hZ⟩ := F
  subst hn
  exact fun H locs ls hI hl => lv_lstore hx hb hd hl hnl rfl (fun ls' hl' => kk H locs ls' hI (lv_sub hl' ks hk))
theorem J_iinc {X : jX} {b : Bool} {k : Nat} {n : Nat} {pc : Nat} {pc' : Nat} {lv : List (Nat × Value)} {st : List Value} {ws : va_W} {cc : ByteArray} {own : String} {cI : ClassId} {cZ : ClassId} {z : Nat → Nat} {i q : Nat} {j : Int} {x v : Int32} (ks : List Nat) (lv' : List (Nat × Value)) (F : JF X cc own cI cZ z) (hd : decode cc pc = .ok (.iinc i j, 3)) (hq : lv[q]? = some (i, .int x)) (hv : x + Int32.ofInt j = v) (hnl : jL X (fun nn => i < nn)) (hk : lv_pick ((i, Value.int v) :: lv.filter (fun q => !(q.1 == i) && !(q.1 + 1 == i && q.2.category == 2))) ks = lv') (hn : pc + 3 = pc') (kk : J X b k n pc' lv' st ws) : J X b k n pc lv st ws := by
  obtain ⟨p, l, e, R, s, m, args, below, meth, c, Q, A, D, nL⟩ := X
  obtain ⟨hx, hb, hml, hown, hts, hlk, hK, hZ⟩ := F
  subst hn
  exact fun H locs ls hI hl => lv_iinc hx hb hd hl hq hv hnl rfl (fun ls' hl' => kk H locs ls' hI (lv_sub hl' ks hk))
theorem J_iadd {X : jX} {b : Bool} {k : Nat} {n : Nat} {pc : Nat} {pc' : Nat} {lv : List (Nat × Value)} {st : List Value} {ws : va_W} {cc : ByteArray} {own : String} {cI : ClassId} {cZ : ClassId} {z : Nat → Nat} {x y : Int32} (F : JF X cc own cI cZ z) (hd : decode cc pc = .ok (.iadd, 1))  (hn : pc + 1 = pc') (kk : J X b k n pc' lv (.int (x + y) :: st) ws) : J X b k n pc lv (.int y :: .int x :: st) ws := by
  obtain ⟨p, l, e, R, s, m, args, below, meth, c, Q, A, D, nL⟩ := X
  obtain ⟨hx, hb, hml, hown, hts, hlk, hK, hZ⟩ := F
  subst hn
  exact fun H locs ls hI hl => lv_iadd hx hb hd  (kk H locs ls hI hl)
theorem J_isub {X : jX} {b : Bool} {k : Nat} {n : Nat} {pc : Nat} {pc' : Nat} {lv : List (Nat × Value)} {st : List Value} {ws : va_W} {cc : ByteArray} {own : String} {cI : ClassId} {cZ : ClassId} {z : Nat → Nat} {x y : Int32} (F : JF X cc own cI cZ z) (hd : decode cc pc = .ok (.isub, 1))  (hn : pc + 1 = pc') (kk : J X b k n pc' lv (.int (x - y) :: st) ws) : J X b k n pc lv (.int y :: .int x :: st) ws := by
  obtain ⟨p, l, e, R, s, m, args, below, meth, c, Q, A, D, nL⟩ := X
  obtain ⟨hx, hb, hml, hown, hts, hlk, hK, hZ⟩ := F
  subst hn
  exact fun H locs ls hI hl => lv_isub hx hb hd  (kk H locs ls hI hl)
theorem J_imul {X : jX} {b : Bool} {k : Nat} {n : Nat} {pc : Nat} {pc' : Nat} {lv : List (Nat × Value)} {st : List Value} {ws : va_W} {cc : ByteArray} {own : String} {cI : ClassId} {cZ : ClassId} {z : Nat → Nat} {x y : Int32} (F : JF X cc own cI cZ z) (hd : decode cc pc = .ok (.imul, 1))  (hn : pc + 1 = pc') (kk : J X b k n pc' lv (.int (x * y) :: st) ws) : J X b k n pc lv (.int y :: .int x :: st) ws := by
  obtain ⟨p, l, e, R, s, m, args, below, meth, c, Q, A, D, nL⟩ := X
  obtain ⟨hx, hb, hml, hown, hts, hlk, hK, hZ⟩ := F
  subst hn
  exact fun H locs ls hI hl => lv_imul hx hb hd  (kk H locs ls hI hl)
theorem J_iand {X : jX} {b : Bool} {k : Nat} {n : Nat} {pc : Nat} {pc' : Nat} {lv : List (Nat × Value)} {st : List Value} {ws : va_W} {cc : ByteArray} {own : String} {cI : ClassId} {cZ : ClassId} {z : Nat → Nat} {x y : Int32} (F : JF X cc own cI cZ z) (hd : decode cc pc = .ok (.iand, 1))  (hn : pc + 1 = pc') (kk : J X b k n pc' lv (.int (x &&& y) :: st) ws) : J X b k n pc lv (.int y :: .int x :: st) ws := by
  obtain ⟨p, l, e, R, s, m, args, below, meth, c, Q, A, D, nL⟩ := X
  obtain ⟨hx, hb, hml, hown, hts, hlk, hK, hZ⟩ := F
  subst hn
  exact fun H locs ls hI hl => lv_iand hx hb hd  (kk H locs ls hI hl)
theorem J_ior {X : jX} {b : Bool} {k : Nat} {n : Nat} {pc : Nat} {pc' : Nat} {lv : List (Nat × Value)} {st : List Value} {ws : va_W} {cc : ByteArray} {own : String} {cI : ClassId} {cZ : ClassId} {z : Nat → Nat} {x y : Int32} (F : JF X cc own cI cZ z) (hd : decode cc pc = .ok (.ior, 1))  (hn : pc + 1 = pc') (kk : J X b k n pc' lv (.int (x ||| y) :: st) ws) : J X b k n pc lv (.int y :: .int x :: st) ws := by
  obtain ⟨p, l, e, R, s, m, args, below, meth, c, Q, A, D, nL⟩ := X
  obtain ⟨hx, hb, hml, hown, hts, hlk, hK, hZ⟩ := F
  subst hn
  exact fun H locs ls hI hl => lv_ior hx hb hd  (kk H locs ls hI hl)
theorem J_ixor {X : jX} {b : Bool} {k : Nat} {n : Nat} {pc : Nat} {pc' : Nat} {lv : List (Nat × Value)} {st : List Value} {ws : va_W} {cc : ByteArray} {own : String} {cI : ClassId} {cZ : ClassId} {z : Nat → Nat} {x y : Int32} (F : JF X cc own cI cZ z) (hd : decode cc pc = .ok (.ixor, 1))  (hn : pc + 1 = pc') (kk : J X b k n pc' lv (.int (x ^^^ y) :: st) ws) : J X b k n pc lv (.int y :: .int x :: st) ws := by
  obtain ⟨p, l, e, R, s, m, args, below, meth, c, Q, A, D, nL⟩ := X
  obtain ⟨hx, hb, hml, hown, hts, hlk, hK, hZ⟩ := F
  subst hn
  exact fun H locs ls hI hl => lv_ixor hx hb hd  (kk H locs ls hI hl)
theorem J_ishl {X : jX} {b : Bool} {k : Nat} {n : Nat} {pc : Nat} {pc' : Nat} {lv : List (Nat × Value)} {st : List Value} {ws : va_W} {cc : ByteArray} {own : String} {cI : ClassId} {cZ : ClassId} {z : Nat → Nat} {x y : Int32} (F : JF X cc own cI cZ z) (hd : decode cc pc = .ok (.ishl, 1))  (hn : pc + 1 = pc') (kk : J X b k n pc' lv (.int (x <<< (y &&& 31)) :: st) ws) : J X b k n pc lv (.int y :: .int x :: st) ws := by
  obtain ⟨p, l, e, R, s, m, args, below, meth, c, Q, A, D, nL⟩ := X
  obtain ⟨hx, hb, hml, hown, hts, hlk, hK, hZ⟩ := F
  subst hn
  exact fun H locs ls hI hl => lv_ishl hx hb hd  (kk H locs ls hI hl)
theorem J_ishr {X : jX} {b : Bool} {k : Nat} {n : Nat} {pc : Nat} {pc' : Nat} {lv : List (Nat × Value)} {st : List Value} {ws : va_W} {cc : ByteArray} {own : String} {cI : ClassId} {cZ : ClassId} {z : Nat → Nat} {x y : Int32} (F : JF X cc own cI cZ z) (hd : decode cc pc = .ok (.ishr, 1))  (hn : pc + 1 = pc') (kk : J X b k n pc' lv (.int (x >>> (y &&& 31)) :: st) ws) : J X b k n pc lv (.int y :: .int x :: st) ws := by
  obtain ⟨p, l, e, R, s, m, args, below, meth, c, Q, A, D, nL⟩ := X
  obtain ⟨hx, hb, hml, hown, hts, hlk, hK, hZ⟩ := F
  subst hn
  exact fun H locs ls hI hl => lv_ishr hx hb hd  (kk H locs ls hI hl)
theorem J_idiv {X : jX} {b : Bool} {k : Nat} {n : Nat} {pc : Nat} {pc' : Nat} {lv : List (Nat × Value)} {st : List Value} {ws : va_W} {cc : ByteArray} {own : String} {cI : ClassId} {cZ : ClassId} {z : Nat → Nat} {x y : Int32} (F : JF X cc own cI cZ z) (hd : decode cc pc = .ok (.idiv, 1)) (hne : ¬ y = 0) (hn : pc + 1 = pc') (kk : J X b k n pc' lv (.int (x / y) :: st) ws) : J X b k n pc lv (.int y :: .int x :: st) ws := by
  obtain ⟨p, l, e, R, s, m, args, below, meth, c, Q, A, D, nL⟩ := X
  obtain ⟨hx, hb, hml, hown, hts, hlk, hK, hZ⟩ := F
  subst hn
  exact fun H locs ls hI hl => lv_idiv hx hb hd hne (kk H locs ls hI hl)
theorem J_irem {X : jX} {b : Bool} {k : Nat} {n : Nat} {pc : Nat} {pc' : Nat} {lv : List (Nat × Value)} {st : List Value} {ws : va_W} {cc : ByteArray} {own : String} {cI : ClassId} {cZ : ClassId} {z : Nat → Nat} {x y : Int32} (F : JF X cc own cI cZ z) (hd : decode cc pc = .ok (.irem, 1)) (hne : ¬ y = 0) (hn : pc + 1 = pc') (kk : J X b k n pc' lv (.int (x - x / y * y) :: st) ws) : J X b k n pc lv (.int y :: .int x :: st) ws := by
  obtain ⟨p, l, e, R, s, m, args, below, meth, c, Q, A, D, nL⟩ := X
  obtain ⟨hx, hb, hml, hown, hts, hlk, hK, hZ⟩ := F
  subst hn
  exact fun H locs ls hI hl => lv_irem hx hb hd hne (kk H locs ls hI hl)
theorem J_ineg {X : jX} {b : Bool} {k : Nat} {n : Nat} {pc : Nat} {pc' : Nat} {lv : List (Nat × Value)} {st : List Value} {ws : va_W} {cc : ByteArray} {own : String} {cI : ClassId} {cZ : ClassId} {z : Nat → Nat} {x : Int32} (F : JF X cc own cI cZ z) (hd : decode cc pc = .ok (.ineg, 1))  (hn : pc + 1 = pc') (kk : J X b k n pc' lv (.int (-x) :: st) ws) : J X b k n pc lv (.int x :: st) ws := by
  obtain ⟨p, l, e, R, s, m, args, below, meth, c, Q, A, D, nL⟩ := X
  obtain ⟨hx, hb, hml, hown, hts, hlk, hK, hZ⟩ := F
  subst hn
  exact fun H locs ls hI hl => lv_ineg hx hb hd  (kk H locs ls hI hl)
theorem J_ladd {X : jX} {b : Bool} {k : Nat} {n : Nat} {pc : Nat} {pc' : Nat} {lv : List (Nat × Value)} {st : List Value} {ws : va_W} {cc : ByteArray} {own : String} {cI : ClassId} {cZ : ClassId} {z : Nat → Nat} {x y : Int64} (F : JF X cc own cI cZ z) (hd : decode cc pc = .ok (.ladd, 1))  (hn : pc + 1 = pc') (kk : J X b k n pc' lv (.long (x + y) :: st) ws) : J X b k n pc lv (.long y :: .long x :: st) ws := by
  obtain ⟨p, l, e, R, s, m, args, below, meth, c, Q, A, D, nL⟩ := X
  obtain ⟨hx, hb, hml, hown, hts, hlk, hK, hZ⟩ := F
  subst hn
  exact fun H locs ls hI hl => lv_ladd hx hb hd  (kk H locs ls hI hl)
theorem J_lsub {X : jX} {b : Bool} {k : Nat} {n : Nat} {pc : Nat} {pc' : Nat} {lv : List (Nat × Value)} {st : List Value} {ws : va_W} {cc : ByteArray} {own : String} {cI : ClassId} {cZ : ClassId} {z : Nat → Nat} {x y : Int64} (F : JF X cc own cI cZ z) (hd : decode cc pc = .ok (.lsub, 1))  (hn : pc + 1 = pc') (kk : J X b k n pc' lv (.long (x - y) :: st) ws) : J X b k n pc lv (.long y :: .long x :: st) ws := by
  obtain ⟨p, l, e, R, s, m, args, below, meth, c, Q, A, D, nL⟩ := X
  obtain ⟨hx, hb, hml, hown, hts, hlk, hK, hZ⟩ := F
  subst hn
  exact fun H locs ls hI hl => lv_lsub hx hb hd  (kk H locs ls hI hl)
theorem J_lmul {X : jX} {b : Bool} {k : Nat} {n : Nat} {pc : Nat} {pc' : Nat} {lv : List (Nat × Value)} {st : List Value} {ws : va_W} {cc : ByteArray} {own : String} {cI : ClassId} {cZ : ClassId} {z : Nat → Nat} {x y : Int64} (F : JF X cc own cI cZ z) (hd : decode cc pc = .ok (.lmul, 1))  (hn : pc + 1 = pc') (kk : J X b k n pc' lv (.long (x * y) :: st) ws) : J X b k n pc lv (.long y :: .long x :: st) ws := by
  obtain ⟨p, l, e, R, s, m, args, below, meth, c, Q, A, D, nL⟩ := X
  obtain ⟨hx, hb, hml, hown, hts, hlk, hK, hZ⟩ := F
  subst hn
  exact fun H locs ls hI hl => lv_lmul hx hb hd  (kk H locs ls hI hl)
theorem J_land {X : jX} {b : Bool} {k : Nat} {n : Nat} {pc : Nat} {pc' : Nat} {lv : List (Nat × Value)} {st : List Value} {ws : va_W} {cc : ByteArray} {own : String} {cI : ClassId} {cZ : ClassId} {z : Nat → Nat} {x y : Int64} (F : JF X cc own cI cZ z) (hd : decode cc pc = .ok (.land, 1))  (hn : pc + 1 = pc') (kk : J X b k n pc' lv (.long (x &&& y) :: st) ws) : J X b k n pc lv (.long y :: .long x :: st) ws := by
  obtain ⟨p, l, e, R, s, m, args, below, meth, c, Q, A, D, nL⟩ := X
  obtain ⟨hx, hb, hml, hown, hts, hlk, hK, hZ⟩ := F
  subst hn
  exact fun H locs ls hI hl => lv_land hx hb hd  (kk H locs ls hI hl)
theorem J_lrem {X : jX} {b : Bool} {k : Nat} {n : Nat} {pc : Nat} {pc' : Nat} {lv : List (Nat × Value)} {st : List Value} {ws : va_W} {cc : ByteArray} {own : String} {cI : ClassId} {cZ : ClassId} {z : Nat → Nat} {x y : Int64} (F : JF X cc own cI cZ z) (hd : decode cc pc = .ok (.lrem, 1)) (hne : ¬ y = 0) (hn : pc + 1 = pc') (kk : J X b k n pc' lv (.long (x - x / y * y) :: st) ws) : J X b k n pc lv (.long y :: .long x :: st) ws := by
  obtain ⟨p, l, e, R, s, m, args, below, meth, c, Q, A, D, nL⟩ := X
  obtain ⟨hx, hb, hml, hown, hts, hlk, hK, hZ⟩ := F
  subst hn
  exact fun H locs ls hI hl => lv_lrem hx hb hd hne (kk H locs ls hI hl)
theorem J_lcmp {X : jX} {b : Bool} {k : Nat} {n : Nat} {pc : Nat} {pc' : Nat} {lv : List (Nat × Value)} {st : List Value} {ws : va_W} {cc : ByteArray} {own : String} {cI : ClassId} {cZ : ClassId} {z : Nat → Nat} {x y : Int64} (F : JF X cc own cI cZ z) (hd : decode cc pc = .ok (.lcmp, 1))  (hn : pc + 1 = pc') (kk : J X b k n pc' lv (.int (lg_cmp x y) :: st) ws) : J X b k n pc lv (.long y :: .long x :: st) ws := by
  obtain ⟨p, l, e, R, s, m, args, below, meth, c, Q, A, D, nL⟩ := X
  obtain ⟨hx, hb, hml, hown, hts, hlk, hK, hZ⟩ := F
  subst hn
  exact fun H locs ls hI hl => W.lcmp hx hb hd  (kk H locs ls hI hl)
theorem J_iushr {X : jX} {b : Bool} {k : Nat} {n : Nat} {pc : Nat} {pc' : Nat} {lv : List (Nat × Value)} {st : List Value} {ws : va_W} {cc : ByteArray} {own : String} {cI : ClassId} {cZ : ClassId} {z : Nat → Nat} {x y v : Int32} (F : JF X cc own cI cZ z) (hd : decode cc pc = .ok (.iushr, 1)) (hv : (x.toUInt32 >>> (y.toUInt32 &&& Int32.toUInt32 31)).toInt32 = v) (hn : pc + 1 = pc') (kk : J X b k n pc' lv (.int v :: st) ws) : J X b k n pc lv (.int y :: .int x :: st) ws := by
  obtain ⟨p, l, e, R, s, m, args, below, meth, c, Q, A, D, nL⟩ := X
  obtain ⟨hx, hb, hml, hown, hts, hlk, hK, hZ⟩ := F
  subst hn
  exact fun H locs ls hI hl => lv_iushr hx hb hd hv (kk H locs ls hI hl)
theorem J_i2l {X : jX} {b : Bool} {k : Nat} {n : Nat} {pc : Nat} {pc' : Nat} {lv : List (Nat × Value)} {st : List Value} {ws : va_W} {cc : ByteArray} {own : String} {cI : ClassId} {cZ : ClassId} {z : Nat → Nat} {x : Int32} {v : Int64} (F : JF X cc own cI cZ z) (hd : decode cc pc = .ok (.i2l, 1)) (hv : x.toInt64 = v) (hn : pc + 1 = pc') (kk : J X b k n pc' lv (.long v :: st) ws) : J X b k n pc lv (.int x :: st) ws := by
  obtain ⟨p, l, e, R, s, m, args, below, meth, c, Q, A, D, nL⟩ := X
  obtain ⟨hx, hb, hml, hown, hts, hlk, hK, hZ⟩ := F
  subst hn
  exact fun H locs ls hI hl => lv_i2l hx hb hd hv (kk H locs ls hI hl)
theorem J_l2i {X : jX} {b : Bool} {k : Nat} {n : Nat} {pc : Nat} {pc' : Nat} {lv : List (Nat × Value)} {st : List Value} {ws : va_W} {cc : ByteArray} {own : String} {cI : ClassId} {cZ : ClassId} {z : Nat → Nat} {x : Int64} {v : Int32} (F : JF X cc own cI cZ z) (hd : decode cc pc = .ok (.l2i, 1)) (hv : x.toInt32 = v) (hn : pc + 1 = pc') (kk : J X b k n pc' lv (.int v :: st) ws) : J X b k n pc lv (.long x :: st) ws := by
  obtain ⟨p, l, e, R, s, m, args, below, meth, c, Q, A, D, nL⟩ := X
  obtain ⟨hx, hb, hml, hown, hts, hlk, hK, hZ⟩ := F
  subst hn
  exact fun H locs ls hI hl => lv_l2i hx hb hd hv (kk H locs ls hI hl)
theorem J_i2c {X : jX} {b : Bool} {k : Nat} {n : Nat} {pc : Nat} {pc' : Nat} {lv : List (Nat × Value)} {st : List Value} {ws : va_W} {cc : ByteArray} {own : String} {cI : ClassId} {cZ : ClassId} {z : Nat → Nat} {x : Int32} {v : Int32} (F : JF X cc own cI cZ z) (hd : decode cc pc = .ok (.i2c, 1)) (hv : (x.toUInt32 % 65536).toInt32 = v) (hn : pc + 1 = pc') (kk : J X b k n pc' lv (.int v :: st) ws) : J X b k n pc lv (.int x :: st) ws := by
  obtain ⟨p, l, e, R, s, m, args, below, meth, c, Q, A, D, nL⟩ := X
  obtain ⟨hx, hb, hml, hown, hts, hlk, hK, hZ⟩ := F
  subst hn
  exact fun H locs ls hI hl => lv_i2c hx hb hd hv (kk H locs ls hI hl)
theorem J_i2b {X : jX} {b : Bool} {k : Nat} {n : Nat} {pc : Nat} {pc' : Nat} {lv : List (Nat × Value)} {st : List Value} {ws : va_W} {cc : ByteArray} {own : String} {cI : ClassId} {cZ : ClassId} {z : Nat → Nat} {x : Int32} {v : Int32} (F : JF X cc own cI cZ z) (hd : decode cc pc = .ok (.i2b, 1)) (hv : x.toInt8.toInt32 = v) (hn : pc + 1 = pc') (kk : J X b k n pc' lv (.int v :: st) ws) : J X b k n pc lv (.int x :: st) ws := by
  obtain ⟨p, l, e, R, s, m, args, below, meth, c, Q, A, D, nL⟩ := X
  obtain ⟨hx, hb, hml, hown, hts, hlk, hK, hZ⟩ := F
  subst hn
  exact fun H locs ls hI hl => lv_i2b hx hb hd hv (kk H locs ls hI hl)
theorem J_dup {X : jX} {b : Bool} {k : Nat} {n : Nat} {pc : Nat} {pc' : Nat} {lv : List (Nat × Value)} {st : List Value} {ws : va_W} {cc : ByteArray} {own : String} {cI : ClassId} {cZ : ClassId} {z : Nat → Nat} {v : Value} (F : JF X cc own cI cZ z) (hd : decode cc pc = .ok (.dup, 1)) (hv : v.category = 1) (hn : pc + 1 = pc') (kk : J X b k n pc' lv (v :: v :: st) ws) : J X b k n pc lv (v :: st) ws := by
  obtain ⟨p, l, e, R, s, m, args, below, meth, c, Q, A, D, nL⟩ := X
  obtain ⟨hx, hb, hml, hown, hts, hlk, hK, hZ⟩ := F
  subst hn
  exact fun H locs ls hI hl => lv_dup hx hb hd hv (kk H locs ls hI hl)
theorem J_pop {X : jX} {b : Bool} {k : Nat} {n : Nat} {pc : Nat} {pc' : Nat} {lv : List (Nat × Value)} {st : List Value} {ws : va_W} {cc : ByteArray} {own : String} {cI : ClassId} {cZ : ClassId} {z : Nat → Nat} {v : Value} (F : JF X cc own cI cZ z) (hd : decode cc pc = .ok (.pop, 1)) (hv : v.category = 1) (hn : pc + 1 = pc') (kk : J X b k n pc' lv (st) ws) : J X b k n pc lv (v :: st) ws := by
  obtain ⟨p, l, e, R, s, m, args, below, meth, c, Q, A, D, nL⟩ := X
  obtain ⟨hx, hb, hml, hown, hts, hlk, hK, hZ⟩ := F
  subst hn
  exact fun H locs ls hI hl => lv_pop hx hb hd hv (kk H locs ls hI hl)
theorem J_dup2 {X : jX} {b : Bool} {k : Nat} {n : Nat} {pc : Nat} {pc' : Nat} {lv : List (Nat × Value)} {st : List Value} {ws : va_W} {cc : ByteArray} {own : String} {cI : ClassId} {cZ : ClassId} {z : Nat → Nat} {v w : Value} (F : JF X cc own cI cZ z) (hd : decode cc pc = .ok (.dup2, 1)) (hv : v.category = 1) (hw : w.category = 1) (hn : pc + 1 = pc') (kk : J X b k n pc' lv (v :: w :: v :: w :: st) ws) : J X b k n pc lv (v :: w :: st) ws := by
  obtain ⟨p, l, e, R, s, m, args, below, meth, c, Q, A, D, nL⟩ := X
  obtain ⟨hx, hb, hml, hown, hts, hlk, hK, hZ⟩ := F
  subst hn
  exact fun H locs ls hI hl => lv_dup2_11 hx hb hd hv hw (kk H locs ls hI hl)
theorem J_if_eq {X : jX} {b : Bool} {k : Nat} {n : Nat} {pc : Nat} {pc' : Nat} {lv : List (Nat × Value)} {st : List Value} {ws : va_W} {cc : ByteArray} {own : String} {cI : ClassId} {cZ : ClassId} {z : Nat → Nat} {x : Int32} {off : Int} {tgt : Nat} (F : JF X cc own cI cZ z) (hd : decode cc pc = .ok (.ifCond .eq off, 3)) (ht : (pc : Int) + off = (tgt : Int)) (hn : pc + 3 = pc') (kt : x = 0 → J X b k n tgt lv st ws) (kf : ¬ (x = 0) → J X b k n pc' lv st ws) : J X b k n pc lv (.int x :: st) ws := by
  obtain ⟨p, l, e, R, s, m, args, below, meth, c, Q, A, D, nL⟩ := X
  obtain ⟨hx, hb, hml, hown, hts, hlk, hK, hZ⟩ := F
  subst hn
  exact fun H locs ls hI hl => lv_if_eq hx hb hd ht (fun h => kt h H locs ls hI hl) (fun h => kf h H locs ls hI hl)
theorem J_icmp_eq {X : jX} {b : Bool} {k : Nat} {n : Nat} {pc : Nat} {pc' : Nat} {lv : List (Nat × Value)} {st : List Value} {ws : va_W} {cc : ByteArray} {own : String} {cI : ClassId} {cZ : ClassId} {z : Nat → Nat} {x y : Int32} {off : Int} {tgt : Nat} (F : JF X cc own cI cZ z) (hd : decode cc pc = .ok (.if_icmp .eq off, 3)) (ht : (pc : Int) + off = (tgt : Int)) (hn : pc + 3 = pc') (kt : x = y → J X b k n tgt lv st ws) (kf : ¬ (x = y) → J X b k n pc' lv st ws) : J X b k n pc lv (.int y :: .int x :: st) ws := by
  obtain ⟨p, l, e, R, s, m, args, below, meth, c, Q, A, D, nL⟩ := X
  obtain ⟨hx, hb, hml, hown, hts, hlk, hK, hZ⟩ := F
  subst hn
  exact fun H locs ls hI hl => lv_icmp_eq hx hb hd ht (fun h => kt h H locs ls hI hl) (fun h => kf h H locs ls hI hl)
theorem J_if_ne {X : jX} {b : Bool} {k : Nat} {n : Nat} {pc : Nat} {pc' : Nat} {lv : List (Nat × Value)} {st : List Value} {ws : va_W} {cc : ByteArray} {own : String} {cI : ClassId} {cZ : ClassId} {z : Nat → Nat} {x : Int32} {off : Int} {tgt : Nat} (F : JF X cc own cI cZ z) (hd : decode cc pc = .ok (.ifCond .ne off, 3)) (ht : (pc : Int) + off = (tgt : Int)) (hn : pc + 3 = pc') (kt : ¬ x = 0 → J X b k n tgt lv st ws) (kf : x = 0 → J X b k n pc' lv st ws) : J X b k n pc lv (.int x :: st) ws := by
  obtain ⟨p, l, e, R, s, m, args, below, meth, c, Q, A, D, nL⟩ := X
  obtain ⟨hx, hb, hml, hown, hts, hlk, hK, hZ⟩ := F
  subst hn
  exact fun H locs ls hI hl => lv_if_ne hx hb hd ht (fun h => kt h H locs ls hI hl) (fun h => kf h H locs ls hI hl)
theorem J_icmp_ne {X : jX} {b : Bool} {k : Nat} {n : Nat} {pc : Nat} {pc' : Nat} {lv : List (Nat × Value)} {st : List Value} {ws : va_W} {cc : ByteArray} {own : String} {cI : ClassId} {cZ : ClassId} {z : Nat → Nat} {x y : Int32} {off : Int} {tgt : Nat} (F : JF X cc own cI cZ z) (hd : decode cc pc = .ok (.if_icmp .ne off, 3)) (ht : (pc : Int) + off = (tgt : Int)) (hn : pc + 3 = pc') (kt : ¬ x = y → J X b k n tgt lv st ws) (kf : x = y → J X b k n pc' lv st ws) : J X b k n pc lv (.int y :: .int x :: st) ws := by
  obtain ⟨p, l, e, R, s, m, args, below, meth, c, Q, A, D, nL⟩ := X
  obtain ⟨hx, hb, hml, hown, hts, hlk, hK, hZ⟩ := F
  subst hn
  exact fun H locs ls hI hl => lv_icmp_ne hx hb hd ht (fun h => kt h H locs ls hI hl) (fun h => kf h H locs ls hI hl)
theorem J_if_lt {X : jX} {b : Bool} {k : Nat} {n : Nat} {pc : Nat} {pc' : Nat} {lv : List (Nat × Value)} {st : List Value} {ws : va_W} {cc : ByteArray} {own : String} {cI : ClassId} {cZ : ClassId} {z : Nat → Nat} {x : Int32} {off : Int} {tgt : Nat} (F : JF X cc own cI cZ z) (hd : decode cc pc = .ok (.ifCond .lt off, 3)) (ht : (pc : Int) + off = (tgt : Int)) (hn : pc + 3 = pc') (kt : x < 0 → J X b k n tgt lv st ws) (kf : ¬ (x < 0) → J X b k n pc' lv st ws) : J X b k n pc lv (.int x :: st) ws := by
  obtain ⟨p, l, e, R, s, m, args, below, meth, c, Q, A, D, nL⟩ := X
  obtain ⟨hx, hb, hml, hown, hts, hlk, hK, hZ⟩ := F
  subst hn
  exact fun H locs ls hI hl => lv_if_lt hx hb hd ht (fun h => kt h H locs ls hI hl) (fun h => kf h H locs ls hI hl)
theorem J_icmp_lt {X : jX} {b : Bool} {k : Nat} {n : Nat} {pc : Nat} {pc' : Nat} {lv : List (Nat × Value)} {st : List Value} {ws : va_W} {cc : ByteArray} {own : String} {cI : ClassId} {cZ : ClassId} {z : Nat → Nat} {x y : Int32} {off : Int} {tgt : Nat} (F : JF X cc own cI cZ z) (hd : decode cc pc = .ok (.if_icmp .lt off, 3)) (ht : (pc : Int) + off = (tgt : Int)) (hn : pc + 3 = pc') (kt : x < y → J X b k n tgt lv st ws) (kf : ¬ (x < y) → J X b k n pc' lv st ws) : J X b k n pc lv (.int y :: .int x :: st) ws := by
  obtain ⟨p, l, e, R, s, m, args, below, meth, c, Q, A, D, nL⟩ := X
  obtain ⟨hx, hb, hml, hown, hts, hlk, hK, hZ⟩ := F
  subst hn
  exact fun H locs ls hI hl => lv_icmp_lt hx hb hd ht (fun h => kt h H locs ls hI hl) (fun h => kf h H locs ls hI hl)
theorem J_if_ge {X : jX} {b : Bool} {k : Nat} {n : Nat} {pc : Nat} {pc' : Nat} {lv : List (Nat × Value)} {st : List Value} {ws : va_W} {cc : ByteArray} {own : String} {cI : ClassId} {cZ : ClassId} {z : Nat → Nat} {x : Int32} {off : Int} {tgt : Nat} (F : JF X cc own cI cZ z) (hd : decode cc pc = .ok (.ifCond .ge off, 3)) (ht : (pc : Int) + off = (tgt : Int)) (hn : pc + 3 = pc') (kt : 0 ≤ x → J X b k n tgt lv st ws) (kf : ¬ (0 ≤ x) → J X b k n pc' lv st ws) : J X b k n pc lv (.int x :: st) ws := by
  obtain ⟨p, l, e, R, s, m, args, below, meth, c, Q, A, D, nL⟩ := X
  obtain ⟨hx, hb, hml, hown, hts, hlk, hK, hZ⟩ := F
  subst hn
  exact fun H locs ls hI hl => lv_if_ge hx hb hd ht (fun h => kt h H locs ls hI hl) (fun h => kf h H locs ls hI hl)
theorem J_icmp_ge {X : jX} {b : Bool} {k : Nat} {n : Nat} {pc : Nat} {pc' : Nat} {lv : List (Nat × Value)} {st : List Value} {ws : va_W} {cc : ByteArray} {own : String} {cI : ClassId} {cZ : ClassId} {z : Nat → Nat} {x y : Int32} {off : Int} {tgt : Nat} (F : JF X cc own cI cZ z) (hd : decode cc pc = .ok (.if_icmp .ge off, 3)) (ht : (pc : Int) + off = (tgt : Int)) (hn : pc + 3 = pc') (kt : y ≤ x → J X b k n tgt lv st ws) (kf : ¬ (y ≤ x) → J X b k n pc' lv st ws) : J X b k n pc lv (.int y :: .int x :: st) ws := by
  obtain ⟨p, l, e, R, s, m, args, below, meth, c, Q, A, D, nL⟩ := X
  obtain ⟨hx, hb, hml, hown, hts, hlk, hK, hZ⟩ := F
  subst hn
  exact fun H locs ls hI hl => lv_icmp_ge hx hb hd ht (fun h => kt h H locs ls hI hl) (fun h => kf h H locs ls hI hl)
theorem J_if_gt {X : jX} {b : Bool} {k : Nat} {n : Nat} {pc : Nat} {pc' : Nat} {lv : List (Nat × Value)} {st : List Value} {ws : va_W} {cc : ByteArray} {own : String} {cI : ClassId} {cZ : ClassId} {z : Nat → Nat} {x : Int32} {off : Int} {tgt : Nat} (F : JF X cc own cI cZ z) (hd : decode cc pc = .ok (.ifCond .gt off, 3)) (ht : (pc : Int) + off = (tgt : Int)) (hn : pc + 3 = pc') (kt : 0 < x → J X b k n tgt lv st ws) (kf : ¬ (0 < x) → J X b k n pc' lv st ws) : J X b k n pc lv (.int x :: st) ws := by
  obtain ⟨p, l, e, R, s, m, args, below, meth, c, Q, A, D, nL⟩ := X
  obtain ⟨hx, hb, hml, hown, hts, hlk, hK, hZ⟩ := F
  subst hn
  exact fun H locs ls hI hl => lv_if_gt hx hb hd ht (fun h => kt h H locs ls hI hl) (fun h => kf h H locs ls hI hl)
theorem J_icmp_gt {X : jX} {b : Bool} {k : Nat} {n : Nat} {pc : Nat} {pc' : Nat} {lv : List (Nat × Value)} {st : List Value} {ws : va_W} {cc : ByteArray} {own : String} {cI : ClassId} {cZ : ClassId} {z : Nat → Nat} {x y : Int32} {off : Int} {tgt : Nat} (F : JF X cc own cI cZ z) (hd : decode cc pc = .ok (.if_icmp .gt off, 3)) (ht : (pc : Int) + off = (tgt : Int)) (hn : pc + 3 = pc') (kt : y < x → J X b k n tgt lv st ws) (kf : ¬ (y < x) → J X b k n pc' lv st ws) : J X b k n pc lv (.int y :: .int x :: st) ws := by
  obtain ⟨p, l, e, R, s, m, args, below, meth, c, Q, A, D, nL⟩ := X
  obtain ⟨hx, hb, hml, hown, hts, hlk, hK, hZ⟩ := F
  subst hn
  exact fun H locs ls hI hl => lv_icmp_gt hx hb hd ht (fun h => kt h H locs ls hI hl) (fun h => kf h H locs ls hI hl)
theorem J_if_le {X : jX} {b : Bool} {k : Nat} {n : Nat} {pc : Nat} {pc' : Nat} {lv : List (Nat × Value)} {st : List Value} {ws : va_W} {cc : ByteArray} {own : String} {cI : ClassId} {cZ : ClassId} {z : Nat → Nat} {x : Int32} {off : Int} {tgt : Nat} (F : JF X cc own cI cZ z) (hd : decode cc pc = .ok (.ifCond .le off, 3)) (ht : (pc : Int) + off = (tgt : Int)) (hn : pc + 3 = pc') (kt : x ≤ 0 → J X b k n tgt lv st ws) (kf : ¬ (x ≤ 0) → J X b k n pc' lv st ws) : J X b k n pc lv (.int x :: st) ws := by
  obtain ⟨p, l, e, R, s, m, args, below, meth, c, Q, A, D, nL⟩ := X
  obtain ⟨hx, hb, hml, hown, hts, hlk, hK, hZ⟩ := F
  subst hn
  exact fun H locs ls hI hl => lv_if_le hx hb hd ht (fun h => kt h H locs ls hI hl) (fun h => kf h H locs ls hI hl)
theorem J_icmp_le {X : jX} {b : Bool} {k : Nat} {n : Nat} {pc : Nat} {pc' : Nat} {lv : List (Nat × Value)} {st : List Value} {ws : va_W} {cc : ByteArray} {own : String} {cI : ClassId} {cZ : ClassId} {z : Nat → Nat} {x y : Int32} {off : Int} {tgt : Nat} (F : JF X cc own cI cZ z) (hd : decode cc pc = .ok (.if_icmp .le off, 3)) (ht : (pc : Int) + off = (tgt : Int)) (hn : pc + 3 = pc') (kt : x ≤ y → J X b k n tgt lv st ws) (kf : ¬ (x ≤ y) → J X b k n pc' lv st ws) : J X b k n pc lv (.int y :: .int x :: st) ws := by
  obtain ⟨p, l, e, R, s, m, args, below, meth, c, Q, A, D, nL⟩ := X
  obtain ⟨hx, hb, hml, hown, hts, hlk, hK, hZ⟩ := F
  subst hn
  exact fun H locs ls hI hl => lv_icmp_le hx hb hd ht (fun h => kt h H locs ls hI hl) (fun h => kf h H locs ls hI hl)
theorem J_goto {X : jX} {b : Bool} {k : Nat} {n : Nat} {pc : Nat} {lv : List (Nat × Value)} {st : List Value} {ws : va_W} {cc : ByteArray} {own : String} {cI : ClassId} {cZ : ClassId} {z : Nat → Nat} {off : Int} {tgt : Nat} (F : JF X cc own cI cZ z) (hd : decode cc pc = .ok (.goto off, 3)) (ht : (pc : Int) + off = (tgt : Int)) (kk : J X b k n tgt lv st ws) : J X b k n pc lv st ws := by
  obtain ⟨p, l, e, R, s, m, args, below, meth, c, Q, A, D, nL⟩ := X
  obtain ⟨hx, hb, hml, hown, hts, hlk, hK, hZ⟩ := F
  exact fun H locs ls hI hl => lv_goto hx hb hd ht (kk H locs ls hI hl)
theorem J_tsIn {X : jX} {b : Bool} {k : Nat} {n : Nat} {pc : Nat} {lv : List (Nat × Value)} {st : List Value} {ws : va_W} {cc : ByteArray} {own : String} {cI : ClassId} {cZ : ClassId} {z : Nat → Nat} {x : Int32} {off dflt lo hi : Int} {offs : Array Int} {len tgt : Nat} (F : JF X cc own cI cZ z) (hd : decode cc pc = .ok (.tableswitch dflt lo hi offs, len)) (h1 : ¬ x.toInt < lo) (h2 : ¬ hi < x.toInt) (ho : offs[(x.toInt - lo).toNat]? = some off) (ht : (pc : Int) + off = (tgt : Int)) (kk : J X b k n tgt lv st ws) : J X b k n pc lv (.int x :: st) ws := by
  obtain ⟨p, l, e, R, s, m, args, below, meth, c, Q, A, D, nL⟩ := X
  obtain ⟨hx, hb, hml, hown, hts, hlk, hK, hZ⟩ := F
  exact fun H locs ls hI hl => lv_tableIn hx hb hd h1 h2 ho ht (kk H locs ls hI hl)
theorem J_tsOut {X : jX} {b : Bool} {k : Nat} {n : Nat} {pc : Nat} {lv : List (Nat × Value)} {st : List Value} {ws : va_W} {cc : ByteArray} {own : String} {cI : ClassId} {cZ : ClassId} {z : Nat → Nat} {x : Int32} {dflt lo hi : Int} {offs : Array Int} {len tgt : Nat} (F : JF X cc own cI cZ z) (hd : decode cc pc = .ok (.tableswitch dflt lo hi offs, len)) (h : x.toInt < lo ∨ hi < x.toInt) (ht : (pc : Int) + dflt = (tgt : Int)) (kk : J X b k n tgt lv st ws) : J X b k n pc lv (.int x :: st) ws := by
  obtain ⟨p, l, e, R, s, m, args, below, meth, c, Q, A, D, nL⟩ := X
  obtain ⟨hx, hb, hml, hown, hts, hlk, hK, hZ⟩ := F
  exact fun H locs ls hI hl => lv_tableOut hx hb hd h ht (kk H locs ls hI hl)
theorem J_lookup {X : jX} {b : Bool} {k : Nat} {n : Nat} {pc : Nat} {lv : List (Nat × Value)} {st : List Value} {ws : va_W} {cc : ByteArray} {own : String} {cI : ClassId} {cZ : ClassId} {z : Nat → Nat} {x : Int32} {off dflt : Int} {ps : Array (Int × Int)} {len tgt : Nat} (F : JF X cc own cI cZ z) (hd : decode cc pc = .ok (.lookupswitch dflt ps, len)) (hp : (ps.toList.zip (ps.toList.drop 1)).all (fun (a, next) => a.1 < next.1) = true) (ho : Op.lookupswitch.offset ps.toList dflt x.toInt = off) (ht : (pc : Int) + off = (tgt : Int)) (kk : J X b k n tgt lv st ws) : J X b k n pc lv (.int x :: st) ws := by
  obtain ⟨p, l, e, R, s, m, args, below, meth, c, Q, A, D, nL⟩ := X
  obtain ⟨hx, hb, hml, hown, hts, hlk, hK, hZ⟩ := F
  exact fun H locs ls hI hl => lv_lookup hx hb hd hp ho ht (kk H locs ls hI hl)
theorem J_topi {X : jX} {b : Bool} {k : Nat} {n : Nat} {pc : Nat} {lv : List (Nat × Value)} {st : List Value} {ws : va_W} {x : Int32} (kk : ∀ y : Int32, y = x → J X b k n pc lv (.int y :: st) ws) : J X b k n pc lv (.int x :: st) ws := kk x rfl
theorem J_topl {X : jX} {b : Bool} {k : Nat} {n : Nat} {pc : Nat} {lv : List (Nat × Value)} {st : List Value} {ws : va_W} {x : Int64} (kk : ∀ y : Int64, y = x → J X b k n pc lv (.long y :: st) ws) : J X b k n pc lv (.long x :: st) ws := kk x rfl
theorem J_vali {X : jX} {b : Bool} {k : Nat} {n : Nat} {pc : Nat} {lv : List (Nat × Value)} {st : List Value} {ws : va_W} {x y : Int32} (h : x = y) (kk : J X b k n pc lv (.int y :: st) ws) : J X b k n pc lv (.int x :: st) ws := h ▸ kk
theorem J_vall {X : jX} {b : Bool} {k : Nat} {n : Nat} {pc : Nat} {lv : List (Nat × Value)} {st : List Value} {ws : va_W} {x y : Int64} (h : x = y) (kk : J X b k n pc lv (.long y :: st) ws) : J X b k n pc lv (.long x :: st) ws := h ▸ kk
theorem J_lv {X : jX} {b : Bool} {k n pc : Nat} {lv lv' : List (Nat × Value)} {st : List Value} {ws : va_W} (ks : List Nat) (h : lv_pick lv ks = lv') (kk : J X b k n pc lv' st ws) : J X b k n pc lv st ws := by
  obtain ⟨p, l, e, R, s, m, args, below, meth, c, Q, A, D, nL⟩ := X
  exact fun H locs ls hI hl => kk H locs ls hI (lv_sub hl ks h)
theorem J_ws {X : jX} {b : Bool} {k n pc : Nat} {lv : List (Nat × Value)} {st : List Value} {ws ws' : va_W} (h : ws = ws') (kk : J X b k n pc lv st ws') : J X b k n pc lv st ws := h ▸ kk
theorem J_widen {X : jX} {b : Bool} {k n k' n' pc : Nat} {lv : List (Nat × Value)} {st : List Value} {ws : va_W} (h1 : k ≤ k') (h2 : n ≤ n') (kk : J X b k' n' pc lv st ws) : J X b k n pc lv st ws := by
  obtain ⟨p, l, e, R, s, m, args, below, meth, c, Q, A, D, nL⟩ := X
  exact fun H locs ls hI hl => W.widen h1 h2 (kk H locs ls hI hl)
theorem jI.S {p : Program} {l : Launch} {e : Env} {R : Room} {s : State} {m : MethodId} {args : Array Value} {below : List Frame} {meth : Method} {c : Code} {Q : State → Prop} {A : Nat → Prop} {D : va_G} {nL : Nat} {b : Bool} {ws : va_W} {H : Heap} {locs : List Loc} (h : jI (p, l, e, R, s, m, args, below, meth, c, Q, A, D, nL) b ws H locs) : va_S A s.heap H locs := by
  cases b with
  | true => exact h.2.2
  | false =>
    obtain ⟨-, rfl, rfl⟩ := h
    exact va_S.rf
theorem J_get {X : jX} {b : Bool} {k : Nat} {n : Nat} {pc : Nat} {pc' : Nat} {lv : List (Nat × Value)} {st : List Value} {ws : va_W} {cc : ByteArray} {own : String} {cI : ClassId} {cZ : ClassId} {z : Nat → Nat} {ref C : String} {T : u_T} {N ci index a : Nat} {fs : List Value} {v : Value} (q0 kf : Nat) (F : JF X cc own cI cZ z) (hd : decode cc pc = .ok (.getfield index, 3)) (hin : ∀ w ∈ u_ws C T N, w ∈ wsG) (he : ws[q0]? = some (a, .inr (ci, fs))) (hc : vwCl[ci]? = some (C, T, N)) (hk : kf < N) (hr : (T kf).1 = ref) (hlink : Cond.fieldLink own index ref (T kf).2.1 (T kf).2.2.1 ∈ wsG) (hv : fs[kf]? = some v) (hn : pc + 3 = pc') (kk : J X b k n pc' lv (v :: st) ws) : J X b k n pc lv (.ref a :: st) ws := by
  obtain ⟨p, l, e, R, s, m, args, below, meth, c, Q, A, D, nL⟩ := X
  obtain ⟨hx, hb, hml, hown, hts, hlk, hK, hZ⟩ := F
  subst hn
  exact fun H locs ls hI hl => va_get hx hb hts hin hown hK hI.1 q0 he hc kf hk (hts _ hlink) (fun x h => by rw [← hr]; exact h) hv hd (kk H locs ls hI hl)
theorem J_put {X : jX} {k : Nat} {n : Nat} {pc : Nat} {pc' : Nat} {lv : List (Nat × Value)} {st : List Value} {ws : va_W} {cc : ByteArray} {own : String} {cI : ClassId} {cZ : ClassId} {z : Nat → Nat} {ref C : String} {T : u_T} {N ci index a : Nat} {fs : List Value} {v : Value} {ty : FieldType} {ws' : va_W} (q0 kf : Nat) (F : JF X cc own cI cZ z) (hd : decode cc pc = .ok (.putfield index, 3)) (hin : ∀ w ∈ u_ws C T N, w ∈ wsG) (ty0 : Nat → FieldType) (hty : ∀ k, k < N → parseFieldDescriptor (T k).2.2.1 = some (ty0 k)) (hnm : ∀ a1, a1 < N → ∀ b1, b1 < N → a1 ≠ b1 → (T a1).2.1 ≠ (T b1).2.1) (he : ws[q0]? = some (a, .inr (ci, fs))) (hc : vwCl[ci]? = some (C, T, N)) (hk : kf < N) (hr : (T kf).1 = ref) (hlink : Cond.fieldLink own index ref (T kf).2.1 (T kf).2.2.1 ∈ wsG) (hfin : (T kf).2.2.2 = false) (hdt : parseFieldDescriptor (T kf).2.2.1 = some ty) (hnar : narrow ty v = v) (hfit : fits ty v = true) (hlen : kf < fs.length) (hws : ws.set q0 (a, .inr (ci, fs.set kf v)) = ws') (hn : pc + 3 = pc') (kk : J X true k n pc' lv st ws') : J X true k n pc lv (v :: .ref a :: st) ws := by
  obtain ⟨p, l, e, R, s, m, args, below, meth, c, Q, A, D, nL⟩ := X
  obtain ⟨hx, hb, hml, hown, hts, hlk, hK, hZ⟩ := F
  subst hn; subst hws
  exact fun H locs ls hI hl => va_put hx hb hts hin ty0 hty hnm hown hK hI.1 hI.2.1 hI.2.2 q0 he hc kf hk (hts _ hlink) (fun x h => by rw [← hr]; exact h) hfin hdt hnar hfit hlen hd (fun H1 locs1 h1 h2 h3 => kk H1 locs1 ls ⟨h1, h2, h3⟩ hl)
theorem J_iald {X : jX} {b : Bool} {k : Nat} {n : Nat} {pc : Nat} {pc' : Nat} {lv : List (Nat × Value)} {st : List Value} {ws : va_W} {cc : ByteArray} {own : String} {cI : ClassId} {cZ : ClassId} {z : Nat → Nat} {a N : Nat} {f : Nat → Int32} {i : Int32} (q0 : Nat) (F : JF X cc own cI cZ z) (hd : decode cc pc = .ok (.iaload, 1)) (ha : ws[q0]? = some (a, .inl (cI, N, .inl f))) (hin : vp_in i N) (hn : pc + 1 = pc') (kk : J X b k n pc' lv (.int (f i.toNatClampNeg) :: st) ws) : J X b k n pc lv (.int i :: .ref a :: st) ws := by
  obtain ⟨p, l, e, R, s, m, args, below, meth, c, Q, A, D, nL⟩ := X
  obtain ⟨hx, hb, hml, hown, hts, hlk, hK, hZ⟩ := F
  subst hn
  exact fun H locs ls hI hl => va_iald hx hb hK hI.1 q0 0 ha rfl hin hd (kk H locs ls hI hl)
theorem J_zald {X : jX} {b : Bool} {k : Nat} {n : Nat} {pc : Nat} {pc' : Nat} {lv : List (Nat × Value)} {st : List Value} {ws : va_W} {cc : ByteArray} {own : String} {cI : ClassId} {cZ : ClassId} {z : Nat → Nat} {a N : Nat} {f : Nat → Int32} {i : Int32} (q0 : Nat) (F : JF X cc own cI cZ z) (hd : decode cc pc = .ok (.baload, 1)) (ha : ws[q0]? = some (a, .inl (cZ, N, .inl f))) (hin : vp_in i N) (hn : pc + 1 = pc') (kk : J X b k n pc' lv (.int (f i.toNatClampNeg) :: st) ws) : J X b k n pc lv (.int i :: .ref a :: st) ws := by
  obtain ⟨p, l, e, R, s, m, args, below, meth, c, Q, A, D, nL⟩ := X
  obtain ⟨hx, hb, hml, hown, hts, hlk, hK, hZ⟩ := F
  subst hn
  exact fun H locs ls hI hl => va_zald hx hb hK hI.1 q0 1 ha rfl hin hd (kk H locs ls hI hl)
theorem J_alen {X : jX} {b : Bool} {k : Nat} {n : Nat} {pc : Nat} {pc' : Nat} {lv : List (Nat × Value)} {st : List Value} {ws : va_W} {cc : ByteArray} {own : String} {cI : ClassId} {cZ : ClassId} {z : Nat → Nat} {a : Nat} {x : vp_A} {v : Int32} (q0 : Nat) (F : JF X cc own cI cZ z) (hd : decode cc pc = .ok (.arraylength, 1)) (ha : ws[q0]? = some (a, .inl (cI, x))) (hv : Int32.ofNat x.1 = v) (hn : pc + 1 = pc') (kk : J X b k n pc' lv (.int v :: st) ws) : J X b k n pc lv (.ref a :: st) ws := by
  obtain ⟨p, l, e, R, s, m, args, below, meth, c, Q, A, D, nL⟩ := X
  obtain ⟨hx, hb, hml, hown, hts, hlk, hK, hZ⟩ := F
  subst hn
  exact fun H locs ls hI hl => va_alen hx hb hK hI.1 q0 0 ha rfl hv hd (kk H locs ls hI hl)
theorem J_iast {X : jX} {k : Nat} {n : Nat} {pc : Nat} {pc' : Nat} {lv : List (Nat × Value)} {st : List Value} {ws : va_W} {cc : ByteArray} {own : String} {cI : ClassId} {cZ : ClassId} {z : Nat → Nat} {a N : Nat} {f : Nat → Int32} {i x : Int32} {ws' : va_W} (q0 : Nat) (F : JF X cc own cI cZ z) (hd : decode cc pc = .ok (.iastore, 1)) (ha : ws[q0]? = some (a, .inl (cI, N, .inl f))) (hin : vp_in i N) (hws : ws.set q0 (a, .inl (cI, N, .inl (upd f i.toNatClampNeg x))) = ws') (hn : pc + 1 = pc') (kk : J X true k n pc' lv st ws') : J X true k n pc lv (.int x :: .int i :: .ref a :: st) ws := by
  obtain ⟨p, l, e, R, s, m, args, below, meth, c, Q, A, D, nL⟩ := X
  obtain ⟨hx, hb, hml, hown, hts, hlk, hK, hZ⟩ := F
  subst hn; subst hws
  exact fun H locs ls hI hl => va_iast hx hb hK hI.1 hI.2.1 hI.2.2 q0 0 ha rfl hin hd (fun H1 locs1 h1 h2 h3 => kk H1 locs1 ls ⟨h1, h2, h3⟩ hl)
theorem J_zast {X : jX} {k : Nat} {n : Nat} {pc : Nat} {pc' : Nat} {lv : List (Nat × Value)} {st : List Value} {ws : va_W} {cc : ByteArray} {own : String} {cI : ClassId} {cZ : ClassId} {z : Nat → Nat} {a N : Nat} {f : Nat → Int32} {i x : Int32} {ws' : va_W} (q0 : Nat) (F : JF X cc own cI cZ z) (hd : decode cc pc = .ok (.bastore, 1)) (ha : ws[q0]? = some (a, .inl (cZ, N, .inl f))) (hin : vp_in i N) (hws : ws.set q0 (a, .inl (cZ, N, .inl (upd f i.toNatClampNeg (vp_nar .boolean x)))) = ws') (hn : pc + 1 = pc') (kk : J X true k n pc' lv st ws') : J X true k n pc lv (.int x :: .int i :: .ref a :: st) ws := by
  obtain ⟨p, l, e, R, s, m, args, below, meth, c, Q, A, D, nL⟩ := X
  obtain ⟨hx, hb, hml, hown, hts, hlk, hK, hZ⟩ := F
  subst hn; subst hws
  exact fun H locs ls hI hl => va_zast hx hb hK hI.1 hI.2.1 hI.2.2 q0 1 ha rfl hin hd (fun H1 locs1 h1 h2 h3 => kk H1 locs1 ls ⟨h1, h2, h3⟩ hl)
/-- the walk's launch, room, layout of classes, number of locals -/
def JE (X : jX) (l : Launch) (rm : Room) (D : va_G) (nl : Nat) : Prop :=
  match X with
  | (_, l', _, R, _, _, _, _, _, _, _, _, D', nL) => l' = l ∧ R = rm ∧ D' = D ∧ nL = nl
def JRi (X : jX) (rt : FieldType) (post : Int32 → Prop) : Prop :=
  match X with
  | (_, _, _, _, s, _, args, below, meth, _, Q, _, _, _) => Q = MQ below (vp_Si post) args s 0 0 (fun _ => False) ∧ meth.sig.returnType = some rt
def JRl (X : jX) (post : Int64 → Prop) : Prop :=
  match X with
  | (_, _, _, _, s, _, args, below, meth, _, Q, _, _, _) => Q = MQ below (vp_Sl post) args s 0 0 (fun _ => False) ∧ meth.sig.returnType = some .long
def jPcR (D : va_G) (cI cZ : ClassId) (z : Nat → Nat) (wc : va_W) (av : List Value) : Array Value → State → Prop := va_Pc av (fun U => va_P D vwCl wc U.heap ∧ va_K D vwCl (jT cI cZ) U ∧ jSt z (fun _ => False) U U.heap)
/-- a method that reads alone: its answer -/
def cRi (l : Launch) (y : MethodName) (ws : List Cond) (rm : Room) (D : va_G) (cI cZ : ClassId) (z : Nat → Nat) (wc : va_W) (av : List Value) (post : Int32 → Prop) : Prop := Met l y ws rm (jPcR D cI cZ z wc av) (vp_Si post) 0 0 (fun _ => False)
def cRl (l : Launch) (y : MethodName) (ws : List Cond) (rm : Room) (D : va_G) (cI cZ : ClassId) (z : Nat → Nat) (wc : va_W) (av : List Value) (post : Int64 → Prop) : Prop := Met l y ws rm (jPcR D cI cZ z wc av) (vp_Sl post) 0 0 (fun _ => False)
def cRv (l : Launch) (y : MethodName) (ws : List Cond) (rm : Room) (D : va_G) (cI cZ : ClassId) (z : Nat → Nat) (wc : va_W) (av : List Value) (post : Unit → Prop) : Prop := Met l y ws rm (jPcR D cI cZ z wc av) (va_Sv post) 0 0 (fun _ => False)
def JRv (X : jX) (post : Unit → Prop) : Prop :=
  match X with
  | (_, _, _, _, s, _, args, below, meth, _, Q, _, _, _) => Q = MQ below (va_Sv post) args s 0 0 (fun _ => False) ∧ meth.sig.returnType = none
def jPcW (D : va_G) (cI cZ : ClassId) (z : Nat → Nat) (w0 : va_W) (sz : Nat) (av : List Value) : Array Value → State → Prop := va_Pc av (fun U => U.heap.size = sz ∧ va_P D vwCl w0 U.heap ∧ va_K D vwCl (jT cI cZ) U ∧ va_D (fun _ => True) w0 ∧ jSt z (va_A w0 sz) U U.heap)
def jBW {σ : Type} (D : va_G) (wf : σ → va_W) (w0 : va_W) (sz : Nat) : σ → State → Prop := fun u t => va_P D vwCl (wf u) t.heap ∧ va_D (va_A w0 sz) (wf u)
def cWi {σ : Type} (l : Launch) (y : MethodName) (ws : List Cond) (rm : Room) (D : va_G) (cI cZ : ClassId) (z : Nat → Nat) (wf : σ → va_W) (w0 : va_W) (av : List Value) (post : Int32 → σ → Prop) : Prop := ∀ sz : Nat, Met l y ws rm (jPcW D cI cZ z w0 sz av) (va_Qi post (jBW D wf w0 sz) (va_A w0 sz)) 0 0 (va_A w0 sz)
def cWl {σ : Type} (l : Launch) (y : MethodName) (ws : List Cond) (rm : Room) (D : va_G) (cI cZ : ClassId) (z : Nat → Nat) (wf : σ → va_W) (w0 : va_W) (av : List Value) (post : Int64 → σ → Prop) : Prop := ∀ sz : Nat, Met l y ws rm (jPcW D cI cZ z w0 sz av) (va_Ql post (jBW D wf w0 sz) (va_A w0 sz)) 0 0 (va_A w0 sz)
def cWv {σ : Type} (l : Launch) (y : MethodName) (ws : List Cond) (rm : Room) (D : va_G) (cI cZ : ClassId) (z : Nat → Nat) (wf : σ → va_W) (w0 : va_W) (av : List Value) (post : σ → Prop) : Prop := ∀ sz : Nat, Met l y ws rm (jPcW D cI cZ z w0 sz av) (va_Qv post (jBW D wf w0 sz) (va_A w0 sz)) 0 0 (va_A w0 sz)
def JWi {σ : Type} (X : jX) (wf : σ → va_W) (w0 : va_W) (rt : FieldType) (post : Int32 → σ → Prop) : Prop :=
  match X with
  | (_, _, _, _, s, _, args, below, meth, _, Q, A, D, _) => Q = MQ below (va_Qi post (jBW D wf w0 s.heap.size) (va_A w0 s.heap.size)) args s 0 0 (va_A w0 s.heap.size) ∧ meth.sig.returnType = some rt ∧ A = va_A w0 s.heap.size
def JWl {σ : Type} (X : jX) (wf : σ → va_W) (w0 : va_W) (post : Int64 → σ → Prop) : Prop :=
  match X with
  | (_, _, _, _, s, _, args, below, meth, _, Q, A, D, _) => Q = MQ below (va_Ql post (jBW D wf w0 s.heap.size) (va_A w0 s.heap.size)) args s 0 0 (va_A w0 s.heap.size) ∧ meth.sig.returnType = some .long ∧ A = va_A w0 s.heap.size
def JWv {σ : Type} (X : jX) (wf : σ → va_W) (w0 : va_W) (post : σ → Prop) : Prop :=
  match X with
  | (_, _, _, _, s, _, args, below, meth, _, Q, A, D, _) => Q = MQ below (va_Qv post (jBW D wf w0 s.heap.size) (va_A w0 s.heap.size)) args s 0 0 (va_A w0 s.heap.size) ∧ meth.sig.returnType = none ∧ A = va_A w0 s.heap.size
theorem cRi.of {l : Launch} {y : MethodName} {cc : ByteArray} {maxL : Nat} {ws : List Cond} {rm : Room} {D : va_G} {cI cZ : ClassId} {z : Nat → Nat} {av : List Value} {rt : FieldType} {wc : va_W} {post : Int32 → Prop} (hy : plainName y.cls = true) (hw0 : ws = Cond.code y cc maxL (some rt) :: wsG) (hlen : (lg_sl av).length ≤ maxL) (body : ∀ X : jX, JF X cc y.cls cI cZ z → JE X l rm D maxL → JRi X rt post → J X false 0 0 0 (lv_args 0 av) [] wc) : cRi l y ws rm D cI cZ z wc av post := by
  refine Met.ofW (cc := cc) (maxL := maxL) (ret := some rt) hy hw0 ?_
  intro p e s m args below meth c s₁ B hml hv
  obtain ⟨rfl, hP, hK, hZ⟩ := hv
  have hts := atoms_spec (ws := ws) B.pre
  have hown : s.vm.findClass y.cls = some m.cls := findClass_of_methodNamed B.named
  rw [lg_entry_eq]
  exact body (p, l, e, (headSpec ws rm).room, s, m, av.toArray, below, meth, c, _, (fun _ => False), D, maxL) ⟨B.exec, B.bytes, hml, hown, (fun w hw => hts w (by rw [hw0]; exact List.mem_cons_of_mem _ hw)), B.notSynchronized, hK, hZ⟩ ⟨rfl, rfl, rfl, rfl⟩ ⟨rfl, B.returns⟩ s.heap [] _ ⟨hP, rfl, rfl⟩ (lv_entry av hlen)
theorem cRl.of {l : Launch} {y : MethodName} {cc : ByteArray} {maxL : Nat} {ws : List Cond} {rm : Room} {D : va_G} {cI cZ : ClassId} {z : Nat → Nat} {av : List Value} {wc : va_W} {post : Int64 → Prop} (hy : plainName y.cls = true) (hw0 : ws = Cond.code y cc maxL (some .long) :: wsG) (hlen : (lg_sl av).length ≤ maxL) (body : ∀ X : jX, JF X cc y.cls cI cZ z → JE X l rm D maxL → JRl X post → J X false 0 0 0 (lv_args 0 av) [] wc) : cRl l y ws rm D cI cZ z wc av post := by
  refine Met.ofW (cc := cc) (maxL := maxL) (ret := some .long) hy hw0 ?_
  intro p e s m args below meth c s₁ B hml hv
  obtain ⟨rfl, hP, hK, hZ⟩ := hv
  have hts := atoms_spec (ws := ws) B.pre
  have hown : s.vm.findClass y.cls = some m.cls := findClass_of_methodNamed B.named
  rw [lg_entry_eq]
  exact body (p, l, e, (headSpec ws rm).room, s, m, av.toArray, below, meth, c, _, (fun _ => False), D, maxL) ⟨B.exec, B.bytes, hml, hown, (fun w hw => hts w (by rw [hw0]; exact List.mem_cons_of_mem _ hw)), B.notSynchronized, hK, hZ⟩ ⟨rfl, rfl, rfl, rfl⟩ ⟨rfl, B.returns⟩ s.heap [] _ ⟨hP, rfl, rfl⟩ (lv_entry av hlen)
theorem cRv.of {l : Launch} {y : MethodName} {cc : ByteArray} {maxL : Nat} {ws : List Cond} {rm : Room} {D : va_G} {cI cZ : ClassId} {z : Nat → Nat} {av : List Value} {wc : va_W} {post : Unit → Prop} (hy : plainName y.cls = true) (hw0 : ws = Cond.code y cc maxL (none) :: wsG) (hlen : (lg_sl av).length ≤ maxL) (body : ∀ X : jX, JF X cc y.cls cI cZ z → JE X l rm D maxL → JRv X post → J X false 0 0 0 (lv_args 0 av) [] wc) : cRv l y ws rm D cI cZ z wc av post := by
  refine Met.ofW (cc := cc) (maxL := maxL) (ret := none) hy hw0 ?_
  intro p e s m args below meth c s₁ B hml hv
  obtain ⟨rfl, hP, hK, hZ⟩ := hv
  have hts := atoms_spec (ws := ws) B.pre
  have hown : s.vm.findClass y.cls = some m.cls := findClass_of_methodNamed B.named
  rw [lg_entry_eq]
  exact body (p, l, e, (headSpec ws rm).room, s, m, av.toArray, below, meth, c, _, (fun _ => False), D, maxL) ⟨B.exec, B.bytes, hml, hown, (fun w hw => hts w (by rw [hw0]; exact List.mem_cons_of_mem _ hw)), B.notSynchronized, hK, hZ⟩ ⟨rfl, rfl, rfl, rfl⟩ ⟨rfl, B.returns⟩ s.heap [] _ ⟨hP, rfl, rfl⟩ (lv_entry av hlen)
theorem cWi.of {l : Launch} {y : MethodName} {cc : ByteArray} {maxL : Nat} {ws : List Cond} {rm : Room} {D : va_G} {cI cZ : ClassId} {z : Nat → Nat} {av : List Value} {rt : FieldType} {σ : Type} {wf : σ → va_W} {w0 : va_W} {post : Int32 → σ → Prop} (hy : plainName y.cls = true) (hw0 : ws = Cond.code y cc maxL (some rt) :: wsG) (hlen : (lg_sl av).length ≤ maxL) (body : ∀ X : jX, JF X cc y.cls cI cZ z → JE X l rm D maxL → jA X → JWi X wf w0 rt post → J X true 0 0 0 (lv_args 0 av) [] w0) : cWi l y ws rm D cI cZ z wf w0 av post := by
  intro sz
  refine Met.ofW (cc := cc) (maxL := maxL) (ret := some rt) hy hw0 ?_
  intro p e s m args below meth c s₁ B hml hv
  obtain ⟨rfl, hsz, hP, hK, hD, hZ⟩ := hv
  subst hsz
  have hts := atoms_spec (ws := ws) B.pre
  have hown : s.vm.findClass y.cls = some m.cls := findClass_of_methodNamed B.named
  rw [lg_entry_eq]
  exact body (p, l, e, (headSpec ws rm).room, s, m, av.toArray, below, meth, c, _, va_A w0 s.heap.size, D, maxL) ⟨B.exec, B.bytes, hml, hown, (fun w hw => hts w (by rw [hw0]; exact List.mem_cons_of_mem _ hw)), B.notSynchronized, hK, hZ⟩ ⟨rfl, rfl, rfl, rfl⟩ (fun q h => Or.inr h) ⟨rfl, B.returns, rfl⟩ s.heap [] _ ⟨hP, hD.self, va_S.rf⟩ (lv_entry av hlen)
theorem cWl.of {l : Launch} {y : MethodName} {cc : ByteArray} {maxL : Nat} {ws : List Cond} {rm : Room} {D : va_G} {cI cZ : ClassId} {z : Nat → Nat} {av : List Value} {σ : Type} {wf : σ → va_W} {w0 : va_W} {post : Int64 → σ → Prop} (hy : plainName y.cls = true) (hw0 : ws = Cond.code y cc maxL (some .long) :: wsG) (hlen : (lg_sl av).length ≤ maxL) (body : ∀ X : jX, JF X cc y.cls cI cZ z → JE X l rm D maxL → jA X → JWl X wf w0 post → J X true 0 0 0 (lv_args 0 av) [] w0) : cWl l y ws rm D cI cZ z wf w0 av post := by
  intro sz
  refine Met.ofW (cc := cc) (maxL := maxL) (ret := some .long) hy hw0 ?_
  intro p e s m args below meth c s₁ B hml hv
  obtain ⟨rfl, hsz, hP, hK, hD, hZ⟩ := hv
  subst hsz
  have hts := atoms_spec (ws := ws) B.pre
  have hown : s.vm.findClass y.cls = some m.cls := findClass_of_methodNamed B.named
  rw [lg_entry_eq]
  exact body (p, l, e, (headSpec ws rm).room, s, m, av.toArray, below, meth, c, _, va_A w0 s.heap.size, D, maxL) ⟨B.exec, B.bytes, hml, hown, (fun w hw => hts w (by rw [hw0]; exact List.mem_cons_of_mem _ hw)), B.notSynchronized, hK, hZ⟩ ⟨rfl, rfl, rfl, rfl⟩ (fun q h => Or.inr h) ⟨rfl, B.returns, rfl⟩ s.heap [] _ ⟨hP, hD.self, va_S.rf⟩ (lv_entry av hlen)
theorem cWv.of {l : Launch} {y : MethodName} {cc : ByteArray} {maxL : Nat} {ws : List Cond} {rm : Room} {D : va_G} {cI cZ : ClassId} {z : Nat → Nat} {av : List Value} {σ : Type} {wf : σ → va_W} {w0 : va_W} {post : σ → Prop} (hy : plainName y.cls = true) (hw0 : ws = Cond.code y cc maxL (none) :: wsG) (hlen : (lg_sl av).length ≤ maxL) (body : ∀ X : jX, JF X cc y.cls cI cZ z → JE X l rm D maxL → jA X → JWv X wf w0 post → J X true 0 0 0 (lv_args 0 av) [] w0) : cWv l y ws rm D cI cZ z wf w0 av post := by
  intro sz
  refine Met.ofW (cc := cc) (maxL := maxL) (ret := none) hy hw0 ?_
  intro p e s m args below meth c s₁ B hml hv
  obtain ⟨rfl, hsz, hP, hK, hD, hZ⟩ := hv
  subst hsz
  have hts := atoms_spec (ws := ws) B.pre
  have hown : s.vm.findClass y.cls = some m.cls := findClass_of_methodNamed B.named
  rw [lg_entry_eq]
  exact body (p, l, e, (headSpec ws rm).room, s, m, av.toArray, below, meth, c, _, va_A w0 s.heap.size, D, maxL) ⟨B.exec, B.bytes, hml, hown, (fun w hw => hts w (by rw [hw0]; exact List.mem_cons_of_mem _ hw)), B.notSynchronized, hK, hZ⟩ ⟨rfl, rfl, rfl, rfl⟩ (fun q h => Or.inr h) ⟨rfl, B.returns, rfl⟩ s.heap [] _ ⟨hP, hD.self, va_S.rf⟩ (lv_entry av hlen)
theorem J_iretR {X : jX} {pc : Nat} {lv : List (Nat × Value)} {ws : va_W} {cc : ByteArray} {own : String} {cI : ClassId} {cZ : ClassId} {z : Nat → Nat} {rt : FieldType} {post : Int32 → Prop} {v : Int32} (F : JF X cc own cI cZ z) (hR : JRi X rt post) (hd : decode cc pc = .ok (.ireturn, 1)) (hnar : narrow rt (.int v) = .int v) (hp : post v) : J X false 0 0 pc lv [.int v] ws := by
  obtain ⟨p, l, e, R, s, m, args, below, meth, c, Q, A, D, nL⟩ := X
  obtain ⟨hx, hb, hml, hown, hts, hlk, hK, hZ⟩ := F
  obtain ⟨rfl, hr⟩ := hR
  intro H locs ls hI hl
  obtain ⟨-, rfl, rfl⟩ := hI
  exact W.zret hx hb hr hnar (fun t ht hW => ⟨v, rfl, hp, ht⟩) (fun q h => by cases h) hd hlk
theorem J_lretR {X : jX} {pc : Nat} {lv : List (Nat × Value)} {ws : va_W} {cc : ByteArray} {own : String} {cI : ClassId} {cZ : ClassId} {z : Nat → Nat} {post : Int64 → Prop} {v : Int64} (F : JF X cc own cI cZ z) (hR : JRl X post) (hd : decode cc pc = .ok (.lreturn, 1)) (hp : post v) : J X false 0 0 pc lv [.long v] ws := by
  obtain ⟨p, l, e, R, s, m, args, below, meth, c, Q, A, D, nL⟩ := X
  obtain ⟨hx, hb, hml, hown, hts, hlk, hK, hZ⟩ := F
  obtain ⟨rfl, hr⟩ := hR
  intro H locs ls hI hl
  obtain ⟨-, rfl, rfl⟩ := hI
  exact W.lret hx hb hr (fun t ht hW => ⟨v, rfl, hp, ht⟩) (fun q h => by cases h) hd hlk
theorem J_vretR {X : jX} {pc : Nat} {lv : List (Nat × Value)} {ws : va_W} {cc : ByteArray} {own : String} {cI : ClassId} {cZ : ClassId} {z : Nat → Nat} {post : Unit → Prop} (F : JF X cc own cI cZ z) (hR : JRv X post) (hd : decode cc pc = .ok (.return_, 1)) (hp : post ()) : J X false 0 0 pc lv [] ws := by
  obtain ⟨p, l, e, R, s, m, args, below, meth, c, Q, A, D, nL⟩ := X
  obtain ⟨hx, hb, hml, hown, hts, hlk, hK, hZ⟩ := F
  obtain ⟨rfl, hr⟩ := hR
  intro H locs ls hI hl
  obtain ⟨-, rfl, rfl⟩ := hI
  exact W.vret hx hb hr (fun t ht hW => ⟨rfl, hp, ht⟩) (fun q h => by cases h) hd hlk
theorem J_iretW {X : jX} {pc : Nat} {lv : List (Nat × Value)} {ws : va_W} {cc : ByteArray} {own : String} {cI : ClassId} {cZ : ClassId} {z : Nat → Nat} {σ : Type} {wf : σ → va_W} {w0 : va_W} {rt : FieldType} {post : Int32 → σ → Prop} {v : Int32} (u : σ) (F : JF X cc own cI cZ z) (hR : JWi X wf w0 rt post) (hd : decode cc pc = .ok (.ireturn, 1)) (hnar : narrow rt (.int v) = .int v) (hws : ws = wf u) (hp : post v u) : J X true 0 0 pc lv [.int v] ws := by
  obtain ⟨p, l, e, R, s, m, args, below, meth, c, Q, A, D, nL⟩ := X
  obtain ⟨hx, hb, hml, hown, hts, hlk, hK, hZ⟩ := F
  obtain ⟨rfl, hr, rfl⟩ := hR
  subst hws
  intro H locs ls hI hl
  obtain ⟨hP, hD, hS⟩ := hI
  exact W.zret hx hb hr hnar (fun t ht hW => ⟨⟨v, u, rfl, hp, by rw [ht]; exact hP, hD⟩, hS.F ht⟩) hS.2.2 hd hlk
theorem J_lretW {X : jX} {pc : Nat} {lv : List (Nat × Value)} {ws : va_W} {cc : ByteArray} {own : String} {cI : ClassId} {cZ : ClassId} {z : Nat → Nat} {σ : Type} {wf : σ → va_W} {w0 : va_W} {post : Int64 → σ → Prop} {v : Int64} (u : σ) (F : JF X cc own cI cZ z) (hR : JWl X wf w0 post) (hd : decode cc pc = .ok (.lreturn, 1)) (hws : ws = wf u) (hp : post v u) : J X true 0 0 pc lv [.long v] ws := by
  obtain ⟨p, l, e, R, s, m, args, below, meth, c, Q, A, D, nL⟩ := X
  obtain ⟨hx, hb, hml, hown, hts, hlk, hK, hZ⟩ := F
  obtain ⟨rfl, hr, rfl⟩ := hR
  subst hws
  intro H locs ls hI hl
  obtain ⟨hP, hD, hS⟩ := hI
  exact W.lret hx hb hr (fun t ht hW => ⟨⟨v, u, rfl, hp, by rw [ht]; exact hP, hD⟩, hS.F ht⟩) hS.2.2 hd hlk
theorem J_vretW {X : jX} {pc : Nat} {lv : List (Nat × Value)} {ws : va_W} {cc : ByteArray} {own : String} {cI : ClassId} {cZ : ClassId} {z : Nat → Nat} {σ : Type} {wf : σ → va_W} {w0 : va_W} {post : σ → Prop} (u : σ) (F : JF X cc own cI cZ z) (hR : JWv X wf w0 post) (hd : decode cc pc = .ok (.return_, 1)) (hws : ws = wf u) (hp : post u) : J X true 0 0 pc lv [] ws := by
  obtain ⟨p, l, e, R, s, m, args, below, meth, c, Q, A, D, nL⟩ := X
  obtain ⟨hx, hb, hml, hown, hts, hlk, hK, hZ⟩ := F
  obtain ⟨rfl, hr, rfl⟩ := hR
  subst hws
  intro H locs ls hI hl
  obtain ⟨hP, hD, hS⟩ := hI
  exact W.vret hx hb hr (fun t ht hW => ⟨⟨u, rfl, hp, by rw [ht]; exact hP, hD⟩, hS.F ht⟩) hS.2.2 hd hlk
theorem J_getsN {X : jX} {b : Bool} {k : Nat} {n : Nat} {pc : Nat} {pc' : Nat} {lv : List (Nat × Value)} {st : List Value} {ws : va_W} {cc : ByteArray} {own : String} {cI : ClassId} {cZ : ClassId} {z : Nat → Nat} {nm : String} {a index : Nat} (F : JF X cc own cI cZ z) (hd : decode cc pc = .ok (.getstatic index, 3)) (hm : (own, index, nm) ∈ jNF) (hz : ∀ (A : Nat → Prop) (U : State) (H : Heap), jSt z A U H → va_Z RX5 nm "[I" (.ref a) A U H) (hn : pc + 3 = pc') (kk : J X b k n pc' lv (.ref a :: st) ws) : J X b k n pc lv st ws := by
  obtain ⟨p, l, e, R, s, m, args, below, meth, c, Q, A, D, nL⟩ := X
  obtain ⟨hx, hb, hml, hown, hts, hlk, hK, hZ⟩ := F
  subst hn
  exact fun H locs ls hI hl => va_getsN hx hb (hz _ _ _ hZ) hI.S hown (va_Nw.use rfl (hZ.2.1 _ hm)) (fun _ h => h) hd (kk H locs ls hI hl)
theorem J_gets {X : jX} {b : Bool} {k : Nat} {n : Nat} {pc : Nat} {pc' : Nat} {lv : List (Nat × Value)} {st : List Value} {ws : va_W} {cc : ByteArray} {own : String} {cI : ClassId} {cZ : ClassId} {z : Nat → Nat} {C nm d ref : String} {v : Value} {index : Nat} (F : JF X cc own cI cZ z) (hd : decode cc pc = .ok (.getstatic index, 3)) (hlink : Cond.fieldLink own index ref nm d ∈ wsG) (hz : ∀ (A : Nat → Prop) (U : State) (H : Heap), jSt z A U H → va_Z C nm d v A U H) (hr : C = ref) (hn : pc + 3 = pc') (kk : J X b k n pc' lv (v :: st) ws) : J X b k n pc lv st ws := by
  obtain ⟨p, l, e, R, s, m, args, below, meth, c, Q, A, D, nL⟩ := X
  obtain ⟨hx, hb, hml, hown, hts, hlk, hK, hZ⟩ := F
  subst hn; subst hr
  exact fun H locs ls hI hl => va_gets hx hb (hz _ _ _ hZ) hI.S hown (hts _ hlink) (fun _ h => h) hd (kk H locs ls hI hl)
theorem J_tiald {X : jX} {b : Bool} {k : Nat} {n : Nat} {pc : Nat} {pc' : Nat} {lv : List (Nat × Value)} {st : List Value} {ws : va_W} {cc : ByteArray} {own : String} {cI : ClassId} {cZ : ClassId} {z : Nat → Nat} {t N : Nat} {f : Nat → Value} {i : Int32} {v : Value} (F : JF X cc own cI cZ z) (hd : decode cc pc = .ok (.iaload, 1)) (hT : ∀ (A : Nat → Prop) (U : State) (H : Heap), jSt z A U H → va_T .int t N f A U H) (hin : vp_in i N) (hv : f i.toNatClampNeg = v) (hn : pc + 1 = pc') (kk : J X b k n pc' lv (v :: st) ws) : J X b k n pc lv (.int i :: .ref t :: st) ws := by
  obtain ⟨p, l, e, R, s, m, args, below, meth, c, Q, A, D, nL⟩ := X
  obtain ⟨hx, hb, hml, hown, hts, hlk, hK, hZ⟩ := F
  subst hn
  exact fun H locs ls hI hl => va_ti hx hb (hT _ _ _ hZ) hI.S hin hv hd (kk H locs ls hI hl)
theorem J_tbald {X : jX} {b : Bool} {k : Nat} {n : Nat} {pc : Nat} {pc' : Nat} {lv : List (Nat × Value)} {st : List Value} {ws : va_W} {cc : ByteArray} {own : String} {cI : ClassId} {cZ : ClassId} {z : Nat → Nat} {t N : Nat} {f : Nat → Value} {i : Int32} {v : Value} (F : JF X cc own cI cZ z) (hd : decode cc pc = .ok (.baload, 1)) (hT : ∀ (A : Nat → Prop) (U : State) (H : Heap), jSt z A U H → va_T .byte t N f A U H) (hin : vp_in i N) (hv : f i.toNatClampNeg = v) (hn : pc + 1 = pc') (kk : J X b k n pc' lv (v :: st) ws) : J X b k n pc lv (.int i :: .ref t :: st) ws := by
  obtain ⟨p, l, e, R, s, m, args, below, meth, c, Q, A, D, nL⟩ := X
  obtain ⟨hx, hb, hml, hown, hts, hlk, hK, hZ⟩ := F
  subst hn
  exact fun H locs ls hI hl => va_tb hx hb (hT _ _ _ hZ) hI.S hin hv hd (kk H locs ls hI hl)
theorem J_tlen {X : jX} {b : Bool} {k : Nat} {n : Nat} {pc : Nat} {pc' : Nat} {lv : List (Nat × Value)} {st : List Value} {ws : va_W} {cc : ByteArray} {own : String} {cI : ClassId} {cZ : ClassId} {z : Nat → Nat} {t N : Nat} {f : Nat → Value} {ty : FieldType} {v : Int32} (F : JF X cc own cI cZ z) (hd : decode cc pc = .ok (.arraylength, 1)) (hT : ∀ (A : Nat → Prop) (U : State) (H : Heap), jSt z A U H → va_T ty t N f A U H) (hv : Int32.ofNat N = v) (hn : pc + 1 = pc') (kk : J X b k n pc' lv (.int v :: st) ws) : J X b k n pc lv (.ref t :: st) ws := by
  obtain ⟨p, l, e, R, s, m, args, below, meth, c, Q, A, D, nL⟩ := X
  obtain ⟨hx, hb, hml, hown, hts, hlk, hK, hZ⟩ := F
  subst hn
  exact fun H locs ls hI hl => va_tlen hx hb (hT _ _ _ hZ) hI.S hv hd (kk H locs ls hI hl)
theorem J_ldcS {X : jX} {b : Bool} {k : Nat} {n : Nat} {pc : Nat} {pc' : Nat} {lv : List (Nat × Value)} {st : List Value} {ws : va_W} {cc : ByteArray} {own : String} {cI : ClassId} {cZ : ClassId} {z : Nat → Nat} {tx : String} {index a : Nat} (F : JF X cc own cI cZ z) (hd : decode cc pc = .ok (.ldc index, 2)) (hz : ∀ (A : Nat → Prop) (U : State) (H : Heap), jSt z A U H → vk_R own index tx a U) (hn : pc + 2 = pc') (kk : J X b k n pc' lv (.ref a :: st) ws) : J X b k n pc lv st ws := by
  obtain ⟨p, l, e, R, s, m, args, below, meth, c, Q, A, D, nL⟩ := X
  obtain ⟨hx, hb, hml, hown, hts, hlk, hK, hZ⟩ := F
  subst hn
  exact fun H locs ls hI hl => va_ldcS hx hb hown (hz _ _ _ hZ) hd (kk H locs ls hI hl)
theorem J_getO {X : jX} {b : Bool} {k : Nat} {n : Nat} {pc : Nat} {pc' : Nat} {lv : List (Nat × Value)} {st : List Value} {ws : va_W} {cc : ByteArray} {own : String} {cI : ClassId} {cZ : ClassId} {z : Nat → Nat} {o nm d ref : String} {v : Value} {index a : Nat} (F : JF X cc own cI cZ z) (hd : decode cc pc = .ok (.getfield index, 3)) (hlink : Cond.fieldLink own index ref nm d ∈ wsG) (hz : ∀ (A : Nat → Prop) (U : State) (H : Heap), jSt z A U H → va_OF o nm d v a A U H) (hr : o = ref) (hn : pc + 3 = pc') (kk : J X b k n pc' lv (v :: st) ws) : J X b k n pc lv (.ref a :: st) ws := by
  obtain ⟨p, l, e, R, s, m, args, below, meth, c, Q, A, D, nL⟩ := X
  obtain ⟨hx, hb, hml, hown, hts, hlk, hK, hZ⟩ := F
  subst hn; subst hr
  exact fun H locs ls hI hl => vk_getf hx hb (hz _ _ _ hZ) hI.S hown (hts _ hlink) (fun _ h => h) hd (kk H locs ls hI hl)
theorem J_mmax {X : jX} {b : Bool} {k : Nat} {n : Nat} {pc : Nat} {pc' : Nat} {lv : List (Nat × Value)} {st : List Value} {ws : va_W} {cc : ByteArray} {own : String} {cI : ClassId} {cZ : ClassId} {z : Nat → Nat} {rm0 : Room} {l0 : Launch} {D0 : va_G} {nl index : Nat} {x y : Int32} (F : JF X cc own cI cZ z) (E : JE X l0 rm0 D0 nl) (hd : decode cc pc = .ok (.invokestatic index, 3)) (h1 : Cond.methodLink own index Lib.Math.max.name ∈ wsG) (h2 : Cond.static Lib.Math.max.name ∈ wsG) (h3 : Cond.initialized "java/lang/Math" ∈ wsG) (h4 : Cond.code Lib.Math.max.name Lib.Math.max.code 2 (some .int) ∈ wsG) (h5 : 1 ≤ rm0.frames) (h6 : (st.map fun v => v.category).sum + 13 ≤ rm0.locals) (h7 : k ≤ rm0.cells) (h8 : n ≤ rm0.slots) (hn : pc + 3 = pc') (kk : J X b k n pc' lv (.int (if x < y then y else x) :: st) ws) : J X b k n pc lv (.int y :: .int x :: st) ws := by
  obtain ⟨p, l, e, R, s, m, args, below, meth, c, Q, A, D, nL⟩ := X
  obtain ⟨hx, hb, hml, hown, hts, hlk, hK, hZ⟩ := F
  subst hn
  obtain ⟨rfl, rfl, rfl, rfl⟩ := E
  exact fun H locs ls hI hl => va_mmax hx hb (hml.trans hl.1.symm) hown (hts _ h1) (hts _ h2) (hts _ h3) (hts _ h4) h5 h6 h7 h8 hd (kk H locs ls hI hl)
theorem J_mmin {X : jX} {b : Bool} {k : Nat} {n : Nat} {pc : Nat} {pc' : Nat} {lv : List (Nat × Value)} {st : List Value} {ws : va_W} {cc : ByteArray} {own : String} {cI : ClassId} {cZ : ClassId} {z : Nat → Nat} {rm0 : Room} {l0 : Launch} {D0 : va_G} {nl index : Nat} {x y : Int32} (F : JF X cc own cI cZ z) (E : JE X l0 rm0 D0 nl) (hd : decode cc pc = .ok (.invokestatic index, 3)) (h1 : Cond.methodLink own index Lib.Math.min.name ∈ wsG) (h2 : Cond.static Lib.Math.min.name ∈ wsG) (h3 : Cond.initialized "java/lang/Math" ∈ wsG) (h4 : Cond.code Lib.Math.min.name Lib.Math.min.code 2 (some .int) ∈ wsG) (h5 : 1 ≤ rm0.frames) (h6 : (st.map fun v => v.category).sum + 13 ≤ rm0.locals) (h7 : k ≤ rm0.cells) (h8 : n ≤ rm0.slots) (hn : pc + 3 = pc') (kk : J X b k n pc' lv (.int (if y < x then y else x) :: st) ws) : J X b k n pc lv (.int y :: .int x :: st) ws := by
  obtain ⟨p, l, e, R, s, m, args, below, meth, c, Q, A, D, nL⟩ := X
  obtain ⟨hx, hb, hml, hown, hts, hlk, hK, hZ⟩ := F
  subst hn
  obtain ⟨rfl, rfl, rfl, rfl⟩ := E
  exact fun H locs ls hI hl => va_mmin hx hb (hml.trans hl.1.symm) hown (hts _ h1) (hts _ h2) (hts _ h3) (hts _ h4) h5 h6 h7 h8 hd (kk H locs ls hI hl)
theorem J_mabs {X : jX} {b : Bool} {k : Nat} {n : Nat} {pc : Nat} {pc' : Nat} {lv : List (Nat × Value)} {st : List Value} {ws : va_W} {cc : ByteArray} {own : String} {cI : ClassId} {cZ : ClassId} {z : Nat → Nat} {rm0 : Room} {l0 : Launch} {D0 : va_G} {nl index : Nat} {x : Int32} (F : JF X cc own cI cZ z) (E : JE X l0 rm0 D0 nl) (hd : decode cc pc = .ok (.invokestatic index, 3)) (h1 : Cond.methodLink own index Lib.Math.abs.name ∈ wsG) (h2 : Cond.static Lib.Math.abs.name ∈ wsG) (h3 : Cond.initialized "java/lang/Math" ∈ wsG) (h4 : Cond.code Lib.Math.abs.name Lib.Math.abs.code 1 (some .int) ∈ wsG) (h5 : 1 ≤ rm0.frames) (h6 : (st.map fun v => v.category).sum + 13 ≤ rm0.locals) (h7 : k ≤ rm0.cells) (h8 : n ≤ rm0.slots) (hn : pc + 3 = pc') (kk : J X b k n pc' lv (.int (if 0 ≤ x then x else 0 - x) :: st) ws) : J X b k n pc lv (.int x :: st) ws := by
  obtain ⟨p, l, e, R, s, m, args, below, meth, c, Q, A, D, nL⟩ := X
  obtain ⟨hx, hb, hml, hown, hts, hlk, hK, hZ⟩ := F
  subst hn
  obtain ⟨rfl, rfl, rfl, rfl⟩ := E
  exact fun H locs ls hI hl => va_mabs hx hb (hml.trans hl.1.symm) hown (hts _ h1) (hts _ h2) (hts _ h3) (hts _ h4) h5 h6 h7 h8 hd (kk H locs ls hI hl)
theorem jgood {wsc : List Cond} {y : MethodName} {bytes : ByteArray} {maxL : Nat} {ret : Option FieldType} (hw : wsc = Cond.code y bytes maxL ret :: wsG) (hcd : Cond.code y bytes maxL ret ∈ wsG) : GoodIn wsG wsc := by
  intro w h
  rw [hw] at h
  have hm : w ∈ wsG := (List.mem_cons.mp h).elim (fun e => by rw [e]; exact hcd) id
  exact ⟨hm, good_of_word (wsG_good w hm)⟩
def jPre (X : jX) (H : Heap) (Pc : Array Value → State → Prop) (av : List Value) : Prop :=
  match X with
  | (_, _, _, _, s, _, _, _, _, _, _, _, _, _) => FrameBlind Pc ∧ ∀ U : State, U.heap = H → s.WarmedH U.vm → Pc av.toArray U
def jRun (X : jX) (k n pc : Nat) (lv : List (Nat × Value)) (st : List Value) (H : Heap) (locs : List Loc) (rest : List Value) (Qa : State → Outcome → State → Prop) (free : Addr → Prop) : Prop :=
  match X with
  | (p, l, e, R, s, m, args, below, meth, c, _, _, _, nL) => ∀ ls : Array Slot, lv_has ls nL lv → va_Run p l e R s m args below meth c H locs k n 0 0 (F0 m pc ls st) rest Qa free
def jOut (y : MethodName) (n : Nat) : Prop := y.cls ≠ "java/lang/invoke/MethodHandle" ∧ y.cls ≠ "java/lang/invoke/VarHandle" ∧ (parseMethodDescriptor y.desc).map (fun d => d.parameters.length) = some n
def jRoom (rm rm0 : Room) (maxL k n : Nat) : Prop := (rm.cells = 0 ∧ rm.slots = 0) ∧ (rm.frames + 1 ≤ rm0.frames ∧ 8 + (maxL + 11) + rm.locals ≤ rm0.locals) ∧ k ≤ rm0.cells ∧ n ≤ rm0.slots
theorem jrun_S {X : jX} {k : Nat} {n : Nat} {pc : Nat} {lv : List (Nat × Value)} {st : List Value} {cc : ByteArray} {own : String} {cI : ClassId} {cZ : ClassId} {z : Nat → Nat} {y : MethodName} {bytes : ByteArray} {maxL : Nat} {nl : Nat} {index : Nat} {ret : Option FieldType} {wsc : List Cond} {rm : Room} {rm0 : Room} {l : Launch} {D : va_G} {Pc : Array Value → State → Prop} {Qc : Array Value → State → Outcome → State → Prop} {free : Addr → Prop} {av : List Value} {rest : List Value} {H : Heap} {locs : List Loc} (F : JF X cc own cI cZ z) (E : JE X l rm0 D nl) (hM : Met l y wsc rm Pc Qc 0 0 free) (hlk2 : Cond.methodLink own index y ∈ wsG) (hs : Cond.static y ∈ wsG) (hw : wsc = Cond.code y bytes maxL ret :: wsG) (hcd : Cond.code y bytes maxL ret ∈ wsG) (hi : Cond.initialized y.cls ∈ wsG) (ho : jOut y av.length) (hr : jRoom rm rm0 maxL k n) (hst : st = av.reverse ++ rest) (hrest : (rest.map fun v => v.category).sum ≤ 8) (hd : decode cc pc = .ok (.invokestatic index, 3)) (hp : jPre X H Pc av) : jRun X k n pc lv st H locs rest (Qc av.toArray) free := by
  obtain ⟨p, l, e, R, s, m, args, below, meth, c, Q, A, D, nL⟩ := X
  obtain ⟨hx, hb, hml, hown, hts, hlk, hK, hZ⟩ := F
  obtain ⟨rfl, rfl, rfl, rfl⟩ := E
  obtain ⟨⟨r1, r2⟩, r3, r4, r5⟩ := hr
  intro ls hl
  exact va_runS ⟨hx, hb, hml, hown, hts⟩ hM ⟨callB_of av.length hts (jgood hw hcd) hw r1 r2 (hts _ hi) (hts _ hlk2) ho r3, hts _ hs⟩ hp rfl rfl hl.1 hst (lv_room hrest) hd ⟨r4, r5⟩
theorem jrun_SN {X : jX} {k : Nat} {n : Nat} {pc : Nat} {lv : List (Nat × Value)} {st : List Value} {cc : ByteArray} {own : String} {cI : ClassId} {cZ : ClassId} {z : Nat → Nat} {y : MethodName} {bytes : ByteArray} {maxL : Nat} {nl : Nat} {index : Nat} {ret : Option FieldType} {wsc : List Cond} {rm : Room} {rm0 : Room} {l : Launch} {D : va_G} {Pc : Array Value → State → Prop} {Qc : Array Value → State → Outcome → State → Prop} {free : Addr → Prop} {av : List Value} {rest : List Value} {H : Heap} {locs : List Loc} (F : JF X cc own cI cZ z) (E : JE X l rm0 D nl) (hM : Met l y wsc rm Pc Qc 0 0 free) (hs : Cond.static y ∈ wsG) (hm : (own, index, y) ∈ jNM) (hw : wsc = Cond.code y bytes maxL ret :: wsG) (hcd : Cond.code y bytes maxL ret ∈ wsG) (hi : Cond.initialized y.cls ∈ wsG) (ho : jOut y av.length) (hr : jRoom rm rm0 maxL k n) (hst : st = av.reverse ++ rest) (hrest : (rest.map fun v => v.category).sum ≤ 8) (hd : decode cc pc = .ok (.invokestatic index, 3)) (hp : jPre X H Pc av) : jRun X k n pc lv st H locs rest (Qc av.toArray) free := by
  obtain ⟨p, l, e, R, s, m, args, below, meth, c, Q, A, D, nL⟩ := X
  obtain ⟨hx, hb, hml, hown, hts, hlk, hK, hZ⟩ := F
  obtain ⟨rfl, rfl, rfl, rfl⟩ := E
  obtain ⟨⟨r1, r2⟩, r3, r4, r5⟩ := hr
  intro ls hl
  exact va_runSN ⟨hx, hb, hml, hown, hts⟩ hM ⟨va_cnB av.length hts (jgood hw hcd) hw r1 r2 (hZ.1 _ hm) (hts _ hi) ho r3, hts _ hs, trivial⟩ hp rfl rfl hl.1 hst (lv_room hrest) hd ⟨r4, r5⟩
theorem jrun_V {X : jX} {k : Nat} {n : Nat} {pc : Nat} {lv : List (Nat × Value)} {st : List Value} {ws : va_W} {cc : ByteArray} {own : String} {cI : ClassId} {cZ : ClassId} {z : Nat → Nat} {y : MethodName} {bytes : ByteArray} {maxL : Nat} {nl : Nat} {index : Nat} {ret : Option FieldType} {wsc : List Cond} {rm : Room} {rm0 : Room} {l : Launch} {D : va_G} {Pc : Array Value → State → Prop} {Qc : Array Value → State → Outcome → State → Prop} {free : Addr → Prop} {av : List Value} {rest : List Value} {H : Heap} {locs : List Loc} {C : String} {T : u_T} {N ci a : Nat} {fs As : List Value} (q0 : Nat) (F : JF X cc own cI cZ z) (E : JE X l rm0 D nl) (hM : Met l y wsc rm Pc Qc 0 0 free) (hlk2 : Cond.methodLink own index y ∈ wsG) (hin : Cond.instanceMethod y ∈ wsG) (hse : Cond.selects C y y ∈ wsG) (hw : wsc = Cond.code y bytes maxL ret :: wsG) (hcd : Cond.code y bytes maxL ret ∈ wsG) (hi : Cond.initialized y.cls ∈ wsG) (ho : jOut y As.length) (hr : jRoom rm rm0 maxL k n) (hav : av = .ref a :: As) (hst : st = As.reverse ++ .ref a :: rest) (hrest : (rest.map fun v => v.category).sum ≤ 8) (hd : decode cc pc = .ok (.invokevirtual index, 3)) (hc : vwCl[ci]? = some (C, T, N)) (he : ws[q0]? = some (a, .inr (ci, fs))) (hP : va_P D vwCl ws H) (hp : jPre X H Pc av) : jRun X k n pc lv st H locs rest (Qc av.toArray) free := by
  obtain ⟨p, l, e, R, s, m, args, below, meth, c, Q, A, D, nL⟩ := X
  obtain ⟨hx, hb, hml, hown, hts, hlk, hK, hZ⟩ := F
  obtain ⟨rfl, rfl, rfl, rfl⟩ := E
  subst hav
  obtain ⟨⟨r1, r2⟩, r3, r4, r5⟩ := hr
  intro ls hl
  exact va_runV ⟨hx, hb, hml, hown, hts⟩ hM ⟨callB_of As.length hts (jgood hw hcd) hw r1 r2 (hts _ hi) (hts _ hlk2) ho r3, hts _ hin, hts _ hse⟩ ⟨hp.1, va_recv hK hP hc he, hp.2⟩ rfl rfl hl.1 hst (lv_room hrest) hd ⟨r4, r5⟩
theorem jrun_VS {X : jX} {b : Bool} {k : Nat} {n : Nat} {pc : Nat} {lv : List (Nat × Value)} {st : List Value} {ws : va_W} {cc : ByteArray} {own : String} {cI : ClassId} {cZ : ClassId} {z : Nat → Nat} {y : MethodName} {bytes : ByteArray} {maxL : Nat} {nl : Nat} {index : Nat} {ret : Option FieldType} {wsc : List Cond} {rm : Room} {rm0 : Room} {l : Launch} {D : va_G} {Pc : Array Value → State → Prop} {Qc : Array Value → State → Outcome → State → Prop} {free : Addr → Prop} {av : List Value} {rest : List Value} {H : Heap} {locs : List Loc} {i : Nat} {As : List Value} (F : JF X cc own cI cZ z) (E : JE X l rm0 D nl) (hM : Met l y wsc rm Pc Qc 0 0 free) (hlk2 : Cond.methodLink own index y ∈ wsG) (hin : Cond.instanceMethod y ∈ wsG) (hse : Cond.selects "java/lang/String" y y ∈ wsG) (hw : wsc = Cond.code y bytes maxL ret :: wsG) (hcd : Cond.code y bytes maxL ret ∈ wsG) (hi : Cond.initialized y.cls ∈ wsG) (ho : jOut y As.length) (hr : jRoom rm rm0 maxL k n) (hi2 : i < 2) (hav : av = .ref (z (3 + i)) :: As) (hst : st = As.reverse ++ .ref (z (3 + i)) :: rest) (hrest : (rest.map fun v => v.category).sum ≤ 8) (hd : decode cc pc = .ok (.invokevirtual index, 3)) (hI : jI X b ws H locs) (hp : jPre X H Pc av) : jRun X k n pc lv st H locs rest (Qc av.toArray) free := by
  obtain ⟨p, l, e, R, s, m, args, below, meth, c, Q, A, D, nL⟩ := X
  obtain ⟨hx, hb, hml, hown, hts, hlk, hK, hZ⟩ := F
  obtain ⟨rfl, rfl, rfl, rfl⟩ := E
  subst hav
  obtain ⟨⟨r1, r2⟩, r3, r4, r5⟩ := hr
  intro ls hl
  obtain ⟨-, -, -, -, -, -, -, -, -, -, h11, -⟩ := hZ
  exact va_runV ⟨hx, hb, hml, hown, hts⟩ hM ⟨callB_of As.length hts (jgood hw hcd) hw r1 r2 (hts _ hi) (hts _ hlk2) ho r3, hts _ hin, hts _ hse⟩ ⟨hp.1, vk_recv (i := i) (adK := fun i => z (3 + i)) h11 hi2 hI.S, hp.2⟩ rfl rfl hl.1 hst (lv_room hrest) hd ⟨r4, r5⟩
theorem jpre_R {X : jX} {b : Bool} {ws : va_W} {cc : ByteArray} {own : String} {cI : ClassId} {cZ : ClassId} {z : Nat → Nat} {l : Launch} {rm0 : Room} {D : va_G} {nl : Nat} {wc : va_W} {av : List Value} {H : Heap} {locs : List Loc} (F : JF X cc own cI cZ z) (E : JE X l rm0 D nl) (hs : va_P D vwCl ws H → va_P D vwCl wc H) (hI : jI X b ws H locs) : jPre X H (jPcR D cI cZ z wc av) av := by
  obtain ⟨p, l, e, R, s, m, args, below, meth, c, Q, A, D, nL⟩ := X
  obtain ⟨hx, hb, hml, hown, hts, hlk, hK, hZ⟩ := F
  obtain ⟨rfl, rfl, rfl, rfl⟩ := E
  refine ⟨fun a U g mk q => ?_, fun U hU hW => ⟨rfl, by rw [hU]; exact hs hI.1, va_K.moved hW.alike hK, hZ.go hW hU hI.S (fun _ h => h.elim)⟩⟩
  obtain ⟨q0, qP, qK, qZ⟩ := q
  exact ⟨q0, qP, va_K.moved (u := U) (U := U.calling g mk a) (Vm.Alike.refl U.vm) qK, jSt.bl (U := U) (V := U.calling g mk a) rfl rfl qZ⟩
theorem jA.of {p : Program} {l : Launch} {e : Env} {R : Room} {s : State} {m : MethodId} {args : Array Value} {below : List Frame} {meth : Method} {c : Code} {Q : State → Prop} {A : Nat → Prop} {D : va_G} {nL : Nat} {ws wc : va_W} {H : Heap} {locs : List Loc} (hA : jA (p, l, e, R, s, m, args, below, meth, c, Q, A, D, nL)) (hI : jI (p, l, e, R, s, m, args, below, meth, c, Q, A, D, nL) true ws H locs) (hs : ∀ (i : Nat) (q : Nat × va_E), wc[i]? = some q → ∃ (j : Nat) (q' : Nat × va_E), ws[j]? = some q' ∧ q'.1 = q.1) : ∀ q, va_A wc H.size q → A q := by
  intro q h
  rcases h with ⟨i, e, h⟩ | h
  · obtain ⟨j, q', h1, h2⟩ := hs i _ h
    have := hI.2.1.2 j q' h1
    rw [h2] at this
    exact this
  · exact hA q (Nat.le_trans hI.2.2.1 h)
theorem jpre_W {X : jX} {ws : va_W} {cc : ByteArray} {own : String} {cI : ClassId} {cZ : ClassId} {z : Nat → Nat} {l : Launch} {rm0 : Room} {D : va_G} {nl : Nat} {wc : va_W} {av : List Value} {H : Heap} {locs : List Loc} (F : JF X cc own cI cZ z) (E : JE X l rm0 D nl) (hA : jA X) (hs : va_P D vwCl ws H → va_P D vwCl wc H) (hsD : va_D (fun _ => True) ws → va_D (fun _ => True) wc) (hsA : ∀ (i : Nat) (q : Nat × va_E), wc[i]? = some q → ∃ (j : Nat) (q' : Nat × va_E), ws[j]? = some q' ∧ q'.1 = q.1) (hI : jI X true ws H locs) : jPre X H (jPcW D cI cZ z wc H.size av) av := by
  obtain ⟨p, l, e, R, s, m, args, below, meth, c, Q, A, D, nL⟩ := X
  obtain ⟨hx, hb, hml, hown, hts, hlk, hK, hZ⟩ := F
  obtain ⟨rfl, rfl, rfl, rfl⟩ := E
  refine ⟨fun a U g mk q => ?_, fun U hU hW => ⟨rfl, by rw [hU], by rw [hU]; exact hs hI.1, va_K.moved hW.alike hK, hsD (hI.2.1.weaken (fun _ _ _ _ => trivial)), hZ.go hW hU hI.S (hA.of hI hsA)⟩⟩
  obtain ⟨q0, q1, qP, qK, qD, qZ⟩ := q
  exact ⟨q0, q1, qP, va_K.moved (u := U) (U := U.calling g mk a) (Vm.Alike.refl U.vm) qK, qD, jSt.bl (U := U) (V := U.calling g mk a) rfl rfl qZ⟩
theorem J_goRi {X : jX} {b : Bool} {k : Nat} {n : Nat} {pc : Nat} {pc' : Nat} {lv : List (Nat × Value)} {st : List Value} {ws : va_W} {cc : ByteArray} {own : String} {cI : ClassId} {cZ : ClassId} {z : Nat → Nat} {l : Launch} {rm0 : Room} {D : va_G} {nl : Nat} {wc : va_W} {av rest : List Value} {post : Int32 → Prop} (F : JF X cc own cI cZ z) (E : JE X l rm0 D nl) (hs : ∀ H : Heap, va_P D vwCl ws H → va_P D vwCl wc H) (hrun : ∀ (H : Heap) (locs : List Loc), jI X b ws H locs → jPre X H (jPcR D cI cZ z wc av) av → jRun X k n pc lv st H locs rest (vp_Si post av.toArray) (fun _ => False)) (hn : pc + 3 = pc') (kk : ∀ r : Int32, post r → J X b k n pc' lv (.int r :: rest) ws) : J X b k n pc lv st ws := by
  have hpre := fun (H : Heap) (locs : List Loc) (hI : jI X b ws H locs) => jpre_R (av := av) F E (hs H) hI
  obtain ⟨p, l', e, R, s, m, args, below, meth, c, Q, A, D', nL⟩ := X
  obtain ⟨rfl, rfl, rfl, rfl⟩ := E
  subst hn
  intro H locs ls hI hl T hT XX
  obtain ⟨v, st₀, t, T', L, h0, X', hL, e1, e2, ⟨r, hv, hp, hh⟩, stp⟩ := hrun H locs hI (hpre H locs hI) ls hl T hT XX
  cases hv
  obtain ⟨t2, a1, b1⟩ := kk r hp H locs ls hI hl T' (by rw [e1, hh, h0]) (Stand.forget X' (fun q h => (hL q h).elim))
  exact ⟨t2, stp t2 a1, b1⟩
theorem J_goRl {X : jX} {b : Bool} {k : Nat} {n : Nat} {pc : Nat} {pc' : Nat} {lv : List (Nat × Value)} {st : List Value} {ws : va_W} {cc : ByteArray} {own : String} {cI : ClassId} {cZ : ClassId} {z : Nat → Nat} {l : Launch} {rm0 : Room} {D : va_G} {nl : Nat} {wc : va_W} {av rest : List Value} {post : Int64 → Prop} (F : JF X cc own cI cZ z) (E : JE X l rm0 D nl) (hs : ∀ H : Heap, va_P D vwCl ws H → va_P D vwCl wc H) (hrun : ∀ (H : Heap) (locs : List Loc), jI X b ws H locs → jPre X H (jPcR D cI cZ z wc av) av → jRun X k n pc lv st H locs rest (vp_Sl post av.toArray) (fun _ => False)) (hn : pc + 3 = pc') (kk : ∀ r : Int64, post r → J X b k n pc' lv (.long r :: rest) ws) : J X b k n pc lv st ws := by
  have hpre := fun (H : Heap) (locs : List Loc) (hI : jI X b ws H locs) => jpre_R (av := av) F E (hs H) hI
  obtain ⟨p, l', e, R, s, m, args, below, meth, c, Q, A, D', nL⟩ := X
  obtain ⟨rfl, rfl, rfl, rfl⟩ := E
  subst hn
  intro H locs ls hI hl T hT XX
  obtain ⟨v, st₀, t, T', L, h0, X', hL, e1, e2, ⟨r, hv, hp, hh⟩, stp⟩ := hrun H locs hI (hpre H locs hI) ls hl T hT XX
  cases hv
  obtain ⟨t2, a1, b1⟩ := kk r hp H locs ls hI hl T' (by rw [e1, hh, h0]) (Stand.forget X' (fun q h => (hL q h).elim))
  exact ⟨t2, stp t2 a1, b1⟩
theorem J_goRv {X : jX} {b : Bool} {k : Nat} {n : Nat} {pc : Nat} {pc' : Nat} {lv : List (Nat × Value)} {st : List Value} {ws : va_W} {cc : ByteArray} {own : String} {cI : ClassId} {cZ : ClassId} {z : Nat → Nat} {l : Launch} {rm0 : Room} {D : va_G} {nl : Nat} {wc : va_W} {av rest : List Value} {post : Unit → Prop} (F : JF X cc own cI cZ z) (E : JE X l rm0 D nl) (hs : ∀ H : Heap, va_P D vwCl ws H → va_P D vwCl wc H) (hrun : ∀ (H : Heap) (locs : List Loc), jI X b ws H locs → jPre X H (jPcR D cI cZ z wc av) av → jRun X k n pc lv st H locs rest (va_Sv post av.toArray) (fun _ => False)) (hn : pc + 3 = pc') (kk : post () → J X b k n pc' lv rest ws) : J X b k n pc lv st ws := by
  have hpre := fun (H : Heap) (locs : List Loc) (hI : jI X b ws H locs) => jpre_R (av := av) F E (hs H) hI
  obtain ⟨p, l', e, R, s, m, args, below, meth, c, Q, A, D', nL⟩ := X
  obtain ⟨rfl, rfl, rfl, rfl⟩ := E
  subst hn
  intro H locs ls hI hl T hT XX
  obtain ⟨v, st₀, t, T', L, h0, X', hL, e1, e2, ⟨hv, hp, hh⟩, stp⟩ := hrun H locs hI (hpre H locs hI) ls hl T hT XX
  cases hv
  obtain ⟨t2, a1, b1⟩ := kk hp H locs ls hI hl T' (by rw [e1, hh, h0]) (Stand.forget X' (fun q h => (hL q h).elim))
  exact ⟨t2, stp t2 a1, b1⟩
def jsubA (wc ws : va_W) : Prop := ∀ (i : Nat) (q : Nat × va_E), wc[i]? = some q → ∃ (j : Nat) (q' : Nat × va_E), ws[j]? = some q' ∧ q'.1 = q.1
theorem jsubA_rf (ws : va_W) : jsubA ws ws := fun i q h => ⟨i, q, h, rfl⟩
/-- how the caller's world goes over: from ws with wc in it to ws' with w1 in wc's place -/
def jOver (D : va_G) (ws wc w1 ws' : va_W) : Prop := ∀ (A0 : Nat → Prop) (H H1 : Heap), va_P D vwCl ws H → va_D A0 ws → (∀ q : Nat, q < H.size → ¬ va_A wc H.size q → H1[q]? = H[q]?) → (∀ q, va_A wc H.size q → A0 q) → va_P D vwCl w1 H1 → va_D (va_A wc H.size) w1 → va_P D vwCl ws' H1 ∧ va_D A0 ws'
theorem jOver_rf (D : va_G) (ws w1 : va_W) : jOver D ws ws w1 w1 := fun A0 H H1 hP hD hk hF hP1 hD1 => ⟨hP1, hD1.weaken (fun _ q _ h => hF _ h)⟩
theorem jOver_of {D : va_G} {ws wc wr w1 ws' : va_W} (isC isR is2 : List Nat) (hC : isC.map (fun i => ws[i]?) = wc.map some) (hR : isR.map (fun i => ws[i]?) = wr.map some) (hn : va_nd isR = true) (hdis : ∀ i ∈ isR, i ∉ isC) (h2 : is2.map (fun i => (wr ++ w1)[i]?) = ws'.map some) (hn2 : va_nd is2 = true) : jOver D ws wc w1 ws' := by
  intro A0 H H1 hP hD hk hF hP1 hD1
  obtain ⟨a, b⟩ := va_join hP hD isC isR hC hR hn hdis hk hF hP1 hD1
  refine ⟨?_, b.sub is2 hn2 h2⟩
  have h3 : is2.filterMap (fun i => (wr ++ w1)[i]?) = ws' := by
    have h4 : (is2.map (fun i => (wr ++ w1)[i]?)).filterMap id = (ws'.map some).filterMap id := by rw [h2]
    simpa [List.filterMap_map, Function.comp_def] using h4
  exact a.sub is2 h3
theorem J_goWi {X : jX} {k : Nat} {n : Nat} {pc : Nat} {pc' : Nat} {lv : List (Nat × Value)} {st : List Value} {ws : va_W} {cc : ByteArray} {own : String} {cI : ClassId} {cZ : ClassId} {z : Nat → Nat} {l : Launch} {rm0 : Room} {D : va_G} {nl : Nat} {σ : Type} {wf : σ → va_W} {w0 : va_W} {av rest : List Value} {post : Int32 → σ → Prop} (ws' : σ → va_W) (F : JF X cc own cI cZ z) (E : JE X l rm0 D nl) (hA : jA X) (hs : ∀ H : Heap, va_P D vwCl ws H → va_P D vwCl w0 H) (hsD : va_D (fun _ => True) ws → va_D (fun _ => True) w0) (hsA : jsubA w0 ws) (hov : ∀ u : σ, jOver D ws w0 (wf u) (ws' u)) (hrun : ∀ (H : Heap) (locs : List Loc), jI X true ws H locs → jPre X H (jPcW D cI cZ z w0 H.size av) av → jRun X k n pc lv st H locs rest (va_Qi post (jBW D wf w0 H.size) (va_A w0 H.size) av.toArray) (va_A w0 H.size)) (hn : pc + 3 = pc') (kk : ∀ (r : Int32) (u : σ), post r u → J X true k n pc' lv (.int r :: rest) (ws' u)) : J X true k n pc lv st ws := by
  have hpre := fun (H : Heap) (locs : List Loc) (hI : jI X true ws H locs) => jpre_W (av := av) F E hA (hs H) hsD hsA hI
  obtain ⟨p, l', e, R, s, m, args, below, meth, c, Q, A, D', nL⟩ := X
  obtain ⟨rfl, rfl, rfl, rfl⟩ := E
  subst hn
  intro H locs ls hI hl
  have hF := hA.of hI hsA
  refine va_calli (hrun H locs hI (hpre H locs hI) ls hl) hI.2.2 (fun q _ h => hF q h) hF (fun r u t H1 locs1 ht hvm hw hB hz1 hk1 hS1 => ?_)
  subst ht
  obtain ⟨a1, a2⟩ := hov u A H t.heap hI.1 hI.2.1 hk1 hF hB.1 hB.2
  exact kk r u hw t.heap locs1 ls ⟨a1, a2, hS1⟩ hl
theorem J_goWl {X : jX} {k : Nat} {n : Nat} {pc : Nat} {pc' : Nat} {lv : List (Nat × Value)} {st : List Value} {ws : va_W} {cc : ByteArray} {own : String} {cI : ClassId} {cZ : ClassId} {z : Nat → Nat} {l : Launch} {rm0 : Room} {D : va_G} {nl : Nat} {σ : Type} {wf : σ → va_W} {w0 : va_W} {av rest : List Value} {post : Int64 → σ → Prop} (ws' : σ → va_W) (F : JF X cc own cI cZ z) (E : JE X l rm0 D nl) (hA : jA X) (hs : ∀ H : Heap, va_P D vwCl ws H → va_P D vwCl w0 H) (hsD : va_D (fun _ => True) ws → va_D (fun _ => True) w0) (hsA : jsubA w0 ws) (hov : ∀ u : σ, jOver D ws w0 (wf u) (ws' u)) (hrun : ∀ (H : Heap) (locs : List Loc), jI X true ws H locs → jPre X H (jPcW D cI cZ z w0 H.size av) av → jRun X k n pc lv st H locs rest (va_Ql post (jBW D wf w0 H.size) (va_A w0 H.size) av.toArray) (va_A w0 H.size)) (hn : pc + 3 = pc') (kk : ∀ (r : Int64) (u : σ), post r u → J X true k n pc' lv (.long r :: rest) (ws' u)) : J X true k n pc lv st ws := by
  have hpre := fun (H : Heap) (locs : List Loc) (hI : jI X true ws H locs) => jpre_W (av := av) F E hA (hs H) hsD hsA hI
  obtain ⟨p, l', e, R, s, m, args, below, meth, c, Q, A, D', nL⟩ := X
  obtain ⟨rfl, rfl, rfl, rfl⟩ := E
  subst hn
  intro H locs ls hI hl
  have hF := hA.of hI hsA
  refine va_calll (hrun H locs hI (hpre H locs hI) ls hl) hI.2.2 (fun q _ h => hF q h) hF (fun r u t H1 locs1 ht hvm hw hB hz1 hk1 hS1 => ?_)
  subst ht
  obtain ⟨a1, a2⟩ := hov u A H t.heap hI.1 hI.2.1 hk1 hF hB.1 hB.2
  exact kk r u hw t.heap locs1 ls ⟨a1, a2, hS1⟩ hl
theorem J_goWv {X : jX} {k : Nat} {n : Nat} {pc : Nat} {pc' : Nat} {lv : List (Nat × Value)} {st : List Value} {ws : va_W} {cc : ByteArray} {own : String} {cI : ClassId} {cZ : ClassId} {z : Nat → Nat} {l : Launch} {rm0 : Room} {D : va_G} {nl : Nat} {σ : Type} {wf : σ → va_W} {w0 : va_W} {av rest : List Value} {post : σ → Prop} (ws' : σ → va_W) (F : JF X cc own cI cZ z) (E : JE X l rm0 D nl) (hA : jA X) (hs : ∀ H : Heap, va_P D vwCl ws H → va_P D vwCl w0 H) (hsD : va_D (fun _ => True) ws → va_D (fun _ => True) w0) (hsA : jsubA w0 ws) (hov : ∀ u : σ, jOver D ws w0 (wf u) (ws' u)) (hrun : ∀ (H : Heap) (locs : List Loc), jI X true ws H locs → jPre X H (jPcW D cI cZ z w0 H.size av) av → jRun X k n pc lv st H locs rest (va_Qv post (jBW D wf w0 H.size) (va_A w0 H.size) av.toArray) (va_A w0 H.size)) (hn : pc + 3 = pc') (kk : ∀ u : σ, post u → J X true k n pc' lv (rest) (ws' u)) : J X true k n pc lv st ws := by
  have hpre := fun (H : Heap) (locs : List Loc) (hI : jI X true ws H locs) => jpre_W (av := av) F E hA (hs H) hsD hsA hI
  obtain ⟨p, l', e, R, s, m, args, below, meth, c, Q, A, D', nL⟩ := X
  obtain ⟨rfl, rfl, rfl, rfl⟩ := E
  subst hn
  intro H locs ls hI hl
  have hF := hA.of hI hsA
  refine va_callv (hrun H locs hI (hpre H locs hI) ls hl) hI.2.2 (fun q _ h => hF q h) hF (fun u t H1 locs1 ht hvm hw hB hz1 hk1 hS1 => ?_)
  subst ht
  obtain ⟨a1, a2⟩ := hov u A H t.heap hI.1 hI.2.1 hk1 hF hB.1 hB.2
  exact kk u hw t.heap locs1 ls ⟨a1, a2, hS1⟩ hl