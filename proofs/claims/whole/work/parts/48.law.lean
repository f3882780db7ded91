/-! the law: words of its own (out of the skeleton), its rows, its cases -/
def R_law : String := "EvenHoldLaw"
def lw_P (b : Addr) (xs : List Int32) (args : Array Value) (s : State) : Prop := args = #[.ref b] ∧ s.IntsAt b xs ∧ xs.length ≤ 2048 ∧ (Jvm.Cond.and given_1 narrow_1).before args s = true
def lw_Q (_ : Array Value) (s : State) (o : Outcome) (t : State) : Prop := o = .returned (some (.int 1)) ∧ Framed s o t [] 600000 7302250
def lw_Z (below : List Frame) (a : Array Value) (s : State) : State → Prop := fun t => ∃ o, t.status = .running ∧ Ended t below o ∧ lw_Q a s o t
/-- the law's own end, with 1 on the stack, nothing written that was there before, its room as the claim has it -/
theorem lw_ret {p : Program} {l : Launch} {e : Env} {s : State} {m : MethodId} {below : List Frame} {meth : Method} {c : Code} {b : Nat} (hx : p.tables.exec = Jvm.exec) (hb : c.code = code) (hr : meth.sig.returnType = ret) (hlocks : meth.locks = false) {pc : Nat} {H : Heap} {ls : Array Slot} (hdg : decode code pc = .ok (.ireturn, 1)) : W p l e room_1 s m #[Value.ref b] below meth c H [] 600000 7302250 (lw_Z below #[Value.ref b] s) (F0 m pc ls [.int 1]) := by
  intro T hT X
  obtain ⟨fs, hret, hrun, hended, hW, hframe⟩ := X.leave (v := some (.int 1)) (hlocks := hlocks) (fun h => by rw [hr] at h; cases h)
  have hmeth' : T.vm.method? m = some meth := X.method'
  refine ⟨T.setFrames fs, ?_, .returned (some (.int 1)), hrun, hended, rfl, ⟨_, rfl⟩, hW, hframe⟩
  jvm_step X.here [X.here.top, hx, hb, hdg, hmeth', hr, ret, narrow_b1]
  (try refine ⟨rfl, ?_⟩); (try refine ⟨rfl, ?_⟩)
  first | (intro acts; rw [hret _ acts rfl rfl rfl]) | rw [hret _ _ rfl rfl rfl]
  exact Steps.refl _
/-- what holds at the law's entry: the machine, the code, the tables' words (any of lw_tbl by 'hts w (by decide +kernel)'), the script of L ints xs at the cell b, what the Statement gives of the start (any of its parts by flat_of_before) -/
def lw_At (p : Program) (s : State) (m : MethodId) (meth : Method) (c : Code) (b L : Nat) (xs : Nat → Int32) : Prop :=
  p.tables.exec = Jvm.exec ∧ c.code = code ∧ meth.sig.returnType = ret ∧ c.maxLocals = 4 ∧ s.vm.findClass R_law = some m.cls ∧ (∀ w ∈ lw_tbl, w.before #[Value.ref b] s = true) ∧ va_X b L xs s s.heap ∧ b < s.heap.size ∧ meth.locks = false ∧ (Jvm.Cond.and given_1 narrow_1).before #[Value.ref b] s = true
/-- the script, untouched -/
def jScr (X : jX) (b L : Nat) (xs : Nat → Int32) : Prop :=
  match X with
  | (_, _, _, _, s, _, _, _, _, _, _, A, _, _) => va_X b L xs s s.heap ∧ b < s.heap.size ∧ ¬ A b
def jLw (X : jX) (b : Nat) : Prop :=
  match X with
  | (_, _, _, R, s, _, args, below, meth, _, Q, A, _, _) => R = room_1 ∧ args = #[Value.ref b] ∧ Q = lw_Z below #[Value.ref b] s ∧ meth.sig.returnType = ret ∧ A = fun q : Nat => s.heap.size ≤ q
theorem J_scr {X : jX} {k n pc pc' : Nat} {lv : List (Nat × Value)} {st : List Value} {ws : va_W} {cc : ByteArray} {own : String} {cI cZ : ClassId} {z : Nat → Nat} {b L : Nat} {xs : Nat → Int32} {j : Nat} (F : JF X cc own cI cZ z) (hS : jScr X b L xs) (hd : decode cc pc = .ok (.iaload, 1)) (hj : j < L) (hL : L ≤ 2048) (hn : pc + 1 = pc') (kk : J X true k n pc' lv (.int (xs j) :: st) ws) : J X true k n pc lv (.int (nI j) :: .ref b :: st) ws := by
  obtain ⟨p, l, e, R, s, m, args, below, meth, c, Q, A, D, nL⟩ := X
  obtain ⟨hx, hb, hml, hown, hts, hlk, hK, hZ⟩ := F
  subst hn
  intro H locs ls hI hl
  refine va_sld hx hb hS.1 hS.2.1 hS.2.2 hI.2.2 (nI_in hj (by omega)) hd ?_
  rw [nI_clamp (by omega)]
  exact kk H locs ls hI hl
theorem J_slen {X : jX} {k n pc pc' : Nat} {lv : List (Nat × Value)} {st : List Value} {ws : va_W} {cc : ByteArray} {own : String} {cI cZ : ClassId} {z : Nat → Nat} {b L : Nat} {xs : Nat → Int32} (F : JF X cc own cI cZ z) (hS : jScr X b L xs) (hd : decode cc pc = .ok (.arraylength, 1)) (hn : pc + 1 = pc') (kk : J X true k n pc' lv (.int (nI L) :: st) ws) : J X true k n pc lv (.ref b :: st) ws := by
  obtain ⟨p, l, e, R, s, m, args, below, meth, c, Q, A, D, nL⟩ := X
  obtain ⟨hx, hb, hml, hown, hts, hlk, hK, hZ⟩ := F
  subst hn
  intro H locs ls hI hl
  exact va_slen hx hb hS.1 hS.2.1 hS.2.2 hI.2.2 hd (kk H locs ls hI hl)
theorem J_lawret {X : jX} {k n pc : Nat} {lv : List (Nat × Value)} {ws : va_W} {own : String} {cI cZ : ClassId} {z : Nat → Nat} {b : Nat} (F : JF X cL_law own cI cZ z) (hQ : jLw X b) (hk : k ≤ 600000) (hn : n ≤ 7302250) (hd : decode code pc = .ok (.ireturn, 1)) : J X true k n pc lv [.int 1] ws := by
  obtain ⟨p, l, e, R, s, m, args, below, meth, c, Q, A, D, nL⟩ := X
  obtain ⟨hx, hb, hml, hown, hts, hlk, hK, hZ⟩ := F
  obtain ⟨rfl, rfl, rfl, hr, rfl⟩ := hQ
  intro H locs ls hI hl
  refine va_forget (fun q hq => hI.2.2.2.2 q hq) ?_
  refine W.widen hk hn ?_
  exact lw_ret hx hb hr hlk hd
theorem jPl {D : va_G} {a b : va_W} {H : Heap} (h : va_P D vwCl (a ++ b) H) : va_P D vwCl a H := fun k q hq => h k q (by rw [List.getElem?_append_left (List.getElem?_eq_some_iff.mp hq).1]; exact hq)
theorem jPr {D : va_G} {a b : va_W} {H : Heap} (h : va_P D vwCl (a ++ b) H) : va_P D vwCl b H := fun k q hq => h (a.length + k) q (by rw [List.getElem?_append_right (Nat.le_add_right _ _), Nat.add_sub_cancel_left]; exact hq)
theorem jDl {A : Nat → Prop} {a b : va_W} (h : va_D A (a ++ b)) : va_D A a := ⟨fun i j p q hp hq e => h.1 i j p q (by rw [List.getElem?_append_left (List.getElem?_eq_some_iff.mp hp).1]; exact hp) (by rw [List.getElem?_append_left (List.getElem?_eq_some_iff.mp hq).1]; exact hq) e, fun k q hq => h.2 k q (by rw [List.getElem?_append_left (List.getElem?_eq_some_iff.mp hq).1]; exact hq)⟩
theorem jDr {A : Nat → Prop} {a b : va_W} (h : va_D A (a ++ b)) : va_D A b := by
  refine ⟨fun i j p q hp hq e => ?_, fun k q hq => h.2 (a.length + k) q (by rw [List.getElem?_append_right (Nat.le_add_right _ _), Nat.add_sub_cancel_left]; exact hq)⟩
  have := h.1 (a.length + i) (a.length + j) p q (by rw [List.getElem?_append_right (Nat.le_add_right _ _), Nat.add_sub_cancel_left]; exact hp) (by rw [List.getElem?_append_right (Nat.le_add_right _ _), Nat.add_sub_cancel_left]; exact hq) e
  omega
theorem jAl {a b : va_W} : jsubA a (a ++ b) := fun i q hq => ⟨i, q, by rw [List.getElem?_append_left (List.getElem?_eq_some_iff.mp hq).1]; exact hq, rfl⟩
theorem jAr {a b : va_W} : jsubA b (a ++ b) := fun i q hq => ⟨a.length + i, q, by rw [List.getElem?_append_right (Nat.le_add_right _ _), Nat.add_sub_cancel_left]; exact hq, rfl⟩
set_option maxRecDepth 100000 in
theorem jovL {D : va_G} {cI cZ : ClassId} {gx gm : Nat → Nat} {sc sc1 : Nat → Int32} {ar ar1 : Nat → Nat → Int32} {mc : Nat → Int32} {mr : Nat → Nat → Int32} {hs : Int64} : jOver D (wC cI gx sc ar ++ wM cI cZ gm mc mr hs) (wC cI gx sc ar) (wC cI gx sc1 ar1) (wC cI gx sc1 ar1 ++ wM cI cZ gm mc mr hs) := jOver_of (wr := wM cI cZ gm mc mr hs) [0, 1, 2, 3, 4, 5, 6, 7, 8, 9, 10, 11, 12, 13, 14, 15, 16, 17, 18] [19, 20, 21, 22, 23, 24, 25, 26, 27, 28, 29] [11, 12, 13, 14, 15, 16, 17, 18, 19, 20, 21, 22, 23, 24, 25, 26, 27, 28, 29, 0, 1, 2, 3, 4, 5, 6, 7, 8, 9, 10] rfl rfl (by decide) (by decide) rfl (by decide)
set_option maxRecDepth 100000 in
theorem jovR {D : va_G} {cI cZ : ClassId} {gx gm : Nat → Nat} {sc : Nat → Int32} {ar : Nat → Nat → Int32} {mc mc1 : Nat → Int32} {mr mr1 : Nat → Nat → Int32} {hs hs1 : Int64} : jOver D (wC cI gx sc ar ++ wM cI cZ gm mc mr hs) (wM cI cZ gm mc mr hs) (wM cI cZ gm mc1 mr1 hs1) (wC cI gx sc ar ++ wM cI cZ gm mc1 mr1 hs1) := jOver_of (wr := wC cI gx sc ar) [19, 20, 21, 22, 23, 24, 25, 26, 27, 28, 29] [0, 1, 2, 3, 4, 5, 6, 7, 8, 9, 10, 11, 12, 13, 14, 15, 16, 17, 18] [0, 1, 2, 3, 4, 5, 6, 7, 8, 9, 10, 11, 12, 13, 14, 15, 16, 17, 18, 19, 20, 21, 22, 23, 24, 25, 26, 27, 28, 29] rfl rfl (by decide) (by decide) rfl (by decide)
theorem cmp_same {x y : Int64} (h : x = y) : lg_cmp x y = 0 := by
  subst h
  unfold lg_cmp
  rw [if_neg (show ¬ x > x from Int64.lt_irrefl), if_pos rfl]
set_option maxHeartbeats 4000000 in
set_option maxRecDepth 100000 in
theorem lc_letter {X : jX} {l : Launch} {D : va_G} {cI cZ : ClassId} {z gx gm : Nat → Nat} {b L k n i : Nat} {xs : Nat → Int32} {sc : Nat → Int32} {ar : Nat → Nat → Int32} {mc : Nat → Int32} {mr : Nat → Nat → Int32} {hs : Int64} (F : JF X cL_law RL cI cZ z) (E : JE X l room_1 D 4) (hA : jA X) (hS : jScr X b L xs) (hk : k ≤ room_1.cells) (hn : n ≤ room_1.slots) (hL : L ≤ 2048) (hi : i + 4 ≤ L) (h : RelB i (sc, ar) (mc, mr, hs)) (kk : ∀ (v : uC) (u : uM), RelB (i + 4) v u → J X true k n 599 [(0, .ref b), (1, .ref (gx 0)), (2, .ref (gm 0)), (3, .int (nI i))] [] (wC cI gx v.1 v.2 ++ wM cI cZ gm u.1 u.2.1 u.2.2)) : J X true k n 136 [(0, .ref b), (1, .ref (gx 0)), (2, .ref (gm 0)), (3, .int (nI i))] [] (wC cI gx sc ar ++ wM cI cZ gm mc mr hs) := by
  refine J_aload_n (pc' := 137) (q := 1) F dL_law_136 rfl rfl ?_
  refine J_aload_n (pc' := 138) (q := 0) F dL_law_137 rfl rfl ?_
  refine J_iload_n (pc' := 139) (q := 3) F dL_law_138 rfl rfl ?_
  refine J_iconst (pc' := 140) (v := 1) F dL_law_139 (by decide) rfl ?_
  refine J_iadd (pc' := 141) F dL_law_140 rfl ?_
  refine J_vali (y := nI (i + 1)) (nI_add i 1) ?_
  refine J_scr (j := i + 1) (pc' := 142) F hS dL_law_141 (by omega) hL rfl ?_
  refine J_goWi (wf := (fC cI gx)) (w0 := (wC cI gx sc ar)) (av := [.ref (gx 0), .int (xs (i + 1))]) (rest := []) (pc' := 145) (fun u => wC cI gx u.1 u.2 ++ wM cI cZ gm mc mr hs) F E hA (fun _ h => jPl h) jDl jAl (fun u => jovL) (fun H locs hI hp => jrun_V (As := [.int (xs (i + 1))]) 0 F E (c_X5_letter l D cI cZ z gx sc ar (xs (i + 1))  H.size) kw_199 kw_200 kw_201 rfl kw_202 kw_1 oX5_letter ⟨⟨rfl, rfl⟩, ⟨(Nat.le_of_ble_eq_true rfl), (Nat.le_of_ble_eq_true rfl)⟩, hk, hn⟩ rfl rfl (Nat.le_of_ble_eq_true rfl) dL_law_142 rfl rfl (jI_P E hI) hp) rfl (fun r5 v5 h5 => ?_)
  refine J_aload_n (pc' := 146) (q := 2) F dL_law_145 rfl rfl ?_
  refine J_aload_n (pc' := 147) (q := 0) F dL_law_146 rfl rfl ?_
  refine J_iload_n (pc' := 148) (q := 3) F dL_law_147 rfl rfl ?_
  refine J_iconst (pc' := 149) (v := 1) F dL_law_148 (by decide) rfl ?_
  refine J_iadd (pc' := 150) F dL_law_149 rfl ?_
  refine J_vali (y := nI (i + 1)) (nI_add i 1) ?_
  refine J_scr (j := i + 1) (pc' := 151) F hS dL_law_150 (by omega) hL rfl ?_
  refine J_goWi (wf := (fM cI cZ gm)) (w0 := (wM cI cZ gm mc mr hs)) (av := [.ref (gm 0), .int (xs (i + 1))]) (rest := [.int (r5)]) (pc' := 154) (fun u => wC cI gx v5.1 v5.2 ++ wM cI cZ gm u.1 u.2.1 u.2.2) F E hA (fun _ h => jPr h) jDr jAr (fun u => jovR) (fun H locs hI hp => jrun_V (As := [.int (xs (i + 1))]) 19 F E (c_X6_letter l D cI cZ z gm mc mr hs (xs (i + 1)) h.pg H.size) kw_677 kw_678 kw_679 rfl kw_680 kw_7 oX6_letter ⟨⟨rfl, rfl⟩, ⟨(Nat.le_of_ble_eq_true rfl), (Nat.le_of_ble_eq_true rfl)⟩, hk, hn⟩ rfl rfl (Nat.le_of_ble_eq_true rfl) dL_law_151 rfl rfl (jI_P E hI) hp) rfl (fun r6 u6 h6 => ?_)
  have hq : RQ (i) (r5, v5) (r6, u6) := by rw [h5, h6]; exact q_letter _ h
  refine J_icmp_eq (tgt := 599) (pc' := 157) F dL_law_154 (by decide) rfl (fun _ => kk v5 u6 (hq.2.up (by omega))) (fun c9 => absurd hq.1 c9)
set_option maxHeartbeats 4000000 in
set_option maxRecDepth 100000 in
theorem lc_blank {X : jX} {l : Launch} {D : va_G} {cI cZ : ClassId} {z gx gm : Nat → Nat} {b L k n i : Nat} {xs : Nat → Int32} {sc : Nat → Int32} {ar : Nat → Nat → Int32} {mc : Nat → Int32} {mr : Nat → Nat → Int32} {hs : Int64} (F : JF X cL_law RL cI cZ z) (E : JE X l room_1 D 4) (hA : jA X) (hS : jScr X b L xs) (hk : k ≤ room_1.cells) (hn : n ≤ room_1.slots) (hL : L ≤ 2048) (hi : i + 4 ≤ L) (h : RelB i (sc, ar) (mc, mr, hs)) (kk : ∀ (v : uC) (u : uM), RelB (i + 4) v u → J X true k n 599 [(0, .ref b), (1, .ref (gx 0)), (2, .ref (gm 0)), (3, .int (nI i))] [] (wC cI gx v.1 v.2 ++ wM cI cZ gm u.1 u.2.1 u.2.2)) : J X true k n 159 [(0, .ref b), (1, .ref (gx 0)), (2, .ref (gm 0)), (3, .int (nI i))] [] (wC cI gx sc ar ++ wM cI cZ gm mc mr hs) := by
  refine J_aload_n (pc' := 160) (q := 1) F dL_law_159 rfl rfl ?_
  refine J_goWi (wf := (fC cI gx)) (w0 := (wC cI gx sc ar)) (av := [.ref (gx 0)]) (rest := []) (pc' := 163) (fun u => wC cI gx u.1 u.2 ++ wM cI cZ gm mc mr hs) F E hA (fun _ h => jPl h) jDl jAl (fun u => jovL) (fun H locs hI hp => jrun_V (As := []) 0 F E (c_X5_blank l D cI cZ z gx sc ar   H.size) kw_203 kw_204 kw_205 rfl kw_206 kw_1 oX5_blank ⟨⟨rfl, rfl⟩, ⟨(Nat.le_of_ble_eq_true rfl), (Nat.le_of_ble_eq_true rfl)⟩, hk, hn⟩ rfl rfl (Nat.le_of_ble_eq_true rfl) dL_law_160 rfl rfl (jI_P E hI) hp) rfl (fun r5 v5 h5 => ?_)
  refine J_aload_n (pc' := 164) (q := 2) F dL_law_163 rfl rfl ?_
  refine J_goWi (wf := (fM cI cZ gm)) (w0 := (wM cI cZ gm mc mr hs)) (av := [.ref (gm 0)]) (rest := [.int (r5)]) (pc' := 167) (fun u => wC cI gx v5.1 v5.2 ++ wM cI cZ gm u.1 u.2.1 u.2.2) F E hA (fun _ h => jPr h) jDr jAr (fun u => jovR) (fun H locs hI hp => jrun_V (As := []) 19 F E (c_X6_blank l D cI cZ z gm mc mr hs   H.size) kw_685 kw_686 kw_687 rfl kw_688 kw_7 oX6_blank ⟨⟨rfl, rfl⟩, ⟨(Nat.le_of_ble_eq_true rfl), (Nat.le_of_ble_eq_true rfl)⟩, hk, hn⟩ rfl rfl (Nat.le_of_ble_eq_true rfl) dL_law_164 rfl rfl (jI_P E hI) hp) rfl (fun r6 u6 h6 => ?_)
  have hq : RQ (i) (r5, v5) (r6, u6) := by rw [h5, h6]; exact q_blank h
  refine J_icmp_eq (tgt := 599) (pc' := 170) F dL_law_167 (by decide) rfl (fun _ => kk v5 u6 (hq.2.up (by omega))) (fun c9 => absurd hq.1 c9)
set_option maxHeartbeats 4000000 in
set_option maxRecDepth 100000 in
theorem lc_fault {X : jX} {l : Launch} {D : va_G} {cI cZ : ClassId} {z gx gm : Nat → Nat} {b L k n i : Nat} {xs : Nat → Int32} {sc : Nat → Int32} {ar : Nat → Nat → Int32} {mc : Nat → Int32} {mr : Nat → Nat → Int32} {hs : Int64} (F : JF X cL_law RL cI cZ z) (E : JE X l room_1 D 4) (hA : jA X) (hS : jScr X b L xs) (hk : k ≤ room_1.cells) (hn : n ≤ room_1.slots) (hL : L ≤ 2048) (hi : i + 4 ≤ L) (h : RelB i (sc, ar) (mc, mr, hs)) (kk : ∀ (v : uC) (u : uM), RelB (i + 4) v u → J X true k n 599 [(0, .ref b), (1, .ref (gx 0)), (2, .ref (gm 0)), (3, .int (nI i))] [] (wC cI gx v.1 v.2 ++ wM cI cZ gm u.1 u.2.1 u.2.2)) : J X true k n 172 [(0, .ref b), (1, .ref (gx 0)), (2, .ref (gm 0)), (3, .int (nI i))] [] (wC cI gx sc ar ++ wM cI cZ gm mc mr hs) := by
  refine J_aload_n (pc' := 173) (q := 1) F dL_law_172 rfl rfl ?_
  refine J_goRie (wc := (wC cI gx sc ar)) (av := [.ref (gx 0)]) (rest := []) (v := zX5_fault sc ar ) (pc' := 176) F E (fun _ h => jPl h) (fun H locs hI hp => jrun_V (As := []) 0 F E (c_X5_fault l D cI cZ z gx sc ar  ) kw_207 kw_208 kw_209 rfl kw_210 kw_1 oX5_fault ⟨⟨rfl, rfl⟩, ⟨(Nat.le_of_ble_eq_true rfl), (Nat.le_of_ble_eq_true rfl)⟩, hk, hn⟩ rfl rfl (Nat.le_of_ble_eq_true rfl) dL_law_173 rfl rfl (jI_P E hI) hp) rfl ?_
  refine J_aload_n (pc' := 177) (q := 2) F dL_law_176 rfl rfl ?_
  refine J_goRie (wc := (wM cI cZ gm mc mr hs)) (av := [.ref (gm 0)]) (rest := [.int (zX5_fault sc ar )]) (v := zX6_fault mc mr hs ) (pc' := 180) F E (fun _ h => jPr h) (fun H locs hI hp => jrun_V (As := []) 19 F E (c_X6_fault l D cI cZ z gm mc mr hs  h.pg) kw_689 kw_690 kw_691 rfl kw_692 kw_7 oX6_fault ⟨⟨rfl, rfl⟩, ⟨(Nat.le_of_ble_eq_true rfl), (Nat.le_of_ble_eq_true rfl)⟩, hk, hn⟩ rfl rfl (Nat.le_of_ble_eq_true rfl) dL_law_177 rfl rfl (jI_P E hI) hp) rfl ?_
  have hq : RQ (i) (zX5_fault sc ar , (sc, ar)) (zX6_fault mc mr hs , (mc, mr, hs)) := ⟨q_fault h, h⟩
  refine J_icmp_eq (tgt := 599) (pc' := 183) F dL_law_180 (by decide) rfl (fun _ => kk (sc, ar) (mc, mr, hs) (hq.2.up (by omega))) (fun c9 => absurd hq.1 c9)
set_option maxHeartbeats 4000000 in
set_option maxRecDepth 100000 in
theorem lc_hold {X : jX} {l : Launch} {D : va_G} {cI cZ : ClassId} {z gx gm : Nat → Nat} {b L k n i : Nat} {xs : Nat → Int32} {sc : Nat → Int32} {ar : Nat → Nat → Int32} {mc : Nat → Int32} {mr : Nat → Nat → Int32} {hs : Int64} (F : JF X cL_law RL cI cZ z) (E : JE X l room_1 D 4) (hA : jA X) (hS : jScr X b L xs) (hk : k ≤ room_1.cells) (hn : n ≤ room_1.slots) (hL : L ≤ 2048) (hi : i + 4 ≤ L) (h : RelB i (sc, ar) (mc, mr, hs)) (kk : ∀ (v : uC) (u : uM), RelB (i + 4) v u → J X true k n 599 [(0, .ref b), (1, .ref (gx 0)), (2, .ref (gm 0)), (3, .int (nI i))] [] (wC cI gx v.1 v.2 ++ wM cI cZ gm u.1 u.2.1 u.2.2)) : J X true k n 185 [(0, .ref b), (1, .ref (gx 0)), (2, .ref (gm 0)), (3, .int (nI i))] [] (wC cI gx sc ar ++ wM cI cZ gm mc mr hs) := by
  refine J_aload_n (pc' := 186) (q := 1) F dL_law_185 rfl rfl ?_
  refine J_goWi (wf := (fC cI gx)) (w0 := (wC cI gx sc ar)) (av := [.ref (gx 0)]) (rest := []) (pc' := 189) (fun u => wC cI gx u.1 u.2 ++ wM cI cZ gm mc mr hs) F E hA (fun _ h => jPl h) jDl jAl (fun u => jovL) (fun H locs hI hp => jrun_V (As := []) 0 F E (c_X5_hold l D cI cZ z gx sc ar   H.size) kw_324 kw_325 kw_326 rfl kw_327 kw_1 oX5_hold ⟨⟨rfl, rfl⟩, ⟨(Nat.le_of_ble_eq_true rfl), (Nat.le_of_ble_eq_true rfl)⟩, hk, hn⟩ rfl rfl (Nat.le_of_ble_eq_true rfl) dL_law_186 rfl rfl (jI_P E hI) hp) rfl (fun r5 v5 h5 => ?_)
  refine J_aload_n (pc' := 190) (q := 2) F dL_law_189 rfl rfl ?_
  refine J_goWi (wf := (fM cI cZ gm)) (w0 := (wM cI cZ gm mc mr hs)) (av := [.ref (gm 0)]) (rest := [.int (r5)]) (pc' := 193) (fun u => wC cI gx v5.1 v5.2 ++ wM cI cZ gm u.1 u.2.1 u.2.2) F E hA (fun _ h => jPr h) jDr jAr (fun u => jovR) (fun H locs hI hp => jrun_V (As := []) 19 F E (c_X6_hold l D cI cZ z gm mc mr hs  h.pg H.size) kw_705 kw_706 kw_707 rfl kw_708 kw_7 oX6_hold ⟨⟨rfl, rfl⟩, ⟨(Nat.le_of_ble_eq_true rfl), (Nat.le_of_ble_eq_true rfl)⟩, hk, hn⟩ rfl rfl (Nat.le_of_ble_eq_true rfl) dL_law_190 rfl rfl (jI_P E hI) hp) rfl (fun r6 u6 h6 => ?_)
  have hq : RQ (i + 1) (r5, v5) (r6, u6) := by rw [h5, h6]; exact q_hold (by omega) h
  refine J_icmp_eq (tgt := 599) (pc' := 196) F dL_law_193 (by decide) rfl (fun _ => kk v5 u6 (hq.2.up (by omega))) (fun c9 => absurd hq.1 c9)
set_option maxHeartbeats 4000000 in
set_option maxRecDepth 100000 in
theorem lc_bay {X : jX} {l : Launch} {D : va_G} {cI cZ : ClassId} {z gx gm : Nat → Nat} {b L k n i : Nat} {xs : Nat → Int32} {sc : Nat → Int32} {ar : Nat → Nat → Int32} {mc : Nat → Int32} {mr : Nat → Nat → Int32} {hs : Int64} (F : JF X cL_law RL cI cZ z) (E : JE X l room_1 D 4) (hA : jA X) (hS : jScr X b L xs) (hk : k ≤ room_1.cells) (hn : n ≤ room_1.slots) (hL : L ≤ 2048) (hi : i + 4 ≤ L) (h : RelB i (sc, ar) (mc, mr, hs)) (kk : ∀ (v : uC) (u : uM), RelB (i + 4) v u → J X true k n 599 [(0, .ref b), (1, .ref (gx 0)), (2, .ref (gm 0)), (3, .int (nI i))] [] (wC cI gx v.1 v.2 ++ wM cI cZ gm u.1 u.2.1 u.2.2)) : J X true k n 198 [(0, .ref b), (1, .ref (gx 0)), (2, .ref (gm 0)), (3, .int (nI i))] [] (wC cI gx sc ar ++ wM cI cZ gm mc mr hs) := by
  refine J_aload_n (pc' := 199) (q := 1) F dL_law_198 rfl rfl ?_
  refine J_aload_n (pc' := 200) (q := 0) F dL_law_199 rfl rfl ?_
  refine J_iload_n (pc' := 201) (q := 3) F dL_law_200 rfl rfl ?_
  refine J_iconst (pc' := 202) (v := 1) F dL_law_201 (by decide) rfl ?_
  refine J_iadd (pc' := 203) F dL_law_202 rfl ?_
  refine J_vali (y := nI (i + 1)) (nI_add i 1) ?_
  refine J_scr (j := i + 1) (pc' := 204) F hS dL_law_203 (by omega) hL rfl ?_
  refine J_aload_n (pc' := 205) (q := 0) F dL_law_204 rfl rfl ?_
  refine J_iload_n (pc' := 206) (q := 3) F dL_law_205 rfl rfl ?_
  refine J_iconst (pc' := 207) (v := 2) F dL_law_206 (by decide) rfl ?_
  refine J_iadd (pc' := 208) F dL_law_207 rfl ?_
  refine J_vali (y := nI (i + 2)) (nI_add i 2) ?_
  refine J_scr (j := i + 2) (pc' := 209) F hS dL_law_208 (by omega) hL rfl ?_
  refine J_goRie (wc := (wC cI gx sc ar)) (av := [.ref (gx 0), .int (xs (i + 1)), .int (xs (i + 2))]) (rest := []) (v := zX5_bay sc ar (xs (i + 1)) (xs (i + 2))) (pc' := 212) F E (fun _ h => jPl h) (fun H locs hI hp => jrun_V (As := [.int (xs (i + 1)), .int (xs (i + 2))]) 0 F E (c_X5_bay l D cI cZ z gx sc ar (xs (i + 1)) (xs (i + 2)) ) kw_359 kw_360 kw_361 rfl kw_362 kw_1 oX5_bay ⟨⟨rfl, rfl⟩, ⟨(Nat.le_of_ble_eq_true rfl), (Nat.le_of_ble_eq_true rfl)⟩, hk, hn⟩ rfl rfl (Nat.le_of_ble_eq_true rfl) dL_law_209 rfl rfl (jI_P E hI) hp) rfl ?_
  refine J_aload_n (pc' := 213) (q := 2) F dL_law_212 rfl rfl ?_
  refine J_aload_n (pc' := 214) (q := 0) F dL_law_213 rfl rfl ?_
  refine J_iload_n (pc' := 215) (q := 3) F dL_law_214 rfl rfl ?_
  refine J_iconst (pc' := 216) (v := 1) F dL_law_215 (by decide) rfl ?_
  refine J_iadd (pc' := 217) F dL_law_216 rfl ?_
  refine J_vali (y := nI (i + 1)) (nI_add i 1) ?_
  refine J_scr (j := i + 1) (pc' := 218) F hS dL_law_217 (by omega) hL rfl ?_
  refine J_aload_n (pc' := 219) (q := 0) F dL_law_218 rfl rfl ?_
  refine J_iload_n (pc' := 220) (q := 3) F dL_law_219 rfl rfl ?_
  refine J_iconst (pc' := 221) (v := 2) F dL_law_220 (by decide) rfl ?_
  refine J_iadd (pc' := 222) F dL_law_221 rfl ?_
  refine J_vali (y := nI (i + 2)) (nI_add i 2) ?_
  refine J_scr (j := i + 2) (pc' := 223) F hS dL_law_222 (by omega) hL rfl ?_
  refine J_goRie (wc := (wM cI cZ gm mc mr hs)) (av := [.ref (gm 0), .int (xs (i + 1)), .int (xs (i + 2))]) (rest := [.int (zX5_bay sc ar (xs (i + 1)) (xs (i + 2)))]) (v := zX6_bay mc mr hs (xs (i + 1)) (xs (i + 2))) (pc' := 226) F E (fun _ h => jPr h) (fun H locs hI hp => jrun_V (As := [.int (xs (i + 1)), .int (xs (i + 2))]) 19 F E (c_X6_bay l D cI cZ z gm mc mr hs (xs (i + 1)) (xs (i + 2)) ) kw_715 kw_716 kw_717 rfl kw_718 kw_7 oX6_bay ⟨⟨rfl, rfl⟩, ⟨(Nat.le_of_ble_eq_true rfl), (Nat.le_of_ble_eq_true rfl)⟩, hk, hn⟩ rfl rfl (Nat.le_of_ble_eq_true rfl) dL_law_223 rfl rfl (jI_P E hI) hp) rfl ?_
  have hq : RQ (i) (zX5_bay sc ar (xs (i + 1)) (xs (i + 2)), (sc, ar)) (zX6_bay mc mr hs (xs (i + 1)) (xs (i + 2)), (mc, mr, hs)) := ⟨q_bay _ _ h, h⟩
  refine J_icmp_eq (tgt := 599) (pc' := 229) F dL_law_226 (by decide) rfl (fun _ => kk (sc, ar) (mc, mr, hs) (hq.2.up (by omega))) (fun c9 => absurd hq.1 c9)
set_option maxHeartbeats 4000000 in
set_option maxRecDepth 100000 in
theorem lc_as {X : jX} {l : Launch} {D : va_G} {cI cZ : ClassId} {z gx gm : Nat → Nat} {b L k n i : Nat} {xs : Nat → Int32} {sc : Nat → Int32} {ar : Nat → Nat → Int32} {mc : Nat → Int32} {mr : Nat → Nat → Int32} {hs : Int64} (F : JF X cL_law RL cI cZ z) (E : JE X l room_1 D 4) (hA : jA X) (hS : jScr X b L xs) (hk : k ≤ room_1.cells) (hn : n ≤ room_1.slots) (hL : L ≤ 2048) (hi : i + 4 ≤ L) (h : RelB i (sc, ar) (mc, mr, hs)) (kk : ∀ (v : uC) (u : uM), RelB (i + 4) v u → J X true k n 599 [(0, .ref b), (1, .ref (gx 0)), (2, .ref (gm 0)), (3, .int (nI i))] [] (wC cI gx v.1 v.2 ++ wM cI cZ gm u.1 u.2.1 u.2.2)) : J X true k n 231 [(0, .ref b), (1, .ref (gx 0)), (2, .ref (gm 0)), (3, .int (nI i))] [] (wC cI gx sc ar ++ wM cI cZ gm mc mr hs) := by
  refine J_aload_n (pc' := 232) (q := 1) F dL_law_231 rfl rfl ?_
  refine J_aload_n (pc' := 233) (q := 0) F dL_law_232 rfl rfl ?_
  refine J_iload_n (pc' := 234) (q := 3) F dL_law_233 rfl rfl ?_
  refine J_iconst (pc' := 235) (v := 1) F dL_law_234 (by decide) rfl ?_
  refine J_iadd (pc' := 236) F dL_law_235 rfl ?_
  refine J_vali (y := nI (i + 1)) (nI_add i 1) ?_
  refine J_scr (j := i + 1) (pc' := 237) F hS dL_law_236 (by omega) hL rfl ?_
  refine J_aload_n (pc' := 238) (q := 0) F dL_law_237 rfl rfl ?_
  refine J_iload_n (pc' := 239) (q := 3) F dL_law_238 rfl rfl ?_
  refine J_iconst (pc' := 240) (v := 2) F dL_law_239 (by decide) rfl ?_
  refine J_iadd (pc' := 241) F dL_law_240 rfl ?_
  refine J_vali (y := nI (i + 2)) (nI_add i 2) ?_
  refine J_scr (j := i + 2) (pc' := 242) F hS dL_law_241 (by omega) hL rfl ?_
  refine J_goRie (wc := (wC cI gx sc ar)) (av := [.ref (gx 0), .int (xs (i + 1)), .int (xs (i + 2))]) (rest := []) (v := zX5_as sc ar (xs (i + 1)) (xs (i + 2))) (pc' := 245) F E (fun _ h => jPl h) (fun H locs hI hp => jrun_V (As := [.int (xs (i + 1)), .int (xs (i + 2))]) 0 F E (c_X5_as l D cI cZ z gx sc ar (xs (i + 1)) (xs (i + 2)) ) kw_367 kw_368 kw_369 rfl kw_370 kw_1 oX5_as ⟨⟨rfl, rfl⟩, ⟨(Nat.le_of_ble_eq_true rfl), (Nat.le_of_ble_eq_true rfl)⟩, hk, hn⟩ rfl rfl (Nat.le_of_ble_eq_true rfl) dL_law_242 rfl rfl (jI_P E hI) hp) rfl ?_
  refine J_aload_n (pc' := 246) (q := 2) F dL_law_245 rfl rfl ?_
  refine J_aload_n (pc' := 247) (q := 0) F dL_law_246 rfl rfl ?_
  refine J_iload_n (pc' := 248) (q := 3) F dL_law_247 rfl rfl ?_
  refine J_iconst (pc' := 249) (v := 1) F dL_law_248 (by decide) rfl ?_
  refine J_iadd (pc' := 250) F dL_law_249 rfl ?_
  refine J_vali (y := nI (i + 1)) (nI_add i 1) ?_
  refine J_scr (j := i + 1) (pc' := 251) F hS dL_law_250 (by omega) hL rfl ?_
  refine J_aload_n (pc' := 252) (q := 0) F dL_law_251 rfl rfl ?_
  refine J_iload_n (pc' := 253) (q := 3) F dL_law_252 rfl rfl ?_
  refine J_iconst (pc' := 254) (v := 2) F dL_law_253 (by decide) rfl ?_
  refine J_iadd (pc' := 255) F dL_law_254 rfl ?_
  refine J_vali (y := nI (i + 2)) (nI_add i 2) ?_
  refine J_scr (j := i + 2) (pc' := 256) F hS dL_law_255 (by omega) hL rfl ?_
  refine J_goRie (wc := (wM cI cZ gm mc mr hs)) (av := [.ref (gm 0), .int (xs (i + 1)), .int (xs (i + 2))]) (rest := [.int (zX5_as sc ar (xs (i + 1)) (xs (i + 2)))]) (v := zX6_as mc mr hs (xs (i + 1)) (xs (i + 2))) (pc' := 259) F E (fun _ h => jPr h) (fun H locs hI hp => jrun_V (As := [.int (xs (i + 1)), .int (xs (i + 2))]) 19 F E (c_X6_as l D cI cZ z gm mc mr hs (xs (i + 1)) (xs (i + 2)) ) kw_728 kw_729 kw_730 rfl kw_731 kw_7 oX6_as ⟨⟨rfl, rfl⟩, ⟨(Nat.le_of_ble_eq_true rfl), (Nat.le_of_ble_eq_true rfl)⟩, hk, hn⟩ rfl rfl (Nat.le_of_ble_eq_true rfl) dL_law_256 rfl rfl (jI_P E hI) hp) rfl ?_
  have hq : RQ (i) (zX5_as sc ar (xs (i + 1)) (xs (i + 2)), (sc, ar)) (zX6_as mc mr hs (xs (i + 1)) (xs (i + 2)), (mc, mr, hs)) := ⟨q_as _ _ h, h⟩
  refine J_icmp_eq (tgt := 599) (pc' := 262) F dL_law_259 (by decide) rfl (fun _ => kk (sc, ar) (mc, mr, hs) (hq.2.up (by omega))) (fun c9 => absurd hq.1 c9)
set_option maxHeartbeats 4000000 in
set_option maxRecDepth 100000 in
theorem lc_hull {X : jX} {l : Launch} {D : va_G} {cI cZ : ClassId} {z gx gm : Nat → Nat} {b L k n i : Nat} {xs : Nat → Int32} {sc : Nat → Int32} {ar : Nat → Nat → Int32} {mc : Nat → Int32} {mr : Nat → Nat → Int32} {hs : Int64} (F : JF X cL_law RL cI cZ z) (E : JE X l room_1 D 4) (hA : jA X) (hS : jScr X b L xs) (hk : k ≤ room_1.cells) (hn : n ≤ room_1.slots) (hL : L ≤ 2048) (hi : i + 4 ≤ L) (h : RelB i (sc, ar) (mc, mr, hs)) (kk : ∀ (v : uC) (u : uM), RelB (i + 4) v u → J X true k n 599 [(0, .ref b), (1, .ref (gx 0)), (2, .ref (gm 0)), (3, .int (nI i))] [] (wC cI gx v.1 v.2 ++ wM cI cZ gm u.1 u.2.1 u.2.2)) : J X true k n 303 [(0, .ref b), (1, .ref (gx 0)), (2, .ref (gm 0)), (3, .int (nI i))] [] (wC cI gx sc ar ++ wM cI cZ gm mc mr hs) := by
  refine J_aload_n (pc' := 304) (q := 1) F dL_law_303 rfl rfl ?_
  refine J_aload_n (pc' := 305) (q := 0) F dL_law_304 rfl rfl ?_
  refine J_iload_n (pc' := 306) (q := 3) F dL_law_305 rfl rfl ?_
  refine J_iconst (pc' := 307) (v := 1) F dL_law_306 (by decide) rfl ?_
  refine J_iadd (pc' := 308) F dL_law_307 rfl ?_
  refine J_vali (y := nI (i + 1)) (nI_add i 1) ?_
  refine J_scr (j := i + 1) (pc' := 309) F hS dL_law_308 (by omega) hL rfl ?_
  refine J_goRie (wc := (wC cI gx sc ar)) (av := [.ref (gx 0), .int (xs (i + 1))]) (rest := []) (v := zX5_hull sc ar (xs (i + 1))) (pc' := 312) F E (fun _ h => jPl h) (fun H locs hI hp => jrun_V (As := [.int (xs (i + 1))]) 0 F E (c_X5_hull l D cI cZ z gx sc ar (xs (i + 1)) ) kw_378 kw_379 kw_380 rfl kw_381 kw_1 oX5_hull ⟨⟨rfl, rfl⟩, ⟨(Nat.le_of_ble_eq_true rfl), (Nat.le_of_ble_eq_true rfl)⟩, hk, hn⟩ rfl rfl (Nat.le_of_ble_eq_true rfl) dL_law_309 rfl rfl (jI_P E hI) hp) rfl ?_
  refine J_aload_n (pc' := 313) (q := 2) F dL_law_312 rfl rfl ?_
  refine J_aload_n (pc' := 314) (q := 0) F dL_law_313 rfl rfl ?_
  refine J_iload_n (pc' := 315) (q := 3) F dL_law_314 rfl rfl ?_
  refine J_iconst (pc' := 316) (v := 1) F dL_law_315 (by decide) rfl ?_
  refine J_iadd (pc' := 317) F dL_law_316 rfl ?_
  refine J_vali (y := nI (i + 1)) (nI_add i 1) ?_
  refine J_scr (j := i + 1) (pc' := 318) F hS dL_law_317 (by omega) hL rfl ?_
  refine J_goRie (wc := (wM cI cZ gm mc mr hs)) (av := [.ref (gm 0), .int (xs (i + 1))]) (rest := [.int (zX5_hull sc ar (xs (i + 1)))]) (v := zX6_hull mc mr hs (xs (i + 1))) (pc' := 321) F E (fun _ h => jPr h) (fun H locs hI hp => jrun_V (As := [.int (xs (i + 1))]) 19 F E (c_X6_hull l D cI cZ z gm mc mr hs (xs (i + 1)) ) kw_737 kw_738 kw_739 rfl kw_740 kw_7 oX6_hull ⟨⟨rfl, rfl⟩, ⟨(Nat.le_of_ble_eq_true rfl), (Nat.le_of_ble_eq_true rfl)⟩, hk, hn⟩ rfl rfl (Nat.le_of_ble_eq_true rfl) dL_law_318 rfl rfl (jI_P E hI) hp) rfl ?_
  have hq : RQ (i) (zX5_hull sc ar (xs (i + 1)), (sc, ar)) (zX6_hull mc mr hs (xs (i + 1)), (mc, mr, hs)) := ⟨q_hull _ h, h⟩
  refine J_icmp_eq (tgt := 599) (pc' := 324) F dL_law_321 (by decide) rfl (fun _ => kk (sc, ar) (mc, mr, hs) (hq.2.up (by omega))) (fun c9 => absurd hq.1 c9)
set_option maxHeartbeats 4000000 in
set_option maxRecDepth 100000 in
theorem lc_may {X : jX} {l : Launch} {D : va_G} {cI cZ : ClassId} {z gx gm : Nat → Nat} {b L k n i : Nat} {xs : Nat → Int32} {sc : Nat → Int32} {ar : Nat → Nat → Int32} {mc : Nat → Int32} {mr : Nat → Nat → Int32} {hs : Int64} (F : JF X cL_law RL cI cZ z) (E : JE X l room_1 D 4) (hA : jA X) (hS : jScr X b L xs) (hk : k ≤ room_1.cells) (hn : n ≤ room_1.slots) (hL : L ≤ 2048) (hi : i + 4 ≤ L) (h : RelB i (sc, ar) (mc, mr, hs)) (kk : ∀ (v : uC) (u : uM), RelB (i + 4) v u → J X true k n 599 [(0, .ref b), (1, .ref (gx 0)), (2, .ref (gm 0)), (3, .int (nI i))] [] (wC cI gx v.1 v.2 ++ wM cI cZ gm u.1 u.2.1 u.2.2)) : J X true k n 326 [(0, .ref b), (1, .ref (gx 0)), (2, .ref (gm 0)), (3, .int (nI i))] [] (wC cI gx sc ar ++ wM cI cZ gm mc mr hs) := by
  refine J_aload_n (pc' := 327) (q := 1) F dL_law_326 rfl rfl ?_
  refine J_aload_n (pc' := 328) (q := 0) F dL_law_327 rfl rfl ?_
  refine J_iload_n (pc' := 329) (q := 3) F dL_law_328 rfl rfl ?_
  refine J_iconst (pc' := 330) (v := 1) F dL_law_329 (by decide) rfl ?_
  refine J_iadd (pc' := 331) F dL_law_330 rfl ?_
  refine J_vali (y := nI (i + 1)) (nI_add i 1) ?_
  refine J_scr (j := i + 1) (pc' := 332) F hS dL_law_331 (by omega) hL rfl ?_
  refine J_goRie (wc := (wC cI gx sc ar)) (av := [.ref (gx 0), .int (xs (i + 1))]) (rest := []) (v := zX5_may sc ar (xs (i + 1))) (pc' := 335) F E (fun _ h => jPl h) (fun H locs hI hp => jrun_V (As := [.int (xs (i + 1))]) 0 F E (c_X5_may l D cI cZ z gx sc ar (xs (i + 1)) ) kw_398 kw_399 kw_400 rfl kw_401 kw_1 oX5_may ⟨⟨rfl, rfl⟩, ⟨(Nat.le_of_ble_eq_true rfl), (Nat.le_of_ble_eq_true rfl)⟩, hk, hn⟩ rfl rfl (Nat.le_of_ble_eq_true rfl) dL_law_332 rfl rfl (jI_P E hI) hp) rfl ?_
  refine J_aload_n (pc' := 336) (q := 2) F dL_law_335 rfl rfl ?_
  refine J_aload_n (pc' := 337) (q := 0) F dL_law_336 rfl rfl ?_
  refine J_iload_n (pc' := 338) (q := 3) F dL_law_337 rfl rfl ?_
  refine J_iconst (pc' := 339) (v := 1) F dL_law_338 (by decide) rfl ?_
  refine J_iadd (pc' := 340) F dL_law_339 rfl ?_
  refine J_vali (y := nI (i + 1)) (nI_add i 1) ?_
  refine J_scr (j := i + 1) (pc' := 341) F hS dL_law_340 (by omega) hL rfl ?_
  refine J_goRie (wc := (wM cI cZ gm mc mr hs)) (av := [.ref (gm 0), .int (xs (i + 1))]) (rest := [.int (zX5_may sc ar (xs (i + 1)))]) (v := zX6_may mc mr hs (xs (i + 1))) (pc' := 344) F E (fun _ h => jPr h) (fun H locs hI hp => jrun_V (As := [.int (xs (i + 1))]) 19 F E (c_X6_may l D cI cZ z gm mc mr hs (xs (i + 1)) ) kw_762 kw_763 kw_764 rfl kw_765 kw_7 oX6_may ⟨⟨rfl, rfl⟩, ⟨(Nat.le_of_ble_eq_true rfl), (Nat.le_of_ble_eq_true rfl)⟩, hk, hn⟩ rfl rfl (Nat.le_of_ble_eq_true rfl) dL_law_341 rfl rfl (jI_P E hI) hp) rfl ?_
  have hq : RQ (i) (zX5_may sc ar (xs (i + 1)), (sc, ar)) (zX6_may mc mr hs (xs (i + 1)), (mc, mr, hs)) := ⟨q_may _ h, h⟩
  refine J_icmp_eq (tgt := 599) (pc' := 347) F dL_law_344 (by decide) rfl (fun _ => kk (sc, ar) (mc, mr, hs) (hq.2.up (by omega))) (fun c9 => absurd hq.1 c9)
set_option maxHeartbeats 4000000 in
set_option maxRecDepth 100000 in
theorem lc_act {X : jX} {l : Launch} {D : va_G} {cI cZ : ClassId} {z gx gm : Nat → Nat} {b L k n i : Nat} {xs : Nat → Int32} {sc : Nat → Int32} {ar : Nat → Nat → Int32} {mc : Nat → Int32} {mr : Nat → Nat → Int32} {hs : Int64} (F : JF X cL_law RL cI cZ z) (E : JE X l room_1 D 4) (hA : jA X) (hS : jScr X b L xs) (hk : k ≤ room_1.cells) (hn : n ≤ room_1.slots) (hL : L ≤ 2048) (hi : i + 4 ≤ L) (h : RelB i (sc, ar) (mc, mr, hs)) (kk : ∀ (v : uC) (u : uM), RelB (i + 4) v u → J X true k n 599 [(0, .ref b), (1, .ref (gx 0)), (2, .ref (gm 0)), (3, .int (nI i))] [] (wC cI gx v.1 v.2 ++ wM cI cZ gm u.1 u.2.1 u.2.2)) : J X true k n 349 [(0, .ref b), (1, .ref (gx 0)), (2, .ref (gm 0)), (3, .int (nI i))] [] (wC cI gx sc ar ++ wM cI cZ gm mc mr hs) := by
  refine J_aload_n (pc' := 350) (q := 1) F dL_law_349 rfl rfl ?_
  refine J_aload_n (pc' := 351) (q := 0) F dL_law_350 rfl rfl ?_
  refine J_iload_n (pc' := 352) (q := 3) F dL_law_351 rfl rfl ?_
  refine J_iconst (pc' := 353) (v := 1) F dL_law_352 (by decide) rfl ?_
  refine J_iadd (pc' := 354) F dL_law_353 rfl ?_
  refine J_vali (y := nI (i + 1)) (nI_add i 1) ?_
  refine J_scr (j := i + 1) (pc' := 355) F hS dL_law_354 (by omega) hL rfl ?_
  refine J_goWi (wf := (fC cI gx)) (w0 := (wC cI gx sc ar)) (av := [.ref (gx 0), .int (xs (i + 1))]) (rest := []) (pc' := 358) (fun u => wC cI gx u.1 u.2 ++ wM cI cZ gm mc mr hs) F E hA (fun _ h => jPl h) jDl jAl (fun u => jovL) (fun H locs hI hp => jrun_V (As := [.int (xs (i + 1))]) 0 F E (c_X5_act l D cI cZ z gx sc ar (xs (i + 1))  H.size) kw_429 kw_430 kw_431 rfl kw_432 kw_1 oX5_act ⟨⟨rfl, rfl⟩, ⟨(Nat.le_of_ble_eq_true rfl), (Nat.le_of_ble_eq_true rfl)⟩, hk, hn⟩ rfl rfl (Nat.le_of_ble_eq_true rfl) dL_law_355 rfl rfl (jI_P E hI) hp) rfl (fun r5 v5 h5 => ?_)
  refine J_aload_n (pc' := 359) (q := 2) F dL_law_358 rfl rfl ?_
  refine J_aload_n (pc' := 360) (q := 0) F dL_law_359 rfl rfl ?_
  refine J_iload_n (pc' := 361) (q := 3) F dL_law_360 rfl rfl ?_
  refine J_iconst (pc' := 362) (v := 1) F dL_law_361 (by decide) rfl ?_
  refine J_iadd (pc' := 363) F dL_law_362 rfl ?_
  refine J_vali (y := nI (i + 1)) (nI_add i 1) ?_
  refine J_scr (j := i + 1) (pc' := 364) F hS dL_law_363 (by omega) hL rfl ?_
  refine J_goWi (wf := (fM cI cZ gm)) (w0 := (wM cI cZ gm mc mr hs)) (av := [.ref (gm 0), .int (xs (i + 1))]) (rest := [.int (r5)]) (pc' := 367) (fun u => wC cI gx v5.1 v5.2 ++ wM cI cZ gm u.1 u.2.1 u.2.2) F E hA (fun _ h => jPr h) jDr jAr (fun u => jovR) (fun H locs hI hp => jrun_V (As := [.int (xs (i + 1))]) 19 F E (c_X6_act l D cI cZ z gm mc mr hs (xs (i + 1))  H.size) kw_778 kw_779 kw_780 rfl kw_781 kw_7 oX6_act ⟨⟨rfl, rfl⟩, ⟨(Nat.le_of_ble_eq_true rfl), (Nat.le_of_ble_eq_true rfl)⟩, hk, hn⟩ rfl rfl (Nat.le_of_ble_eq_true rfl) dL_law_364 rfl rfl (jI_P E hI) hp) rfl (fun r6 u6 h6 => ?_)
  have hq : RQ (i) (r5, v5) (r6, u6) := by rw [h5, h6]; exact q_act _ h
  refine J_icmp_eq (tgt := 599) (pc' := 370) F dL_law_367 (by decide) rfl (fun _ => kk v5 u6 (hq.2.up (by omega))) (fun c9 => absurd hq.1 c9)
set_option maxHeartbeats 4000000 in
set_option maxRecDepth 100000 in
theorem lc_soonest {X : jX} {l : Launch} {D : va_G} {cI cZ : ClassId} {z gx gm : Nat → Nat} {b L k n i : Nat} {xs : Nat → Int32} {sc : Nat → Int32} {ar : Nat → Nat → Int32} {mc : Nat → Int32} {mr : Nat → Nat → Int32} {hs : Int64} (F : JF X cL_law RL cI cZ z) (E : JE X l room_1 D 4) (hA : jA X) (hS : jScr X b L xs) (hk : k ≤ room_1.cells) (hn : n ≤ room_1.slots) (hL : L ≤ 2048) (hi : i + 4 ≤ L) (h : RelB i (sc, ar) (mc, mr, hs)) (kk : ∀ (v : uC) (u : uM), RelB (i + 4) v u → J X true k n 599 [(0, .ref b), (1, .ref (gx 0)), (2, .ref (gm 0)), (3, .int (nI i))] [] (wC cI gx v.1 v.2 ++ wM cI cZ gm u.1 u.2.1 u.2.2)) : J X true k n 372 [(0, .ref b), (1, .ref (gx 0)), (2, .ref (gm 0)), (3, .int (nI i))] [] (wC cI gx sc ar ++ wM cI cZ gm mc mr hs) := by
  obtain ⟨kd, li, s, be, bs, T, hC, hKC, hM, e7, hbe, b5, b6, s5, s6, e2, hfin⟩ := h.view2
  refine J_aload_n (pc' := 373) (q := 1) F dL_law_372 rfl rfl ?_
  refine J_aload_n (pc' := 374) (q := 0) F dL_law_373 rfl rfl ?_
  refine J_iload_n (pc' := 375) (q := 3) F dL_law_374 rfl rfl ?_
  refine J_iconst (pc' := 376) (v := 1) F dL_law_375 (by decide) rfl ?_
  refine J_iadd (pc' := 377) F dL_law_376 rfl ?_
  refine J_vali (y := nI (i + 1)) (nI_add i 1) ?_
  refine J_scr (j := i + 1) (pc' := 378) F hS dL_law_377 (by omega) hL rfl ?_
  refine J_goWi (wf := (fC cI gx)) (w0 := (wC cI gx sc ar)) (av := [.ref (gx 0), .int (xs (i + 1))]) (rest := []) (pc' := 381) (fun u => wC cI gx u.1 u.2 ++ wM cI cZ gm mc mr hs) F E hA (fun _ h => jPl h) jDl jAl (fun u => jovL) (fun H locs hI hp => jrun_V (As := [.int (xs (i + 1))]) 0 F E (c_X5_soonest l D cI cZ z gx sc ar (xs (i + 1)) kd li s be hC e7 hM.2.1 (by omega) b5 hKC H.size) kw_437 kw_438 kw_439 rfl kw_440 kw_1 oX5_soonest ⟨⟨rfl, rfl⟩, ⟨(Nat.le_of_ble_eq_true rfl), (Nat.le_of_ble_eq_true rfl)⟩, hk, hn⟩ rfl rfl (Nat.le_of_ble_eq_true rfl) dL_law_378 rfl rfl (jI_P E hI) hp) rfl (fun r5 v5 h5 => ?_)
  refine J_aload_n (pc' := 382) (q := 2) F dL_law_381 rfl rfl ?_
  refine J_aload_n (pc' := 383) (q := 0) F dL_law_382 rfl rfl ?_
  refine J_iload_n (pc' := 384) (q := 3) F dL_law_383 rfl rfl ?_
  refine J_iconst (pc' := 385) (v := 1) F dL_law_384 (by decide) rfl ?_
  refine J_iadd (pc' := 386) F dL_law_385 rfl ?_
  refine J_vali (y := nI (i + 1)) (nI_add i 1) ?_
  refine J_scr (j := i + 1) (pc' := 387) F hS dL_law_386 (by omega) hL rfl ?_
  refine J_goWi (wf := (fM cI cZ gm)) (w0 := (wM cI cZ gm mc mr hs)) (av := [.ref (gm 0), .int (xs (i + 1))]) (rest := [.int (r5)]) (pc' := 390) (fun u => wC cI gx v5.1 v5.2 ++ wM cI cZ gm u.1 u.2.1 u.2.2) F E hA (fun _ h => jPr h) jDr jAr (fun u => jovR) (fun H locs hI hp => jrun_V (As := [.int (xs (i + 1))]) 19 F E (c_X6_soonest l D cI cZ z gm mc mr hs (xs (i + 1)) kd li s be hM (by omega) b6 H.size) kw_786 kw_787 kw_788 rfl kw_789 kw_7 oX6_soonest ⟨⟨rfl, rfl⟩, ⟨(Nat.le_of_ble_eq_true rfl), (Nat.le_of_ble_eq_true rfl)⟩, hk, hn⟩ rfl rfl (Nat.le_of_ble_eq_true rfl) dL_law_387 rfl rfl (jI_P E hI) hp) rfl (fun r6 u6 h6 => ?_)
  have hq : RQ (i) (r5, v5) (r6, u6) := qq_soonest h hM e2 hfin h5 h6
  refine J_icmp_eq (tgt := 599) (pc' := 393) F dL_law_390 (by decide) rfl (fun _ => kk v5 u6 (hq.2.up (by omega))) (fun c9 => absurd hq.1 c9)
set_option maxHeartbeats 4000000 in
set_option maxRecDepth 100000 in
theorem lc_most {X : jX} {l : Launch} {D : va_G} {cI cZ : ClassId} {z gx gm : Nat → Nat} {b L k n i : Nat} {xs : Nat → Int32} {sc : Nat → Int32} {ar : Nat → Nat → Int32} {mc : Nat → Int32} {mr : Nat → Nat → Int32} {hs : Int64} (F : JF X cL_law RL cI cZ z) (E : JE X l room_1 D 4) (hA : jA X) (hS : jScr X b L xs) (hk : k ≤ room_1.cells) (hn : n ≤ room_1.slots) (hL : L ≤ 2048) (hi : i + 4 ≤ L) (h : RelB i (sc, ar) (mc, mr, hs)) (kk : ∀ (v : uC) (u : uM), RelB (i + 4) v u → J X true k n 599 [(0, .ref b), (1, .ref (gx 0)), (2, .ref (gm 0)), (3, .int (nI i))] [] (wC cI gx v.1 v.2 ++ wM cI cZ gm u.1 u.2.1 u.2.2)) : J X true k n 395 [(0, .ref b), (1, .ref (gx 0)), (2, .ref (gm 0)), (3, .int (nI i))] [] (wC cI gx sc ar ++ wM cI cZ gm mc mr hs) := by
  obtain ⟨kd, li, s, be, bs, T, hC, hKC, hM, e7, hbe, b5, b6, s5, s6, e2, hfin⟩ := h.view2
  refine J_aload_n (pc' := 396) (q := 1) F dL_law_395 rfl rfl ?_
  refine J_goWi (wf := (fC cI gx)) (w0 := (wC cI gx sc ar)) (av := [.ref (gx 0)]) (rest := []) (pc' := 399) (fun u => wC cI gx u.1 u.2 ++ wM cI cZ gm mc mr hs) F E hA (fun _ h => jPl h) jDl jAl (fun u => jovL) (fun H locs hI hp => jrun_V (As := []) 0 F E (c_X5_most l D cI cZ z gx sc ar  kd li s be hC e7 hM.2.1 (by omega) b5 hKC H.size) kw_467 kw_468 kw_469 rfl kw_470 kw_1 oX5_most ⟨⟨rfl, rfl⟩, ⟨(Nat.le_of_ble_eq_true rfl), (Nat.le_of_ble_eq_true rfl)⟩, hk, hn⟩ rfl rfl (Nat.le_of_ble_eq_true rfl) dL_law_396 rfl rfl (jI_P E hI) hp) rfl (fun r5 v5 h5 => ?_)
  refine J_aload_n (pc' := 400) (q := 2) F dL_law_399 rfl rfl ?_
  refine J_goWi (wf := (fM cI cZ gm)) (w0 := (wM cI cZ gm mc mr hs)) (av := [.ref (gm 0)]) (rest := [.int (r5)]) (pc' := 403) (fun u => wC cI gx v5.1 v5.2 ++ wM cI cZ gm u.1 u.2.1 u.2.2) F E hA (fun _ h => jPr h) jDr jAr (fun u => jovR) (fun H locs hI hp => jrun_V (As := []) 19 F E (c_X6_most l D cI cZ z gm mc mr hs  kd li s be hM (by omega) b6 H.size) kw_798 kw_799 kw_800 rfl kw_801 kw_7 oX6_most ⟨⟨rfl, rfl⟩, ⟨(Nat.le_of_ble_eq_true rfl), (Nat.le_of_ble_eq_true rfl)⟩, hk, hn⟩ rfl rfl (Nat.le_of_ble_eq_true rfl) dL_law_400 rfl rfl (jI_P E hI) hp) rfl (fun r6 u6 h6 => ?_)
  have hq : RQ (i) (r5, v5) (r6, u6) := qq_most h hM e2 hfin h5 h6
  refine J_icmp_eq (tgt := 599) (pc' := 406) F dL_law_403 (by decide) rfl (fun _ => kk v5 u6 (hq.2.up (by omega))) (fun c9 => absurd hq.1 c9)
set_option maxHeartbeats 4000000 in
set_option maxRecDepth 100000 in
theorem lc_holds {X : jX} {l : Launch} {D : va_G} {cI cZ : ClassId} {z gx gm : Nat → Nat} {b L k n i : Nat} {xs : Nat → Int32} {sc : Nat → Int32} {ar : Nat → Nat → Int32} {mc : Nat → Int32} {mr : Nat → Nat → Int32} {hs : Int64} (F : JF X cL_law RL cI cZ z) (E : JE X l room_1 D 4) (hA : jA X) (hS : jScr X b L xs) (hk : k ≤ room_1.cells) (hn : n ≤ room_1.slots) (hL : L ≤ 2048) (hi : i + 4 ≤ L) (h : RelB i (sc, ar) (mc, mr, hs)) (kk : ∀ (v : uC) (u : uM), RelB (i + 4) v u → J X true k n 599 [(0, .ref b), (1, .ref (gx 0)), (2, .ref (gm 0)), (3, .int (nI i))] [] (wC cI gx v.1 v.2 ++ wM cI cZ gm u.1 u.2.1 u.2.2)) : J X true k n 408 [(0, .ref b), (1, .ref (gx 0)), (2, .ref (gm 0)), (3, .int (nI i))] [] (wC cI gx sc ar ++ wM cI cZ gm mc mr hs) := by
  obtain ⟨kd, li, s, be, bs, T, hC, hKC, hM, e7, hbe, b5, b6, s5, s6, e2, hfin⟩ := h.view2
  refine J_aload_n (pc' := 409) (q := 1) F dL_law_408 rfl rfl ?_
  refine J_goWi (wf := (fC cI gx)) (w0 := (wC cI gx sc ar)) (av := [.ref (gx 0)]) (rest := []) (pc' := 412) (fun u => wC cI gx u.1 u.2 ++ wM cI cZ gm mc mr hs) F E hA (fun _ h => jPl h) jDl jAl (fun u => jovL) (fun H locs hI hp => jrun_V (As := []) 0 F E (c_X5_holds l D cI cZ z gx sc ar  kd li s be hC e7 hM.2.1 (by omega) b5 hKC H.size) kw_471 kw_472 kw_473 rfl kw_474 kw_1 oX5_holds ⟨⟨rfl, rfl⟩, ⟨(Nat.le_of_ble_eq_true rfl), (Nat.le_of_ble_eq_true rfl)⟩, hk, hn⟩ rfl rfl (Nat.le_of_ble_eq_true rfl) dL_law_409 rfl rfl (jI_P E hI) hp) rfl (fun r5 v5 h5 => ?_)
  refine J_aload_n (pc' := 413) (q := 2) F dL_law_412 rfl rfl ?_
  refine J_goWi (wf := (fM cI cZ gm)) (w0 := (wM cI cZ gm mc mr hs)) (av := [.ref (gm 0)]) (rest := [.int (r5)]) (pc' := 416) (fun u => wC cI gx v5.1 v5.2 ++ wM cI cZ gm u.1 u.2.1 u.2.2) F E hA (fun _ h => jPr h) jDr jAr (fun u => jovR) (fun H locs hI hp => jrun_V (As := []) 19 F E (c_X6_holds l D cI cZ z gm mc mr hs  kd li s be hM (by omega) b6 H.size) kw_806 kw_807 kw_808 rfl kw_809 kw_7 oX6_holds ⟨⟨rfl, rfl⟩, ⟨(Nat.le_of_ble_eq_true rfl), (Nat.le_of_ble_eq_true rfl)⟩, hk, hn⟩ rfl rfl (Nat.le_of_ble_eq_true rfl) dL_law_413 rfl rfl (jI_P E hI) hp) rfl (fun r6 u6 h6 => ?_)
  have hq : RQ (i) (r5, v5) (r6, u6) := qq_holds h hM e2 hfin h5 h6
  refine J_icmp_eq (tgt := 599) (pc' := 419) F dL_law_416 (by decide) rfl (fun _ => kk v5 u6 (hq.2.up (by omega))) (fun c9 => absurd hq.1 c9)
set_option maxHeartbeats 4000000 in
set_option maxRecDepth 100000 in
theorem lc_leastBend {X : jX} {l : Launch} {D : va_G} {cI cZ : ClassId} {z gx gm : Nat → Nat} {b L k n i : Nat} {xs : Nat → Int32} {sc : Nat → Int32} {ar : Nat → Nat → Int32} {mc : Nat → Int32} {mr : Nat → Nat → Int32} {hs : Int64} (F : JF X cL_law RL cI cZ z) (E : JE X l room_1 D 4) (hA : jA X) (hS : jScr X b L xs) (hk : k ≤ room_1.cells) (hn : n ≤ room_1.slots) (hL : L ≤ 2048) (hi : i + 4 ≤ L) (h : RelB i (sc, ar) (mc, mr, hs)) (kk : ∀ (v : uC) (u : uM), RelB (i + 4) v u → J X true k n 599 [(0, .ref b), (1, .ref (gx 0)), (2, .ref (gm 0)), (3, .int (nI i))] [] (wC cI gx v.1 v.2 ++ wM cI cZ gm u.1 u.2.1 u.2.2)) : J X true k n 421 [(0, .ref b), (1, .ref (gx 0)), (2, .ref (gm 0)), (3, .int (nI i))] [] (wC cI gx sc ar ++ wM cI cZ gm mc mr hs) := by
  obtain ⟨kd, li, s, be, bs, T, hC, hKC, hM, e7, hbe, b5, b6, s5, s6, e2, hfin⟩ := h.view2
  refine J_aload_n (pc' := 422) (q := 1) F dL_law_421 rfl rfl ?_
  refine J_goWi (wf := (fC cI gx)) (w0 := (wC cI gx sc ar)) (av := [.ref (gx 0)]) (rest := []) (pc' := 425) (fun u => wC cI gx u.1 u.2 ++ wM cI cZ gm mc mr hs) F E hA (fun _ h => jPl h) jDl jAl (fun u => jovL) (fun H locs hI hp => jrun_V (As := []) 0 F E (c_X5_leastBend l D cI cZ z gx sc ar  kd li s hC e7 hM.2.1 H.size) kw_475 kw_476 kw_477 rfl kw_478 kw_1 oX5_leastBend ⟨⟨rfl, rfl⟩, ⟨(Nat.le_of_ble_eq_true rfl), (Nat.le_of_ble_eq_true rfl)⟩, hk, hn⟩ rfl rfl (Nat.le_of_ble_eq_true rfl) dL_law_422 rfl rfl (jI_P E hI) hp) rfl (fun r5 v5 h5 => ?_)
  refine J_aload_n (pc' := 426) (q := 2) F dL_law_425 rfl rfl ?_
  refine J_goWi (wf := (fM cI cZ gm)) (w0 := (wM cI cZ gm mc mr hs)) (av := [.ref (gm 0)]) (rest := [.int (r5)]) (pc' := 429) (fun u => wC cI gx v5.1 v5.2 ++ wM cI cZ gm u.1 u.2.1 u.2.2) F E hA (fun _ h => jPr h) jDr jAr (fun u => jovR) (fun H locs hI hp => jrun_V (As := []) 19 F E (c_X6_leastBend l D cI cZ z gm mc mr hs  kd li s hM H.size) kw_814 kw_815 kw_816 rfl kw_817 kw_7 oX6_leastBend ⟨⟨rfl, rfl⟩, ⟨(Nat.le_of_ble_eq_true rfl), (Nat.le_of_ble_eq_true rfl)⟩, hk, hn⟩ rfl rfl (Nat.le_of_ble_eq_true rfl) dL_law_426 rfl rfl (jI_P E hI) hp) rfl (fun r6 u6 h6 => ?_)
  have hq : RQ (i) (r5, v5) (r6, u6) := qq_least h hKC e2 hfin h5 h6
  refine J_icmp_eq (tgt := 599) (pc' := 432) F dL_law_429 (by decide) rfl (fun _ => kk v5 u6 (hq.2.up (by omega))) (fun c9 => absurd hq.1 c9)
set_option maxHeartbeats 4000000 in
set_option maxRecDepth 100000 in
theorem lc_string {X : jX} {l : Launch} {D : va_G} {cI cZ : ClassId} {z gx gm : Nat → Nat} {b L k n i : Nat} {xs : Nat → Int32} {sc : Nat → Int32} {ar : Nat → Nat → Int32} {mc : Nat → Int32} {mr : Nat → Nat → Int32} {hs : Int64} (F : JF X cL_law RL cI cZ z) (E : JE X l room_1 D 4) (hA : jA X) (hS : jScr X b L xs) (hk : k ≤ room_1.cells) (hn : n ≤ room_1.slots) (hL : L ≤ 2048) (hi : i + 4 ≤ L) (h : RelB i (sc, ar) (mc, mr, hs)) (kk : ∀ (v : uC) (u : uM), RelB (i + 4) v u → J X true k n 599 [(0, .ref b), (1, .ref (gx 0)), (2, .ref (gm 0)), (3, .int (nI i))] [] (wC cI gx v.1 v.2 ++ wM cI cZ gm u.1 u.2.1 u.2.2)) : J X true k n 434 [(0, .ref b), (1, .ref (gx 0)), (2, .ref (gm 0)), (3, .int (nI i))] [] (wC cI gx sc ar ++ wM cI cZ gm mc mr hs) := by
  refine J_aload_n (pc' := 435) (q := 1) F dL_law_434 rfl rfl ?_
  refine J_aload_n (pc' := 436) (q := 0) F dL_law_435 rfl rfl ?_
  refine J_iload_n (pc' := 437) (q := 3) F dL_law_436 rfl rfl ?_
  refine J_iconst (pc' := 438) (v := 1) F dL_law_437 (by decide) rfl ?_
  refine J_iadd (pc' := 439) F dL_law_438 rfl ?_
  refine J_vali (y := nI (i + 1)) (nI_add i 1) ?_
  refine J_scr (j := i + 1) (pc' := 440) F hS dL_law_439 (by omega) hL rfl ?_
  refine J_goWi (wf := (fC cI gx)) (w0 := (wC cI gx sc ar)) (av := [.ref (gx 0), .int (xs (i + 1))]) (rest := []) (pc' := 443) (fun u => wC cI gx u.1 u.2 ++ wM cI cZ gm mc mr hs) F E hA (fun _ h => jPl h) jDl jAl (fun u => jovL) (fun H locs hI hp => jrun_V (As := [.int (xs (i + 1))]) 0 F E (c_X5_string l D cI cZ z gx sc ar (xs (i + 1))  H.size) kw_497 kw_498 kw_499 rfl kw_500 kw_1 oX5_string ⟨⟨rfl, rfl⟩, ⟨(Nat.le_of_ble_eq_true rfl), (Nat.le_of_ble_eq_true rfl)⟩, hk, hn⟩ rfl rfl (Nat.le_of_ble_eq_true rfl) dL_law_440 rfl rfl (jI_P E hI) hp) rfl (fun r5 v5 h5 => ?_)
  refine J_aload_n (pc' := 444) (q := 2) F dL_law_443 rfl rfl ?_
  refine J_aload_n (pc' := 445) (q := 0) F dL_law_444 rfl rfl ?_
  refine J_iload_n (pc' := 446) (q := 3) F dL_law_445 rfl rfl ?_
  refine J_iconst (pc' := 447) (v := 1) F dL_law_446 (by decide) rfl ?_
  refine J_iadd (pc' := 448) F dL_law_447 rfl ?_
  refine J_vali (y := nI (i + 1)) (nI_add i 1) ?_
  refine J_scr (j := i + 1) (pc' := 449) F hS dL_law_448 (by omega) hL rfl ?_
  refine J_goWi (wf := (fM cI cZ gm)) (w0 := (wM cI cZ gm mc mr hs)) (av := [.ref (gm 0), .int (xs (i + 1))]) (rest := [.int (r5)]) (pc' := 452) (fun u => wC cI gx v5.1 v5.2 ++ wM cI cZ gm u.1 u.2.1 u.2.2) F E hA (fun _ h => jPr h) jDr jAr (fun u => jovR) (fun H locs hI hp => jrun_V (As := [.int (xs (i + 1))]) 19 F E (c_X6_string l D cI cZ z gm mc mr hs (xs (i + 1)) h.str H.size) kw_818 kw_819 kw_820 rfl kw_821 kw_7 oX6_string ⟨⟨rfl, rfl⟩, ⟨(Nat.le_of_ble_eq_true rfl), (Nat.le_of_ble_eq_true rfl)⟩, hk, hn⟩ rfl rfl (Nat.le_of_ble_eq_true rfl) dL_law_449 rfl rfl (jI_P E hI) hp) rfl (fun r6 u6 h6 => ?_)
  have hq : RQ (i) (r5, v5) (r6, u6) := by rw [h5, h6]; exact q_string _ h
  refine J_icmp_eq (tgt := 599) (pc' := 455) F dL_law_452 (by decide) rfl (fun _ => kk v5 u6 (hq.2.up (by omega))) (fun c9 => absurd hq.1 c9)
set_option maxHeartbeats 4000000 in
set_option maxRecDepth 100000 in
theorem lc_forget {X : jX} {l : Launch} {D : va_G} {cI cZ : ClassId} {z gx gm : Nat → Nat} {b L k n i : Nat} {xs : Nat → Int32} {sc : Nat → Int32} {ar : Nat → Nat → Int32} {mc : Nat → Int32} {mr : Nat → Nat → Int32} {hs : Int64} (F : JF X cL_law RL cI cZ z) (E : JE X l room_1 D 4) (hA : jA X) (hS : jScr X b L xs) (hk : k ≤ room_1.cells) (hn : n ≤ room_1.slots) (hL : L ≤ 2048) (hi : i + 4 ≤ L) (h : RelB i (sc, ar) (mc, mr, hs)) (kk : ∀ (v : uC) (u : uM), RelB (i + 4) v u → J X true k n 599 [(0, .ref b), (1, .ref (gx 0)), (2, .ref (gm 0)), (3, .int (nI i))] [] (wC cI gx v.1 v.2 ++ wM cI cZ gm u.1 u.2.1 u.2.2)) : J X true k n 457 [(0, .ref b), (1, .ref (gx 0)), (2, .ref (gm 0)), (3, .int (nI i))] [] (wC cI gx sc ar ++ wM cI cZ gm mc mr hs) := by
  refine J_aload_n (pc' := 458) (q := 1) F dL_law_457 rfl rfl ?_
  refine J_goWi (wf := (fC cI gx)) (w0 := (wC cI gx sc ar)) (av := [.ref (gx 0)]) (rest := []) (pc' := 461) (fun u => wC cI gx u.1 u.2 ++ wM cI cZ gm mc mr hs) F E hA (fun _ h => jPl h) jDl jAl (fun u => jovL) (fun H locs hI hp => jrun_V (As := []) 0 F E (c_X5_forget l D cI cZ z gx sc ar   H.size) kw_501 kw_502 kw_503 rfl kw_504 kw_1 oX5_forget ⟨⟨rfl, rfl⟩, ⟨(Nat.le_of_ble_eq_true rfl), (Nat.le_of_ble_eq_true rfl)⟩, hk, hn⟩ rfl rfl (Nat.le_of_ble_eq_true rfl) dL_law_458 rfl rfl (jI_P E hI) hp) rfl (fun r5 v5 h5 => ?_)
  refine J_aload_n (pc' := 462) (q := 2) F dL_law_461 rfl rfl ?_
  refine J_goWi (wf := (fM cI cZ gm)) (w0 := (wM cI cZ gm mc mr hs)) (av := [.ref (gm 0)]) (rest := [.int (r5)]) (pc' := 465) (fun u => wC cI gx v5.1 v5.2 ++ wM cI cZ gm u.1 u.2.1 u.2.2) F E hA (fun _ h => jPr h) jDr jAr (fun u => jovR) (fun H locs hI hp => jrun_V (As := []) 19 F E (c_X6_forget l D cI cZ z gm mc mr hs   H.size) kw_823 kw_824 kw_825 rfl kw_826 kw_7 oX6_forget ⟨⟨rfl, rfl⟩, ⟨(Nat.le_of_ble_eq_true rfl), (Nat.le_of_ble_eq_true rfl)⟩, hk, hn⟩ rfl rfl (Nat.le_of_ble_eq_true rfl) dL_law_462 rfl rfl (jI_P E hI) hp) rfl (fun r6 u6 h6 => ?_)
  have hq : RQ (i) (r5, v5) (r6, u6) := by rw [h5, h6]; exact q_forget h
  refine J_icmp_eq (tgt := 599) (pc' := 468) F dL_law_465 (by decide) rfl (fun _ => kk v5 u6 (hq.2.up (by omega))) (fun c9 => absurd hq.1 c9)
set_option maxHeartbeats 4000000 in
set_option maxRecDepth 100000 in
theorem lc_fits {X : jX} {l : Launch} {D : va_G} {cI cZ : ClassId} {z gx gm : Nat → Nat} {b L k n i : Nat} {xs : Nat → Int32} {sc : Nat → Int32} {ar : Nat → Nat → Int32} {mc : Nat → Int32} {mr : Nat → Nat → Int32} {hs : Int64} (F : JF X cL_law RL cI cZ z) (E : JE X l room_1 D 4) (hA : jA X) (hS : jScr X b L xs) (hk : k ≤ room_1.cells) (hn : n ≤ room_1.slots) (hL : L ≤ 2048) (hi : i + 4 ≤ L) (h : RelB i (sc, ar) (mc, mr, hs)) (kk : ∀ (v : uC) (u : uM), RelB (i + 4) v u → J X true k n 599 [(0, .ref b), (1, .ref (gx 0)), (2, .ref (gm 0)), (3, .int (nI i))] [] (wC cI gx v.1 v.2 ++ wM cI cZ gm u.1 u.2.1 u.2.2)) : J X true k n 470 [(0, .ref b), (1, .ref (gx 0)), (2, .ref (gm 0)), (3, .int (nI i))] [] (wC cI gx sc ar ++ wM cI cZ gm mc mr hs) := by
  obtain ⟨kd, li, s, be, bs, T, hC, hKC, hM, e7, hbe, b5, b6, s5, s6, e2, hfin⟩ := h.view2
  refine J_aload_n (pc' := 471) (q := 1) F dL_law_470 rfl rfl ?_
  refine J_aload_n (pc' := 472) (q := 0) F dL_law_471 rfl rfl ?_
  refine J_iload_n (pc' := 473) (q := 3) F dL_law_472 rfl rfl ?_
  refine J_iconst (pc' := 474) (v := 1) F dL_law_473 (by decide) rfl ?_
  refine J_iadd (pc' := 475) F dL_law_474 rfl ?_
  refine J_vali (y := nI (i + 1)) (nI_add i 1) ?_
  refine J_scr (j := i + 1) (pc' := 476) F hS dL_law_475 (by omega) hL rfl ?_
  refine J_goWi (wf := (fC cI gx)) (w0 := (wC cI gx sc ar)) (av := [.ref (gx 0), .int (xs (i + 1))]) (rest := []) (pc' := 479) (fun u => wC cI gx u.1 u.2 ++ wM cI cZ gm mc mr hs) F E hA (fun _ h => jPl h) jDl jAl (fun u => jovL) (fun H locs hI hp => jrun_V (As := [.int (xs (i + 1))]) 0 F E (c_X5_fits l D cI cZ z gx sc ar (xs (i + 1)) kd li s be hC e7 hM.2.1 (by omega) b5 bs T s5 H.size) kw_505 kw_506 kw_507 rfl kw_508 kw_1 oX5_fits ⟨⟨rfl, rfl⟩, ⟨(Nat.le_of_ble_eq_true rfl), (Nat.le_of_ble_eq_true rfl)⟩, hk, hn⟩ rfl rfl (Nat.le_of_ble_eq_true rfl) dL_law_476 rfl rfl (jI_P E hI) hp) rfl (fun r5 v5 h5 => ?_)
  refine J_aload_n (pc' := 480) (q := 2) F dL_law_479 rfl rfl ?_
  refine J_aload_n (pc' := 481) (q := 0) F dL_law_480 rfl rfl ?_
  refine J_iload_n (pc' := 482) (q := 3) F dL_law_481 rfl rfl ?_
  refine J_iconst (pc' := 483) (v := 1) F dL_law_482 (by decide) rfl ?_
  refine J_iadd (pc' := 484) F dL_law_483 rfl ?_
  refine J_vali (y := nI (i + 1)) (nI_add i 1) ?_
  refine J_scr (j := i + 1) (pc' := 485) F hS dL_law_484 (by omega) hL rfl ?_
  refine J_goWi (wf := (fM cI cZ gm)) (w0 := (wM cI cZ gm mc mr hs)) (av := [.ref (gm 0), .int (xs (i + 1))]) (rest := [.int (r5)]) (pc' := 488) (fun u => wC cI gx v5.1 v5.2 ++ wM cI cZ gm u.1 u.2.1 u.2.2) F E hA (fun _ h => jPr h) jDr jAr (fun u => jovR) (fun H locs hI hp => jrun_V (As := [.int (xs (i + 1))]) 19 F E (c_X6_fits l D cI cZ z gm mc mr hs (xs (i + 1)) kd li s be hM (by omega) b6 bs T s6 H.size) kw_827 kw_828 kw_829 rfl kw_830 kw_7 oX6_fits ⟨⟨rfl, rfl⟩, ⟨(Nat.le_of_ble_eq_true rfl), (Nat.le_of_ble_eq_true rfl)⟩, hk, hn⟩ rfl rfl (Nat.le_of_ble_eq_true rfl) dL_law_485 rfl rfl (jI_P E hI) hp) rfl (fun r6 u6 h6 => ?_)
  have hq : RQ (i) (r5, v5) (r6, u6) := qq_fits h hKC e2 hfin h5 h6
  refine J_icmp_eq (tgt := 599) (pc' := 491) F dL_law_488 (by decide) rfl (fun _ => kk v5 u6 (hq.2.up (by omega))) (fun c9 => absurd hq.1 c9)
set_option maxHeartbeats 4000000 in
set_option maxRecDepth 100000 in
theorem lc_days {X : jX} {l : Launch} {D : va_G} {cI cZ : ClassId} {z gx gm : Nat → Nat} {b L k n i : Nat} {xs : Nat → Int32} {sc : Nat → Int32} {ar : Nat → Nat → Int32} {mc : Nat → Int32} {mr : Nat → Nat → Int32} {hs : Int64} (F : JF X cL_law RL cI cZ z) (E : JE X l room_1 D 4) (hA : jA X) (hS : jScr X b L xs) (hk : k ≤ room_1.cells) (hn : n ≤ room_1.slots) (hL : L ≤ 2048) (hi : i + 4 ≤ L) (h : RelB i (sc, ar) (mc, mr, hs)) (kk : ∀ (v : uC) (u : uM), RelB (i + 4) v u → J X true k n 599 [(0, .ref b), (1, .ref (gx 0)), (2, .ref (gm 0)), (3, .int (nI i))] [] (wC cI gx v.1 v.2 ++ wM cI cZ gm u.1 u.2.1 u.2.2)) : J X true k n 493 [(0, .ref b), (1, .ref (gx 0)), (2, .ref (gm 0)), (3, .int (nI i))] [] (wC cI gx sc ar ++ wM cI cZ gm mc mr hs) := by
  refine J_aload_n (pc' := 494) (q := 1) F dL_law_493 rfl rfl ?_
  refine J_aload_n (pc' := 495) (q := 0) F dL_law_494 rfl rfl ?_
  refine J_iload_n (pc' := 496) (q := 3) F dL_law_495 rfl rfl ?_
  refine J_iconst (pc' := 497) (v := 1) F dL_law_496 (by decide) rfl ?_
  refine J_iadd (pc' := 498) F dL_law_497 rfl ?_
  refine J_vali (y := nI (i + 1)) (nI_add i 1) ?_
  refine J_scr (j := i + 1) (pc' := 499) F hS dL_law_498 (by omega) hL rfl ?_
  refine J_aload_n (pc' := 500) (q := 0) F dL_law_499 rfl rfl ?_
  refine J_iload_n (pc' := 501) (q := 3) F dL_law_500 rfl rfl ?_
  refine J_iconst (pc' := 502) (v := 2) F dL_law_501 (by decide) rfl ?_
  refine J_iadd (pc' := 503) F dL_law_502 rfl ?_
  refine J_vali (y := nI (i + 2)) (nI_add i 2) ?_
  refine J_scr (j := i + 2) (pc' := 504) F hS dL_law_503 (by omega) hL rfl ?_
  refine J_aload_n (pc' := 505) (q := 0) F dL_law_504 rfl rfl ?_
  refine J_iload_n (pc' := 506) (q := 3) F dL_law_505 rfl rfl ?_
  refine J_iconst (pc' := 507) (v := 3) F dL_law_506 (by decide) rfl ?_
  refine J_iadd (pc' := 508) F dL_law_507 rfl ?_
  refine J_vali (y := nI (i + 3)) (nI_add i 3) ?_
  refine J_scr (j := i + 3) (pc' := 509) F hS dL_law_508 (by omega) hL rfl ?_
  refine J_goRie (wc := (wC cI gx sc ar)) (av := [.ref (gx 0), .int (xs (i + 1)), .int (xs (i + 2)), .int (xs (i + 3))]) (rest := []) (v := zX5_days sc ar (xs (i + 1)) (xs (i + 2)) (xs (i + 3))) (pc' := 512) F E (fun _ h => jPl h) (fun H locs hI hp => jrun_V (As := [.int (xs (i + 1)), .int (xs (i + 2)), .int (xs (i + 3))]) 0 F E (c_X5_days l D cI cZ z gx sc ar (xs (i + 1)) (xs (i + 2)) (xs (i + 3)) ) kw_523 kw_524 kw_525 rfl kw_526 kw_1 oX5_days ⟨⟨rfl, rfl⟩, ⟨(Nat.le_of_ble_eq_true rfl), (Nat.le_of_ble_eq_true rfl)⟩, hk, hn⟩ rfl rfl (Nat.le_of_ble_eq_true rfl) dL_law_509 rfl rfl (jI_P E hI) hp) rfl ?_
  refine J_aload_n (pc' := 513) (q := 2) F dL_law_512 rfl rfl ?_
  refine J_aload_n (pc' := 514) (q := 0) F dL_law_513 rfl rfl ?_
  refine J_iload_n (pc' := 515) (q := 3) F dL_law_514 rfl rfl ?_
  refine J_iconst (pc' := 516) (v := 1) F dL_law_515 (by decide) rfl ?_
  refine J_iadd (pc' := 517) F dL_law_516 rfl ?_
  refine J_vali (y := nI (i + 1)) (nI_add i 1) ?_
  refine J_scr (j := i + 1) (pc' := 518) F hS dL_law_517 (by omega) hL rfl ?_
  refine J_aload_n (pc' := 519) (q := 0) F dL_law_518 rfl rfl ?_
  refine J_iload_n (pc' := 520) (q := 3) F dL_law_519 rfl rfl ?_
  refine J_iconst (pc' := 521) (v := 2) F dL_law_520 (by decide) rfl ?_
  refine J_iadd (pc' := 522) F dL_law_521 rfl ?_
  refine J_vali (y := nI (i + 2)) (nI_add i 2) ?_
  refine J_scr (j := i + 2) (pc' := 523) F hS dL_law_522 (by omega) hL rfl ?_
  refine J_aload_n (pc' := 524) (q := 0) F dL_law_523 rfl rfl ?_
  refine J_iload_n (pc' := 525) (q := 3) F dL_law_524 rfl rfl ?_
  refine J_iconst (pc' := 526) (v := 3) F dL_law_525 (by decide) rfl ?_
  refine J_iadd (pc' := 527) F dL_law_526 rfl ?_
  refine J_vali (y := nI (i + 3)) (nI_add i 3) ?_
  refine J_scr (j := i + 3) (pc' := 528) F hS dL_law_527 (by omega) hL rfl ?_
  refine J_goWi (wf := (fM cI cZ gm)) (w0 := (wM cI cZ gm mc mr hs)) (av := [.ref (gm 0), .int (xs (i + 1)), .int (xs (i + 2)), .int (xs (i + 3))]) (rest := [.int (zX5_days sc ar (xs (i + 1)) (xs (i + 2)) (xs (i + 3)))]) (pc' := 531) (fun u => wC cI gx sc ar ++ wM cI cZ gm u.1 u.2.1 u.2.2) F E hA (fun _ h => jPr h) jDr jAr (fun u => jovR) (fun H locs hI hp => jrun_V (As := [.int (xs (i + 1)), .int (xs (i + 2)), .int (xs (i + 3))]) 19 F E (c_X6_days l D cI cZ z gm mc mr hs (xs (i + 1)) (xs (i + 2)) (xs (i + 3))  H.size) kw_843 kw_844 kw_845 rfl kw_846 kw_7 oX6_days ⟨⟨rfl, rfl⟩, ⟨(Nat.le_of_ble_eq_true rfl), (Nat.le_of_ble_eq_true rfl)⟩, hk, hn⟩ rfl rfl (Nat.le_of_ble_eq_true rfl) dL_law_528 rfl rfl (jI_P E hI) hp) rfl (fun r6 u6 h6 => ?_)
  have hq : RQ (i) (zX5_days sc ar (xs (i + 1)) (xs (i + 2)) (xs (i + 3)), (sc, ar)) (r6, u6) := by rw [h6]; exact q_days _ _ _ h
  refine J_icmp_eq (tgt := 599) (pc' := 534) F dL_law_531 (by decide) rfl (fun _ => kk (sc, ar) u6 (hq.2.up (by omega))) (fun c9 => absurd hq.1 c9)
set_option maxHeartbeats 4000000 in
set_option maxRecDepth 100000 in
theorem lc_image {X : jX} {l : Launch} {D : va_G} {cI cZ : ClassId} {z gx gm : Nat → Nat} {b L k n i : Nat} {xs : Nat → Int32} {sc : Nat → Int32} {ar : Nat → Nat → Int32} {mc : Nat → Int32} {mr : Nat → Nat → Int32} {hs : Int64} (F : JF X cL_law RL cI cZ z) (E : JE X l room_1 D 4) (hA : jA X) (hS : jScr X b L xs) (hk : k ≤ room_1.cells) (hn : n ≤ room_1.slots) (hL : L ≤ 2048) (hi : i + 4 ≤ L) (h : RelB i (sc, ar) (mc, mr, hs)) (kk : ∀ (v : uC) (u : uM), RelB (i + 4) v u → J X true k n 599 [(0, .ref b), (1, .ref (gx 0)), (2, .ref (gm 0)), (3, .int (nI i))] [] (wC cI gx v.1 v.2 ++ wM cI cZ gm u.1 u.2.1 u.2.2)) : J X true k n 536 [(0, .ref b), (1, .ref (gx 0)), (2, .ref (gm 0)), (3, .int (nI i))] [] (wC cI gx sc ar ++ wM cI cZ gm mc mr hs) := by
  refine J_aload_n (pc' := 537) (q := 1) F dL_law_536 rfl rfl ?_
  refine J_goWi (wf := (fC cI gx)) (w0 := (wC cI gx sc ar)) (av := [.ref (gx 0)]) (rest := []) (pc' := 540) (fun u => wC cI gx u.1 u.2 ++ wM cI cZ gm mc mr hs) F E hA (fun _ h => jPl h) jDl jAl (fun u => jovL) (fun H locs hI hp => jrun_V (As := []) 0 F E (c_X5_image l D cI cZ z gx sc ar  h.b8 H.size) kw_534 kw_535 kw_536 rfl kw_537 kw_1 oX5_image ⟨⟨rfl, rfl⟩, ⟨(Nat.le_of_ble_eq_true rfl), (Nat.le_of_ble_eq_true rfl)⟩, hk, hn⟩ rfl rfl (Nat.le_of_ble_eq_true rfl) dL_law_537 rfl rfl (jI_P E hI) hp) rfl (fun r5 v5 h5 => ?_)
  refine J_aload_n (pc' := 541) (q := 2) F dL_law_540 rfl rfl ?_
  refine J_goWi (wf := (fM cI cZ gm)) (w0 := (wM cI cZ gm mc mr hs)) (av := [.ref (gm 0)]) (rest := [.int (r5)]) (pc' := 544) (fun u => wC cI gx v5.1 v5.2 ++ wM cI cZ gm u.1 u.2.1 u.2.2) F E hA (fun _ h => jPr h) jDr jAr (fun u => jovR) (fun H locs hI hp => jrun_V (As := []) 19 F E (c_X6_image l D cI cZ z gm mc mr hs   H.size) kw_856 kw_857 kw_858 rfl kw_859 kw_7 oX6_image ⟨⟨rfl, rfl⟩, ⟨(Nat.le_of_ble_eq_true rfl), (Nat.le_of_ble_eq_true rfl)⟩, hk, hn⟩ rfl rfl (Nat.le_of_ble_eq_true rfl) dL_law_541 rfl rfl (jI_P E hI) hp) rfl (fun r6 u6 h6 => ?_)
  have hq : RQ (i) (r5, v5) (r6, u6) := by rw [h5, h6]; exact q_image h
  refine J_icmp_eq (tgt := 599) (pc' := 547) F dL_law_544 (by decide) rfl (fun _ => kk v5 u6 (hq.2.up (by omega))) (fun c9 => absurd hq.1 c9)
set_option maxHeartbeats 4000000 in
set_option maxRecDepth 100000 in
theorem lc_restore {X : jX} {l : Launch} {D : va_G} {cI cZ : ClassId} {z gx gm : Nat → Nat} {b L k n i : Nat} {xs : Nat → Int32} {sc : Nat → Int32} {ar : Nat → Nat → Int32} {mc : Nat → Int32} {mr : Nat → Nat → Int32} {hs : Int64} (F : JF X cL_law RL cI cZ z) (E : JE X l room_1 D 4) (hA : jA X) (hS : jScr X b L xs) (hk : k ≤ room_1.cells) (hn : n ≤ room_1.slots) (hL : L ≤ 2048) (hi : i + 4 ≤ L) (h : RelB i (sc, ar) (mc, mr, hs)) (kk : ∀ (v : uC) (u : uM), RelB (i + 4) v u → J X true k n 599 [(0, .ref b), (1, .ref (gx 0)), (2, .ref (gm 0)), (3, .int (nI i))] [] (wC cI gx v.1 v.2 ++ wM cI cZ gm u.1 u.2.1 u.2.2)) : J X true k n 549 [(0, .ref b), (1, .ref (gx 0)), (2, .ref (gm 0)), (3, .int (nI i))] [] (wC cI gx sc ar ++ wM cI cZ gm mc mr hs) := by
  refine J_aload_n (pc' := 550) (q := 1) F dL_law_549 rfl rfl ?_
  refine J_goWi (wf := (fC cI gx)) (w0 := (wC cI gx sc ar)) (av := [.ref (gx 0)]) (rest := []) (pc' := 553) (fun u => wC cI gx u.1 u.2 ++ wM cI cZ gm mc mr hs) F E hA (fun _ h => jPl h) jDl jAl (fun u => jovL) (fun H locs hI hp => jrun_V (As := []) 0 F E (c_X5_restore l D cI cZ z gx sc ar  h.b13 H.size) kw_542 kw_543 kw_544 rfl kw_545 kw_1 oX5_restore ⟨⟨rfl, rfl⟩, ⟨(Nat.le_of_ble_eq_true rfl), (Nat.le_of_ble_eq_true rfl)⟩, hk, hn⟩ rfl rfl (Nat.le_of_ble_eq_true rfl) dL_law_550 rfl rfl (jI_P E hI) hp) rfl (fun r5 v5 h5 => ?_)
  refine J_aload_n (pc' := 554) (q := 2) F dL_law_553 rfl rfl ?_
  refine J_goWi (wf := (fM cI cZ gm)) (w0 := (wM cI cZ gm mc mr hs)) (av := [.ref (gm 0)]) (rest := [.int (r5)]) (pc' := 557) (fun u => wC cI gx v5.1 v5.2 ++ wM cI cZ gm u.1 u.2.1 u.2.2) F E hA (fun _ h => jPr h) jDr jAr (fun u => jovR) (fun H locs hI hp => jrun_V (As := []) 19 F E (c_X6_restore l D cI cZ z gm mc mr hs   H.size) kw_863 kw_864 kw_865 rfl kw_866 kw_7 oX6_restore ⟨⟨rfl, rfl⟩, ⟨(Nat.le_of_ble_eq_true rfl), (Nat.le_of_ble_eq_true rfl)⟩, hk, hn⟩ rfl rfl (Nat.le_of_ble_eq_true rfl) dL_law_554 rfl rfl (jI_P E hI) hp) rfl (fun r6 u6 h6 => ?_)
  have hq : RQ (i) (r5, v5) (r6, u6) := by rw [h5, h6]; exact q_restore (by omega) h
  refine J_icmp_eq (tgt := 599) (pc' := 560) F dL_law_557 (by decide) rfl (fun _ => kk v5 u6 (hq.2.up (by omega))) (fun c9 => absurd hq.1 c9)
set_option maxHeartbeats 4000000 in
set_option maxRecDepth 100000 in
theorem lc_count {X : jX} {l : Launch} {D : va_G} {cI cZ : ClassId} {z gx gm : Nat → Nat} {b L k n i : Nat} {xs : Nat → Int32} {sc : Nat → Int32} {ar : Nat → Nat → Int32} {mc : Nat → Int32} {mr : Nat → Nat → Int32} {hs : Int64} (F : JF X cL_law RL cI cZ z) (E : JE X l room_1 D 4) (hA : jA X) (hS : jScr X b L xs) (hk : k ≤ room_1.cells) (hn : n ≤ room_1.slots) (hL : L ≤ 2048) (hi : i + 4 ≤ L) (h : RelB i (sc, ar) (mc, mr, hs)) (kk : ∀ (v : uC) (u : uM), RelB (i + 4) v u → J X true k n 599 [(0, .ref b), (1, .ref (gx 0)), (2, .ref (gm 0)), (3, .int (nI i))] [] (wC cI gx v.1 v.2 ++ wM cI cZ gm u.1 u.2.1 u.2.2)) : J X true k n 562 [(0, .ref b), (1, .ref (gx 0)), (2, .ref (gm 0)), (3, .int (nI i))] [] (wC cI gx sc ar ++ wM cI cZ gm mc mr hs) := by
  refine J_aload_n (pc' := 563) (q := 1) F dL_law_562 rfl rfl ?_
  refine J_aload_n (pc' := 564) (q := 0) F dL_law_563 rfl rfl ?_
  refine J_iload_n (pc' := 565) (q := 3) F dL_law_564 rfl rfl ?_
  refine J_iconst (pc' := 566) (v := 1) F dL_law_565 (by decide) rfl ?_
  refine J_iadd (pc' := 567) F dL_law_566 rfl ?_
  refine J_vali (y := nI (i + 1)) (nI_add i 1) ?_
  refine J_scr (j := i + 1) (pc' := 568) F hS dL_law_567 (by omega) hL rfl ?_
  refine J_goRie (wc := (wC cI gx sc ar)) (av := [.ref (gx 0), .int (xs (i + 1))]) (rest := []) (v := zX5_count sc ar (xs (i + 1))) (pc' := 571) F E (fun _ h => jPl h) (fun H locs hI hp => jrun_V (As := [.int (xs (i + 1))]) 0 F E (c_X5_count l D cI cZ z gx sc ar (xs (i + 1)) ) kw_546 kw_547 kw_548 rfl kw_549 kw_1 oX5_count ⟨⟨rfl, rfl⟩, ⟨(Nat.le_of_ble_eq_true rfl), (Nat.le_of_ble_eq_true rfl)⟩, hk, hn⟩ rfl rfl (Nat.le_of_ble_eq_true rfl) dL_law_568 rfl rfl (jI_P E hI) hp) rfl ?_
  refine J_aload_n (pc' := 572) (q := 2) F dL_law_571 rfl rfl ?_
  refine J_aload_n (pc' := 573) (q := 0) F dL_law_572 rfl rfl ?_
  refine J_iload_n (pc' := 574) (q := 3) F dL_law_573 rfl rfl ?_
  refine J_iconst (pc' := 575) (v := 1) F dL_law_574 (by decide) rfl ?_
  refine J_iadd (pc' := 576) F dL_law_575 rfl ?_
  refine J_vali (y := nI (i + 1)) (nI_add i 1) ?_
  refine J_scr (j := i + 1) (pc' := 577) F hS dL_law_576 (by omega) hL rfl ?_
  refine J_goRie (wc := (wM cI cZ gm mc mr hs)) (av := [.ref (gm 0), .int (xs (i + 1))]) (rest := [.int (zX5_count sc ar (xs (i + 1)))]) (v := zX6_count mc mr hs (xs (i + 1))) (pc' := 580) F E (fun _ h => jPr h) (fun H locs hI hp => jrun_V (As := [.int (xs (i + 1))]) 19 F E (c_X6_count l D cI cZ z gm mc mr hs (xs (i + 1)) ) kw_867 kw_868 kw_869 rfl kw_870 kw_7 oX6_count ⟨⟨rfl, rfl⟩, ⟨(Nat.le_of_ble_eq_true rfl), (Nat.le_of_ble_eq_true rfl)⟩, hk, hn⟩ rfl rfl (Nat.le_of_ble_eq_true rfl) dL_law_577 rfl rfl (jI_P E hI) hp) rfl ?_
  have hq : RQ (i) (zX5_count sc ar (xs (i + 1)), (sc, ar)) (zX6_count mc mr hs (xs (i + 1)), (mc, mr, hs)) := ⟨q_count _ h, h⟩
  refine J_icmp_eq (tgt := 599) (pc' := 583) F dL_law_580 (by decide) rfl (fun _ => kk (sc, ar) (mc, mr, hs) (hq.2.up (by omega))) (fun c9 => absurd hq.1 c9)
set_option maxHeartbeats 4000000 in
set_option maxRecDepth 100000 in
theorem lc_digest {X : jX} {l : Launch} {D : va_G} {cI cZ : ClassId} {z gx gm : Nat → Nat} {b L k n i : Nat} {xs : Nat → Int32} {sc : Nat → Int32} {ar : Nat → Nat → Int32} {mc : Nat → Int32} {mr : Nat → Nat → Int32} {hs : Int64} (F : JF X cL_law RL cI cZ z) (E : JE X l room_1 D 4) (hA : jA X) (hS : jScr X b L xs) (hk : k ≤ room_1.cells) (hn : n ≤ room_1.slots) (hL : L ≤ 2048) (hi : i + 4 ≤ L) (h : RelB i (sc, ar) (mc, mr, hs)) (kk : ∀ (v : uC) (u : uM), RelB (i + 4) v u → J X true k n 599 [(0, .ref b), (1, .ref (gx 0)), (2, .ref (gm 0)), (3, .int (nI i))] [] (wC cI gx v.1 v.2 ++ wM cI cZ gm u.1 u.2.1 u.2.2)) : J X true k n 585 [(0, .ref b), (1, .ref (gx 0)), (2, .ref (gm 0)), (3, .int (nI i))] [] (wC cI gx sc ar ++ wM cI cZ gm mc mr hs) := by
  obtain ⟨kd, li, s, be, bs, T, hC, hKC, hM, e7, hbe, b5, b6, s5, s6, e2, hfin⟩ := h.view2
  obtain ⟨Pn, hP16, p0, p1⟩ := h.pgs
  refine J_aload_n (pc' := 586) (q := 1) F dL_law_585 rfl rfl ?_
  refine J_goWl (wf := (fC cI gx)) (w0 := (wC cI gx sc ar)) (av := [.ref (gx 0)]) (rest := []) (pc' := 589) (fun u => wC cI gx u.1 u.2 ++ wM cI cZ gm mc mr hs) F E hA (fun _ h => jPl h) jDl jAl (fun u => jovL) (fun H locs hI hp => jrun_V (As := []) 0 F E (c_X5_digest l D cI cZ z gx sc ar  kd li s be hC e7 hM.2.1 (by omega) b5 hKC bs T s5 Pn p0 hP16 H.size) kw_550 kw_551 kw_552 rfl kw_553 kw_1 oX5_digest ⟨⟨rfl, rfl⟩, ⟨(Nat.le_of_ble_eq_true rfl), (Nat.le_of_ble_eq_true rfl)⟩, hk, hn⟩ rfl rfl (Nat.le_of_ble_eq_true rfl) dL_law_586 rfl rfl (jI_P E hI) hp) rfl (fun r5 v5 h5 => ?_)
  refine J_aload_n (pc' := 590) (q := 2) F dL_law_589 rfl rfl ?_
  refine J_goWl (wf := (fM cI cZ gm)) (w0 := (wM cI cZ gm mc mr hs)) (av := [.ref (gm 0)]) (rest := [.long (r5)]) (pc' := 593) (fun u => wC cI gx v5.1 v5.2 ++ wM cI cZ gm u.1 u.2.1 u.2.2) F E hA (fun _ h => jPr h) jDr jAr (fun u => jovR) (fun H locs hI hp => jrun_V (As := []) 19 F E (c_X6_digest l D cI cZ z gm mc mr hs  kd li s be hM (by omega) b6 bs T s6 Pn p1 hP16 H.size) kw_875 kw_876 kw_877 rfl kw_878 kw_7 oX6_digest ⟨⟨rfl, rfl⟩, ⟨(Nat.le_of_ble_eq_true rfl), (Nat.le_of_ble_eq_true rfl)⟩, hk, hn⟩ rfl rfl (Nat.le_of_ble_eq_true rfl) dL_law_590 rfl rfl (jI_P E hI) hp) rfl (fun r6 u6 h6 => ?_)
  have hq : r5 = r6 ∧ RelB i v5 u6 := qq_digest h hM hfin hP16 h5 h6
  refine J_lcmp (pc' := 594) F dL_law_593 rfl ?_
  refine J_if_eq (tgt := 599) (pc' := 597) F dL_law_594 (by decide) rfl (fun _ => kk v5 u6 (hq.2.up (by omega))) (fun c9 => absurd (cmp_same hq.1) c9)
set_option maxHeartbeats 4000000 in
set_option maxRecDepth 100000 in
theorem lc_ga {X : jX} {cI cZ : ClassId} {z gx gm : Nat → Nat} {b L k n i : Nat} {xs : Nat → Int32} {st : List Value} {ws : va_W} {w9 : Int32} (F : JF X cL_law RL cI cZ z) (hS : jScr X b L xs) (hL : L ≤ 2048) (hi : i + 4 ≤ L) (hw0 : xs (i + 1) = 0 → w9 = 0) (hw1 : ¬ xs (i + 1) = 0 → w9 = 1) (kk : J X true k n 278 [(0, .ref b), (1, .ref (gx 0)), (2, .ref (gm 0)), (3, .int (nI i))] (.int w9 :: st) ws) : J X true k n 265 [(0, .ref b), (1, .ref (gx 0)), (2, .ref (gm 0)), (3, .int (nI i))] st ws := by
  refine J_aload_n (pc' := 266) (q := 0) F dL_law_265 rfl rfl ?_
  refine J_iload_n (pc' := 267) (q := 3) F dL_law_266 rfl rfl ?_
  refine J_iconst (pc' := 268) (v := 1) F dL_law_267 (by decide) rfl ?_
  refine J_iadd (pc' := 269) F dL_law_268 rfl ?_
  refine J_vali (y := nI (i + 1)) (nI_add i 1) ?_
  refine J_scr (j := i + 1) (pc' := 270) F hS dL_law_269 (by omega) hL rfl ?_
  refine J_if_eq (tgt := 277) (pc' := 273) F dL_law_270 (by decide) rfl (fun c => ?_) (fun c => ?_)
  · refine J_iconst (pc' := 278) (v := 0) F dL_law_277 (by decide) rfl ?_
    refine J_vali (y := w9) (hw0 c).symm ?_
    exact kk
  · refine J_iconst (pc' := 274) (v := 1) F dL_law_273 (by decide) rfl ?_
    refine J_goto (tgt := 278) F dL_law_274 (by decide) ?_
    refine J_vali (y := w9) (hw1 c).symm ?_
    exact kk
set_option maxHeartbeats 4000000 in
set_option maxRecDepth 100000 in
theorem lc_gb {X : jX} {cI cZ : ClassId} {z gx gm : Nat → Nat} {b L k n i : Nat} {xs : Nat → Int32} {st : List Value} {ws : va_W} {w9 : Int32} (F : JF X cL_law RL cI cZ z) (hS : jScr X b L xs) (hL : L ≤ 2048) (hi : i + 4 ≤ L) (hw0 : xs (i + 1) = 0 → w9 = 0) (hw1 : ¬ xs (i + 1) = 0 → w9 = 1) (kk : J X true k n 295 [(0, .ref b), (1, .ref (gx 0)), (2, .ref (gm 0)), (3, .int (nI i))] (.int w9 :: st) ws) : J X true k n 282 [(0, .ref b), (1, .ref (gx 0)), (2, .ref (gm 0)), (3, .int (nI i))] st ws := by
  refine J_aload_n (pc' := 283) (q := 0) F dL_law_282 rfl rfl ?_
  refine J_iload_n (pc' := 284) (q := 3) F dL_law_283 rfl rfl ?_
  refine J_iconst (pc' := 285) (v := 1) F dL_law_284 (by decide) rfl ?_
  refine J_iadd (pc' := 286) F dL_law_285 rfl ?_
  refine J_vali (y := nI (i + 1)) (nI_add i 1) ?_
  refine J_scr (j := i + 1) (pc' := 287) F hS dL_law_286 (by omega) hL rfl ?_
  refine J_if_eq (tgt := 294) (pc' := 290) F dL_law_287 (by decide) rfl (fun c => ?_) (fun c => ?_)
  · refine J_iconst (pc' := 295) (v := 0) F dL_law_294 (by decide) rfl ?_
    refine J_vali (y := w9) (hw0 c).symm ?_
    exact kk
  · refine J_iconst (pc' := 291) (v := 1) F dL_law_290 (by decide) rfl ?_
    refine J_goto (tgt := 295) F dL_law_291 (by decide) ?_
    refine J_vali (y := w9) (hw1 c).symm ?_
    exact kk
set_option maxHeartbeats 4000000 in
set_option maxRecDepth 100000 in
theorem lc_ground {X : jX} {l : Launch} {D : va_G} {cI cZ : ClassId} {z gx gm : Nat → Nat} {b L k n i : Nat} {xs : Nat → Int32} {sc : Nat → Int32} {ar : Nat → Nat → Int32} {mc : Nat → Int32} {mr : Nat → Nat → Int32} {hs : Int64} (F : JF X cL_law RL cI cZ z) (E : JE X l room_1 D 4) (hA : jA X) (hS : jScr X b L xs) (hk : k ≤ room_1.cells) (hn : n ≤ room_1.slots) (hL : L ≤ 2048) (hi : i + 4 ≤ L) (h : RelB i (sc, ar) (mc, mr, hs)) (kk : ∀ (v : uC) (u : uM), RelB (i + 4) v u → J X true k n 599 [(0, .ref b), (1, .ref (gx 0)), (2, .ref (gm 0)), (3, .int (nI i))] [] (wC cI gx v.1 v.2 ++ wM cI cZ gm u.1 u.2.1 u.2.2)) : J X true k n 264 [(0, .ref b), (1, .ref (gx 0)), (2, .ref (gm 0)), (3, .int (nI i))] [] (wC cI gx sc ar ++ wM cI cZ gm mc mr hs) := by
  obtain ⟨w9, hz9, hw0, hw1⟩ : ∃ w : Int32, (w = 0 ∨ w = 1) ∧ (xs (i + 1) = 0 → w = 0) ∧ (¬ xs (i + 1) = 0 → w = 1) := by
    by_cases c : xs (i + 1) = 0
    · exact ⟨0, Or.inl rfl, fun _ => rfl, fun q => absurd c q⟩
    · exact ⟨1, Or.inr rfl, fun q => absurd q c, fun _ => rfl⟩
  refine J_aload_n (pc' := 265) (q := 1) F dL_law_264 rfl rfl ?_
  refine lc_ga F hS hL hi hw0 hw1 ?_
  refine J_goWi (wf := (fC cI gx)) (w0 := (wC cI gx sc ar)) (av := [.ref (gx 0), .int w9]) (rest := []) (pc' := 281) (fun u => wC cI gx u.1 u.2 ++ wM cI cZ gm mc mr hs) F E hA (fun _ h => jPl h) jDl jAl (fun u => jovL) (fun H locs hI hp => jrun_V (As := [.int w9]) 0 F E (c_X5_ground l D cI cZ z gx sc ar w9 hz9 H.size) kw_371 kw_372 kw_373 rfl kw_374 kw_1 oX5_ground ⟨⟨rfl, rfl⟩, ⟨(Nat.le_of_ble_eq_true rfl), (Nat.le_of_ble_eq_true rfl)⟩, hk, hn⟩ rfl rfl (Nat.le_of_ble_eq_true rfl) dL_law_278 rfl rfl (jI_P E hI) hp) rfl (fun r5 v5 h5 => ?_)
  refine J_aload_n (pc' := 282) (q := 2) F dL_law_281 rfl rfl ?_
  refine lc_gb F hS hL hi hw0 hw1 ?_
  refine J_goWi (wf := (fM cI cZ gm)) (w0 := (wM cI cZ gm mc mr hs)) (av := [.ref (gm 0), .int w9]) (rest := [.int r5]) (pc' := 298) (fun u => wC cI gx v5.1 v5.2 ++ wM cI cZ gm u.1 u.2.1 u.2.2) F E hA (fun _ h => jPr h) jDr jAr (fun u => jovR) (fun H locs hI hp => jrun_V (As := [.int w9]) 19 F E (c_X6_ground l D cI cZ z gm mc mr hs w9 H.size) kw_733 kw_734 kw_735 rfl kw_736 kw_7 oX6_ground ⟨⟨rfl, rfl⟩, ⟨(Nat.le_of_ble_eq_true rfl), (Nat.le_of_ble_eq_true rfl)⟩, hk, hn⟩ rfl rfl (Nat.le_of_ble_eq_true rfl) dL_law_295 rfl rfl (jI_P E hI) hp) rfl (fun r6 u6 h6 => ?_)
  have hq : RQ (i) (r5, v5) (r6, u6) := by rw [h5, h6]; exact q_ground hz9 h
  refine J_icmp_eq (tgt := 599) (pc' := 301) F dL_law_298 (by decide) rfl (fun _ => kk v5 u6 (hq.2.up (by omega))) (fun c9 => absurd hq.1 c9)
