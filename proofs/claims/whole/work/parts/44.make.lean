/-! what is made: new rows and new objects, constructors and calls of them -/
def jNm (X : jX) : Prop :=
  match X with
  | (_, _, _, _, _, _, _, _, meth, _, _, _, _, _) => meth.name = "<init>"
theorem J_newI {X : jX} {k n pc pc' : Nat} {lv : List (Nat × Value)} {st : List Value} {ws : va_W} {cc : ByteArray} {own : String} {cI cZ : ClassId} {z : Nat → Nat} {l0 : Launch} {rm0 : Room} {D0 : va_G} {nl : Nat} {x : Int32} (N : Nat) (F : JF X cc own cI cZ z) (E : JE X l0 rm0 D0 nl) (hA : jA X) (hd : decode cc pc = .ok (.newarray .int, 2)) (ha : Cond.arrayClass .int ∈ wsG) (hn0 : ¬ x < 0) (hN : x.toNatClampNeg = N) (hby : N * 4 ≤ 536870912) (h1 : k + 1 ≤ rm0.cells) (h2 : n + N ≤ rm0.slots) (hn : pc + 2 = pc') (kk : ∀ q : Nat, J X true (k + 1) (n + N) pc' lv (.ref q :: st) (ws ++ [(q, .inl (cI, N, .inl (fun _ => 0)))])) : J X true k n pc lv (.int x :: st) ws := by
  obtain ⟨p, l, e, R, s, m, args, below, meth, c, Q, A, D, nL⟩ := X
  obtain ⟨hx, hb, hml, hown, hts, hlk, hK, hZ⟩ := F
  obtain ⟨rfl, rfl, rfl, rfl⟩ := E
  subst hn
  intro H locs ls hI hl
  refine va_newa (atype := .int) (ty := .int) (a0 := (N, .inl (fun _ => 0))) hx hb (hts _ ha) rfl hK hI.1 hI.2.1 hI.2.2 hA (fun _ => rfl) hn0 hN hby h1 h2 hd (fun q cA H1 hK1 hP1 hD1 hS1 => ?_)
  have e9 : cA = cI := Option.some.inj ((hK1.2 2 (cA, .int) rfl).2.symm.trans (hK.2 0 (cI, .int) rfl).2)
  subst e9
  exact kk q H1 locs ls ⟨hP1, hD1, hS1⟩ hl
theorem J_newZ {X : jX} {k n pc pc' : Nat} {lv : List (Nat × Value)} {st : List Value} {ws : va_W} {cc : ByteArray} {own : String} {cI cZ : ClassId} {z : Nat → Nat} {l0 : Launch} {rm0 : Room} {D0 : va_G} {nl : Nat} {x : Int32} (N : Nat) (F : JF X cc own cI cZ z) (E : JE X l0 rm0 D0 nl) (hA : jA X) (hd : decode cc pc = .ok (.newarray .boolean, 2)) (ha : Cond.arrayClass .boolean ∈ wsG) (hn0 : ¬ x < 0) (hN : x.toNatClampNeg = N) (hby : N * 1 ≤ 536870912) (h1 : k + 1 ≤ rm0.cells) (h2 : n + N ≤ rm0.slots) (hn : pc + 2 = pc') (kk : ∀ q : Nat, J X true (k + 1) (n + N) pc' lv (.ref q :: st) (ws ++ [(q, .inl (cZ, N, .inl (fun _ => 0)))])) : J X true k n pc lv (.int x :: st) ws := by
  obtain ⟨p, l, e, R, s, m, args, below, meth, c, Q, A, D, nL⟩ := X
  obtain ⟨hx, hb, hml, hown, hts, hlk, hK, hZ⟩ := F
  obtain ⟨rfl, rfl, rfl, rfl⟩ := E
  subst hn
  intro H locs ls hI hl
  refine va_newa (atype := .boolean) (ty := .boolean) (a0 := (N, .inl (fun _ => 0))) hx hb (hts _ ha) rfl hK hI.1 hI.2.1 hI.2.2 hA (fun _ => rfl) hn0 hN hby h1 h2 hd (fun q cA H1 hK1 hP1 hD1 hS1 => ?_)
  have e9 : cA = cZ := Option.some.inj ((hK1.2 2 (cA, .boolean) rfl).2.symm.trans (hK.2 1 (cZ, .boolean) rfl).2)
  subst e9
  exact kk q H1 locs ls ⟨hP1, hD1, hS1⟩ hl
theorem J_newC {X : jX} {k n pc pc' : Nat} {lv : List (Nat × Value)} {st : List Value} {ws : va_W} {cc : ByteArray} {own : String} {cI cZ : ClassId} {z : Nat → Nat} {l0 : Launch} {rm0 : Room} {D0 : va_G} {nl : Nat} {C : String} {T : u_T} {N ci index : Nat} {fs : List Value} (F : JF X cc own cI cZ z) (E : JE X l0 rm0 D0 nl) (hA : jA X) (hd : decode cc pc = .ok (.new index, 3)) (hin : ∀ w ∈ u_ws C T N, w ∈ wsG) (ty : Nat → FieldType) (hty : ∀ k, k < N → parseFieldDescriptor (T k).2.2.1 = some (ty k)) (hcl : Cond.classLink own index C ∈ wsG) (hinst : Cond.instantiable C N ∈ wsG) (hini : Cond.initialized C ∈ wsG) (hc : vwCl[ci]? = some (C, T, N)) (hfs : ∀ j, j < N → defaultValue (ty j) = vp_V fs j) (h1 : k + 1 ≤ rm0.cells) (h2 : n + N ≤ rm0.slots) (hn : pc + 3 = pc') (kk : ∀ q : Nat, J X true (k + 1) (n + N) pc' lv (.ref q :: st) (ws ++ [(q, .inr (ci, fs))])) : J X true k n pc lv st ws := by
  obtain ⟨p, l, e, R, s, m, args, below, meth, c, Q, A, D, nL⟩ := X
  obtain ⟨hx, hb, hml, hown, hts, hlk, hK, hZ⟩ := F
  obtain ⟨rfl, rfl, rfl, rfl⟩ := E
  subst hn
  intro H locs ls hI hl
  exact va_new hx hb hts hin ty hty hown (hts _ hcl) (hts _ hinst) (hts _ hini) hK hI.1 hI.2.1 hI.2.2 hA hc hfs h1 h2 hd (fun q H1 hP1 hD1 hS1 => kk q H1 locs ls ⟨hP1, hD1, hS1⟩ hl)
theorem J_putF {X : jX} {k n pc pc' : Nat} {lv : List (Nat × Value)} {st : List Value} {ws : va_W} {cc : ByteArray} {own : String} {cI cZ : ClassId} {z : Nat → Nat} {ref C : String} {T : u_T} {N ci index a : Nat} {fs : List Value} {v : Value} {ty : FieldType} {ws' : va_W} (q0 kf : Nat) (F : JF X cc own cI cZ z) (hNm : jNm X) (hd : decode cc pc = .ok (.putfield index, 3)) (hin : ∀ w ∈ u_ws C T N, w ∈ wsG) (ty0 : Nat → FieldType) (hty : ∀ k, k < N → parseFieldDescriptor (T k).2.2.1 = some (ty0 k)) (hnm : ∀ a1, a1 < N → ∀ b1, b1 < N → a1 ≠ b1 → (T a1).2.1 ≠ (T b1).2.1) (he : ws[q0]? = some (a, .inr (ci, fs))) (hc : vwCl[ci]? = some (C, T, N)) (hk : kf < N) (hr : (T kf).1 = ref) (hlink : Cond.fieldLink own index ref (T kf).2.1 (T kf).2.2.1 ∈ wsG) (hfin : (T kf).2.2.2 = true) (hdecl : (T kf).1 = own) (hdt : parseFieldDescriptor (T kf).2.2.1 = some ty) (hnar : narrow ty v = v) (hfit : fits ty v = true) (hlen : kf < fs.length) (hws : ws.set q0 (a, .inr (ci, fs.set kf v)) = ws') (hn : pc + 3 = pc') (kk : J X true k n pc' lv st ws') : J X true k n pc lv (v :: .ref a :: st) ws := by
  obtain ⟨p, l, e, R, s, m, args, below, meth, c, Q, A, D, nL⟩ := X
  obtain ⟨hx, hb, hml, hown, hts, hlk, hK, hZ⟩ := F
  subst hn; subst hws
  exact fun H locs ls hI hl => va_putF hx hb hts hin ty0 hty hnm hown hK hI.1 hI.2.1 hI.2.2 q0 he hc kf hk (hts _ hlink) (fun x h => by rw [← hr]; exact h) hfin hNm hdecl hdt hnar hfit hlen hd (fun H1 locs1 h1 h2 h3 => kk H1 locs1 ls ⟨h1, h2, h3⟩ hl)
theorem J_objInit {X : jX} {k n pc pc' : Nat} {lv : List (Nat × Value)} {st : List Value} {ws : va_W} {cc : ByteArray} {own : String} {cI cZ : ClassId} {z : Nat → Nat} {l0 : Launch} {rm0 : Room} {D0 : va_G} {nl : Nat} {b : Bool} {a idx : Nat} (F : JF X cc own cI cZ z) (E : JE X l0 rm0 D0 nl) (hd : decode cc pc = .ok (.invokespecial idx, 3)) (h1 : Cond.methodLink own idx Lib.objectInit ∈ wsG) (h2 : Cond.instanceMethod Lib.objectInit ∈ wsG) (h3 : Cond.code Lib.objectInit ⟨#[0xb1]⟩ 1 none ∈ wsG) (h5 : 1 ≤ rm0.frames) (h6 : (st.map fun v => v.category).sum + 12 ≤ rm0.locals) (hn : pc + 3 = pc') (kk : J X b k n pc' lv st ws) : J X b k n pc lv (.ref a :: st) ws := by
  obtain ⟨p, l, e, R, s, m, args, below, meth, c, Q, A, D, nL⟩ := X
  obtain ⟨hx, hb, hml, hown, hts, hlk, hK, hZ⟩ := F
  obtain ⟨rfl, rfl, rfl, rfl⟩ := E
  subst hn
  intro H locs ls hI hl
  refine W.objInit hx hb hown (hts _ h1) (hts _ h2) (hts _ h3) (g := F0 m pc ls (.ref a :: st)) rfl (hl.1.trans hml.symm) rfl hd h5 (by show 2 * 0 + _ + 12 ≤ _; omega) ?_
  exact kk H locs ls hI hl
/-- a constructor: it makes mc cells of ms slots -/
def cNv {σ : Type} (l : Launch) (y : MethodName) (ws : List Cond) (rm : Room) (D : va_G) (cI cZ : ClassId) (z : Nat → Nat) (wf : σ → va_W) (w0 : va_W) (av : List Value) (post : σ → Prop) (mc ms : Nat) : Prop := ∀ sz : Nat, Met l y ws rm (jPcW D cI cZ z w0 sz av) (va_Qv post (jBW D wf w0 sz) (va_A w0 sz)) mc ms (va_A w0 sz)
def JNv {σ : Type} (X : jX) (wf : σ → va_W) (w0 : va_W) (post : σ → Prop) (mc ms : Nat) : Prop :=
  match X with
  | (_, _, _, _, s, _, args, below, meth, _, Q, A, D, _) => Q = MQ below (va_Qv post (jBW D wf w0 s.heap.size) (va_A w0 s.heap.size)) args s mc ms (va_A w0 s.heap.size) ∧ meth.sig.returnType = none ∧ A = va_A w0 s.heap.size
theorem cNv.of {l : Launch} {y : MethodName} {cc : ByteArray} {maxL : Nat} {ws : List Cond} {rm : Room} {D : va_G} {cI cZ : ClassId} {z : Nat → Nat} {av : List Value} {σ : Type} {wf : σ → va_W} {w0 : va_W} {post : σ → Prop} {mc ms : Nat} (hy : plainName y.cls = true) (hyn : y.name = "<init>") (hw0 : ws = Cond.code y cc maxL none :: wsG) (hlen : (lg_sl av).length ≤ maxL) (body : ∀ X : jX, JF X cc y.cls cI cZ z → JE X l rm D maxL → jA X → jNm X → JNv X wf w0 post mc ms → J X true 0 0 0 (lv_args 0 av) [] w0) : cNv l y ws rm D cI cZ z wf w0 av post mc ms := by
  intro sz
  refine Met.ofW (cc := cc) (maxL := maxL) (ret := none) hy hw0 ?_
  intro p e s m args below meth c s₁ B hml hv
  obtain ⟨rfl, hsz, hP, hK, hD, hZ⟩ := hv
  subst hsz
  have hts := atoms_spec (ws := ws) B.pre
  have hown : s.vm.findClass y.cls = some m.cls := findClass_of_methodNamed B.named
  have hin : meth.name = "<init>" := (name_of_methodNamed B.named B.method).1.trans hyn
  rw [lg_entry_eq]
  exact body (p, l, e, (headSpec ws rm).room, s, m, av.toArray, below, meth, c, _, va_A w0 s.heap.size, D, maxL) ⟨B.exec, B.bytes, hml, hown, (fun w hw => hts w (by rw [hw0]; exact List.mem_cons_of_mem _ hw)), B.notSynchronized, hK, hZ⟩ ⟨rfl, rfl, rfl, rfl⟩ (fun q h => Or.inr h) hin ⟨rfl, B.returns, rfl⟩ s.heap [] _ ⟨hP, hD.self, va_S.rf⟩ (lv_entry av hlen)
theorem J_vretN {X : jX} {k n pc : Nat} {lv : List (Nat × Value)} {ws : va_W} {cc : ByteArray} {own : String} {cI cZ : ClassId} {z : Nat → Nat} {σ : Type} {wf : σ → va_W} {w0 : va_W} {post : σ → Prop} {mc ms : Nat} (u : σ) (F : JF X cc own cI cZ z) (hR : JNv X wf w0 post mc ms) (hd : decode cc pc = .ok (.return_, 1)) (hk : k = mc) (hm : n = ms) (hws : ws = wf u) (hp : post u) : J X true k n pc lv [] ws := by
  obtain ⟨p, l, e, R, s, m, args, below, meth, c, Q, A, D, nL⟩ := X
  obtain ⟨hx, hb, hml, hown, hts, hlk, hK, hZ⟩ := F
  subst hk hm
  obtain ⟨rfl, hr, rfl⟩ := hR
  subst hws
  intro H locs ls hI hl
  obtain ⟨hP, hD, hS⟩ := hI
  exact W.vret hx hb hr (fun t ht hW => ⟨⟨u, rfl, hp, by rw [ht]; exact hP, hD⟩, hS.F ht⟩) hS.2.2 hd hlk
def jRunN (X : jX) (k n mc ms pc : Nat) (lv : List (Nat × Value)) (st : List Value) (H : Heap) (locs : List Loc) (rest : List Value) (Qa : State → Outcome → State → Prop) (free : Addr → Prop) : Prop :=
  match X with
  | (p, l, e, R, s, m, args, below, meth, c, _, _, _, nL) => ∀ ls : Array Slot, lv_has ls nL lv → va_Run p l e R s m args below meth c H locs k n mc ms (F0 m pc ls st) rest Qa free
def jRoomN (rm rm0 : Room) (maxL k n mc ms : Nat) : Prop := (rm.cells = mc ∧ rm.slots = ms) ∧ (rm.frames + 1 ≤ rm0.frames ∧ 8 + (maxL + 11) + rm.locals ≤ rm0.locals) ∧ k + mc ≤ rm0.cells ∧ n + ms ≤ rm0.slots
theorem jrun_I {X : jX} {k n pc : Nat} {lv : List (Nat × Value)} {st : List Value} {cc : ByteArray} {own : String} {cI cZ : ClassId} {z : Nat → Nat} {y : MethodName} {bytes : ByteArray} {maxL nl index mc ms : Nat} {wsc : List Cond} {rm rm0 : Room} {l : Launch} {D : va_G} {Pc : Array Value → State → Prop} {Qc : Array Value → State → Outcome → State → Prop} {free : Addr → Prop} {av rest As : List Value} {a : Nat} {H : Heap} {locs : List Loc} (F : JF X cc own cI cZ z) (E : JE X l rm0 D nl) (hM : Met l y wsc rm Pc Qc mc ms free) (hyn : y.name = "<init>") (hlk2 : Cond.methodLink own index y ∈ wsG) (hin : Cond.instanceMethod y ∈ wsG) (hw : wsc = Cond.code y bytes maxL none :: wsG) (hcd : Cond.code y bytes maxL none ∈ wsG) (hi : Cond.initialized y.cls ∈ wsG) (ho : jOut y As.length) (hr : jRoomN rm rm0 maxL k n mc ms) (hav : av = .ref a :: As) (hst : st = As.reverse ++ .ref a :: rest) (hrest : (rest.map fun v => v.category).sum ≤ 8) (hd : decode cc pc = .ok (.invokespecial index, 3)) (hp : jPre X H Pc av) : jRunN X k n mc ms pc lv st H locs rest (Qc av.toArray) free := by
  obtain ⟨p, l, e, R, s, m, args, below, meth, c, Q, A, D, nL⟩ := X
  obtain ⟨hx, hb, hml, hown, hts, hlk, hK, hZ⟩ := F
  obtain ⟨rfl, rfl, rfl, rfl⟩ := E
  subst hav
  obtain ⟨⟨r1, r2⟩, r3, r4, r5⟩ := hr
  intro ls hl
  exact va_runI ⟨hx, hb, hml, hown, hts⟩ hM ⟨callB_of As.length hts (jgood hw hcd) hw r1 r2 (hts _ hi) (hts _ hlk2) ho r3, hyn, hts _ hin⟩ hp rfl rfl hl.1 hst (lv_room hrest) hd ⟨r4, r5⟩
theorem jrun_IN {X : jX} {k n pc : Nat} {lv : List (Nat × Value)} {st : List Value} {cc : ByteArray} {own : String} {cI cZ : ClassId} {z : Nat → Nat} {y : MethodName} {bytes : ByteArray} {maxL nl index mc ms : Nat} {wsc : List Cond} {rm rm0 : Room} {l : Launch} {D : va_G} {Pc : Array Value → State → Prop} {Qc : Array Value → State → Outcome → State → Prop} {free : Addr → Prop} {av rest As : List Value} {a : Nat} {H : Heap} {locs : List Loc} (F : JF X cc own cI cZ z) (E : JE X l rm0 D nl) (hM : Met l y wsc rm Pc Qc mc ms free) (hyn : y.name = "<init>") (hm : (own, index, y) ∈ jNM) (hin : Cond.instanceMethod y ∈ wsG) (hw : wsc = Cond.code y bytes maxL none :: wsG) (hcd : Cond.code y bytes maxL none ∈ wsG) (hi : Cond.initialized y.cls ∈ wsG) (ho : jOut y As.length) (hr : jRoomN rm rm0 maxL k n mc ms) (hav : av = .ref a :: As) (hst : st = As.reverse ++ .ref a :: rest) (hrest : (rest.map fun v => v.category).sum ≤ 8) (hd : decode cc pc = .ok (.invokespecial index, 3)) (hp : jPre X H Pc av) : jRunN X k n mc ms pc lv st H locs rest (Qc av.toArray) free := by
  obtain ⟨p, l, e, R, s, m, args, below, meth, c, Q, A, D, nL⟩ := X
  obtain ⟨hx, hb, hml, hown, hts, hlk, hK, hZ⟩ := F
  obtain ⟨rfl, rfl, rfl, rfl⟩ := E
  subst hav
  obtain ⟨⟨r1, r2⟩, r3, r4, r5⟩ := hr
  intro ls hl
  exact va_runIN ⟨hx, hb, hml, hown, hts⟩ hM ⟨va_cnB As.length hts (jgood hw hcd) hw r1 r2 (hZ.1 _ hm) (hts _ hi) ho r3, hyn, hts _ hin⟩ hp rfl rfl hl.1 hst (lv_room hrest) hd ⟨r4, r5⟩
theorem J_goN {X : jX} {k n pc pc' : Nat} {lv : List (Nat × Value)} {st : List Value} {ws : va_W} {cc : ByteArray} {own : String} {cI cZ : ClassId} {z : Nat → Nat} {l : Launch} {rm0 : Room} {D : va_G} {nl : Nat} {σ : Type} {wf : σ → va_W} {w0 : va_W} {av rest : List Value} {post : σ → Prop} {mc ms : Nat} (ws' : σ → va_W) (F : JF X cc own cI cZ z) (E : JE X l rm0 D nl) (hA : jA X) (hs : ∀ H : Heap, va_P D vwCl ws H → va_P D vwCl w0 H) (hsD : va_D (fun _ => True) ws → va_D (fun _ => True) w0) (hsA : jsubA w0 ws) (hov : ∀ u : σ, jOver D ws w0 (wf u) (ws' u)) (hrun : ∀ (H : Heap) (locs : List Loc), jI X true ws H locs → jPre X H (jPcW D cI cZ z w0 H.size av) av → jRunN X k n mc ms pc lv st H locs rest (va_Qv post (jBW D wf w0 H.size) (va_A w0 H.size) av.toArray) (va_A w0 H.size)) (hn : pc + 3 = pc') (kk : ∀ u : σ, post u → J X true (k + mc) (n + ms) pc' lv rest (ws' u)) : J X true k n pc lv st ws := by
  have hpre := fun (H : Heap) (locs : List Loc) (hI : jI X true ws H locs) => jpre_W (av := av) F E hA (hs H) hsD hsA hI
  obtain ⟨p, l', e, R, s, m, args, below, meth, c, Q, A, D', nL⟩ := X
  obtain ⟨rfl, rfl, rfl, rfl⟩ := E
  subst hn
  intro H locs ls hI hl
  have hF := hA.of hI hsA
  refine va_callv (hrun H locs hI (hpre H locs hI) ls hl) hI.2.2 (fun q _ h => hF q h) hF (fun u t H1 locs1 ht hvm hw hB hz1 hk1 hS1 => ?_)
  subst ht
  obtain ⟨a1, a2⟩ := hov u A H t.heap hI.1 hI.2.1 hk1 hF hB.1 hB.2
  exact kk u hw t.heap locs1 ls ⟨a1, a2, hS1⟩ hl
theorem jlast_P {D : va_G} {a : va_W} {q : Nat × va_E} {H : Heap} (h : va_P D vwCl (a ++ [q]) H) : va_P D vwCl [q] H := by
  intro k x hx
  match k, hx with
  | 0, hx => exact h a.length x (by rw [List.getElem?_append_right (Nat.le_refl _), Nat.sub_self]; exact hx)
theorem jlast_D {A : Nat → Prop} {a : va_W} {q : Nat × va_E} (h : va_D A (a ++ [q])) : va_D A [q] := by
  refine ⟨fun i j p r hp hr _ => ?_, fun k x hx => ?_⟩
  · have h1 := (List.getElem?_eq_some_iff.mp hp).1
    have h2 := (List.getElem?_eq_some_iff.mp hr).1
    simp only [List.length_cons, List.length_nil] at h1 h2
    omega
  · match k, hx with
    | 0, hx => exact h.2 a.length x (by rw [List.getElem?_append_right (Nat.le_refl _), Nat.sub_self]; exact hx)
theorem jlast_A {a : va_W} {q : Nat × va_E} : jsubA [q] (a ++ [q]) := by
  intro i x hx
  match i, hx with
  | 0, hx => exact ⟨a.length, x, by rw [List.getElem?_append_right (Nat.le_refl _), Nat.sub_self]; exact hx, rfl⟩
