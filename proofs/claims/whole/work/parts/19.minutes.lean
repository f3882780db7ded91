/-! the class's search minute by minute: its invariant, step by step -/
def actN (k : Nat) : Nat := ([0, 1, 2, 3, 4, 5, 7, 8, 12, 15, 18, 21, 22, 25, 26, 29, 32, 35, 39, 40] : List Nat).getD k 0
theorem jAct_N : ∀ k, k < 20 → jAct k = nI (actN k) := by decide +kernel
theorem actN_A : ∀ k, k < 20 → actN k < 42 ∧ isA (actN k) = true := by decide +kernel
theorem actN_all : ∀ a, a < 42 → isA a = true → ∃ k, k < 20 ∧ actN k = a := by
  have h : ∀ a, a < 42 → isA a = true → (List.range 20).any (fun k => decide (actN k = a)) = true := by decide +kernel
  intro a ha hA
  obtain ⟨k, hk, e⟩ := List.any_eq_true.mp (h a ha hA)
  exact ⟨k, List.mem_range.mp hk, of_decide_eq_true e⟩
theorem RP.m1 {E : Nat → Nat → Option Nat} {w : Nat → Nat} {s : Nat} : ∀ (k n v : Nat), RP E w s k n v (-1) → n = s
  | 0, n, v, h => h.1
  | k + 1, n, v, ⟨h, v', f', a, hk, ha, hA, he, _, hf⟩ => by
    by_cases e : h = s
    · rw [if_pos e] at hf; exact absurd hf.symm (nI_m1 (by omega))
    · rw [if_neg e] at hf
      subst hf
      exact absurd (RP.m1 k h v' hk) e
/-- the class tells the start by its first act, none -/
theorem Snd.labM {E : Nat → Nat → Option Nat} {w : Nat → Nat} {s : Nat} {m f : Nat → Int32} (h : Snd E w s m f) {c : Nat} (hc : c < 4096) (hd : m c ≠ -1) (a : Nat) : lab s f c a = if f c = -1 then nI a else f c := by
  unfold lab
  by_cases e : c = s
  · subst e; rw [if_pos rfl, if_pos h.2.2.1.2]
  · rw [if_neg e, if_neg]
    intro q
    obtain ⟨k, hk⟩ := (h.1 c hc hd).2
    rw [q] at hk
    exact e (RP.m1 k c _ hk)
def cW (wi : Nat → Int32) (j : Nat) : Nat := (wi j).toNatClampNeg
def mmS (u j : Nat) : Nat := u + (j + 5 - u % 5) % 5
def LqL (m wq wi : Nat → Int32) (u : Nat) : Prop := ∀ j, j < 5 → wi j = nI (cW wi j) ∧ cW wi j ≤ 4096 ∧ (∀ i, i < cW wi j → ∃ x, x < 4096 ∧ wq (j * 4096 + i) = nI x ∧ m x ≠ -1 ∧ Dn m x ≤ mmS u j) ∧ (∀ i i', i < cW wi j → i' < cW wi j → wq (j * 4096 + i) = wq (j * 4096 + i') → i = i') ∧ (0 < cW wi j → mmS u j + 4 ≤ 4 * ctD m)
def LqP (m wq wi : Nat → Int32) (lf : Nat → Bool) (u i0 c : Nat) : Prop := ∀ x, x < 4096 → m x ≠ -1 → lf x = false → x ≠ c → u ≤ Dn m x ∧ Dn m x ≤ u + 4 ∧ ∃ i, i < cW wi (Dn m x % 5) ∧ wq (Dn m x % 5 * 4096 + i) = nI x ∧ (Dn m x = u → i0 ≤ i)
def LqF (E : Nat → Nat → Option Nat) (w : Nat → Nat) (s : Nat) (m f wq : Nat → Int32) (lf : Nat → Bool) (u i0 : Nat) : Prop := ∀ x, x < 4096 → lf x = true → m x ≠ -1 ∧ Cls E w s m f x ∧ (Dn m x < u ∨ (Dn m x = u ∧ ∃ i, i < i0 ∧ wq (u % 5 * 4096 + i) = nI x))
def LqI (E : Nat → Nat → Option Nat) (w : Nat → Nat) (s : Nat) (m f wq wi : Nat → Int32) (lf : Nat → Bool) (u i0 : Nat) : Prop := Snd E w s m f ∧ LqL m wq wi u ∧ LqP m wq wi lf u i0 4096 ∧ LqF E w s m f wq lf u i0
def LqA (E : Nat → Nat → Option Nat) (w : Nat → Nat) (s : Nat) (m f wq wi : Nat → Int32) (lf : Nat → Bool) (u p c k : Nat) : Prop := Snd E w s m f ∧ LqL m wq wi u ∧ LqP m wq wi lf u (p + 1) c ∧ LqF E w s m f wq lf u (p + 1) ∧ (c < 4096 ∧ m c = nI u ∧ u < 2 ^ 31 ∧ lf c = false ∧ p < cW wi (u % 5) ∧ wq (u % 5 * 4096 + p) = nI c) ∧ ∀ j t, j < k → E c (actN j) = some t → Rlx m f t (u + w (actN j)) (lab s f c (actN j))
theorem mmS_in (u j : Nat) : u ≤ mmS u j ∧ mmS u j ≤ u + 4 := by unfold mmS; omega
theorem mmS_mod {u j : Nat} (hj : j < 5) : mmS u j % 5 = j := by unfold mmS; omega
theorem mmS_of {u v : Nat} (h1 : u ≤ v) (h2 : v ≤ u + 4) : mmS u (v % 5) = v := by unfold mmS; omega
theorem LqI.stale {E : Nat → Nat → Option Nat} {w : Nat → Nat} {s : Nat} {m f wq wi : Nat → Int32} {lf : Nat → Bool} {u p c : Nat} (h : LqI E w s m f wq wi lf u p) (hc : c < 4096) (hq : wq (u % 5 * 4096 + p) = nI c) (hm : m c ≠ nI u) : LqI E w s m f wq wi lf u (p + 1) := by
  obtain ⟨a1, a2, a3, a4⟩ := h
  refine ⟨a1, a2, fun x hx hd hl hne => ?_, fun x hx hl => ?_⟩
  · obtain ⟨b1, b2, i, b3, b4, b5⟩ := a3 x hx hd hl hne
    refine ⟨b1, b2, i, b3, b4, fun e => ?_⟩
    have := b5 e
    by_cases ei : i = p
    · subst ei
      rw [e, hq] at b4
      have := (nI_eq (by omega) (by omega)).mp b4
      subst this
      rw [(a1.1 c hc hd).1, e] at hm
      exact absurd rfl hm
    · omega
  · obtain ⟨b1, b2, b3⟩ := a4 x hx hl
    refine ⟨b1, b2, b3.imp id (fun ⟨e, i, hi, q⟩ => ⟨e, i, by omega, q⟩)⟩
theorem LqI.take {E : Nat → Nat → Option Nat} {w : Nat → Nat} {s : Nat} {m f wq wi : Nat → Int32} {lf : Nat → Bool} {u p c : Nat} (h : LqI E w s m f wq wi lf u p) (hp : p < cW wi (u % 5)) (hc : c < 4096) (hq : wq (u % 5 * 4096 + p) = nI c) (hm : m c = nI u) (hu : u < 2 ^ 31) : LqA E w s m f wq wi lf u p c 0 := by
  obtain ⟨a1, a2, a3, a4⟩ := h
  have hd : m c ≠ -1 := by rw [hm]; exact nI_m1 hu
  have hD : Dn m c = u := by unfold Dn; rw [hm, nI_clamp hu]
  have hlc : lf c = false := by
    cases e : lf c with
    | false => rfl
    | true =>
      exfalso
      rcases (a4 c hc e).2.2 with q | ⟨-, i, hi, q⟩
      · omega
      · have := (a2 (u % 5) (Nat.mod_lt _ (by decide))).2.2.2.1 i p (by omega) hp (by rw [q, hq])
        omega
  refine ⟨a1, a2, fun x hx hdx hl hne => ?_, fun x hx hl => ?_, ⟨hc, hm, hu, hlc, hp, hq⟩, fun j t hj => absurd hj (Nat.not_lt_zero _)⟩
  · obtain ⟨b1, b2, i, b3, b4, b5⟩ := a3 x hx hdx hl (by omega)
    refine ⟨b1, b2, i, b3, b4, fun e => ?_⟩
    have := b5 e
    by_cases ei : i = p
    · subst ei
      rw [e, hq] at b4
      exact absurd ((nI_eq (by omega) (by omega)).mp b4).symm hne
    · omega
  · obtain ⟨b1, b2, b3⟩ := a4 x hx hl
    refine ⟨b1, b2, b3.imp id (fun ⟨e, i, hi, q⟩ => ⟨e, i, by omega, q⟩)⟩
theorem LqA.skip {E : Nat → Nat → Option Nat} {w : Nat → Nat} {s : Nat} {m f wq wi : Nat → Int32} {lf : Nat → Bool} {u p c k : Nat} (h : LqA E w s m f wq wi lf u p c k) (hn : E c (actN k) = none) : LqA E w s m f wq wi lf u p c (k + 1) := by
  obtain ⟨a1, a2, a3, a4, a5, a6⟩ := h
  refine ⟨a1, a2, a3, a4, a5, fun j t hj he => ?_⟩
  by_cases e : j = k
  · subst e; rw [hn] at he; cases he
  · exact a6 j t (by omega) he
theorem LqA.rlx {E : Nat → Nat → Option Nat} {w : Nat → Nat} {s : Nat} {m f wq wi : Nat → Int32} {lf : Nat → Bool} {u p c k t : Nat} (h : LqA E w s m f wq wi lf u p c k) (he : E c (actN k) = some t) (hr : Rlx m f t (u + w (actN k)) (lab s f c (actN k))) : LqA E w s m f wq wi lf u p c (k + 1) := by
  obtain ⟨a1, a2, a3, a4, a5, a6⟩ := h
  refine ⟨a1, a2, a3, a4, a5, fun j t' hj he' => ?_⟩
  by_cases e : j = k
  · subst e; rw [he] at he'; cases he'; exact hr
  · exact a6 j t' (by omega) he'
theorem LqL.room {m wq wi : Nat → Int32} {u j t : Nat} (h : LqL m wq wi u) (hj : j < 5) (ht : t < 4096) (hb : m t = -1 ∨ mmS u j < Dn m t) : cW wi j < 4096 := by
  obtain ⟨l1, l2, l3, l4, l5⟩ := h j hj
  rcases Nat.lt_or_ge (cW wi j) 4096 with r | r
  · exact r
  · exfalso
    have e : cW wi j = 4096 := by omega
    rw [e] at l3 l4
    have hx : ∀ i, i < 4096 → (wq (j * 4096 + i)).toNatClampNeg < 4096 ∧ (wq (j * 4096 + i)).toNatClampNeg ≠ t ∧ wq (j * 4096 + i) = nI (wq (j * 4096 + i)).toNatClampNeg := fun i hi => by
      obtain ⟨x, c1, c2, c3, c4⟩ := l3 i hi
      rw [c2, nI_clamp (by omega)]
      refine ⟨c1, fun e => ?_, rfl⟩
      subst e
      rcases hb with r | r
      · exact c3 r
      · omega
    obtain ⟨i, hi, e⟩ := fb_onto (n := 4096) (f := fun i => (wq (j * 4096 + i)).toNatClampNeg) (fun i hi => (hx i hi).1) (fun i i' hij hj' e => by
      have := l4 i i' (by omega) hj' (by rw [(hx i (by omega)).2.2, (hx i' hj').2.2]; exact congrArg nI e)
      omega) ht
    exact (hx i hi).2.1 e
/-- what every better entry keeps: soundness, what is left, what was relaxed -/
theorem LqA.put {E : Nat → Nat → Option Nat} {w : Nat → Nat} {s : Nat} (hG : Gr E w s) {m f wq wi : Nat → Int32} {lf : Nat → Bool} {u p c k t : Nat} (h : LqA E w s m f wq wi lf u p c k) (hk : k < 20) (he : E c (actN k) = some t) (hb : m t ≠ -1 → u + w (actN k) < Dn m t ∨ (u + w (actN k) = Dn m t ∧ lab s f c (actN k) ≤ f t)) {m' f' : Nat → Int32} (em : m' = upd m t (nI (u + w (actN k)))) (ef : f' = upd f t (lab s f c (actN k))) :
    t ≠ c ∧ t < 4096 ∧ (1 ≤ w (actN k) ∧ w (actN k) ≤ 4) ∧ u + w (actN k) < 2 ^ 31 ∧ u + 4 ≤ 4 * ctD m ∧ Snd E w s m' f' ∧ m' c = nI u ∧ (∀ wq', (∀ i, i < p + 1 → wq' (u % 5 * 4096 + i) = wq (u % 5 * 4096 + i)) → LqF E w s m' f' wq' lf u (p + 1)) ∧ lf t = false ∧ ∀ j t', j < k + 1 → E c (actN j) = some t' → Rlx m' f' t' (u + w (actN j)) (lab s f' c (actN j)) := by
  obtain ⟨a1, a2, a3, a4, ⟨a5, a6, hu, a7, a8, a9⟩, a10⟩ := h
  obtain ⟨hk1, hkA⟩ := actN_A k hk
  have ht := hG.2.1 c _ t a5 he
  have hw := hG.2.2 _ hk1 hkA
  have hcd : m c ≠ -1 := by rw [a6]; exact nI_m1 hu
  have hcD : Dn m c = u := by unfold Dn; rw [a6, nI_clamp hu]
  have hB := a1.2.2.2 c a5 hcd
  have hL := ctD_le m
  rw [hcD] at hB
  have hv : u + w (actN k) < 2 ^ 31 := by omega
  have htc : t ≠ c := by
    intro e
    subst e
    rcases hb hcd with r | r <;> omega
  have hlt : lf t = false := by
    cases e : lf t with
    | false => rfl
    | true =>
      exfalso
      obtain ⟨b1, -, b3⟩ := a4 t ht e
      rcases hb b1 with r | r <;> rcases b3 with q | ⟨q, -⟩ <;> omega
  have hS := a1.put hG a5 hcd hk1 hkA he (fun hd => by rw [hcD]; rcases hb hd with r | r <;> omega)
  rw [hcD] at hS
  subst em; subst ef
  have hlab : ∀ x a, x ≠ t → lab s (upd f t (lab s f c (actN k))) x a = lab s f x a := fun x a hx => by unfold lab; rw [pk_un hx]
  refine ⟨htc, ht, hw, hv, hB, hS, by rw [pk_un (Ne.symm htc)]; exact a6, fun wq' hwq x hx hl => ?_, hlt, fun j t' hj he' => ?_⟩
  · obtain ⟨b1, b2, b3⟩ := a4 x hx hl
    have hxt : x ≠ t := fun e => by rw [e, hlt] at hl; cases hl
    refine ⟨by rw [pk_un hxt]; exact b1, fun a t' ha hA he' => ?_, ?_⟩
    · rw [Dn_upd_ne hxt, hlab x a hxt]
      exact (b2 a t' ha hA he').put hv hb
    · rw [Dn_upd_ne hxt]
      exact b3.imp id (fun ⟨e, i, hi, q⟩ => ⟨e, i, hi, by rw [hwq i hi]; exact q⟩)
  · rw [hlab c _ (Ne.symm htc)]
    by_cases e : j = k
    · subst e; rw [he] at he'; cases he'; exact Rlx.self hv
    · exact (a10 j t' (by omega) he').put hv hb
theorem cW_upd_ne {wi : Nat → Int32} {j k : Nat} {x : Int32} (h : j ≠ k) : cW (upd wi k x) j = cW wi j := by unfold cW; rw [pk_un h]
theorem cW_upd_eq {wi : Nat → Int32} {k v : Nat} (hv : v < 2 ^ 31) : cW (upd wi k (nI v)) k = v := by unfold cW; rw [pk_us, nI_clamp hv]
theorem LqA.new {E : Nat → Nat → Option Nat} {w : Nat → Nat} {s : Nat} (hG : Gr E w s) {m f wq wi : Nat → Int32} {lf : Nat → Bool} {u p c k t : Nat} (h : LqA E w s m f wq wi lf u p c k) (hk : k < 20) (he : E c (actN k) = some t) (hb : m t ≠ -1 → u + w (actN k) < Dn m t) :
    cW wi ((u + w (actN k)) % 5) < 4096 ∧ LqA E w s (upd m t (nI (u + w (actN k)))) (upd f t (lab s f c (actN k))) (upd wq ((u + w (actN k)) % 5 * 4096 + cW wi ((u + w (actN k)) % 5)) (nI t)) (upd wi ((u + w (actN k)) % 5) (nI (cW wi ((u + w (actN k)) % 5) + 1))) lf u p c (k + 1) := by
  obtain ⟨b1, b2, b3, b4, hB, b5, b6, b7, b8, b9⟩ := h.put hG hk he (fun hd => Or.inl (hb hd)) rfl rfl
  obtain ⟨a1, a2, a3, a4, ⟨a5, a6, hu, a7, a8, a9⟩, a10⟩ := h
  generalize hve : u + w (actN k) = v at *
  have hj5 : v % 5 < 5 := Nat.mod_lt _ (by decide)
  have hjv : v % 5 ≠ u % 5 := by omega
  have hmv : mmS u (v % 5) = v := mmS_of (by omega) (by omega)
  have hroom : cW wi (v % 5) < 4096 := a2.room hj5 b2 (by
    by_cases q : m t = -1
    · exact Or.inl q
    · right; rw [hmv]; exact hb q)
  have hpos : ∀ j i, j < 5 → i < cW wi j → j * 4096 + i ≠ v % 5 * 4096 + cW wi (v % 5) := fun j i hj hi => by
    have := (a2 j hj).2.1
    by_cases e : j = v % 5
    · subst e; omega
    · omega
  have hctle : ctD m ≤ ctD (upd m t (nI v)) := by
    by_cases q : m t = -1
    · rw [ctD_new b2 b4 q]; omega
    · rw [ctD_same b4 q]; exact Nat.le_refl _
  have hkeep : ∀ x, m x ≠ -1 → upd m t (nI v) x ≠ -1 ∧ Dn (upd m t (nI v)) x ≤ Dn m x := fun x hx => by
    by_cases e : x = t
    · subst e; exact ⟨by rw [pk_us]; exact nI_m1 b4, by rw [Dn_upd_eq b4]; exact Nat.le_of_lt (hb hx)⟩
    · exact ⟨by rw [pk_un e]; exact hx, by rw [Dn_upd_ne e]; exact Nat.le_refl _⟩
  refine ⟨hroom, b5, fun j hj => ?_, fun x hx hd hl hne => ?_, b7 _ (fun i hi => pk_un (hpos (u % 5) i (Nat.mod_lt _ (by decide)) (by omega))), ⟨a5, b6, hu, a7, by rw [cW_upd_ne (Ne.symm hjv)]; exact a8, by rw [pk_un (hpos (u % 5) p (Nat.mod_lt _ (by decide)) a8)]; exact a9⟩, b9⟩
  · obtain ⟨l1, l2, l3, l4, l5⟩ := a2 j hj
    by_cases e : j = v % 5
    · subst e
      have hc1 : cW (upd wi (v % 5) (nI (cW wi (v % 5) + 1))) (v % 5) = cW wi (v % 5) + 1 := cW_upd_eq (by omega)
      rw [hc1]
      refine ⟨pk_us, by omega, fun i hi => ?_, fun i i' hi hi' q => ?_, fun _ => ?_⟩
      · by_cases ei : i = cW wi (v % 5)
        · subst ei
          exact ⟨t, b2, pk_us, by rw [pk_us]; exact nI_m1 b4, by rw [Dn_upd_eq b4, hmv]; exact Nat.le_refl _⟩
        · obtain ⟨x, c1, c2, c3, c4⟩ := l3 i (by omega)
          exact ⟨x, c1, by rw [pk_un (hpos _ i hj (by omega))]; exact c2, (hkeep x c3).1, Nat.le_trans (hkeep x c3).2 c4⟩
      · have hnt : ∀ i, i < cW wi (v % 5) → wq (v % 5 * 4096 + i) ≠ nI t := fun i hi q => by
          obtain ⟨x, c1, c2, c3, c4⟩ := l3 i hi
          rw [c2] at q
          have := (nI_eq (by omega) (by omega)).mp q
          subst this
          have := hb c3
          rw [hmv] at c4
          omega
        by_cases e1 : i = cW wi (v % 5)
        · by_cases e2 : i' = cW wi (v % 5)
          · omega
          · subst e1
            rw [pk_us, pk_un (hpos _ i' hj (by omega))] at q
            exact absurd q.symm (hnt i' (by omega))
        · by_cases e2 : i' = cW wi (v % 5)
          · subst e2
            rw [pk_us, pk_un (hpos _ i hj (by omega))] at q
            exact absurd q (hnt i (by omega))
          · rw [pk_un (hpos _ i hj (by omega)), pk_un (hpos _ i' hj (by omega))] at q
            exact l4 i i' (by omega) (by omega) q
      · rw [hmv]
        by_cases q : m t = -1
        · rw [ctD_new b2 b4 q]; omega
        · rw [ctD_same b4 q]
          have := a1.2.2.2 t b2 q
          have := hb q
          omega
    · rw [cW_upd_ne e, pk_un e]
      refine ⟨l1, l2, fun i hi => ?_, fun i i' hi hi' q => ?_, fun h0 => by have := l5 h0; omega⟩
      · obtain ⟨x, c1, c2, c3, c4⟩ := l3 i hi
        exact ⟨x, c1, by rw [pk_un (hpos _ i hj hi)]; exact c2, (hkeep x c3).1, Nat.le_trans (hkeep x c3).2 c4⟩
      · rw [pk_un (hpos _ i hj hi), pk_un (hpos _ i' hj hi')] at q
        exact l4 i i' hi hi' q
  · by_cases e : x = t
    · subst e
      rw [Dn_upd_eq b4]
      refine ⟨by omega, by omega, cW wi (v % 5), ?_, pk_us, fun q => by omega⟩
      rw [cW_upd_eq (by omega)]; omega
    · rw [pk_un e] at hd
      rw [Dn_upd_ne e]
      obtain ⟨c1, c2, i, c3, c4, c5⟩ := a3 x hx hd hl hne
      refine ⟨c1, c2, i, ?_, ?_, c5⟩
      · by_cases ej : Dn m x % 5 = v % 5
        · rw [ej, cW_upd_eq (by omega)]; rw [ej] at c3; omega
        · rw [cW_upd_ne ej]; exact c3
      · rw [pk_un (hpos _ i (Nat.mod_lt _ (by decide)) c3)]; exact c4
theorem LqA.first {E : Nat → Nat → Option Nat} {w : Nat → Nat} {s : Nat} (hG : Gr E w s) {m f wq wi : Nat → Int32} {lf : Nat → Bool} {u p c k t : Nat} (h : LqA E w s m f wq wi lf u p c k) (hk : k < 20) (he : E c (actN k) = some t) (hd : m t ≠ -1) (hv : u + w (actN k) = Dn m t) (hg : lab s f c (actN k) ≤ f t) : LqA E w s m (upd f t (lab s f c (actN k))) wq wi lf u p c (k + 1) := by
  have em : m = upd m t (nI (u + w (actN k))) := by
    funext x
    by_cases e : x = t
    · subst e
      obtain ⟨-, b2, -⟩ := h.put hG hk he (fun _ => Or.inr ⟨hv, hg⟩) rfl rfl
      rw [pk_us, hv]
      exact (h.1.1 x b2 hd).1
    · rw [pk_un e]
  obtain ⟨b1, b2, b3, b4, hB, b5, b6, b7, b8, b9⟩ := h.put hG hk he (fun _ => Or.inr ⟨hv, hg⟩) em rfl
  obtain ⟨a1, a2, a3, a4, ⟨a5, a6, hu, a7, a8, a9⟩, a10⟩ := h
  exact ⟨b5, a2, a3, b7 wq (fun _ _ => rfl), ⟨a5, a6, hu, a7, a8, a9⟩, b9⟩
theorem LqA.done {E : Nat → Nat → Option Nat} {w : Nat → Nat} {s : Nat} {m f wq wi : Nat → Int32} {lf : Nat → Bool} {u p c k : Nat} (h : LqA E w s m f wq wi lf u p c k) (hk : 20 ≤ k) : LqI E w s m f wq wi (va_up lf c true) u (p + 1) := by
  obtain ⟨a1, a2, a3, a4, ⟨a5, a6, hu, a7, a8, a9⟩, a10⟩ := h
  have hcD : Dn m c = u := by unfold Dn; rw [a6, nI_clamp hu]
  refine ⟨a1, a2, fun x hx hd hl hne => ?_, fun x hx hl => ?_⟩
  · by_cases e : x = c
    · subst e; unfold va_up at hl; rw [if_pos rfl] at hl; cases hl
    · rw [va_un e] at hl
      exact a3 x hx hd hl e
  · by_cases e : x = c
    · subst e
      refine ⟨by rw [a6]; exact nI_m1 hu, fun a t ha hA he => ?_, Or.inr ⟨hcD, p, by omega, a9⟩⟩
      obtain ⟨j, hj, ej⟩ := actN_all a ha hA
      subst ej
      rw [hcD]
      exact a10 j t (by omega) he
    · rw [va_un e] at hl
      exact a4 x hx hl
theorem LqI.next {E : Nat → Nat → Option Nat} {w : Nat → Nat} {s : Nat} {m f wq wi : Nat → Int32} {lf : Nat → Bool} {u p : Nat} (h : LqI E w s m f wq wi lf u p) (hp : cW wi (u % 5) ≤ p) : LqI E w s m f wq (upd wi (u % 5) 0) lf (u + 1) 0 := by
  obtain ⟨a1, a2, a3, a4⟩ := h
  have c0 : cW (upd wi (u % 5) 0) (u % 5) = 0 := by unfold cW; rw [pk_us]; rfl
  refine ⟨a1, fun j hj => ?_, fun x hx hd hl hne => ?_, fun x hx hl => ?_⟩
  · by_cases e : j = u % 5
    · subst e
      rw [c0]
      exact ⟨pk_us, by decide, fun i hi => absurd hi (Nat.not_lt_zero _), fun i i' hi => absurd hi (Nat.not_lt_zero _), fun q => absurd q (by decide)⟩
    · rw [cW_upd_ne e, pk_un e]
      have : mmS (u + 1) j = mmS u j := by unfold mmS; omega
      rw [this]
      exact a2 j hj
  · obtain ⟨c1, c2, i, c3, c4, c5⟩ := a3 x hx hd hl hne
    have hne' : Dn m x ≠ u := fun e => by
      have := c5 e
      rw [e] at c3
      omega
    refine ⟨by omega, by omega, i, ?_, c4, fun _ => Nat.zero_le _⟩
    rw [cW_upd_ne (show Dn m x % 5 ≠ u % 5 by omega)]
    exact c3
  · obtain ⟨b1, b2, b3⟩ := a4 x hx hl
    exact ⟨b1, b2, Or.inl (by rcases b3 with q | ⟨q, -⟩ <;> omega)⟩
theorem LqI.start {E : Nat → Nat → Option Nat} {w : Nat → Nat} {s : Nat} (hG : Gr E w s) {m f wq wi : Nat → Int32} (hm : ∀ n, n < 4096 → m n = -1) (hf : ∀ n, n < 4096 → f n = -1) (hw : ∀ j, j < 5 → wi j = 0) : LqI E w s (upd m s (nI 0)) (upd f s (-1)) (upd wq 0 (nI s)) (upd wi 0 (nI 1)) (fun _ => false) 0 0 := by
  have hs := hG.1
  have c1 : ctD (upd m s (nI 0)) = 1 := by
    have h0 : ctD m = 0 := by unfold ctD; exact fb_ct_zero.mpr (fun k hk => by simp [hm k hk])
    have := ctD_new (v := 0) hs (by decide) (hm s hs)
    rw [h0] at this
    exact this
  have hd1 : ∀ n, n < 4096 → upd m s (nI 0) n ≠ -1 → n = s := fun n hn hd => by
    by_cases e : n = s
    · exact e
    · rw [pk_un e] at hd; exact absurd (hm n hn) hd
  have hD : Dn (upd m s (nI 0)) s = 0 := Dn_upd_eq (by decide)
  have cw0 : cW (upd wi 0 (nI 1)) 0 = 1 := cW_upd_eq (by decide)
  have cwj : ∀ j, j < 5 → j ≠ 0 → cW (upd wi 0 (nI 1)) j = 0 := fun j hj e => by rw [cW_upd_ne e]; unfold cW; rw [hw j hj]; rfl
  refine ⟨⟨fun n hn hd => ?_, fun n hn hd => ?_, ⟨by rw [pk_us]; rfl, pk_us⟩, fun n hn hd => ?_⟩, fun j hj => ?_, fun x hx hd hl hne => ?_, fun x hx hl => by cases hl⟩
  · have e := hd1 n hn hd
    subst e
    rw [hD, pk_us, pk_us]
    exact ⟨rfl, Rch.start E w n⟩
  · by_cases e : n = s
    · subst e; rw [pk_us] at hd; exact absurd hd (nI_m1 (by decide))
    · rw [pk_un e]; exact hf n hn
  · have e := hd1 n hn hd
    subst e
    rw [hD, c1]; decide
  · by_cases e : j = 0
    · subst e
      rw [cw0]
      refine ⟨pk_us, by decide, fun i hi => ?_, fun i i' hi hi' _ => by omega, fun _ => by rw [c1]; decide⟩
      have ei : i = 0 := by omega
      subst ei
      exact ⟨s, hs, pk_us, by rw [pk_us]; exact nI_m1 (by decide), by rw [hD]; exact Nat.zero_le _⟩
    · rw [cwj j hj e]
      exact ⟨by rw [pk_un e]; exact hw j hj, by decide, fun i hi => absurd hi (Nat.not_lt_zero _), fun i i' hi => absurd hi (Nat.not_lt_zero _), fun q => absurd q (by decide)⟩
  · have e := hd1 x hx hd
    subst e
    rw [hD]
    exact ⟨by decide, by decide, 0, by rw [cw0]; decide, pk_us, fun _ => Nat.le_refl _⟩
theorem LqI.all {E : Nat → Nat → Option Nat} {w : Nat → Nat} {s : Nat} {m f wq wi : Nat → Int32} {lf : Nat → Bool} {u p : Nat} (h : LqI E w s m f wq wi lf u p) (hz : ∀ j, j < 5 → cW wi j = 0) : Sol E w s m f ∧ ∀ x, x < 4096 → (lf x = true ↔ m x ≠ -1) := by
  obtain ⟨a1, a2, a3, a4⟩ := h
  have hl : ∀ x, x < 4096 → m x ≠ -1 → lf x = true := fun x hx hd => by
    cases e : lf x with
    | true => rfl
    | false =>
      exfalso
      obtain ⟨-, -, i, c3, -⟩ := a3 x hx hd e (by omega)
      rw [hz _ (Nat.mod_lt _ (by decide))] at c3
      omega
  exact ⟨⟨a1.vld, a1.2.1, a1.2.2.1, fun x hx hd => (a4 x hx (hl x hx hd)).2.1⟩, fun x hx => ⟨fun q => (a4 x hx q).1, hl x hx⟩⟩
theorem LqI.late {E : Nat → Nat → Option Nat} {w : Nat → Nat} {s : Nat} {m f wq wi : Nat → Int32} {lf : Nat → Bool} {u p : Nat} (h : LqI E w s m f wq wi lf u p) (hu : 16384 < u) : ∀ j, j < 5 → cW wi j = 0 := by
  intro j hj
  obtain ⟨-, -, -, -, l5⟩ := h.2.1 j hj
  rcases Nat.eq_zero_or_pos (cW wi j) with q | q
  · exact q
  · have := l5 q
    have := ctD_le m
    have := mmS_in u j
    omega
