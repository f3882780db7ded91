/-! the reference's search by a queue: its invariant, step by step -/
def QI (q wt m : Nat → Int32) (hd mn : Nat) : Prop :=
  hd < 4096 ∧ mn ≤ 4096 ∧ (∀ i, i < mn → ∃ x, x < 4096 ∧ q ((hd + i) % 4096) = nI x ∧ wt x = 1 ∧ m x ≠ -1) ∧
  (∀ i j, i < mn → j < mn → q ((hd + i) % 4096) = q ((hd + j) % 4096) → i = j) ∧
  (∀ x, x < 4096 → wt x = 0 ∨ (wt x = 1 ∧ ∃ i, i < mn ∧ q ((hd + i) % 4096) = nI x))
def SI (E : Nat → Nat → Option Nat) (w : Nat → Nat) (s : Nat) (m f q wt : Nat → Int32) (hd mn : Nat) : Prop := Snd E w s m f ∧ QI q wt m hd mn ∧ ∀ h, h < 4096 → m h ≠ -1 → wt h = 0 → Cls E w s m f h
def SA (E : Nat → Nat → Option Nat) (w : Nat → Nat) (s : Nat) (m f q wt : Nat → Int32) (hd mn c k : Nat) : Prop := Snd E w s m f ∧ QI q wt m hd mn ∧ c < 4096 ∧ m c ≠ -1 ∧ wt c = 0 ∧ (∀ h, h < 4096 → m h ≠ -1 → wt h = 0 → h ≠ c → Cls E w s m f h) ∧ ∀ a t, a < k → isA a = true → E c a = some t → Rlx m f t (Dn m c + w a) (lab s f c a)
theorem RP.labs {E : Nat → Nat → Option Nat} {w : Nat → Nat} {s : Nat} : ∀ (k n v : Nat) (f : Int32), RP E w s k n v f → -1 ≤ f.toInt ∧ f.toInt < 42
  | 0, n, v, f, h => by rw [h.2.2]; decide
  | k + 1, n, v, f, ⟨h, v', f', a, hk, ha, hA, he, _, hf⟩ => by
    rw [hf]
    split
    · rw [nI_toInt (by omega)]; omega
    · exact RP.labs k h v' f' hk
def lr (f : Int32) : Nat := (f.toInt + 1).toNat
def rnk (m f : Nat → Int32) (n : Nat) : Nat := if m n = -1 then 2000000 else Dn m n * 64 + lr (f n)
def muQ (m f : Nat → Int32) (mn : Nat) : Nat := 2 * fb_sm (rnk m f) 4096 + mn
theorem rnk_put {m f : Nat → Int32} {t v : Nat} {g : Int32} (hv : v < 2 ^ 31) : rnk (upd m t (nI v)) (upd f t g) = fun k => if k = t then v * 64 + lr g else rnk m f k := by
  funext k
  unfold rnk
  by_cases e : k = t
  · subst e
    rw [if_pos rfl, pk_us, if_neg (nI_m1 hv), Dn_upd_eq hv, pk_us]
  · rw [if_neg e, pk_un e, pk_un e, Dn_upd_ne e]
theorem muQ_put {m f : Nat → Int32} {t v mn : Nat} {g : Int32} (ht : t < 4096) (hv : v < 2 ^ 31) (h : v * 64 + lr g < rnk m f t) : muQ (upd m t (nI v)) (upd f t g) mn + 2 ≤ muQ m f mn := by
  unfold muQ
  rw [rnk_put hv]
  have := fb_sm_upd (rnk m f) (v * 64 + lr g) ht
  omega
theorem Snd.labs {E : Nat → Nat → Option Nat} {w : Nat → Nat} {s : Nat} {m f : Nat → Int32} (h : Snd E w s m f) {n : Nat} (hn : n < 4096) : -1 ≤ (f n).toInt ∧ (f n).toInt < 42 := by
  by_cases hd : m n = -1
  · rw [h.2.1 n hn hd]; decide
  · obtain ⟨k, hk⟩ := (h.1 n hn hd).2
    exact hk.labs
theorem lab_labs {E : Nat → Nat → Option Nat} {w : Nat → Nat} {s : Nat} {m f : Nat → Int32} (h : Snd E w s m f) {c a : Nat} (hc : c < 4096) (ha : a < 42) : -1 ≤ (lab s f c a).toInt ∧ (lab s f c a).toInt < 42 := by
  unfold lab
  split
  · rw [nI_toInt (by omega)]; omega
  · exact h.labs hc
/-- a better entry has a lower rank -/
theorem rnk_lt {E : Nat → Nat → Option Nat} {w : Nat → Nat} {s : Nat} {m f : Nat → Int32} (h : Snd E w s m f) {t v : Nat} {g : Int32} (ht : t < 4096) (hv : v ≤ 16384) (hg : -1 ≤ g.toInt ∧ g.toInt < 42) (hb : m t ≠ -1 → v < Dn m t ∨ (v = Dn m t ∧ g < f t)) : v * 64 + lr g < rnk m f t := by
  have hl := h.labs ht
  unfold rnk lr
  split
  · omega
  · rename_i hd
    rcases hb hd with q | ⟨q1, q2⟩
    · omega
    · rw [fa_lt] at q2; omega
theorem SI.start {E : Nat → Nat → Option Nat} {w : Nat → Nat} {s : Nat} (hG : Gr E w s) {m f q wt : Nat → Int32} (hm : ∀ n, n < 4096 → m n = -1) (hf : ∀ n, n < 4096 → f n = -1) (hw : ∀ n, n < 4096 → wt n = 0) : SI E w s (upd m s 0) f (upd q 0 (nI s)) (upd wt s 1) 0 1 := by
  have hs := hG.1
  have c1 : ctD (upd m s 0) = 1 := by
    have h0 : ctD m = 0 := by unfold ctD; exact fb_ct_zero.mpr (fun k hk => by simp [hm k hk])
    have := ctD_new (v := 0) hs (by decide) (hm s hs)
    rw [h0] at this
    exact this
  have hd1 : ∀ n, n < 4096 → upd m s 0 n ≠ -1 → n = s := fun n hn hd => by
    by_cases e : n = s
    · exact e
    · rw [pk_un e] at hd; exact absurd (hm n hn) hd
  have hD : Dn (upd m s 0) s = 0 := by unfold Dn; rw [pk_us]; rfl
  refine ⟨⟨fun n hn hd => ?_, fun n hn hd => ?_, ⟨pk_us, hf s hs⟩, fun n hn hd => ?_⟩, ⟨by decide, by decide, fun i hi => ?_, fun i j hi hj _ => by omega, fun x hx => ?_⟩, fun h hh hd h0 => ?_⟩
  · have e := hd1 n hn hd
    subst e
    rw [hD, pk_us, hf n hn]
    exact ⟨rfl, Rch.start E w n⟩
  · exact hf n hn
  · have e := hd1 n hn hd
    subst e
    rw [hD, c1]; decide
  · have e : i = 0 := by omega
    subst e
    exact ⟨s, hs, pk_us, pk_us, by rw [pk_us]; exact m0_ne⟩
  · by_cases e : x = s
    · subst e
      exact Or.inr ⟨pk_us, 0, by decide, pk_us⟩
    · rw [pk_un e]; exact Or.inl (hw x hx)
  · have e := hd1 h hh hd
    subst e
    rw [pk_us] at h0
    exact absurd h0 (by decide)
theorem SI.pop {E : Nat → Nat → Option Nat} {w : Nat → Nat} {s : Nat} {m f q wt : Nat → Int32} {hd mn : Nat} (h : SI E w s m f q wt hd (mn + 1)) : ∃ c, c < 4096 ∧ q hd = nI c ∧ SA E w s m f q (upd wt c 0) ((hd + 1) % 4096) mn c 0 := by
  obtain ⟨hS, ⟨q1, q2, q3, q4, q5⟩, hC⟩ := h
  obtain ⟨c, hc, e0, e1, e2⟩ := q3 0 (by omega)
  have e00 : (hd + 0) % 4096 = hd := by rw [Nat.add_zero]; exact Nat.mod_eq_of_lt q1
  rw [e00] at e0
  have sh : ∀ i, ((hd + 1) % 4096 + i) % 4096 = (hd + (i + 1)) % 4096 := fun i => by omega
  have hne : ∀ i, i < mn → ∀ x, q ((hd + (i + 1)) % 4096) = nI x → x < 4096 → x ≠ c := fun i hi x hx hx4 e => by
    subst e
    have := q4 0 (i + 1) (by omega) (by omega) (by rw [e00, e0, hx])
    omega
  refine ⟨c, hc, e0, hS, ⟨Nat.mod_lt _ (by decide), by omega, fun i hi => ?_, fun i j hi hj e => ?_, fun x hx => ?_⟩, hc, e2, pk_us, fun h hh hd' hw0 hne' => ?_, fun a t ha => absurd ha (Nat.not_lt_zero _)⟩
  · obtain ⟨x, a1, a2, a3, a4⟩ := q3 (i + 1) (by omega)
    rw [sh]
    exact ⟨x, a1, a2, by rw [pk_un (hne i hi x a2 a1)]; exact a3, a4⟩
  · rw [sh, sh] at e
    have := q4 (i + 1) (j + 1) (by omega) (by omega) e
    omega
  · by_cases e : x = c
    · subst e; exact Or.inl pk_us
    · rw [pk_un e]
      rcases q5 x hx with r | ⟨r1, i, hi, r2⟩
      · exact Or.inl r
      · refine Or.inr ⟨r1, ?_⟩
        rcases Nat.eq_zero_or_pos i with z | z
        · subst z
          rw [e00, e0] at r2
          exact absurd ((nI_eq (by omega) (by omega)).mp r2).symm e
        · refine ⟨i - 1, by omega, ?_⟩
          rw [sh, show i - 1 + 1 = i by omega]
          exact r2
  · rw [pk_un hne'] at hw0
    exact hC h hh hd' hw0
theorem SA.skip {E : Nat → Nat → Option Nat} {w : Nat → Nat} {s : Nat} {m f q wt : Nat → Int32} {hd mn c k : Nat} (h : SA E w s m f q wt hd mn c k) (hn : isA k = true → E c k = none) : SA E w s m f q wt hd mn c (k + 1) := by
  obtain ⟨a1, a2, a3, a4, a5, a6, a7⟩ := h
  refine ⟨a1, a2, a3, a4, a5, a6, fun a t ha hA he => ?_⟩
  by_cases e : a = k
  · subst e; rw [hn hA] at he; cases he
  · exact a7 a t (by omega) hA he
theorem SA.rlx {E : Nat → Nat → Option Nat} {w : Nat → Nat} {s : Nat} {m f q wt : Nat → Int32} {hd mn c k t : Nat} (h : SA E w s m f q wt hd mn c k) (he : E c k = some t) (hr : Rlx m f t (Dn m c + w k) (lab s f c k)) : SA E w s m f q wt hd mn c (k + 1) := by
  obtain ⟨a1, a2, a3, a4, a5, a6, a7⟩ := h
  refine ⟨a1, a2, a3, a4, a5, a6, fun a t' ha hA he' => ?_⟩
  by_cases e : a = k
  · subst e; rw [he] at he'; cases he'; exact hr
  · exact a7 a t' (by omega) hA he'
/-- what the entries need behind a better one; the queue apart -/
theorem SA.put {E : Nat → Nat → Option Nat} {w : Nat → Nat} {s : Nat} (hG : Gr E w s) {m f q wt : Nat → Int32} {hd mn c k t : Nat} (h : SA E w s m f q wt hd mn c k) (hk : k < 42) (hA : isA k = true) (he : E c k = some t) (hb : m t ≠ -1 → Dn m c + w k < Dn m t ∨ (Dn m c + w k = Dn m t ∧ lab s f c k < f t)) {m' f' : Nat → Int32} (em : m' = upd m t (nI (Dn m c + w k))) (ef : f' = upd f t (lab s f c k)) :
    t ≠ c ∧ t < 4096 ∧ Snd E w s m' f' ∧ m' t ≠ -1 ∧ (∀ x, m x ≠ -1 → m' x ≠ -1) ∧ m' c ≠ -1 ∧ (∀ h, h < 4096 → h ≠ t → m' h ≠ -1 → m h ≠ -1 ∧ (Cls E w s m f h → Cls E w s m' f' h)) ∧ (∀ a t', a < k + 1 → isA a = true → E c a = some t' → Rlx m' f' t' (Dn m' c + w a) (lab s f' c a)) ∧ ∀ j, muQ m' f' j + 2 ≤ muQ m f j := by
  obtain ⟨a1, a2, a3, a4, a5, a6, a7⟩ := h
  have ht := hG.2.1 c k t a3 he
  have hw := hG.2.2 k hk hA
  have hB := a1.2.2.2 c a3 a4
  have hL := ctD_le m
  have hv : Dn m c + w k < 2 ^ 31 := by omega
  have htc : t ≠ c := by
    intro e
    subst e
    rcases hb a4 with r | r <;> omega
  have hb' : m t ≠ -1 → Dn m c + w k < Dn m t ∨ (Dn m c + w k = Dn m t ∧ lab s f c k ≤ f t) := fun hd => by
    rcases hb hd with r | ⟨r1, r2⟩
    · exact Or.inl r
    · exact Or.inr ⟨r1, by rw [fa_lt] at r2; rw [fa_le]; omega⟩
  have hS := a1.put hG a3 a4 hk hA he (fun hd => by rcases hb hd with r | r <;> omega)
  subst em; subst ef
  have hlab : ∀ a, lab s (upd f t (lab s f c k)) c a = lab s f c a := fun a => by unfold lab; rw [pk_un (Ne.symm htc)]
  refine ⟨htc, ht, hS, by rw [pk_us]; exact nI_m1 hv, fun x hx => ?_, by rw [pk_un (Ne.symm htc)]; exact a4, fun h hh hne hd => ?_, fun a t' ha hA' he' => ?_, fun j => ?_⟩
  · by_cases e : x = t
    · subst e; rw [pk_us]; exact nI_m1 hv
    · rw [pk_un e]; exact hx
  · rw [pk_un hne] at hd
    refine ⟨hd, fun hc a t' ha hA' he' => ?_⟩
    have := (hc a t' ha hA' he').put hv hb'
    rw [Dn_upd_ne hne]
    have e : lab s (upd f t (lab s f c k)) h a = lab s f h a := by unfold lab; rw [pk_un hne]
    rw [e]
    exact this
  · rw [Dn_upd_ne (Ne.symm htc), hlab]
    by_cases e : a = k
    · subst e; rw [he] at he'; cases he'; exact Rlx.self hv
    · exact (a7 a t' (by omega) hA' he').put hv hb'
  · exact muQ_put ht hv (rnk_lt a1 ht (by omega) (lab_labs a1 a3 hk) hb)
theorem SA.imp {E : Nat → Nat → Option Nat} {w : Nat → Nat} {s : Nat} (hG : Gr E w s) {m f q wt : Nat → Int32} {hd mn c k t : Nat} (h : SA E w s m f q wt hd mn c k) (hk : k < 42) (hA : isA k = true) (he : E c k = some t) (hb : m t ≠ -1 → Dn m c + w k < Dn m t ∨ (Dn m c + w k = Dn m t ∧ lab s f c k < f t)) (hwt : ¬ wt t = 0) : SA E w s (upd m t (nI (Dn m c + w k))) (upd f t (lab s f c k)) q wt hd mn c (k + 1) := by
  obtain ⟨b1, b2, b3, b4, b5, b6, b7, b8, -⟩ := h.put hG hk hA he hb rfl rfl
  obtain ⟨a1, ⟨q1, q2, q3, q4, q5⟩, a3, a4, a5, a6, a7⟩ := h
  refine ⟨b3, ⟨q1, q2, fun i hi => ?_, q4, q5⟩, a3, b6, a5, fun x hx hd' hw0 hne => ?_, b8⟩
  · obtain ⟨x, c1, c2, c3, c4⟩ := q3 i hi
    exact ⟨x, c1, c2, c3, b5 x c4⟩
  · have hxt : x ≠ t := fun e => by subst e; exact hwt hw0
    obtain ⟨d1, d2⟩ := b7 x hx hxt hd'
    exact d2 (a6 x hx d1 hw0 hne)
theorem QI.room {q wt m : Nat → Int32} {hd mn t : Nat} (h : QI q wt m hd mn) (ht : t < 4096) (hw : wt t = 0) : mn < 4096 := by
  obtain ⟨q1, q2, q3, q4, q5⟩ := h
  rcases Nat.lt_or_ge mn 4096 with r | r
  · exact r
  · exfalso
    have e : mn = 4096 := by omega
    subst e
    have hx : ∀ i, i < 4096 → (q ((hd + i) % 4096)).toNatClampNeg < 4096 ∧ (q ((hd + i) % 4096)).toNatClampNeg ≠ t ∧ q ((hd + i) % 4096) = nI (q ((hd + i) % 4096)).toNatClampNeg := fun i hi => by
      obtain ⟨x, c1, c2, c3, c4⟩ := q3 i hi
      rw [c2, nI_clamp (by omega)]
      refine ⟨c1, fun e => ?_, rfl⟩
      subst e
      rw [hw] at c3
      exact absurd c3 (by decide)
    obtain ⟨i, hi, e⟩ := fb_onto (n := 4096) (f := fun i => (q ((hd + i) % 4096)).toNatClampNeg) (fun i hi => (hx i hi).1) (fun i j hij hj e => by
      have := q4 i j (by omega) hj (by rw [(hx i (by omega)).2.2, (hx j hj).2.2]; exact congrArg nI e)
      omega) ht
    exact (hx i hi).2.1 e
theorem SA.push {E : Nat → Nat → Option Nat} {w : Nat → Nat} {s : Nat} (hG : Gr E w s) {m f q wt : Nat → Int32} {hd mn c k t : Nat} (h : SA E w s m f q wt hd mn c k) (hk : k < 42) (hA : isA k = true) (he : E c k = some t) (hb : m t ≠ -1 → Dn m c + w k < Dn m t ∨ (Dn m c + w k = Dn m t ∧ lab s f c k < f t)) (hwt : wt t = 0) : SA E w s (upd m t (nI (Dn m c + w k))) (upd f t (lab s f c k)) (upd q ((hd + mn) % 4096) (nI t)) (upd wt t 1) hd (mn + 1) c (k + 1) := by
  obtain ⟨b1, b2, b3, b4, b5, b6, b7, b8, -⟩ := h.put hG hk hA he hb rfl rfl
  obtain ⟨a1, hQ, a3, a4, a5, a6, a7⟩ := h
  have hr := hQ.room b2 hwt
  obtain ⟨q1, q2, q3, q4, q5⟩ := hQ
  have hp : ∀ i, i < mn → (hd + i) % 4096 ≠ (hd + mn) % 4096 := fun i hi => by omega
  have hxt : ∀ i, i < mn → q ((hd + i) % 4096) ≠ nI t := fun i hi e => by
    obtain ⟨x, c1, c2, c3, c4⟩ := q3 i hi
    rw [c2] at e
    have := (nI_eq (by omega) (by omega)).mp e
    subst this
    rw [hwt] at c3
    exact absurd c3 (by decide)
  refine ⟨b3, ⟨q1, by omega, fun i hi => ?_, fun i j hi hj e => ?_, fun x hx => ?_⟩, a3, b6, by rw [pk_un (Ne.symm b1)]; exact a5, fun x hx hd' hw0 hne => ?_, b8⟩
  · by_cases e : i = mn
    · subst e; exact ⟨t, b2, pk_us, pk_us, b4⟩
    · obtain ⟨x, c1, c2, c3, c4⟩ := q3 i (by omega)
      rw [pk_un (hp i (by omega))]
      refine ⟨x, c1, c2, ?_, b5 x c4⟩
      by_cases e2 : x = t
      · subst e2; exact pk_us
      · rw [pk_un e2]; exact c3
  · by_cases e1 : i = mn
    · by_cases e2 : j = mn
      · omega
      · subst e1
        rw [pk_us, pk_un (hp j (by omega))] at e
        exact absurd e.symm (hxt j (by omega))
    · by_cases e2 : j = mn
      · subst e2
        rw [pk_us, pk_un (hp i (by omega))] at e
        exact absurd e (hxt i (by omega))
      · rw [pk_un (hp i (by omega)), pk_un (hp j (by omega))] at e
        exact q4 i j (by omega) (by omega) e
  · by_cases e : x = t
    · subst e; exact Or.inr ⟨pk_us, mn, by omega, pk_us⟩
    · rw [pk_un e]
      rcases q5 x hx with r | ⟨r1, i, hi, r2⟩
      · exact Or.inl r
      · exact Or.inr ⟨r1, i, by omega, by rw [pk_un (hp i hi)]; exact r2⟩
  · by_cases e : x = t
    · subst e; rw [pk_us] at hw0; exact absurd hw0 (by decide)
    · rw [pk_un e] at hw0
      obtain ⟨d1, d2⟩ := b7 x hx e hd'
      exact d2 (a6 x hx d1 hw0 hne)
theorem SA.done {E : Nat → Nat → Option Nat} {w : Nat → Nat} {s : Nat} {m f q wt : Nat → Int32} {hd mn c k : Nat} (h : SA E w s m f q wt hd mn c k) (hk : 42 ≤ k) : SI E w s m f q wt hd mn := by
  obtain ⟨a1, a2, a3, a4, a5, a6, a7⟩ := h
  refine ⟨a1, a2, fun x hx hd' hw0 => ?_⟩
  by_cases e : x = c
  · subst e; exact fun a t ha hA he => a7 a t (by omega) hA he
  · exact a6 x hx hd' hw0 e
theorem SI.sol {E : Nat → Nat → Option Nat} {w : Nat → Nat} {s : Nat} {m f q wt : Nat → Int32} {hd : Nat} (h : SI E w s m f q wt hd 0) : Sol E w s m f := by
  obtain ⟨a1, ⟨q1, q2, q3, q4, q5⟩, a3⟩ := h
  refine ⟨a1.vld, a1.2.1, a1.2.2.1, fun x hx hd' => a3 x hx hd' ?_⟩
  rcases q5 x hx with r | ⟨-, i, hi, -⟩
  · exact r
  · omega
