/-! the class's Outlook: its invariant over the world's numbers; what reach does to it -/
def CH (sc : Nat → Int32) (ar : Nat → Nat → Int32) (kd : Nat → Nat) (li : Nat) : Prop := sc 6 = nI li ∧ li < 10 ∧ KD (ar 1) kd ∧ KT (ar 2) (ar 3) kd
theorem behC {sc : Nat → Int32} {ar : Nat → Nat → Int32} {kd : Nat → Nat} {li n a be : Nat} (h : CH sc ar kd li) (hn : n < 4096) (ha : a < 42) (hbe : be < 2 ^ 31) : zX2_behind sc ar (nI n) (nI a) (nI be) = emb (goN (hk kd) li be n a) := by
  rw [behind5 hn ha h.1 (by have := h.2.1; omega) hbe, goN_hk h.2.2.1]
def frL (sc : Nat → Int32) (ar : Nat → Nat → Int32) (sc1 : Nat → Int32) (ar1 : Nat → Nat → Int32) : Prop := (∀ j, j ≠ 17 → j ≠ 18 → j ≠ 19 → sc1 j = sc j) ∧ ∀ k, (k < 6 ∨ 10 ≤ k) → ar1 k = ar k
theorem frL.rf (sc : Nat → Int32) (ar : Nat → Nat → Int32) : frL sc ar sc ar := ⟨fun _ _ _ _ => rfl, fun _ _ => rfl⟩
theorem frL.trans {sc sc1 sc2 : Nat → Int32} {ar ar1 ar2 : Nat → Nat → Int32} (h1 : frL sc ar sc1 ar1) (h2 : frL sc1 ar1 sc2 ar2) : frL sc ar sc2 ar2 := ⟨fun j a b c => (h2.1 j a b c).trans (h1.1 j a b c), fun k q => (h2.2 k q).trans (h1.2 k q)⟩
theorem frL.CH {sc sc1 : Nat → Int32} {ar ar1 : Nat → Nat → Int32} {kd : Nat → Nat} {li : Nat} (h : frL sc ar sc1 ar1) (hC : CH sc ar kd li) : CH sc1 ar1 kd li := by
  refine ⟨by rw [h.1 6 (by decide) (by decide) (by decide)]; exact hC.1, hC.2.1, ?_, ?_⟩
  · rw [h.2 1 (Or.inl (by decide))]; exact hC.2.2.1
  · rw [h.2 2 (Or.inl (by decide)), h.2 3 (Or.inl (by decide))]; exact hC.2.2.2
def MO (lf : Nat → Bool) (s : Nat) (x : Int32) : Prop := ∃ k, x = nI k ∧ k ≤ 18 ∧ (∀ n, n < 4096 → lf n = true → tns s ≤ tns n + k) ∧ (k = 0 ∨ ∃ n, n < 4096 ∧ lf n = true ∧ tns n + k = tns s)
def OI (E : Nat → Nat → Option Nat) (w : Nat → Nat) (s : Nat) (sc : Nat → Int32) (ar : Nat → Nat → Int32) (lf : Nat → Bool) (u p : Nat) : Prop := LqI E w s (ar 6) (ar 7) (ar 8) (ar 9) lf u p ∧ sc 17 = nI (fb_sm (cW (ar 9)) 5) ∧ sc 18 = nI (fb_ct lf 4096) ∧ MO lf s (sc 19)
def OA (E : Nat → Nat → Option Nat) (w : Nat → Nat) (s : Nat) (sc : Nat → Int32) (ar : Nat → Nat → Int32) (lf : Nat → Bool) (u p c k : Nat) : Prop := LqA E w s (ar 6) (ar 7) (ar 8) (ar 9) lf u p c k ∧ sc 17 = nI (fb_sm (cW (ar 9)) 5) ∧ sc 18 = nI (fb_ct lf 4096 + 1) ∧ MO (va_up lf c true) s (sc 19)
theorem ct_up {lf : Nat → Bool} {c : Nat} (hc : c < 4096) (h : lf c = false) : fb_ct (va_up lf c true) 4096 = fb_ct lf 4096 + 1 := by
  show fb_ct (fun k => if k = c then true else lf k) 4096 = _
  have := fb_ct_upd lf true hc
  simp only [h, Bool.false_eq_true, if_false, if_true, Nat.add_zero] at this
  rw [this]
theorem OA.done {E : Nat → Nat → Option Nat} {w : Nat → Nat} {s : Nat} {sc : Nat → Int32} {ar : Nat → Nat → Int32} {lf : Nat → Bool} {u p c k : Nat} (h : OA E w s sc ar lf u p c k) (hk : 20 ≤ k) : OI E w s sc ar (va_up lf c true) u (p + 1) := by
  obtain ⟨a1, a2, a3, a4⟩ := h
  exact ⟨a1.done hk, a2, by rw [ct_up a1.2.2.2.2.1.1 a1.2.2.2.2.1.2.2.2.1]; exact a3, a4⟩
theorem MO.step {lf : Nat → Bool} {s c : Nat} {x : Int32} (h : MO lf s x) (hc : c < 4096) : MO (va_up lf c true) s (if x < nI (tns s) - nI (tns c) then nI (tns s) - nI (tns c) else x) := by
  obtain ⟨k, rfl, hk, h1, h2⟩ := h
  have hs := tns_le s
  have hcl := tns_le c
  have e1 : (nI (tns s) - nI (tns c)).toInt = (tns s : Int) - tns c := pk_sub_toInt (by omega) (by omega)
  by_cases q : nI k < nI (tns s) - nI (tns c)
  · rw [if_pos q]
    rw [fa_lt, e1, nI_toInt (by omega)] at q
    refine ⟨tns s - tns c, pk_sub (by omega), by omega, fun n hn hl => ?_, Or.inr ⟨c, hc, va_us, by omega⟩⟩
    by_cases e : n = c
    · subst e; omega
    · rw [va_un e] at hl; have := h1 n hn hl; omega
  · rw [if_neg q]
    rw [fa_lt, e1, nI_toInt (by omega)] at q
    refine ⟨k, rfl, hk, fun n hn hl => ?_, ?_⟩
    · by_cases e : n = c
      · subst e; omega
      · rw [va_un e] at hl; exact h1 n hn hl
    · rcases h2 with r | ⟨n, hn, hl, r⟩
      · exact Or.inl r
      · refine Or.inr ⟨n, hn, ?_, r⟩
        by_cases e : n = c
        · subst e; exact va_us
        · rw [va_un e]; exact hl
theorem OI.take {E : Nat → Nat → Option Nat} {w : Nat → Nat} {s : Nat} {sc sc1 : Nat → Int32} {ar : Nat → Nat → Int32} {lf : Nat → Bool} {u p c : Nat} (h : OI E w s sc ar lf u p) (hp : p < cW (ar 9) (u % 5)) (hc : c < 4096) (hq : ar 8 (u % 5 * 4096 + p) = nI c) (hm : ar 6 c = nI u) (hu : u < 2 ^ 31) (h17 : sc1 17 = sc 17) (h18 : sc1 18 = sc 18 + 1) (h19 : sc1 19 = if sc 19 < nI (tns s) - nI (tns c) then nI (tns s) - nI (tns c) else sc 19) : OA E w s sc1 ar lf u p c 0 := by
  obtain ⟨a1, a2, a3, a4⟩ := h
  exact ⟨a1.take hp hc hq hm hu, h17.trans a2, by rw [h18, a3, nI_1], by rw [h19]; exact a4.step hc⟩
theorem sm_up {wi : Nat → Int32} {j v : Nat} (hj : j < 5) (hv : v = cW wi j + 1) (h31 : v < 2 ^ 31) : fb_sm (cW (upd wi j (nI v))) 5 = fb_sm (cW wi) 5 + 1 := by
  have e : cW (upd wi j (nI v)) = fun k => if k = j then v else cW wi k := by
    funext k
    by_cases e : k = j
    · subst e; rw [if_pos rfl, cW_upd_eq h31]
    · rw [if_neg e, cW_upd_ne e]
  rw [e]
  have := fb_sm_upd (cW wi) v hj
  omega
/-- reach, called for the act's end: the invariant goes on -/
theorem reach_OA {E : Nat → Nat → Option Nat} {w : Nat → Nat} {s : Nat} (hG : Gr E w s) {sc : Nat → Int32} {ar : Nat → Nat → Int32} {lf : Nat → Bool} {u p c k t : Nat} (h : OA E w s sc ar lf u p c k) (hk : k < 20) (he : E c (actN k) = some t) {x3 : Int32} (hx3 : x3 = lab s (ar 7) c (actN k)) :
    OA E w s (fX4_reach sc ar (nI t) (nI (u + w (actN k))) x3).1 (fX4_reach sc ar (nI t) (nI (u + w (actN k))) x3).2 lf u p c (k + 1) ∧ frL sc ar (fX4_reach sc ar (nI t) (nI (u + w (actN k))) x3).1 (fX4_reach sc ar (nI t) (nI (u + w (actN k))) x3).2 ∧ (fX4_reach sc ar (nI t) (nI (u + w (actN k))) x3).2 9 (u % 5) = ar 9 (u % 5) := by
  obtain ⟨a1, a2, a3, a4⟩ := h
  have b := a1
  obtain ⟨s1, l2, l3, l4, ⟨c1, c2, c3, c4, c5, c6⟩, l6⟩ := b
  have ht := hG.2.1 c _ t c1 he
  have hw := hG.2.2 _ (actN_A k hk).1 (actN_A k hk).2
  have hcd : ar 6 c ≠ -1 := by rw [c2]; exact nI_m1 c3
  have hcD : Dn (ar 6) c = u := by unfold Dn; rw [c2, nI_clamp c3]
  have hB := s1.2.2.2 c c1 hcd
  have hL := ctD_le (ar 6)
  have hv : u + w (actN k) < 2 ^ 31 := by omega
  subst hx3
  have hmod : nI (u + w (actN k)) - nI (u + w (actN k)) / 5 * 5 = nI ((u + w (actN k)) % 5) := pk_rem (d := 5) hv (by decide) (by decide)
  have hjlt : (u + w (actN k)) % 5 < 5 := Nat.mod_lt _ (by decide)
  have hwi := (l2 _ hjlt).1
  have news : ar 6 t ≠ -1 → u + w (actN k) < Dn (ar 6) t → True := fun _ _ => trivial
  -- the push
  have push : (ar 6 t ≠ -1 → u + w (actN k) < Dn (ar 6) t) → ¬ (4096 : Int32) ≤ ar 9 ((u + w (actN k)) % 5) ∧ OA E w s (upd sc 17 (sc 17 + 1)) (va_up (va_up (va_up (va_up ar 6 (upd (ar 6) t (nI (u + w (actN k))))) 7 (upd (ar 7) t (lab s (ar 7) c (actN k)))) 8 (upd (ar 8) ((u + w (actN k)) % 5 * 4096 + cW (ar 9) ((u + w (actN k)) % 5)) (nI t))) 9 (upd (ar 9) ((u + w (actN k)) % 5) (nI (cW (ar 9) ((u + w (actN k)) % 5) + 1)))) lf u p c (k + 1) := by
    intro hb
    obtain ⟨r1, r2⟩ := a1.new hG hk he hb
    refine ⟨fun q => ?_, r2, ?_, ?_, ?_⟩
    · rw [hwi] at q
      have := (nI_leI (a := 4096) (by decide) (by omega)).mp q
      omega
    · rw [pk_us, va_us, sm_up hjlt rfl (by omega), a2, nI_1]
    · rw [pk_un (by decide)]; exact a3
    · rw [pk_un (by decide)]; exact a4
  have frp : frL sc ar (upd sc 17 (sc 17 + 1)) (va_up (va_up (va_up (va_up ar 6 (upd (ar 6) t (nI (u + w (actN k))))) 7 (upd (ar 7) t (lab s (ar 7) c (actN k)))) 8 (upd (ar 8) ((u + w (actN k)) % 5 * 4096 + cW (ar 9) ((u + w (actN k)) % 5)) (nI t))) 9 (upd (ar 9) ((u + w (actN k)) % 5) (nI (cW (ar 9) ((u + w (actN k)) % 5) + 1)))) := ⟨fun j h1 _ _ => pk_un h1, fun j hj => by rw [va_un (by omega), va_un (by omega), va_un (by omega), va_un (by omega)]⟩
  have idx9 : (nI ((u + w (actN k)) % 5) : Int32).toNatClampNeg = (u + w (actN k)) % 5 := nI_clamp (by omega)
  have idx8 : (nI ((u + w (actN k)) % 5) * 4096 + nI (cW (ar 9) ((u + w (actN k)) % 5)) : Int32).toNatClampNeg = (u + w (actN k)) % 5 * 4096 + cW (ar 9) ((u + w (actN k)) % 5) := by
    have := (l2 _ hjlt).2.1
    rw [show (4096 : Int32) = nI 4096 from rfl, pk_mul, nI_add]
    exact nI_clamp (by omega)
  unfold fX4_reach
  rw [if_neg (nI_pos (by omega)), if_neg (show ¬ (4096 : Int32) ≤ nI t from nI_ge (b := 4096) ht (by decide)), if_pos (show (0 : Int32) ≤ nI (u + w (actN k)) from nI_pos' hv), nI_clamp (show t < 2 ^ 31 by omega), hmod, idx9]
  by_cases h1 : ar 6 t = -1
  · obtain ⟨p1, p2⟩ := push (fun q => absurd h1 q)
    rw [if_pos h1, if_neg p1, hwi, idx8, nI_1]
    exact ⟨p2, frp, by show upd (ar 9) _ _ (u % 5) = _; rw [pk_un (by omega)]⟩
  · rw [if_neg h1]
    have e1 := (s1.1 t ht h1).1
    have hBt := s1.2.2.2 t ht h1
    by_cases h2 : u + w (actN k) < Dn (ar 6) t
    · obtain ⟨p1, p2⟩ := push (fun _ => h2)
      rw [if_neg (by rw [e1]; exact nI_ge h2 (by omega)), if_neg p1, hwi, idx8, nI_1]
      exact ⟨p2, frp, by show upd (ar 9) _ _ (u % 5) = _; rw [pk_un (by omega)]⟩
    · rw [if_pos (by rw [e1]; exact nI_le (by omega) hv)]
      by_cases h3 : u + w (actN k) = Dn (ar 6) t
      · rw [if_pos (by rw [e1, ← h3])]
        by_cases h4 : ar 7 t ≤ lab s (ar 7) c (actN k)
        · rw [if_pos h4]
          exact ⟨⟨a1.rlx he ⟨h1, Or.inr ⟨h3.symm, h4⟩⟩, a2, a3, a4⟩, frL.rf _ _, rfl⟩
        · rw [if_neg h4]
          have h5 : lab s (ar 7) c (actN k) ≤ ar 7 t := by have := fa_of_nle h4; rw [fa_lt] at this; rw [fa_le]; omega
          refine ⟨⟨?_, ?_, a3, a4⟩, ⟨fun _ _ _ _ => rfl, fun j hj => va_un (by omega)⟩, rfl⟩
          · exact a1.first hG hk he h1 h3 h5
          · exact a2
      · rw [if_neg (by rw [e1]; exact fun q => h3 ((nI_eq hv (by omega)).mp q))]
        exact ⟨⟨a1.rlx he ⟨h1, Or.inl (by omega)⟩, a2, a3, a4⟩, frL.rf _ _, rfl⟩
