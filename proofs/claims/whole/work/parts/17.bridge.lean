/-! kinds and minutes; the graph of both classes; the reference's isBetter -/
def tkN (k : Nat) : Nat := ([2, 1, 3, 2, 4] : List Nat).getD k 0
def crN (k : Nat) : Nat := ([2, 2, 2, 2, 3] : List Nat).getD k 0
def wtN (kd : Nat → Nat) (a : Nat) : Nat := if a < 6 then tkN (kd (a / 2)) else crN (kd (afr a / 2))
def hk (kd : Nat → Nat) (b : Nat) : Bool := decide (kd b = 3)
def KD (f : Nat → Int32) (kd : Nat → Nat) : Prop := ∀ b, b < 3 → f b = nI (kd b) ∧ kd b < 5
theorem hpd_hk {f : Nat → Int32} {kd : Nat → Nat} (h : KD f kd) {b : Nat} (hb : b < 3) : hpd f b = hk kd b := by
  unfold hpd hk
  obtain ⟨e, hl⟩ := h b hb
  rw [e]
  have : nI (kd b) = (3 : Int32) ↔ kd b = 3 := nI_eq (a := kd b) (b := 3) (by omega) (by decide)
  simp only [this]
theorem sld_hk {f : Nat → Int32} {kd : Nat → Nat} (h : KD f kd) (n : Nat) : sld (hpd f) n = sld (hk kd) n := by
  unfold sld
  rw [hpd_hk h (by decide), hpd_hk h (by decide), hpd_hk h (by decide)]
theorem mvN_hk {f : Nat → Int32} {kd : Nat → Nat} (h : KD f kd) (n a : Nat) : mvN (hpd f) n a = mvN (hk kd) n a := by
  unfold mvN
  rw [sld_hk h, sld_hk h]
theorem goN_hk {f : Nat → Int32} {kd : Nat → Nat} (h : KD f kd) (li be n a : Nat) : goN (hpd f) li be n a = goN (hk kd) li be n a := by
  unfold goN
  rw [mvN_hk h]
theorem tk_in : ∀ k, k < 5 → 1 ≤ tkN k ∧ tkN k ≤ 4 := by decide
theorem cr_in : ∀ k, k < 5 → 1 ≤ crN k ∧ crN k ≤ 4 := by decide
theorem wtN_in {f : Nat → Int32} {kd : Nat → Nat} (h : KD f kd) {a : Nat} (ha : a < 42) : 1 ≤ wtN kd a ∧ wtN kd a ≤ 4 := by
  unfold wtN
  have hf := afr_lt a ha
  split
  · exact tk_in _ (h _ (by omega)).2
  · exact cr_in _ (h _ (by omega)).2
theorem gr_of {f : Nat → Int32} {kd : Nat → Nat} (h : KD f kd) (li be : Nat) {s : Nat} (hs : s < 4096) : Gr (goN (hk kd) li be) (wtN kd) s := ⟨hs, fun _ _ _ hn e => goN_lt hn e, fun _ ha _ => wtN_in h ha⟩
theorem taking6 {sc : Nat → Int32} {ar : Nat → Nat → Int32} {hs : Int64} {kd : Nat → Nat} (h : KD (ar 1) kd) {b : Nat} (hb : b < 3) : zX6_takingOf sc ar hs (nI b) = nI (tkN (kd b)) := by
  unfold zX6_takingOf
  rw [nI_clamp (by omega), (h b hb).1]
  have key : ∀ k, k < 5 → (if nI k = 1 then (1 : Int32) else if nI k = 2 then 3 else if nI k = 4 then 4 else 2) = nI (tkN k) := by decide +kernel
  exact key _ (h b hb).2
theorem carrying6 {sc : Nat → Int32} {ar : Nat → Nat → Int32} {hs : Int64} {kd : Nat → Nat} (h : KD (ar 1) kd) {b : Nat} (hb : b < 3) : zX6_carryingOf sc ar hs (nI b) = nI (crN (kd b)) := by
  unfold zX6_carryingOf
  rw [nI_clamp (by omega), (h b hb).1]
  have key : ∀ k, k < 5 → (if nI k = 4 then (3 : Int32) else 2) = nI (crN k) := by decide +kernel
  exact key _ (h b hb).2
theorem lasts6 {sc : Nat → Int32} {ar : Nat → Nat → Int32} {hs : Int64} {kd : Nat → Nat} (h : KD (ar 1) kd) {a : Nat} (ha : a < 42) : zX6_lasts sc ar hs (nI a) = nI (wtN kd a) := by
  unfold zX6_lasts wtN
  have hf := afr_lt a ha
  by_cases h6 : a < 6
  · rw [if_neg (nl6 ha h6), if_pos h6, show (2 : Int32) = nI 2 from rfl, pk_div (by omega) (by decide) (by decide), taking6 h (by omega)]
  · rw [if_pos (show (6 : Int32) ≤ nI a from (nI_leI (a := 6) (by decide) (by omega)).mpr (by omega)), if_neg h6, fr6 a ha (by omega), show (2 : Int32) = nI 2 from rfl, pk_div (by omega) (by decide) (by decide), carrying6 h (by omega)]
/-- the class's rows of minutes -/
def KT (tk cr : Nat → Int32) (kd : Nat → Nat) : Prop := ∀ b, b < 3 → tk b = nI (tkN (kd b)) ∧ cr b = nI (crN (kd b))
theorem zAt_in {N : Nat} {f : Nat → Int32} {j : Nat} (hj : j < N) (hN : N < 2 ^ 31) : zAt N f (nI j) = f j := by
  unfold zAt
  rw [if_neg (nI_pos (by omega)), if_neg (nI_ge hj hN), nI_clamp (by omega)]
theorem min5 {sc : Nat → Int32} {ar : Nat → Nat → Int32} {kd : Nat → Nat} (h : KT (ar 2) (ar 3) kd) {a : Nat} (ha : a < 42) : zX2_minutesOf sc ar (nI a) = nI (wtN kd a) := by
  unfold zX2_minutesOf wtN
  have hf := afr_lt a ha
  rw [fr5 a ha, show (2 : Int32) = nI 2 from rfl, pk_div (by omega) (by decide) (by decide)]
  by_cases h6 : a < 6
  · have e : afr a = a := by unfold afr; rw [if_pos h6]
    rw [if_neg (nl6 ha h6), if_pos h6, zAt_in (by omega) (by decide), (h _ (by omega)).1, e]
  · rw [if_pos (show (6 : Int32) ≤ nI a from (nI_leI (a := 6) (by decide) (by omega)).mpr (by omega)), if_neg h6, zAt_in (by omega) (by decide), (h _ (by omega)).2]
/-- the reference's hold and search: what a search may take as given -/
def MH (sc : Nat → Int32) (ar : Nat → Nat → Int32) (kd : Nat → Nat) (li s : Nat) : Prop := sc 5 = nI s ∧ s < 4096 ∧ sc 4 = nI li ∧ li < 10 ∧ KD (ar 1) kd
theorem goesM {sc : Nat → Int32} {ar : Nat → Nat → Int32} {hs : Int64} {kd : Nat → Nat} {li s n a be : Nat} (h : MH sc ar kd li s) (hn : n < 4096) (ha : a < 42) (hbe : be < 2 ^ 31) : zX6_goes sc ar hs (nI n) (nI a) (nI be) = emb (if isA a = true then goN (hk kd) li be n a else none) := by
  rw [goes6 hn ha h.2.2.1 (by have := h.2.2.2.1; omega) hbe, goN_hk h.2.2.2.2]
theorem isB_spec {sc : Nat → Int32} {ar : Nat → Nat → Int32} {hs : Int64} {kd : Nat → Nat} {li s c t a dc : Nat} (h : MH sc ar kd li s) (hc : c < 4096) (ht : t < 4096) (ha : a < 42) (ec : ar 2 c = nI dc) (hdc : dc ≤ 16384) (et : ar 2 t ≠ -1 → ar 2 t = nI (Dn (ar 2) t)) (hdt : Dn (ar 2) t ≤ 16384) (hlt : -1 ≤ (ar 3 t).toInt) :
    (Rlx (ar 2) (ar 3) t (dc + wtN kd a) (lab s (ar 3) c a) ∧ fX6_isBetter sc ar hs (nI c) (nI t) (nI a) = (0, (sc, ar, hs))) ∨
    ((ar 2 t ≠ -1 → dc + wtN kd a < Dn (ar 2) t ∨ (dc + wtN kd a = Dn (ar 2) t ∧ lab s (ar 3) c a < ar 3 t)) ∧ fX6_isBetter sc ar hs (nI c) (nI t) (nI a) = (1, (sc, va_up (va_up ar 2 (upd (ar 2) t (nI (dc + wtN kd a)))) 3 (upd (ar 3) t (lab s (ar 3) c a)), hs))) := by
  have hw := wtN_in h.2.2.2.2 ha
  have hlab : lab s (ar 3) c a = if nI c = sc 5 then nI a else ar 3 c := by
    unfold lab
    rw [h.1]
    by_cases e : c = s
    · rw [if_pos e, if_pos (by rw [e])]
    · rw [if_neg e, if_neg (fun q => e ((nI_eq (by omega) (by have := h.2.1; omega)).mp q))]
  have hv : dc + wtN kd a < 2 ^ 31 := by omega
  unfold fX6_isBetter
  rw [nI_clamp (show c < 2 ^ 31 by omega), nI_clamp (show t < 2 ^ 31 by omega), lasts6 h.2.2.2.2 ha, ec, nI_add]
  by_cases h5 : nI c = sc 5
  · rw [if_pos h5] at hlab
    rw [if_pos h5, hlab]
    by_cases h1 : ar 2 t = -1
    · right
      exact ⟨fun q => absurd h1 q, by rw [if_pos h1]⟩
    · rw [if_neg h1]
      have e1 := et h1
      by_cases h2 : dc + wtN kd a < Dn (ar 2) t
      · right
        exact ⟨fun _ => Or.inl h2, by rw [if_pos (by rw [e1]; exact (nI_ltI hv (by omega)).mpr h2)]⟩
      · rw [if_neg (by rw [e1]; exact fun q => h2 ((nI_ltI hv (by omega)).mp q))]
        by_cases h3 : dc + wtN kd a = Dn (ar 2) t
        · rw [if_pos (by rw [e1, ← h3])]
          by_cases h4 : ar 3 t ≤ nI a
          · left
            exact ⟨⟨h1, Or.inr ⟨h3.symm, h4⟩⟩, by rw [if_pos h4]⟩
          · right
            exact ⟨fun _ => Or.inr ⟨h3, fa_of_nle h4⟩, by rw [if_neg h4]⟩
        · left
          exact ⟨⟨h1, Or.inl (by omega)⟩, by rw [if_neg (by rw [e1]; exact fun q => h3 ((nI_eq hv (by omega)).mp q))]⟩
  · rw [if_neg h5] at hlab
    rw [if_neg h5, hlab]
    by_cases h1 : ar 2 t = -1
    · right
      exact ⟨fun q => absurd h1 q, by rw [if_pos h1]⟩
    · rw [if_neg h1]
      have e1 := et h1
      by_cases h2 : dc + wtN kd a < Dn (ar 2) t
      · right
        exact ⟨fun _ => Or.inl h2, by rw [if_pos (by rw [e1]; exact (nI_ltI hv (by omega)).mpr h2)]⟩
      · rw [if_neg (by rw [e1]; exact fun q => h2 ((nI_ltI hv (by omega)).mp q))]
        by_cases h3 : dc + wtN kd a = Dn (ar 2) t
        · rw [if_pos (by rw [e1, ← h3])]
          by_cases h4 : ar 3 t ≤ ar 3 c
          · left
            exact ⟨⟨h1, Or.inr ⟨h3.symm, h4⟩⟩, by rw [if_pos h4]⟩
          · right
            exact ⟨fun _ => Or.inr ⟨h3, fa_of_nle h4⟩, by rw [if_neg h4]⟩
        · left
          exact ⟨⟨h1, Or.inl (by omega)⟩, by rw [if_neg (by rw [e1]; exact fun q => h3 ((nI_eq hv (by omega)).mp q))]⟩
/-- a contract's end may be said in other words -/
theorem cWi.mono {σ : Type} {l : Launch} {y : MethodName} {ws : List Cond} {rm : Room} {D : va_G} {cI cZ : ClassId} {z : Nat → Nat} {wf : σ → va_W} {w0 : va_W} {av : List Value} {post post' : Int32 → σ → Prop} (h : cWi l y ws rm D cI cZ z wf w0 av post) (hp : ∀ r u, post r u → post' r u) : cWi l y ws rm D cI cZ z wf w0 av post' := by
  intro sz p e ha hc hk s m args below hf happ hP hK
  obtain ⟨k, o, h1, h2, h3, ⟨⟨⟨r, u, e1, e2, e3⟩, e4⟩, e5⟩⟩ := h sz p e ha hc hk s m args below hf happ hP hK
  exact ⟨k, o, h1, h2, h3, ⟨⟨⟨r, u, e1, hp r u e2, e3⟩, e4⟩, e5⟩⟩
