/-! the soonest ways: what is come to, by rows of acts; tables that are sound and closed are one and the same -/
def RP (E : Nat → Nat → Option Nat) (w : Nat → Nat) (s : Nat) : Nat → Nat → Nat → Int32 → Prop
  | 0, n, v, f => n = s ∧ v = 0 ∧ f = -1
  | k + 1, n, v, f => ∃ (h v' : Nat) (f' : Int32) (a : Nat), RP E w s k h v' f' ∧ a < 42 ∧ isA a = true ∧ E h a = some n ∧ v = v' + w a ∧ f = if h = s then nI a else f'
def Rch (E : Nat → Nat → Option Nat) (w : Nat → Nat) (s n v : Nat) (f : Int32) : Prop := ∃ k, RP E w s k n v f
theorem Rch.start (E : Nat → Nat → Option Nat) (w : Nat → Nat) (s : Nat) : Rch E w s s 0 (-1) := ⟨0, rfl, rfl, rfl⟩
theorem Rch.step {E : Nat → Nat → Option Nat} {w : Nat → Nat} {s h v a t : Nat} {f : Int32} (hr : Rch E w s h v f) (ha : a < 42) (hA : isA a = true) (he : E h a = some t) : Rch E w s t (v + w a) (if h = s then nI a else f) := by
  obtain ⟨k, hk⟩ := hr
  exact ⟨k + 1, h, v, f, a, hk, ha, hA, he, rfl, rfl⟩
/-- what a graph of acts must be -/
def Gr (E : Nat → Nat → Option Nat) (w : Nat → Nat) (s : Nat) : Prop := s < 4096 ∧ (∀ n a t, n < 4096 → E n a = some t → t < 4096) ∧ ∀ a, a < 42 → isA a = true → 1 ≤ w a ∧ w a ≤ 4
theorem RP.lt {E : Nat → Nat → Option Nat} {w : Nat → Nat} {s : Nat} (hG : Gr E w s) : ∀ (k n v : Nat) (f : Int32), RP E w s k n v f → n < 4096
  | 0, n, v, f, h => by rw [h.1]; exact hG.1
  | k + 1, n, v, f, ⟨h, v', f', a, hk, ha, hA, he, _, _⟩ => hG.2.1 h a n (RP.lt hG k h v' f' hk) he
def Dn (m : Nat → Int32) (n : Nat) : Nat := (m n).toNatClampNeg
def Rlx (m f : Nat → Int32) (t v : Nat) (g : Int32) : Prop := m t ≠ -1 ∧ (Dn m t < v ∨ (Dn m t = v ∧ f t ≤ g))
def lab (s : Nat) (f : Nat → Int32) (h a : Nat) : Int32 := if h = s then nI a else f h
def Cls (E : Nat → Nat → Option Nat) (w : Nat → Nat) (s : Nat) (m f : Nat → Int32) (h : Nat) : Prop := ∀ a t, a < 42 → isA a = true → E h a = some t → Rlx m f t (Dn m h + w a) (lab s f h a)
def Vld (E : Nat → Nat → Option Nat) (w : Nat → Nat) (s : Nat) (m f : Nat → Int32) (B : Nat) : Prop := ∀ n, n < 4096 → m n ≠ -1 → m n = nI (Dn m n) ∧ Dn m n ≤ B ∧ Rch E w s n (Dn m n) (f n)
def Und (m f : Nat → Int32) : Prop := ∀ n, n < 4096 → m n = -1 → f n = -1
def Sol (E : Nat → Nat → Option Nat) (w : Nat → Nat) (s : Nat) (m f : Nat → Int32) : Prop := Vld E w s m f 16380 ∧ Und m f ∧ (m s = 0 ∧ f s = -1) ∧ ∀ h, h < 4096 → m h ≠ -1 → Cls E w s m f h
theorem i32_le_trans {a b c : Int32} (h1 : a ≤ b) (h2 : b ≤ c) : a ≤ c := by rw [fa_le] at *; omega
theorem i32_le_rfl (a : Int32) : a ≤ a := by rw [fa_le]; omega
theorem i32_antisymm {a b : Int32} (h1 : a ≤ b) (h2 : b ≤ a) : a = b := by rw [fa_le] at *; rw [fa_eq]; omega
theorem m0_ne : (0 : Int32) ≠ -1 := by decide
theorem Sol.least {E : Nat → Nat → Option Nat} {w : Nat → Nat} {s : Nat} {m f : Nat → Int32} (hG : Gr E w s) (hS : Sol E w s m f) : ∀ (k n v : Nat) (g : Int32), RP E w s k n v g → Rlx m f n v g
  | 0, n, v, g, ⟨h1, h2, h3⟩ => by
    subst h1; subst h2; subst h3
    refine ⟨by rw [hS.2.2.1.1]; exact m0_ne, Or.inr ⟨?_, ?_⟩⟩
    · unfold Dn; rw [hS.2.2.1.1]; rfl
    · rw [hS.2.2.1.2]; exact i32_le_rfl _
  | k + 1, n, v, g, ⟨h, v', g', a, hk, ha, hA, he, hv, hg⟩ => by
    have ih := Sol.least hG hS k h v' g' hk
    have hh := RP.lt hG k h v' g' hk
    have hc := hS.2.2.2 h hh ih.1 a n ha hA he
    refine ⟨hc.1, ?_⟩
    rcases hc.2 with q | ⟨q1, q2⟩
    · rcases ih.2 with r | ⟨r, -⟩ <;> (left; omega)
    · rcases ih.2 with r | ⟨r1, r2⟩
      · left; omega
      · right
        refine ⟨by omega, i32_le_trans q2 ?_⟩
        rw [hg]
        unfold lab
        by_cases e : h = s
        · rw [if_pos e, if_pos e]; exact i32_le_rfl _
        · rw [if_neg e, if_neg e]; exact r2
theorem Sol.unique {E : Nat → Nat → Option Nat} {w : Nat → Nat} {s : Nat} {m f m' f' : Nat → Int32} (hG : Gr E w s) (h1 : Sol E w s m f) (h2 : Sol E w s m' f') {n : Nat} (hn : n < 4096) : m n = m' n ∧ f n = f' n := by
  have key : ∀ {m f m' f' : Nat → Int32}, Sol E w s m f → Sol E w s m' f' → m n ≠ -1 → Rlx m' f' n (Dn m n) (f n) := fun {m f m' f'} h1 h2 hd => by
    obtain ⟨k, hk⟩ := (h1.1 n hn hd).2.2
    exact Sol.least hG h2 k n _ _ hk
  by_cases hd : m n = -1
  · have hd' : m' n = -1 := by
      by_cases h : m' n = -1
      · exact h
      · exact absurd hd (key h2 h1 h).1
    exact ⟨hd.trans hd'.symm, (h1.2.1 n hn hd).trans (h2.2.1 n hn hd').symm⟩
  · have a := key h1 h2 hd
    have b := key h2 h1 a.1
    have e : Dn m n = Dn m' n := by
      rcases a.2 with q | q <;> rcases b.2 with r | r <;> omega
    refine ⟨?_, ?_⟩
    · rw [(h1.1 n hn hd).1, (h2.1 n hn a.1).1, e]
    · rcases a.2 with q | ⟨-, q⟩
      · omega
      · rcases b.2 with r | ⟨-, r⟩
        · omega
        · exact i32_antisymm r q
/-- a better entry is laid: what was relaxed stays so -/
theorem Rlx.put {m f : Nat → Int32} {t v t0 v0 : Nat} {g g0 : Int32} (h : Rlx m f t v g) (hv0 : v0 < 2 ^ 31) (hb : m t0 ≠ -1 → v0 < Dn m t0 ∨ (v0 = Dn m t0 ∧ g0 ≤ f t0)) : Rlx (upd m t0 (nI v0)) (upd f t0 g0) t v g := by
  by_cases e : t = t0
  · subst e
    have hD : Dn (upd m t (nI v0)) t = v0 := by unfold Dn; rw [pk_us, nI_clamp hv0]
    refine ⟨by rw [pk_us]; exact nI_m1 hv0, ?_⟩
    rw [hD, pk_us]
    rcases hb h.1 with q | ⟨q1, q2⟩
    · rcases h.2 with r | ⟨r, -⟩ <;> (left; omega)
    · rcases h.2 with r | ⟨r1, r2⟩
      · left; omega
      · right; exact ⟨by omega, i32_le_trans q2 r2⟩
  · have hD : Dn (upd m t0 (nI v0)) t = Dn m t := by unfold Dn; rw [pk_un e]
    refine ⟨by rw [pk_un e]; exact h.1, ?_⟩
    rw [hD, pk_un e]; exact h.2
theorem Rlx.self {m f : Nat → Int32} {t v : Nat} {g : Int32} (hv : v < 2 ^ 31) : Rlx (upd m t (nI v)) (upd f t g) t v g := by
  refine ⟨by rw [pk_us]; exact nI_m1 hv, Or.inr ⟨?_, ?_⟩⟩
  · unfold Dn; rw [pk_us, nI_clamp hv]
  · rw [pk_us]; exact i32_le_rfl _
theorem Dn_upd_ne {m : Nat → Int32} {t n : Nat} {x : Int32} (h : n ≠ t) : Dn (upd m t x) n = Dn m n := by unfold Dn; rw [pk_un h]
theorem Dn_upd_eq {m : Nat → Int32} {t v : Nat} (hv : v < 2 ^ 31) : Dn (upd m t (nI v)) t = v := by unfold Dn; rw [pk_us, nI_clamp hv]
/-- how many entries are laid -/
def ctD (m : Nat → Int32) : Nat := fb_ct (fun n => !decide (m n = -1)) 4096
theorem ctD_le (m : Nat → Int32) : ctD m ≤ 4096 := fb_ct_le _ _
theorem ctD_same {m : Nat → Int32} {t v : Nat} (hv : v < 2 ^ 31) (h : m t ≠ -1) : ctD (upd m t (nI v)) = ctD m := by
  unfold ctD
  refine fb_ct_cong fun k _ => ?_
  by_cases e : k = t
  · subst e
    rw [pk_us]
    simp [nI_m1 hv, h]
  · rw [pk_un e]
theorem ctD_new {m : Nat → Int32} {t v : Nat} (ht : t < 4096) (hv : v < 2 ^ 31) (h : m t = -1) : ctD (upd m t (nI v)) = ctD m + 1 := by
  unfold ctD
  have e : (fun n => !decide (upd m t (nI v) n = -1)) = (fun k => if k = t then true else (fun n => !decide (m n = -1)) k) := by
    funext k
    by_cases e : k = t
    · subst e; rw [pk_us, if_pos rfl]; simp [nI_m1 hv]
    · rw [pk_un e, if_neg e]
  rw [e]
  have := fb_ct_upd (fun n => !decide (m n = -1)) true ht
  simp only [h, decide_true, Bool.not_true, Bool.false_eq_true, if_false, if_true, Nat.add_zero] at this
  exact this
theorem ctD_pos {m : Nat → Int32} {s : Nat} (hs : s < 4096) (h : m s ≠ -1) : 1 ≤ ctD m := by
  unfold ctD
  exact fb_ct_pos.mpr ⟨s, hs, by simp [h]⟩
/-- entries so far: sound, in bounds by how many there are -/
def Bnd (m : Nat → Int32) : Prop := ∀ n, n < 4096 → m n ≠ -1 → Dn m n + 4 ≤ 4 * ctD m
def Snd (E : Nat → Nat → Option Nat) (w : Nat → Nat) (s : Nat) (m f : Nat → Int32) : Prop := (∀ n, n < 4096 → m n ≠ -1 → m n = nI (Dn m n) ∧ Rch E w s n (Dn m n) (f n)) ∧ Und m f ∧ (m s = 0 ∧ f s = -1) ∧ Bnd m
theorem Snd.vld {E : Nat → Nat → Option Nat} {w : Nat → Nat} {s : Nat} {m f : Nat → Int32} (h : Snd E w s m f) : Vld E w s m f 16380 := fun n hn hd => ⟨(h.1 n hn hd).1, by have := h.2.2.2 n hn hd; have := ctD_le m; omega, (h.1 n hn hd).2⟩
/-- a sound better entry keeps soundness -/
theorem Snd.put {E : Nat → Nat → Option Nat} {w : Nat → Nat} {s : Nat} {m f : Nat → Int32} (hG : Gr E w s) (h : Snd E w s m f) {c a t : Nat} (hc : c < 4096) (hcd : m c ≠ -1) (ha : a < 42) (hA : isA a = true) (he : E c a = some t) (hb : m t ≠ -1 → Dn m c + w a ≤ Dn m t) : Snd E w s (upd m t (nI (Dn m c + w a))) (upd f t (lab s f c a)) := by
  have ht := hG.2.1 c a t hc he
  have hw := hG.2.2 a ha hA
  have hB := h.2.2.2 c hc hcd
  have hL := ctD_le m
  have hv : Dn m c + w a < 2 ^ 31 := by omega
  have hts : t ≠ s := by
    intro e
    subst e
    have hm : m t ≠ -1 := by rw [h.2.2.1.1]; exact m0_ne
    have h0 : Dn m t = 0 := by unfold Dn; rw [h.2.2.1.1]; rfl
    have := hb hm
    omega
  refine ⟨fun n hn hd => ?_, fun n hn hd => ?_, ⟨by rw [pk_un (Ne.symm hts)]; exact h.2.2.1.1, by rw [pk_un (Ne.symm hts)]; exact h.2.2.1.2⟩, fun n hn hd => ?_⟩
  · by_cases e : n = t
    · subst e
      rw [Dn_upd_eq hv, pk_us, pk_us]
      exact ⟨rfl, (h.1 c hc hcd).2.step ha hA he⟩
    · rw [pk_un e] at hd
      rw [Dn_upd_ne e, pk_un e, pk_un e]
      exact h.1 n hn hd
  · by_cases e : n = t
    · subst e
      rw [pk_us] at hd
      exact absurd hd (nI_m1 hv)
    · rw [pk_un e] at hd
      rw [pk_un e]
      exact h.2.1 n hn hd
  · by_cases hm : m t = -1
    · rw [ctD_new ht hv hm]
      by_cases e : n = t
      · subst e; rw [Dn_upd_eq hv]; omega
      · rw [pk_un e] at hd; rw [Dn_upd_ne e]; have := h.2.2.2 n hn hd; omega
    · rw [ctD_same hv hm]
      by_cases e : n = t
      · subst e; rw [Dn_upd_eq hv]; have := hb hm; have := h.2.2.2 n hn hm; omega
      · rw [pk_un e] at hd; rw [Dn_upd_ne e]; exact h.2.2.2 n hn hd
