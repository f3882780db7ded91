/-! both states side by side, and the calls that search nothing -/
def NW (a : Nat → Int32) (o : Nat) (f : Nat → Int32) (m5 m8 m7 m6 m16 : Int32) (h : Nat → Int32) : Prop := ∃ (s T : Nat) (bs : Nat → Nat), a o = nI s ∧ m5 = nI s ∧ s < 4096 ∧ (a (o + 1) = 0 ∨ a (o + 1) = 1) ∧ m8 = a (o + 1) ∧ a (o + 2) = m7 ∧ a (o + 3) = m6 ∧ SH (a (o + 4)) f bs T ∧ SH m16 h bs T
/-- a letter's code, or nothing yet -/
def PgC (x : Int32) : Prop := ∃ c, c < 127 ∧ x = nI c
def Rpg (sc : Nat → Int32) (ar : Nat → Nat → Int32) (mc : Nat → Int32) (mr : Nat → Nat → Int32) : Prop := ∃ P, sc 0 = nI P ∧ mc 1 = nI P ∧ P ≤ 16 ∧ ∀ k, k < 16 → ar 0 k = mr 0 k ∧ PgC (mr 0 k)
/-- the lighter as she is read; before the first hold her rows of minutes are empty -/
def CH0 (sc : Nat → Int32) (ar : Nat → Nat → Int32) (kd : Nat → Nat) (li : Nat) : Prop := sc 6 = nI li ∧ li < 10 ∧ KD (ar 1) kd ∧ (¬ sc 1 = 0 → KT (ar 2) (ar 3) kd)
theorem CH0.to {sc : Nat → Int32} {ar : Nat → Nat → Int32} {kd : Nat → Nat} {li : Nat} (h : CH0 sc ar kd li) (q : ¬ sc 1 = 0) : CH sc ar kd li := ⟨h.1, h.2.1, h.2.2.1, h.2.2.2 q⟩
def Rlt (sc : Nat → Int32) (ar : Nat → Nat → Int32) (mc : Nat → Int32) (mr : Nat → Nat → Int32) : Prop := ∃ (kd : Nat → Nat) (li bd : Nat), CH0 sc ar kd li ∧ mc 4 = nI li ∧ KD (mr 1) kd ∧ sc 5 = nI bd ∧ mc 3 = nI bd ∧ bd < 10 ∧ KC sc ar kd li
def Rnw (sc : Nat → Int32) (ar : Nat → Nat → Int32) (mc : Nat → Int32) (mr : Nat → Nat → Int32) : Prop := NW sc 7 (ar 4) (mc 5) (mc 8) (mc 7) (mc 6) (mc 16) (mr 6)
def Rkp (N : Nat) (sc : Nat → Int32) (ar : Nat → Nat → Int32) (mc : Nat → Int32) (mr : Nat → Nat → Int32) : Prop := (sc 13 = 0 ∨ sc 13 = 1) ∧ ∃ R, R ≤ N ∧ sc 3 = nI R ∧ mc 9 = nI R ∧ ((sc 2 = 0 ∧ (mc 24 = -1 ∨ ∃ h, h < R ∧ mc 24 = nI h)) ∨ (sc 2 = 1 ∧ mc 24 = nI R ∧ NW sc 12 (ar 5) (mc 25) (mc 28) (mc 27) (mc 26) (mc 29) (mr 9)))
def Rms (sc mc : Nat → Int32) : Prop := mc 2 = sc 1 ∧ ∃ e, e ≤ 12 ∧ sc 4 = nI e ∧ mc 15 = nI e
/-- the relation of both states behind at most N calls -/
def RelB (N : Nat) (v : uC) (u : uM) : Prop := Rpg v.1 v.2 u.1 u.2.1 ∧ Rlt v.1 v.2 u.1 u.2.1 ∧ Rnw v.1 v.2 u.1 u.2.1 ∧ Rkp N v.1 v.2 u.1 u.2.1 ∧ Rms v.1 u.1
/-- the answer and what is behind it -/
def RQ (N : Nat) (x : Int32 × uC) (y : Int32 × uM) : Prop := x.1 = y.1 ∧ RelB N x.2 y.2
theorem q_blank {N : Nat} {sc : Nat → Int32} {ar : Nat → Nat → Int32} {mc : Nat → Int32} {mr : Nat → Nat → Int32} {hs : Int64} (h : RelB N (sc, ar) (mc, mr, hs)) : RQ N (fX5_blank sc ar) (fX6_blank mc mr hs) := by
  obtain ⟨⟨P, p1, p2, p3, p4⟩, h2, h3, h4, h5⟩ := h
  exact ⟨p1.trans p2.symm, ⟨0, rfl, rfl, by decide, p4⟩, h2, h3, h4, h5⟩
theorem q_forget {N : Nat} {sc : Nat → Int32} {ar : Nat → Nat → Int32} {mc : Nat → Int32} {mr : Nat → Nat → Int32} {hs : Int64} (h : RelB N (sc, ar) (mc, mr, hs)) : RQ N (fX5_forget sc ar) (fX6_forget mc mr hs) := by
  obtain ⟨h1, h2, ⟨s, T, bs, n1, n2, n3, n4, n5, n6, n7, n8, n9⟩, h4, h5⟩ := h
  exact ⟨n8.1.trans n9.1.symm, h1, h2, ⟨s, 0, bs, n1, n2, n3, n4, n5, n6, n7, ⟨rfl, by decide, fun i hi => absurd hi (Nat.not_lt_zero _)⟩, ⟨rfl, by decide, fun i hi => absurd hi (Nat.not_lt_zero _)⟩⟩, h4, h5⟩
theorem q_ground {N : Nat} {sc : Nat → Int32} {ar : Nat → Nat → Int32} {mc : Nat → Int32} {mr : Nat → Nat → Int32} {hs : Int64} {x : Int32} (hx : x = 0 ∨ x = 1) (h : RelB N (sc, ar) (mc, mr, hs)) : RQ N (fX5_ground sc ar x) (fX6_ground mc mr hs x) := by
  have h0 := h
  obtain ⟨h1, h2, ⟨s, T, bs, n1, n2, n3, n4, n5, n6, n7, n8, n9⟩, h4, h5⟩ := h
  have e2 : mc 2 = sc 1 := h5.1
  unfold fX5_ground fX6_ground
  rw [e2]
  by_cases q : sc 1 = 0
  · rw [if_pos q, if_pos q]
    exact ⟨rfl, h0⟩
  · rw [if_neg q, if_neg q]
    have e8 : zX5_asNumber (sc 8) = mc 8 := by
      rw [show mc 8 = sc 8 from n5]
      unfold zX5_asNumber
      rcases (show sc 8 = 0 ∨ sc 8 = 1 from n4) with e | e <;> rw [e] <;> decide
    rcases hx with e | e
    · subst e
      rw [if_pos rfl]
      exact ⟨e8, h1, h2, ⟨s, T, bs, n1, n2, n3, Or.inl rfl, rfl, n6, n7, n8, n9⟩, h4, h5⟩
    · subst e
      rw [if_neg (by decide)]
      exact ⟨e8, h1, h2, ⟨s, T, bs, n1, n2, n3, Or.inr rfl, rfl, n6, n7, n8, n9⟩, h4, h5⟩
theorem q_image {N : Nat} {sc : Nat → Int32} {ar : Nat → Nat → Int32} {mc : Nat → Int32} {mr : Nat → Nat → Int32} {hs : Int64} (h : RelB N (sc, ar) (mc, mr, hs)) : RQ N (fX5_image sc ar) (fX6_image mc mr hs) := by
  have h0 := h
  obtain ⟨h1, h2, h3, ⟨k0, R, k1, k2, k3, k4⟩, h5⟩ := h
  obtain ⟨s, T, bs, n1, n2, n3, n4, n5, n6, n7, n8, n9⟩ := id h3
  have e2 : mc 2 = sc 1 := h5.1
  unfold fX5_image fX6_image
  rw [e2]
  by_cases q : sc 1 = 0
  · rw [if_pos q, if_pos q]
    exact ⟨rfl, h0⟩
  · rw [if_neg q, if_neg q]
    refine ⟨n6, h1, h2, h3, ⟨n4, R, k1, k2, k3, Or.inr ⟨rfl, k3, s, T, bs, n1, n2, n3, n4, n5, n6, n7, ⟨n8.1, n8.2.1, fun i hi => ?_⟩, ⟨n9.1, n9.2.1, fun i hi => ?_⟩⟩⟩, h5⟩
    · have h9 := n8.2.2 i hi
      have h8 := n8.2.1
      match i, hi, h9 with
      | 0, _, h9 => exact h9
      | 1, _, h9 => exact h9
      | 2, _, h9 => exact h9
      | 3, _, h9 => exact h9
      | i + 4, hi, _ => omega
    · have h9 := n9.2.2 i hi
      have h8 := n8.2.1
      match i, hi, h9 with
      | 0, _, h9 => exact h9
      | 1, _, h9 => exact h9
      | 2, _, h9 => exact h9
      | 3, _, h9 => exact h9
      | i + 4, hi, _ => omega
