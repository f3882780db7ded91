/-! more calls that search nothing -/
theorem in_cls (x : Int32) (lo hi : Nat) (hh : hi < 2 ^ 31) (hl : lo < 2 ^ 31) : (x < nI lo → zX6_in x.toInt64 (lN lo) (lN hi) = 0) ∧ (¬ x < nI lo → x ≤ nI hi → ¬ zX6_in x.toInt64 (lN lo) (lN hi) = 0) ∧ (¬ x ≤ nI hi → zX6_in x.toInt64 (lN lo) (lN hi) = 0) := by
  rw [zin32 x lo hi hh hl, fa_lt, fa_le, nI_toInt hl, nI_toInt hh]
  refine ⟨fun a => if_neg (by omega), fun a b => ?_, fun a => if_neg (by omega)⟩
  rw [if_pos (by omega)]
  decide
theorem q_restore {N : Nat} {sc : Nat → Int32} {ar : Nat → Nat → Int32} {mc : Nat → Int32} {mr : Nat → Nat → Int32} {hs : Int64} (hN : N < 2 ^ 31) (h : RelB N (sc, ar) (mc, mr, hs)) : RQ N (fX5_restore sc ar) (fX6_restore mc mr hs) := by
  have h0 := h
  obtain ⟨h1, h2, h3, ⟨k0, R, k1, k2, k3, k4⟩, h5⟩ := h
  have e9 : mc 9 = nI R := k3
  unfold fX5_restore fX6_restore
  rcases k4 with ⟨z2, z4⟩ | ⟨z2, z4, hK⟩
  · have hne : ¬ mc 24 = mc 9 := by
      rw [e9]
      rcases z4 with e | ⟨q, hq, e⟩
      · rw [show mc 24 = -1 from e]
        exact fun q => nI_m1 (by omega) q.symm
      · rw [show mc 24 = nI q from e]
        exact fun r => absurd ((nI_eq (by omega) (by omega)).mp r) (by omega)
    rw [if_pos z2, if_neg hne]
    exact ⟨rfl, h0⟩
  · have z2' : sc 2 = 1 := z2
    have z4' : mc 24 = nI R := z4
    rw [if_neg (show ¬ sc 2 = 0 by rw [z2']; decide), if_pos (show mc 24 = mc 9 by rw [z4', e9])]
    obtain ⟨s, T, bs, n1, n2, n3, n4, n5, n6, n7, n8, n9⟩ := id hK
    refine ⟨n6, h1, h2, ⟨s, T, bs, n1, n2, n3, n4, n5, n6, n7, ⟨n8.1, n8.2.1, fun i hi => ?_⟩, ⟨n9.1, n9.2.1, fun i hi => ?_⟩⟩, ⟨k0, R, k1, k2, k3, Or.inr ⟨z2, z4, hK⟩⟩, h5⟩
    · have h9 := n8.2.2 i hi
      have h8 := n8.2.1
      match i, hi, h9 with
      | 0, _, h9 => exact h9
      | 1, _, h9 => exact h9
      | 2, _, h9 => exact h9
      | 3, _, h9 => exact h9
      | i + 4, hi, _ => omega
    · have h9 := n9.2.2 i hi
      have h8 := n8.2.1
      match i, hi, h9 with
      | 0, _, h9 => exact h9
      | 1, _, h9 => exact h9
      | 2, _, h9 => exact h9
      | 3, _, h9 => exact h9
      | i + 4, hi, _ => omega
theorem q_letter {N : Nat} {sc : Nat → Int32} {ar : Nat → Nat → Int32} {mc : Nat → Int32} {mr : Nat → Nat → Int32} {hs : Int64} (x : Int32) (h : RelB N (sc, ar) (mc, mr, hs)) : RQ N (fX5_letter sc ar x) (fX6_letter mc mr hs x) := by
  have h0 := h
  obtain ⟨⟨P, p1, p2, p3, p4⟩, h2, h3, h4, h5⟩ := h
  have e0 : sc 0 = nI P := p1
  have e1 : mc 1 = nI P := p2
  obtain ⟨c1, c2, c3⟩ : (x < 1 → zX6_in x.toInt64 1 126 = 0) ∧ (¬ x < 1 → x ≤ 126 → ¬ zX6_in x.toInt64 1 126 = 0) ∧ (¬ x ≤ 126 → zX6_in x.toInt64 1 126 = 0) := in_cls x 1 126 (by decide) (by decide)
  unfold fX5_letter fX6_letter
  by_cases a : x < 1
  · rw [if_pos a, if_pos (c1 a)]
    exact ⟨rfl, h0⟩
  rw [if_neg a]
  by_cases b : x ≤ 126
  · rw [if_pos b, if_neg (c2 a b), e0, e1, if_neg (nI_pos (by omega))]
    by_cases c : P < 16
    · rw [if_pos (show nI P < (16 : Int32) from nI_lt (b := 16) c (by decide)), if_neg (show ¬ nI P = (16 : Int32) from fun r => absurd ((nI_eq (b := 16) (by omega) (by decide)).mp r) (by omega)), nI_clamp (by omega)]
      refine ⟨rfl, ⟨P + 1, nI_1 P, nI_1 P, by omega, fun k hk => ?_⟩, h2, h3, h4, h5⟩
      show upd (ar 0) P x k = upd (mr 0) P x k ∧ PgC (upd (mr 0) P x k)
      by_cases e : k = P
      · subst e; rw [pk_us, pk_us]
        refine ⟨rfl, ?_⟩
        rw [fa_lt] at a
        rw [fa_le] at b
        have a1 : (1 : Int32).toInt = 1 := by decide
        have b1 : (126 : Int32).toInt = 126 := by decide
        refine ⟨x.toInt.toNat, by omega, ?_⟩
        rw [fa_eq, nI_toInt (by omega)]
        omega
      · rw [pk_un e, pk_un e]; exact p4 k hk
    · have c' : P = 16 := by omega
      subst c'
      rw [if_neg (by decide), if_pos (by decide)]
      exact ⟨rfl, h0⟩
  · rw [if_neg b, if_pos (c3 b)]
    exact ⟨rfl, h0⟩
theorem q_string {N : Nat} {sc : Nat → Int32} {ar : Nat → Nat → Int32} {mc : Nat → Int32} {mr : Nat → Nat → Int32} {hs : Int64} (x : Int32) (h : RelB N (sc, ar) (mc, mr, hs)) : RQ N (fX5_string sc ar x) (fX6_string mc mr hs x) := by
  have h0 := h
  obtain ⟨h1, h2, ⟨s, T, bs, n1, n2, n3, n4, n5, n6, n7, n8, n9⟩, h4, h5⟩ := h
  have e0 : sc 11 = nI T := n8.1
  have e1 : mc 16 = nI T := n9.1
  have hT := n8.2.1
  obtain ⟨c1, c2, c3⟩ : (x < 0 → zX6_in x.toInt64 0 12 = 0) ∧ (¬ x < 0 → x ≤ 12 → ¬ zX6_in x.toInt64 0 12 = 0) ∧ (¬ x ≤ 12 → zX6_in x.toInt64 0 12 = 0) := in_cls x 0 12 (by decide) (by decide)
  unfold fX5_string fX6_string
  by_cases a : x < 0
  · rw [if_pos a, if_pos (c1 a)]
    exact ⟨rfl, h0⟩
  rw [if_neg a]
  by_cases b : x ≤ 12
  · rw [if_pos b, if_neg (c2 a b), e0, e1, if_neg (nI_pos (by omega))]
    have hb : ∃ v, v ≤ 12 ∧ x = nI v := by
      rw [fa_lt] at a
      rw [fa_le] at b
      have a1 : (0 : Int32).toInt = 0 := by decide
      have b1 : (12 : Int32).toInt = 12 := by decide
      refine ⟨x.toInt.toNat, by omega, ?_⟩
      rw [fa_eq, nI_toInt (by omega)]
      omega
    obtain ⟨v, hv, rfl⟩ := hb
    by_cases c : T < 4
    · rw [if_pos (show nI T < (4 : Int32) from nI_lt (b := 4) c (by decide)), if_neg (show ¬ nI T = (4 : Int32) from fun r => absurd ((nI_eq (b := 4) (by omega) (by decide)).mp r) (by omega)), nI_clamp (by omega)]
      refine ⟨rfl, h1, h2, ⟨s, T + 1, va_up bs T v, n1, n2, n3, n4, n5, n6, n7, ⟨nI_1 T, by omega, fun i hi => ?_⟩, ⟨nI_1 T, by omega, fun i hi => ?_⟩⟩, h4, h5⟩
      · show upd (ar 4) T (nI v) i = nI (va_up bs T v i) ∧ va_up bs T v i ≤ 12
        by_cases e : i = T
        · subst e; rw [pk_us, va_us]; exact ⟨rfl, hv⟩
        · rw [pk_un e, va_un e]; exact n8.2.2 i (by omega)
      · show upd (mr 6) T (nI v) i = nI (va_up bs T v i) ∧ va_up bs T v i ≤ 12
        by_cases e : i = T
        · subst e; rw [pk_us, va_us]; exact ⟨rfl, hv⟩
        · rw [pk_un e, va_un e]; exact n9.2.2 i (by omega)
    · have c' : T = 4 := by omega
      subst c'
      rw [if_neg (by decide), if_pos (by decide)]
      exact ⟨rfl, h0⟩
  · rw [if_neg b, if_pos (c3 b)]
    exact ⟨rfl, h0⟩
theorem q_count {N : Nat} {sc : Nat → Int32} {ar : Nat → Nat → Int32} {mc : Nat → Int32} {mr : Nat → Nat → Int32} {hs : Int64} (x : Int32) (h : RelB N (sc, ar) (mc, mr, hs)) : zX5_count sc ar x = zX6_countOf mc mr hs x := by
  obtain ⟨⟨P, p1, p2, p3, p4⟩, ⟨kd, li, bd, l1, l2, l3, l4, l5, l6, l7⟩, ⟨s, T, bs, n1, n2, n3, n4, n5, n6, n7, n8, n9⟩, ⟨k0, R, k1, k2, k3, k4⟩, ⟨m1, e, m2, m3, m4⟩⟩ := h
  have e8 : zX5_asNumber (sc 8) = mc 8 := by
    rw [show mc 8 = sc 8 from n5]
    unfold zX5_asNumber
    rcases (show sc 8 = 0 ∨ sc 8 = 1 from n4) with e | e <;> rw [e] <;> decide
  unfold zX5_count zX6_countOf
  rw [e8, show sc 5 = mc 3 from l4.trans l5.symm, show sc 6 = mc 4 from l1.1.trans l2.symm, show sc 7 = nI s from n1, show mc 5 = nI s from n2, tons5 n3, tons6 n3, show sc 10 = mc 6 from n7, show sc 9 = mc 7 from n6, show sc 11 = mc 16 from n8.1.trans n9.1.symm, show sc 0 = mc 1 from p1.trans p2.symm, show sc 3 = mc 9 from k2.trans k3.symm, show sc 4 = mc 15 from m3.trans m4.symm]
