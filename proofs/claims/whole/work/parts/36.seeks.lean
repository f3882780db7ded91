/-! the searches side by side: what is behind them -/
theorem NW.fr {a a1 : Nat → Int32} {o : Nat} {f f1 h h1 : Nat → Int32} {m5 m8 m7 m6 m16 m5' m8' m7' m6' m16' : Int32} (hw : NW a o f m5 m8 m7 m6 m16 h) (e0 : a1 o = a o) (e1 : a1 (o + 1) = a (o + 1)) (e2 : a1 (o + 2) = a (o + 2)) (e3 : a1 (o + 3) = a (o + 3)) (e4 : a1 (o + 4) = a (o + 4)) (ef : f1 = f) (eh : h1 = h) (q5 : m5' = m5) (q8 : m8' = m8) (q7 : m7' = m7) (q6 : m6' = m6) (q16 : m16' = m16) : NW a1 o f1 m5' m8' m7' m6' m16' h1 := by
  subst ef eh q5 q8 q7 q6 q16
  unfold NW at hw ⊢
  rw [e0, e1, e2, e3, e4]
  exact hw
theorem RelB.view2 {N : Nat} {sc : Nat → Int32} {ar : Nat → Nat → Int32} {mc : Nat → Int32} {mr : Nat → Nat → Int32} {hs : Int64} (h : RelB N (sc, ar) (mc, mr, hs)) : ∃ (kd : Nat → Nat) (li s be : Nat) (bs : Nat → Nat) (T : Nat), (¬ sc 1 = 0 → CH sc ar kd li) ∧ KC sc ar kd li ∧ MH mc mr kd li s ∧ sc 7 = nI s ∧ be < 10 ∧ zX5_bendNow sc ar = nI be ∧ zX6_bendNow mc mr hs = nI be ∧ SH (sc 11) (ar 4) bs T ∧ SH (mc 16) (mr 6) bs T ∧ mc 2 = sc 1 ∧
    ∀ (sc1 : Nat → Int32) (ar1 : Nat → Nat → Int32) (mc1 : Nat → Int32) (mr1 : Nat → Nat → Int32) (hs1 : Int64), (∀ j, j < 17 → j ≠ 4 → sc1 j = sc j) → (∀ k, k < 6 → ar1 k = ar k) → (∀ j, (j < 20 ∨ 23 ≤ j) → j ≠ 15 → mc1 j = mc j) → (∀ k, (k < 2 ∨ k = 6 ∨ k = 9) → mr1 k = mr k) → (∃ e, e ≤ 12 ∧ sc1 4 = nI e ∧ mc1 15 = nI e) → KC sc1 ar1 kd li → RelB N (sc1, ar1) (mc1, mr1, hs1) := by
  obtain ⟨⟨P, p1, p2, p3, p4⟩, ⟨kd, li, bd, l1, l2, l3, l4, l5, l6, l7⟩, hnw, ⟨k0, R, k1, k2, k3, k4⟩, ⟨m1, _⟩⟩ := h
  obtain ⟨s, T, bs, n1, n2, n3, n4, n5, n6, n7, n8, n9⟩ := id hnw
  have e5 : sc 5 = nI bd := l4
  have e3 : mc 3 = nI bd := l5
  have e8 : mc 8 = sc 8 := n5
  have hfin : ∀ (sc1 : Nat → Int32) (ar1 : Nat → Nat → Int32) (mc1 : Nat → Int32) (mr1 : Nat → Nat → Int32) (hs1 : Int64), (∀ j, j < 17 → j ≠ 4 → sc1 j = sc j) → (∀ k, k < 6 → ar1 k = ar k) → (∀ j, (j < 20 ∨ 23 ≤ j) → j ≠ 15 → mc1 j = mc j) → (∀ k, (k < 2 ∨ k = 6 ∨ k = 9) → mr1 k = mr k) → (∃ e, e ≤ 12 ∧ sc1 4 = nI e ∧ mc1 15 = nI e) → KC sc1 ar1 kd li → RelB N (sc1, ar1) (mc1, mr1, hs1) := by
    intro sc1 ar1 mc1 mr1 hs1 fs fa fm fr he hK
    refine ⟨⟨P, (fs 0 (by decide) (by decide)).trans p1, (fm 1 (by decide) (by decide)).trans p2, p3, fun k hk => ?_⟩, ⟨kd, li, bd, ⟨(fs 6 (by decide) (by decide)).trans l1.1, l1.2.1, ?_, ?_⟩, (fm 4 (by decide) (by decide)).trans l2, ?_, (fs 5 (by decide) (by decide)).trans l4, (fm 3 (by decide) (by decide)).trans l5, l6, hK⟩, ?_, ⟨?_, R, k1, (fs 3 (by decide) (by decide)).trans k2, (fm 9 (by decide) (by decide)).trans k3, ?_⟩, ⟨?_, he⟩⟩
    · show ar1 0 k = mr1 0 k ∧ PgC (mr1 0 k)
      rw [fa 0 (by decide), fr 0 (by decide)]
      exact p4 k hk
    · show KD (ar1 1) kd
      rw [fa 1 (by decide)]
      exact l1.2.2.1
    · intro q
      have q' : ¬ sc1 1 = 0 := q
      rw [fs 1 (by decide) (by decide)] at q'
      show KT (ar1 2) (ar1 3) kd
      rw [fa 2 (by decide), fa 3 (by decide)]
      exact l1.2.2.2 q'
    · show KD (mr1 1) kd
      rw [fr 1 (by decide)]
      exact l3
    · exact NW.fr hnw (fs 7 (by decide) (by decide)) (fs 8 (by decide) (by decide)) (fs 9 (by decide) (by decide)) (fs 10 (by decide) (by decide)) (fs 11 (by decide) (by decide)) (fa 4 (by decide)) (fr 6 (by decide)) (fm 5 (by decide) (by decide)) (fm 8 (by decide) (by decide)) (fm 7 (by decide) (by decide)) (fm 6 (by decide) (by decide)) (fm 16 (by decide) (by decide))
    · show sc1 13 = 0 ∨ sc1 13 = 1
      rw [fs 13 (by decide) (by decide)]
      exact k0
    · rcases k4 with ⟨z2, z4⟩ | ⟨z2, z4, hK2⟩
      · refine Or.inl ⟨(fs 2 (by decide) (by decide)).trans z2, ?_⟩
        show mc1 24 = -1 ∨ ∃ h, h < R ∧ mc1 24 = nI h
        rw [fm 24 (by decide) (by decide)]
        exact z4
      · exact Or.inr ⟨(fs 2 (by decide) (by decide)).trans z2, (fm 24 (by decide) (by decide)).trans z4, NW.fr hK2 (fs 12 (by decide) (by decide)) (fs 13 (by decide) (by decide)) (fs 14 (by decide) (by decide)) (fs 15 (by decide) (by decide)) (fs 16 (by decide) (by decide)) (fa 5 (by decide)) (fr 9 (by decide)) (fm 25 (by decide) (by decide)) (fm 28 (by decide) (by decide)) (fm 27 (by decide) (by decide)) (fm 26 (by decide) (by decide)) (fm 29 (by decide) (by decide))⟩
    · show mc1 2 = sc1 1
      rw [fm 2 (by decide) (by decide), fs 1 (by decide) (by decide)]
      exact m1
  rcases (show sc 8 = 0 ∨ sc 8 = 1 from n4) with e | e
  · refine ⟨kd, li, s, bd, bs, T, l1.to, l7, ⟨n2, n3, l2, l1.2.1, l3⟩, n1, l6, ?_, ?_, n8, n9, m1, hfin⟩
    · unfold zX5_bendNow; rw [if_pos e, e5]
    · unfold zX6_bendNow; rw [e8, e, if_neg (by decide), e3]
  · refine ⟨kd, li, s, bd / 2, bs, T, l1.to, l7, ⟨n2, n3, l2, l1.2.1, l3⟩, n1, by omega, ?_, ?_, n8, n9, m1, hfin⟩
    · unfold zX5_bendNow; rw [if_neg (by rw [e]; decide), e5, show (2 : Int32) = nI 2 from rfl, pk_div (by omega) (by decide) (by decide)]
    · unfold zX6_bendNow; rw [e8, e, if_pos rfl, e3, show (2 : Int32) = nI 2 from rfl, pk_div (by omega) (by decide) (by decide)]
