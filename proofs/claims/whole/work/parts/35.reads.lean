/-! the calls that read the hold alone -/
theorem RelB.view {N : Nat} {sc : Nat → Int32} {ar : Nat → Nat → Int32} {mc : Nat → Int32} {mr : Nat → Nat → Int32} {hs : Int64} (h : RelB N (sc, ar) (mc, mr, hs)) : ∃ (kd : Nat → Nat) (li s be : Nat) (bs : Nat → Nat) (T : Nat), (¬ sc 1 = 0 → CH sc ar kd li) ∧ KC sc ar kd li ∧ MH mc mr kd li s ∧ sc 7 = nI s ∧ be < 10 ∧ zX5_bendNow sc ar = nI be ∧ zX6_bendNow mc mr hs = nI be ∧ SH (sc 11) (ar 4) bs T ∧ SH (mc 16) (mr 6) bs T ∧ mc 2 = sc 1 := by
  obtain ⟨_, ⟨kd, li, bd, l1, l2, l3, l4, l5, l6, l7⟩, ⟨s, T, bs, n1, n2, n3, n4, n5, n6, n7, n8, n9⟩, _, ⟨m1, _⟩⟩ := h
  have e5 : sc 5 = nI bd := l4
  have e3 : mc 3 = nI bd := l5
  have e8 : mc 8 = sc 8 := n5
  rcases (show sc 8 = 0 ∨ sc 8 = 1 from n4) with e | e
  · refine ⟨kd, li, s, bd, bs, T, l1.to, l7, ⟨n2, n3, l2, l1.2.1, l3⟩, n1, l6, ?_, ?_, n8, n9, m1⟩
    · unfold zX5_bendNow; rw [if_pos e, e5]
    · unfold zX6_bendNow; rw [e8, e, if_neg (by decide), e3]
  · refine ⟨kd, li, s, bd / 2, bs, T, l1.to, l7, ⟨n2, n3, l2, l1.2.1, l3⟩, n1, by omega, ?_, ?_, n8, n9, m1⟩
    · unfold zX5_bendNow; rw [if_neg (by rw [e]; decide), e5, show (2 : Int32) = nI 2 from rfl, pk_div (by omega) (by decide) (by decide)]
    · unfold zX6_bendNow; rw [e8, e, if_pos rfl, e3, show (2 : Int32) = nI 2 from rfl, pk_div (by omega) (by decide) (by decide)]
theorem isActs (x : Int32) : (zX5_isAct x = 0 ∧ zX6_isAct x = 0) ∨ ∃ a, a < 42 ∧ x = nI a ∧ isA a = true ∧ zX5_isAct x = 1 ∧ zX6_isAct x = 1 := by
  obtain ⟨c1, c2, c3⟩ : (x < 0 → zX6_in x.toInt64 0 41 = 0) ∧ (¬ x < 0 → x ≤ 41 → ¬ zX6_in x.toInt64 0 41 = 0) ∧ (¬ x ≤ 41 → zX6_in x.toInt64 0 41 = 0) := in_cls x 0 41 (by decide) (by decide)
  by_cases a : x < 0
  · left
    exact ⟨by unfold zX5_isAct; rw [if_pos a], by unfold zX6_isAct; rw [if_pos (c1 a)]⟩
  by_cases b : x ≤ 41
  · have hb : ∃ v, v < 42 ∧ x = nI v := by
      rw [fa_lt] at a
      rw [fa_le] at b
      have a1 : (0 : Int32).toInt = 0 := by decide
      have b1 : (41 : Int32).toInt = 41 := by decide
      refine ⟨x.toInt.toNat, by omega, ?_⟩
      rw [fa_eq, nI_toInt (by omega)]
      omega
    obtain ⟨v, hv, rfl⟩ := hb
    rw [act5 v hv, act6 v hv]
    by_cases q : isA v = true
    · right
      exact ⟨v, hv, rfl, q, if_pos q, if_pos q⟩
    · left
      exact ⟨if_neg q, if_neg q⟩
  · left
    have b2 : ¬ x < 42 := by
      rw [fa_le] at b
      rw [fa_lt]
      have b1 : (41 : Int32).toInt = 41 := by decide
      have b3 : (42 : Int32).toInt = 42 := by decide
      omega
    exact ⟨by unfold zX5_isAct; rw [if_neg a, if_neg b2], by unfold zX6_isAct; rw [if_pos (c3 b)]⟩
theorem q_may {N : Nat} {sc : Nat → Int32} {ar : Nat → Nat → Int32} {mc : Nat → Int32} {mr : Nat → Nat → Int32} {hs : Int64} (x : Int32) (h : RelB N (sc, ar) (mc, mr, hs)) : zX5_may sc ar x = zX6_may mc mr hs x := by
  obtain ⟨kd, li, s, be, bs, T, hC, hK, hM, e7, hbe, b5, b6, s5, s6, e2⟩ := h.view
  unfold zX5_may zX6_may
  rw [e2, b5, b6, e7, hM.1]
  by_cases q : sc 1 = 0
  · rw [if_pos q, if_pos q]
  rw [if_neg q, if_neg q]
  rcases isActs x with ⟨i5, i6⟩ | ⟨a, ha, rfl, hA, i5, i6⟩
  · rw [if_pos i5, if_pos i6]
  · rw [i5, i6, if_neg (show ¬ (1 : Int32) = 0 by decide), if_neg (show ¬ (1 : Int32) = 0 by decide), behC (be := be) (hC q) hM.2.1 ha (by omega), goesM (be := be) hM hM.2.1 ha (by omega), if_pos hA]
    rfl
theorem q_hull {N : Nat} {sc : Nat → Int32} {ar : Nat → Nat → Int32} {mc : Nat → Int32} {mr : Nat → Nat → Int32} {hs : Int64} (x : Int32) (h : RelB N (sc, ar) (mc, mr, hs)) : zX5_hull sc ar x = zX6_hull mc mr hs x := by
  obtain ⟨kd, li, s, be, bs, T, hC, hK, hM, e7, hbe, b5, b6, s5, s6, e2⟩ := h.view
  obtain ⟨c1, c2, c3⟩ : (x < 0 → zX6_in x.toInt64 0 3 = 0) ∧ (¬ x < 0 → x ≤ 3 → ¬ zX6_in x.toInt64 0 3 = 0) ∧ (¬ x ≤ 3 → zX6_in x.toInt64 0 3 = 0) := in_cls x 0 3 (by decide) (by decide)
  unfold zX5_hull zX6_hull
  by_cases a : x < 0
  · rw [if_pos a, if_pos (c1 a)]
  rw [if_neg a]
  by_cases b : x ≤ 3
  · rw [if_pos b, if_neg (c2 a b), e2]
    by_cases q : sc 1 = 0
    · rw [if_pos q, if_pos q]
    · rw [if_neg q, if_neg q]
      unfold zX6_hullOf
      have hli := (hC q).2.1
      rw [b5, b6, e7, hM.1, bent5 hM.2.1, bent6 hM.2.1, list5 hM.2.1, list6 hM.2.1, bears5 hM.2.1 (hC q).1 (by omega) (by omega), bears6 hM.2.1 hM.2.2.1 (by omega) (by omega)]
      rfl
  · rw [if_neg b, if_pos (c3 b)]
theorem isBays {sc : Nat → Int32} {ar : Nat → Nat → Int32} (x : Int32) (q : ¬ sc 1 = 0) : (zX5_isBay sc ar x = 0 ∧ zX6_in x.toInt64 0 2 = 0) ∨ ∃ b, b < 3 ∧ x = nI b ∧ ¬ zX5_isBay sc ar x = 0 ∧ ¬ zX6_in x.toInt64 0 2 = 0 := by
  obtain ⟨c1, c2, c3⟩ : (x < 0 → zX6_in x.toInt64 0 2 = 0) ∧ (¬ x < 0 → x ≤ 2 → ¬ zX6_in x.toInt64 0 2 = 0) ∧ (¬ x ≤ 2 → zX6_in x.toInt64 0 2 = 0) := in_cls x 0 2 (by decide) (by decide)
  unfold zX5_isBay
  rw [if_neg q]
  have a1 : (0 : Int32).toInt = 0 := by decide
  have b1 : (2 : Int32).toInt = 2 := by decide
  have b3 : (3 : Int32).toInt = 3 := by decide
  by_cases a : x < 0
  · left
    exact ⟨if_pos a, c1 a⟩
  by_cases b : x ≤ 2
  · right
    have k := c2 a b
    have n3 : ¬ (3 : Int32) ≤ x := by rw [fa_le] at b ⊢; omega
    have hb : ∃ v, v < 3 ∧ x = nI v := by
      rw [fa_lt] at a
      rw [fa_le] at b
      refine ⟨x.toInt.toNat, by omega, ?_⟩
      rw [fa_eq, nI_toInt (by omega)]
      omega
    obtain ⟨v, hv, e⟩ := hb
    exact ⟨v, hv, e, by rw [if_neg a, if_neg n3]; decide, k⟩
  · left
    have n3 : (3 : Int32) ≤ x := by rw [fa_le] at b ⊢; omega
    exact ⟨by rw [if_neg a, if_pos n3], c3 b⟩
theorem isBay0 {sc : Nat → Int32} {ar : Nat → Nat → Int32} (x : Int32) (q : sc 1 = 0) : zX5_isBay sc ar x = 0 := by unfold zX5_isBay; rw [if_pos q]
theorem q_as {N : Nat} {sc : Nat → Int32} {ar : Nat → Nat → Int32} {mc : Nat → Int32} {mr : Nat → Nat → Int32} {hs : Int64} (x y : Int32) (h : RelB N (sc, ar) (mc, mr, hs)) : zX5_as sc ar x y = zX6_as mc mr hs x y := by
  obtain ⟨kd, li, s, be, bs, T, hC, hK, hM, e7, hbe, b5, b6, s5, s6, e2⟩ := h.view
  obtain ⟨c1, c2, c3⟩ : (y < 0 → zX6_in y.toInt64 0 4 = 0) ∧ (¬ y < 0 → y ≤ 4 → ¬ zX6_in y.toInt64 0 4 = 0) ∧ (¬ y ≤ 4 → zX6_in y.toInt64 0 4 = 0) := in_cls y 0 4 (by decide) (by decide)
  unfold zX5_as zX6_as
  rw [e2]
  by_cases q : sc 1 = 0
  · rw [if_pos q, if_pos (isBay0 x q)]
  rw [if_neg q]
  rcases isBays (sc := sc) (ar := ar) x q with ⟨i5, i6⟩ | ⟨b, hb, rfl, i5, i6⟩
  · rw [if_pos i5, if_pos i6]
  · rw [if_neg i5, if_neg i6, zAt_in (by omega) (by decide), nI_clamp (by omega), ((hC q).2.2.1 b hb).1, (hM.2.2.2.2 b hb).1]
    have a1 : (4 : Int32).toInt = 4 := by decide
    have b1 : (5 : Int32).toInt = 5 := by decide
    by_cases a : y < 0
    · rw [if_pos a, if_pos (c1 a)]
    by_cases c : y ≤ 4
    · rw [if_neg a, if_pos (show y < 5 by rw [fa_le] at c; rw [fa_lt]; omega), if_neg (c2 a c)]
    · rw [if_neg a, if_neg (show ¬ y < 5 by rw [fa_le] at c; rw [fa_lt]; omega), if_pos (c3 c)]
theorem q_bay {N : Nat} {sc : Nat → Int32} {ar : Nat → Nat → Int32} {mc : Nat → Int32} {mr : Nat → Nat → Int32} {hs : Int64} (x y : Int32) (h : RelB N (sc, ar) (mc, mr, hs)) : zX5_bay sc ar x y = zX6_bay mc mr hs x y := by
  obtain ⟨kd, li, s, be, bs, T, hC, hK, hM, e7, hbe, b5, b6, s5, s6, e2⟩ := h.view
  unfold zX5_bay zX6_bay
  rw [e2]
  by_cases q : sc 1 = 0
  · rw [if_pos q, if_pos (isBay0 x q)]
  rw [if_neg q]
  rcases isBays (sc := sc) (ar := ar) x q with ⟨i5, i6⟩ | ⟨b, hb, rfl, i5, i6⟩
  · rw [if_pos i5, if_pos i6]
  · rw [if_neg i5, if_neg i6, zAt_in (by omega) (by decide), zAt_in (by omega) (by decide), zAt_in (by omega) (by decide), nI_clamp (by omega), ((hC q).2.2.1 b hb).1, (hM.2.2.2.2 b hb).1, taking6 hM.2.2.2.2 hb, carrying6 hM.2.2.2.2 hb, ((hC q).2.2.2 b hb).1, ((hC q).2.2.2 b hb).2, e7, hM.1]
    by_cases y0 : y = 0
    · rw [if_pos y0, if_pos y0]
    rw [if_neg y0, if_neg y0]
    by_cases y1 : y = 1
    · subst y1
      rw [if_pos rfl, if_pos rfl, show (2 * nI b + 1 - 1 : Int32) = 2 * nI b by rw [Int32.add_sub_cancel]]
      rfl
    rw [if_neg y1, if_neg y1]
    by_cases y2 : y = 2
    · subst y2
      rw [if_pos rfl, if_pos rfl, (show ∀ b, b < 3 → (2 * nI b + 2 - 1 : Int32) = 2 * nI b + 1 by decide +kernel) b hb]
      rfl
    rw [if_neg y2, if_neg y2]
