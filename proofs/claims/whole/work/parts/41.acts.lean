/-! an act, and the page's fault, side by side -/
theorem q_act {N : Nat} {sc : Nat → Int32} {ar : Nat → Nat → Int32} {mc : Nat → Int32} {mr : Nat → Nat → Int32} {hs : Int64} (x : Int32) (h : RelB N (sc, ar) (mc, mr, hs)) : RQ N (fX5_act sc ar x) (fX6_act mc mr hs x) := by
  have h0 := h
  obtain ⟨kd, li, s, be, bs', T', hC, hK, hM, e7, hbe, b5, b6, s5, s6, e2⟩ := h.view
  obtain ⟨h1, h2, ⟨s', T, bs, n1, n2, n3, n4, n5, n6, n7, n8, n9⟩, h4, h5⟩ := h
  unfold fX5_act fX6_act
  rw [e2, b5, b6, e7, hM.1]
  by_cases q : sc 1 = 0
  · rw [if_pos q, if_pos q]
    exact ⟨rfl, h0⟩
  rw [if_neg q, if_neg q]
  rcases isActs x with ⟨i5, i6⟩ | ⟨a, ha, rfl, hA, i5, i6⟩
  · rw [if_pos i5, if_pos i6]
    exact ⟨rfl, h0⟩
  · rw [i5, i6, if_neg (show ¬ (1 : Int32) = 0 by decide), if_neg (show ¬ (1 : Int32) = 0 by decide), behC (be := be) (hC q) hM.2.1 ha (by omega), goesM (be := be) hM hM.2.1 ha (by omega), if_pos hA]
    cases hg : goN (hk kd) li be s a with
    | none =>
      rw [if_pos (show emb none = -1 from rfl), if_pos (show emb none = -1 from rfl)]
      exact ⟨rfl, h0⟩
    | some t =>
      have ht := goN_lt hM.2.1 hg
      have htn := mvN_tns hM.2.1 ha hA (goN_iff.mp hg).1
      have hne : ¬ emb (some t) = -1 := nI_m1 (by omega)
      rw [if_neg hne, if_neg hne]
      have ee : emb (some t) = nI t := rfl
      rw [ee, min5 (hC q).2.2.2 ha, tons5 hM.2.1, tons5 ht]
      have n6' : sc 9 = mc 7 := n6
      have n7' : sc 10 = mc 6 := n7
      by_cases h6 : a < 6
      · rw [if_pos h6] at htn
        have eo : nI (tns s) - nI (tns t) = 1 := by rw [← htn, pk_sub (Nat.le_add_right _ _), Nat.add_sub_cancel_left]; rfl
        rw [if_neg (show ¬ (6 : Int32) ≤ nI a from nI_ge (b := 6) h6 (by decide)), lasts6 hM.2.2.2.2 ha, eo, n6', n7']
        exact ⟨rfl, h1, h2, ⟨t, T, bs, rfl, rfl, ht, n4, n5, rfl, rfl, n8, n9⟩, h4, h5⟩
      · rw [if_neg h6] at htn
        have eo : nI (tns s) - nI (tns t) = 0 := by rw [← htn, pk_sub (Nat.le_add_right _ _), Nat.add_sub_cancel_left]; rfl
        rw [if_pos (show (6 : Int32) ≤ nI a from nI_le (a := 6) (by omega) (by omega)), lasts6 hM.2.2.2.2 ha, eo, n6', n7']
        exact ⟨rfl, h1, h2, ⟨t, T, bs, rfl, rfl, ht, n4, n5, rfl, rfl, n8, n9⟩, h4, h5⟩
set_option maxRecDepth 100000 in
theorem t_form : ∀ i, i < 16 → ∀ c, c < 127 → (zX5_isOfForm (nI i) (nI c) = 0 ↔ zX6_isGood (nI i) (nI c) = 0) := by decide +kernel
theorem q_fault {N : Nat} {sc : Nat → Int32} {ar : Nat → Nat → Int32} {mc : Nat → Int32} {mr : Nat → Nat → Int32} {hs : Int64} (h : RelB N (sc, ar) (mc, mr, hs)) : zX5_fault sc ar = zX6_faultOf mc mr hs := by
  obtain ⟨⟨P, p1, p2, p3, p4⟩, _⟩ := h
  have e0 : sc 0 = nI P := p1
  have e1 : mc 1 = nI P := p2
  have L : ∀ n i, i ≤ P → P - i < n → zX5_fault_2 sc ar n i = zX6_faultOf_2 mc mr hs n i := by
    intro n
    induction n with
    | zero => intro i _ hm; exact absurd hm (Nat.not_lt_zero _)
    | succ n ih =>
      intro i hi hm
      unfold zX5_fault_2 zX6_faultOf_2
      rw [e0, e1]
      by_cases c : P ≤ i
      · have : i = P := by omega
        subst this
        rw [if_pos (nI_le (Nat.le_refl _) (by omega)), if_pos (nI_le (Nat.le_refl _) (by omega))]
      · rw [if_neg (nI_ge (by omega) (by omega)), if_neg (nI_ge (by omega) (by omega)), if_neg (show ¬ (16 : Int32) ≤ nI i from nI_ge (b := 16) (by omega) (by decide))]
        obtain ⟨pa, cc, hc, pb⟩ := p4 i (by omega)
        have pa' : ar 0 i = mr 0 i := pa
        have pb' : mr 0 i = nI cc := pb
        rw [pa', pb']
        have ht := t_form i (by omega) cc hc
        by_cases d : zX6_isGood (nI i) (nI cc) = 0
        · rw [if_pos d, if_pos (ht.mpr d)]
        · rw [if_neg d, if_neg (fun q => d (ht.mp q)), ih (i + 1) (by omega) (by omega)]
  exact L 17 0 (Nat.zero_le _) (by omega)
