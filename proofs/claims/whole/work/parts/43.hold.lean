/-! a hold that is read, side by side -/
theorem sk0 (sc : Nat → Int32) (ar : Nat → Nat → Int32) (x : Int32) : fX2_setKind sc ar 0 x = (sc, va_up (va_up (va_up ar 1 (upd (ar 1) 0 x)) 2 (upd (ar 2) 0 (zAt 5 jTak x))) 3 (upd (ar 3) 0 (zAt 5 jCar x))) := by
  have e : (0 : Int32).toNatClampNeg = 0 := by decide
  unfold fX2_setKind
  rw [if_neg (show ¬ (0 : Int32) < 0 by decide), if_pos (show (0 : Int32) < 3 by decide), e]
theorem sk1 (sc : Nat → Int32) (ar : Nat → Nat → Int32) (x : Int32) : fX2_setKind sc ar 1 x = (sc, va_up (va_up (va_up ar 1 (upd (ar 1) 1 x)) 2 (upd (ar 2) 1 (zAt 5 jTak x))) 3 (upd (ar 3) 1 (zAt 5 jCar x))) := by
  have e : (1 : Int32).toNatClampNeg = 1 := by decide
  unfold fX2_setKind
  rw [if_neg (show ¬ (1 : Int32) < 0 by decide), if_pos (show (1 : Int32) < 3 by decide), e]
theorem sk2 (sc : Nat → Int32) (ar : Nat → Nat → Int32) (x : Int32) : fX2_setKind sc ar 2 x = (sc, va_up (va_up (va_up ar 1 (upd (ar 1) 2 x)) 2 (upd (ar 2) 2 (zAt 5 jTak x))) 3 (upd (ar 3) 2 (zAt 5 jCar x))) := by
  have e : (2 : Int32).toNatClampNeg = 2 := by decide
  unfold fX2_setKind
  rw [if_neg (show ¬ (2 : Int32) < 0 by decide), if_pos (show (2 : Int32) < 3 by decide), e]
theorem up01 {f : Nat → Nat → Int32} {v : Nat → Int32} : va_up f 1 v 0 = f 0 := va_un (by decide)
theorem up02 {f : Nat → Nat → Int32} {v : Nat → Int32} : va_up f 2 v 0 = f 0 := va_un (by decide)
theorem up03 {f : Nat → Nat → Int32} {v : Nat → Int32} : va_up f 3 v 0 = f 0 := va_un (by decide)
theorem zA0 (f : Nat → Int32) : zAt 16 f 0 = f 0 := zAt_in (j := 0) (by decide) (by decide)
theorem zA1 (f : Nat → Int32) : zAt 16 f 1 = f 1 := zAt_in (j := 1) (by decide) (by decide)
theorem zA2 (f : Nat → Int32) : zAt 16 f 2 = f 2 := zAt_in (j := 2) (by decide) (by decide)
theorem zA4 (f : Nat → Int32) : zAt 16 f 4 = f 4 := zAt_in (j := 4) (by decide) (by decide)
theorem zA5 (f : Nat → Int32) : zAt 16 f 5 = f 5 := zAt_in (j := 5) (by decide) (by decide)
theorem zA6 (f : Nat → Int32) : zAt 16 f 6 = f 6 := zAt_in (j := 6) (by decide) (by decide)
theorem zA8 (f : Nat → Int32) : zAt 16 f 8 = f 8 := zAt_in (j := 8) (by decide) (by decide)
theorem zA9 (f : Nat → Int32) : zAt 16 f 9 = f 9 := zAt_in (j := 9) (by decide) (by decide)
theorem zA10 (f : Nat → Int32) : zAt 16 f 10 = f 10 := zAt_in (j := 10) (by decide) (by decide)
theorem zA12 (f : Nat → Int32) : zAt 16 f 12 = f 12 := zAt_in (j := 12) (by decide) (by decide)
theorem zA13 (f : Nat → Int32) : zAt 16 f 13 = f 13 := zAt_in (j := 13) (by decide) (by decide)
def kI (x : Int32) : Int32 := zJ0_indexOf_0f7a4 ((x.toUInt32 % 65536).toInt32)
set_option maxHeartbeats 4000000 in
theorem rp_eq (sc : Nat → Int32) (ar : Nat → Nat → Int32) : ∃ A : Nat → Nat → Int32, fX5_readPage sc ar = ((((((((0 : Int32) ||| ((ar 0 1 - 48) <<< ((0 : Int32) &&& 31))) ||| ((ar 0 2 - 48) <<< ((2 : Int32) &&& 31))) ||| ((ar 0 5 - 48) <<< ((4 : Int32) &&& 31))) ||| ((ar 0 6 - 48) <<< ((6 : Int32) &&& 31))) ||| ((ar 0 9 - 48) <<< ((8 : Int32) &&& 31))) ||| ((ar 0 10 - 48) <<< ((10 : Int32) &&& 31))), (upd (upd sc 5 (ar 0 12 - 48)) 6 (ar 0 13 - 48), A)) ∧ A 0 = ar 0 ∧ (∀ b, b < 3 → A 1 b = kI (ar 0 (4 * b)) ∧ A 2 b = zAt 5 jTak (kI (ar 0 (4 * b))) ∧ A 3 b = zAt 5 jCar (kI (ar 0 (4 * b)))) := by
  unfold fX5_readPage zX5_digitAt
  simp only [sk0, sk1, sk2, up01, up02, up03, zA0, zA1, zA2, zA4, zA5, zA6, zA8, zA9, zA10, zA12, zA13]
  refine ⟨_, rfl, rfl, fun b hb => ?_⟩
  match b, hb with
  | 0, _ => exact ⟨rfl, rfl, rfl⟩
  | 1, _ => exact ⟨rfl, rfl, rfl⟩
  | 2, _ => exact ⟨rfl, rfl, rfl⟩
  | b + 3, hb => omega
theorem hold5 (sc : Nat → Int32) (ar : Nat → Nat → Int32) (hp : sc 0 = 14) (hf : zX5_fault sc ar = 14) : ∃ A : Nat → Nat → Int32, fX5_hold sc ar = (zX5_tonsOf (((((((0 : Int32) ||| ((ar 0 1 - 48) <<< ((0 : Int32) &&& 31))) ||| ((ar 0 2 - 48) <<< ((2 : Int32) &&& 31))) ||| ((ar 0 5 - 48) <<< ((4 : Int32) &&& 31))) ||| ((ar 0 6 - 48) <<< ((6 : Int32) &&& 31))) ||| ((ar 0 9 - 48) <<< ((8 : Int32) &&& 31))) ||| ((ar 0 10 - 48) <<< ((10 : Int32) &&& 31))), ((upd (upd (upd (upd (upd (upd (upd (upd (upd (upd (upd (upd sc 7 0) 8 0) 9 0) 10 0) 11 0) 5 (ar 0 12 - 48)) 6 (ar 0 13 - 48)) 7 (((((((0 : Int32) ||| ((ar 0 1 - 48) <<< ((0 : Int32) &&& 31))) ||| ((ar 0 2 - 48) <<< ((2 : Int32) &&& 31))) ||| ((ar 0 5 - 48) <<< ((4 : Int32) &&& 31))) ||| ((ar 0 6 - 48) <<< ((6 : Int32) &&& 31))) ||| ((ar 0 9 - 48) <<< ((8 : Int32) &&& 31))) ||| ((ar 0 10 - 48) <<< ((10 : Int32) &&& 31)))) 0 0) 1 1) 2 0) 3 (sc 3 + 1)), A)) ∧ A 0 = ar 0 ∧ (∀ b, b < 3 → A 1 b = kI (ar 0 (4 * b)) ∧ A 2 b = zAt 5 jTak (kI (ar 0 (4 * b))) ∧ A 3 b = zAt 5 jCar (kI (ar 0 (4 * b)))) := by
  unfold fX5_hold
  rw [if_pos hp, if_pos hf]
  obtain ⟨A, eA, r⟩ := rp_eq (fX3_clear sc ar).1 (fX3_clear sc ar).2
  rw [eA]
  exact ⟨A, rfl, r⟩
set_option maxRecDepth 100000 in
theorem rp_num0 : ∀ a, a < 64 → ∀ b, b < 64 → (((((((0 : Int32) ||| ((nI (48 + (a % 4)) - 48) <<< ((0 : Int32) &&& 31))) ||| ((nI (48 + (a / 4 % 4)) - 48) <<< ((2 : Int32) &&& 31))) ||| ((nI (48 + (a / 16)) - 48) <<< ((4 : Int32) &&& 31))) ||| ((nI (48 + (b % 4)) - 48) <<< ((6 : Int32) &&& 31))) ||| ((nI (48 + (b / 4 % 4)) - 48) <<< ((8 : Int32) &&& 31))) ||| ((nI (48 + (b / 16)) - 48) <<< ((10 : Int32) &&& 31))) = nI (a + 64 * b) ∧ (((4 * (((4 * (((4 * (((4 * (((4 * ((0 + (nI (48 + (b / 16)))) - 48)) + (nI (48 + (b / 4 % 4)))) - 48)) + (nI (48 + (b % 4)))) - 48)) + (nI (48 + (a / 16)))) - 48)) + (nI (48 + (a / 4 % 4)))) - 48)) + (nI (48 + (a % 4)))) - 48 : Int32) = nI (a + 64 * b) := by decide +kernel
theorem rp_num : ∀ d1, d1 < 4 → ∀ d2, d2 < 4 → ∀ d5, d5 < 4 → ∀ d6, d6 < 4 → ∀ d9, d9 < 4 → ∀ d10, d10 < 4 → (((((((0 : Int32) ||| ((nI (48 + d1) - 48) <<< ((0 : Int32) &&& 31))) ||| ((nI (48 + d2) - 48) <<< ((2 : Int32) &&& 31))) ||| ((nI (48 + d5) - 48) <<< ((4 : Int32) &&& 31))) ||| ((nI (48 + d6) - 48) <<< ((6 : Int32) &&& 31))) ||| ((nI (48 + d9) - 48) <<< ((8 : Int32) &&& 31))) ||| ((nI (48 + d10) - 48) <<< ((10 : Int32) &&& 31))) = nI (d1 + 4 * d2 + 16 * d5 + 64 * d6 + 256 * d9 + 1024 * d10) ∧ (((4 * (((4 * (((4 * (((4 * (((4 * ((0 + (nI (48 + d10))) - 48)) + (nI (48 + d9))) - 48)) + (nI (48 + d6))) - 48)) + (nI (48 + d5))) - 48)) + (nI (48 + d2))) - 48)) + (nI (48 + d1))) - 48 : Int32) = nI (d1 + 4 * d2 + 16 * d5 + 64 * d6 + 256 * d9 + 1024 * d10) := by
  intro d1 h1 d2 h2 d5 h5 d6 h6 d9 h9 d10 h10
  have := rp_num0 (d1 + 4 * d2 + 16 * d5) (by omega) (d6 + 4 * d9 + 16 * d10) (by omega)
  rw [show (d1 + 4 * d2 + 16 * d5) % 4 = d1 by omega, show (d1 + 4 * d2 + 16 * d5) / 4 % 4 = d2 by omega, show (d1 + 4 * d2 + 16 * d5) / 16 = d5 by omega, show (d6 + 4 * d9 + 16 * d10) % 4 = d6 by omega, show (d6 + 4 * d9 + 16 * d10) / 4 % 4 = d9 by omega, show (d6 + 4 * d9 + 16 * d10) / 16 = d10 by omega, show d1 + 4 * d2 + 16 * d5 + 64 * (d6 + 4 * d9 + 16 * d10) = d1 + 4 * d2 + 16 * d5 + 64 * d6 + 256 * d9 + 1024 * d10 by omega] at this
  exact this
set_option maxRecDepth 100000 in
theorem t_k : ∀ b, b < 3 → ∀ c, c < 127 → zX6_isGood (nI (4 * b)) (nI c) = 0 ∨ ∃ k, k < 5 ∧ zX6_kindBy (nI c) = nI k ∧ kI (nI c) = nI k := by decide +kernel
set_option maxRecDepth 100000 in
theorem t_d : ∀ b, b < 3 → ∀ e, e < 2 → ∀ c, c < 127 → zX6_isGood (nI (4 * b + 1 + e)) (nI c) = 0 ∨ ∃ d, d < 4 ∧ c = 48 + d := by decide +kernel
set_option maxRecDepth 100000 in
theorem t_e : ∀ e, e < 2 → ∀ c, c < 127 → zX6_isGood (nI (12 + e)) (nI c) = 0 ∨ ∃ d, d < 10 ∧ c = 48 + d := by decide +kernel
theorem t_tak : ∀ k, k < 5 → zAt 5 jTak (nI k) = nI (tkN k) ∧ zAt 5 jCar (nI k) = nI (crN k) := by decide +kernel
theorem sub48 (d : Nat) : nI (48 + d) - 48 = nI d := by rw [show (48 : Int32) = nI 48 from rfl, pk_sub (Nat.le_add_right _ _), Nat.add_sub_cancel_left]
theorem RelB.up {N M : Nat} {v : uC} {u : uM} (h : RelB N v u) (hM : N ≤ M) : RelB M v u := by
  obtain ⟨a, b, c, ⟨k0, R, k1, k2⟩, e⟩ := h
  exact ⟨a, b, c, ⟨k0, R, by omega, k2⟩, e⟩
theorem faultL {mc : Nat → Int32} {mr : Nat → Nat → Int32} {hs : Int64} (h1 : mc 1 = nI 14) : ∀ n i, i ≤ 14 → 14 - i < n → (zX6_faultOf_2 mc mr hs n i = nI 14 ∧ ∀ j, i ≤ j → j < 14 → ¬ zX6_isGood (nI j) (mr 0 j) = 0) ∨ ∃ j, j < 14 ∧ zX6_faultOf_2 mc mr hs n i = nI j := by
  intro n
  induction n with
  | zero => intro i _ hm; exact absurd hm (Nat.not_lt_zero _)
  | succ n ih =>
    intro i hi hm
    unfold zX6_faultOf_2
    rw [h1]
    by_cases c : 14 ≤ i
    · have : i = 14 := by omega
      subst this
      left
      rw [if_pos (nI_le (Nat.le_refl _) (by omega))]
      exact ⟨rfl, fun j h1 h2 => by omega⟩
    · rw [if_neg (nI_ge (by omega) (by omega))]
      by_cases d : zX6_isGood (nI i) (mr 0 i) = 0
      · rw [if_pos d]
        exact Or.inr ⟨i, by omega, rfl⟩
      · rw [if_neg d]
        rcases ih (i + 1) (by omega) (by omega) with ⟨e1, e2⟩ | e
        · refine Or.inl ⟨e1, fun j hj hj2 => ?_⟩
          by_cases q : j = i
          · subst q; exact d
          · exact e2 j (by omega) hj2
        · exact Or.inr e
theorem q_hold {N : Nat} {sc : Nat → Int32} {ar : Nat → Nat → Int32} {mc : Nat → Int32} {mr : Nat → Nat → Int32} {hs : Int64} (hN : N + 1 < 2 ^ 31) (h : RelB N (sc, ar) (mc, mr, hs)) : RQ (N + 1) (fX5_hold sc ar) (fX6_hold mc mr hs) := by
  have h0 := h.up (Nat.le_succ N)
  have hfa := q_fault h
  obtain ⟨⟨P, p1, p2, p3, p4⟩, ⟨kd, li, bd, l1, l2, l3, l4, l5, l6, l7⟩, hnw, ⟨k0, R, k1, k2, k3, k4⟩, h5⟩ := h
  have e0 : sc 0 = nI P := p1
  have e1 : mc 1 = nI P := p2
  have p4' : ∀ k, k < 16 → ar 0 k = mr 0 k ∧ PgC (mr 0 k) := p4
  by_cases c : P = 14
  · subst c
    rcases faultL (mc := mc) (mr := mr) (hs := hs) e1 17 0 (by decide) (by decide) with ⟨f1, f2⟩ | ⟨j, hj, f1⟩
    · have g6 : zX6_faultOf mc mr hs = 14 := f1
      have good : ∀ p, p < 14 → ∃ c, c < 127 ∧ ar 0 p = nI c ∧ mr 0 p = nI c ∧ ¬ zX6_isGood (nI p) (nI c) = 0 := by
        intro p hp
        obtain ⟨x1, cc, x2, x3⟩ := p4' p (by omega)
        have x4 := f2 p (Nat.zero_le _) hp
        rw [x3] at x4
        exact ⟨cc, x2, x1.trans x3, x3, x4⟩
      have dig : ∀ b, b < 3 → ∀ e, e < 2 → ∃ d, d < 4 ∧ ar 0 (4 * b + 1 + e) = nI (48 + d) ∧ mr 0 (4 * b + 1 + e) = nI (48 + d) := by
        intro b hb e he
        obtain ⟨cc, x1, x2, x3, x4⟩ := good (4 * b + 1 + e) (by omega)
        rcases t_d b hb e he cc x1 with q | ⟨d, hd, rfl⟩
        · exact absurd q x4
        · exact ⟨d, hd, x2, x3⟩
      have dg9 : ∀ e, e < 2 → ∃ d, d < 10 ∧ ar 0 (12 + e) = nI (48 + d) ∧ mr 0 (12 + e) = nI (48 + d) := by
        intro e he
        obtain ⟨cc, x1, x2, x3, x4⟩ := good (12 + e) (by omega)
        rcases t_e e he cc x1 with q | ⟨d, hd, rfl⟩
        · exact absurd q x4
        · exact ⟨d, hd, x2, x3⟩
      have kin : ∀ b, b < 3 → ∃ k, k < 5 ∧ zX6_kindBy (mr 0 (4 * b)) = nI k ∧ kI (ar 0 (4 * b)) = nI k := by
        intro b hb
        obtain ⟨cc, x1, x2, x3, x4⟩ := good (4 * b) (by omega)
        rcases t_k b hb cc x1 with q | ⟨d, hd, q1, q2⟩
        · exact absurd q x4
        · exact ⟨d, hd, by rw [x3]; exact q1, by rw [x2]; exact q2⟩
      obtain ⟨d1, hd1, a1, m1⟩ : ∃ d, d < 4 ∧ ar 0 1 = nI (48 + d) ∧ mr 0 1 = nI (48 + d) := dig 0 (by decide) 0 (by decide)
      obtain ⟨d2, hd2, a2, m2⟩ : ∃ d, d < 4 ∧ ar 0 2 = nI (48 + d) ∧ mr 0 2 = nI (48 + d) := dig 0 (by decide) 1 (by decide)
      obtain ⟨d5, hd5, a5, m5⟩ : ∃ d, d < 4 ∧ ar 0 5 = nI (48 + d) ∧ mr 0 5 = nI (48 + d) := dig 1 (by decide) 0 (by decide)
      obtain ⟨d6, hd6, a6, m6⟩ : ∃ d, d < 4 ∧ ar 0 6 = nI (48 + d) ∧ mr 0 6 = nI (48 + d) := dig 1 (by decide) 1 (by decide)
      obtain ⟨d9, hd9, a9, m9⟩ : ∃ d, d < 4 ∧ ar 0 9 = nI (48 + d) ∧ mr 0 9 = nI (48 + d) := dig 2 (by decide) 0 (by decide)
      obtain ⟨d10, hd10, a10, m10⟩ : ∃ d, d < 4 ∧ ar 0 10 = nI (48 + d) ∧ mr 0 10 = nI (48 + d) := dig 2 (by decide) 1 (by decide)
      obtain ⟨d12, hd12, a12, m12⟩ : ∃ d, d < 10 ∧ ar 0 12 = nI (48 + d) ∧ mr 0 12 = nI (48 + d) := dg9 0 (by decide)
      obtain ⟨d13, hd13, a13, m13⟩ : ∃ d, d < 10 ∧ ar 0 13 = nI (48 + d) ∧ mr 0 13 = nI (48 + d) := dg9 1 (by decide)
      obtain ⟨ka, hka, ra, sa⟩ : ∃ k, k < 5 ∧ zX6_kindBy (mr 0 0) = nI k ∧ kI (ar 0 0) = nI k := kin 0 (by decide)
      obtain ⟨kb, hkb, rb, sb⟩ : ∃ k, k < 5 ∧ zX6_kindBy (mr 0 4) = nI k ∧ kI (ar 0 4) = nI k := kin 1 (by decide)
      obtain ⟨kc, hkc, rc, sc'⟩ : ∃ k, k < 5 ∧ zX6_kindBy (mr 0 8) = nI k ∧ kI (ar 0 8) = nI k := kin 2 (by decide)
      obtain ⟨A, eA, A0, A1⟩ := hold5 sc ar e0 (hfa.trans g6)
      have B0 := A1 0 (by decide)
      have B1 := A1 1 (by decide)
      have B2 := A1 2 (by decide)
      rw [show ar 0 (4 * 0) = ar 0 0 from rfl, sa, (t_tak ka hka).1, (t_tak ka hka).2] at B0
      rw [show ar 0 (4 * 1) = ar 0 4 from rfl, sb, (t_tak kb hkb).1, (t_tak kb hkb).2] at B1
      rw [show ar 0 (4 * 2) = ar 0 8 from rfl, sc', (t_tak kc hkc).1, (t_tak kc hkc).2] at B2
      obtain ⟨v5, v6⟩ := rp_num d1 hd1 d2 hd2 d5 hd5 d6 hd6 d9 hd9 d10 hd10
      have hs4 : d1 + 4 * d2 + 16 * d5 + 64 * d6 + 256 * d9 + 1024 * d10 < 4096 := by omega
      rw [a1, a2, a5, a6, a9, a10, a12, a13, v5, sub48, sub48] at eA
      rw [eA]
      unfold fX6_hold
      rw [if_pos (show mc 1 = 14 from e1), g6, if_pos (show (14 : Int32) ≤ 14 by decide), m1, m2, m5, m6, m9, m10, m12, m13, ra, rb, rc, v6, sub48, sub48]
      generalize d1 + 4 * d2 + 16 * d5 + 64 * d6 + 256 * d9 + 1024 * d10 = s at hs4 ⊢
      have q3 : sc 3 + 1 = nI (R + 1) := by rw [show sc 3 = nI R from k2, nI_1]
      have q9 : mc 9 + 1 = nI (R + 1) := by rw [show mc 9 = nI R from k3, nI_1]
      obtain ⟨⟨R', j, r1, r2, r3, r4⟩, _⟩ := l7
      have hR : R' = R := (nI_eq r1 (by omega)).mp ((show sc 3 = nI R' from r3).symm.trans k2)
      subst hR
      rw [q3, q9]
      refine ⟨(tons5 hs4).trans (tons6 hs4).symm, ⟨0, rfl, rfl, by decide, fun k hk => ?_⟩, ⟨fun b => if b = 0 then ka else if b = 1 then kb else kc, d13, d12, ⟨rfl, hd13, fun b hb => ?_, fun _ b hb => ?_⟩, rfl, fun b hb => ?_, rfl, rfl, hd12, ⟨R' + 1, j, by omega, by omega, rfl, r4⟩, ?_⟩, ⟨s, 0, fun _ => 0, rfl, rfl, hs4, Or.inl rfl, rfl, rfl, rfl, ⟨rfl, by decide, fun i hi => absurd hi (Nat.not_lt_zero _)⟩, ⟨rfl, by decide, fun i hi => absurd hi (Nat.not_lt_zero _)⟩⟩, ⟨k0, R' + 1, by omega, rfl, rfl, Or.inl ⟨rfl, ?_⟩⟩, rfl, h5.2⟩
      · show A 0 k = mr 0 k ∧ PgC (mr 0 k)
        rw [A0]
        exact p4' k hk
      · match b, hb with
        | 0, _ => exact ⟨B0.1, hka⟩
        | 1, _ => exact ⟨B1.1, hkb⟩
        | 2, _ => exact ⟨B2.1, hkc⟩
        | b + 3, hb => omega
      · match b, hb with
        | 0, _ => exact ⟨B0.2.1, B0.2.2⟩
        | 1, _ => exact ⟨B1.2.1, B1.2.2⟩
        | 2, _ => exact ⟨B2.2.1, B2.2.2⟩
        | b + 3, hb => omega
      · match b, hb with
        | 0, _ => exact ⟨rfl, hka⟩
        | 1, _ => exact ⟨rfl, hkb⟩
        | 2, _ => exact ⟨rfl, hkc⟩
        | b + 3, hb => omega
      · intro s9 be9 _ _ q _ _
        exfalso
        have q' : nI (R' + 1) = nI j := (show nI (R' + 1) = sc 20 from q).trans r4
        have := (nI_eq (by omega) (by omega)).mp q'
        omega
      · show mc 24 = -1 ∨ ∃ h, h < R' + 1 ∧ mc 24 = nI h
        rcases k4 with ⟨_, z4⟩ | ⟨_, z4, _⟩
        · rcases z4 with z | ⟨q, hq, z⟩
          · exact Or.inl z
          · exact Or.inr ⟨q, by omega, z⟩
        · exact Or.inr ⟨R', by omega, z4⟩
    · have g6 : zX6_faultOf mc mr hs = nI j := f1
      unfold fX5_hold fX6_hold
      rw [if_pos (show sc 0 = 14 from e0), if_pos (show mc 1 = 14 from e1), hfa, g6, if_neg (show ¬ nI j = (14 : Int32) from fun r => absurd ((nI_eq (b := 14) (by omega) (by decide)).mp r) (by omega)), if_neg (show ¬ (14 : Int32) ≤ nI j from nI_ge (b := 14) hj (by decide))]
      exact ⟨rfl, h0⟩
  · unfold fX5_hold fX6_hold
    rw [if_neg (show ¬ sc 0 = 14 by rw [e0]; exact fun r => absurd ((nI_eq (b := 14) (by omega) (by decide)).mp r) c), if_neg (show ¬ mc 1 = 14 by rw [e1]; exact fun r => absurd ((nI_eq (b := 14) (by omega) (by decide)).mp r) c)]
    exact ⟨rfl, h0⟩
