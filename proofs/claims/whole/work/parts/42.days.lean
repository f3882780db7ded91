/-! days, and a hold that is read, side by side -/
theorem seed_same {n : Nat} (hn : n < 2 ^ 31) : ∃ m, m < 2 ^ 31 ∧ zX5_nextSeed (nI n) = nI m ∧ (((1103515245 * (nI n).toInt64) + 12345) &&& 2147483647 : Int64).toInt32 = nI m := by
  have hb : 1103515245 * n + 12345 < 2 ^ 63 := by omega
  refine ⟨(1103515245 * n + 12345) % 2147483648, Nat.mod_lt _ (by decide), ?_, ?_⟩
  · unfold zX5_nextSeed
    rw [nI_l hn, show (1103515245 : Int64) = lN 1103515245 from rfl, show (12345 : Int64) = lN 12345 from rfl, show (2147483648 : Int64) = lN 2147483648 from rfl, lN_mul, lN_add, pk_lRem hb (by decide) (by decide), lN_i]
  · rw [nI_l hn, show (1103515245 : Int64) = lN 1103515245 from rfl, show (12345 : Int64) = lN 12345 from rfl, show (2147483647 : Int64) = lN (2 ^ 31 - 1) from rfl, lN_mul, lN_add, fb_maskL (1103515245 * n + 12345) 31, lN_i]
theorem draw_at {mc : Nat → Int32} {mr : Nat → Nat → Int32} {hs : Int64} {m0 m : Nat} (hm : m < 2 ^ 31) (e : (((1103515245 * (nI m0).toInt64) + 12345) &&& 2147483647 : Int64).toInt32 = nI m) : fX6_draw (upd mc 23 (nI m0)) mr hs = (nI (m / 65536 % 42), (upd mc 23 (nI m), mr, hs)) := by
  unfold fX6_draw
  rw [pk_us, e, fa_upd_twice, show (65536 : Int32) = nI 65536 from rfl, show (42 : Int32) = nI 42 from rfl, pk_div hm (by decide) (by decide), pk_rem (by omega) (by decide) (by decide)]
theorem d_of {m : Nat} (hm : m < 2 ^ 31) : nI m / 65536 - nI m / 65536 / 42 * 42 = nI (m / 65536 % 42) := by
  rw [show (65536 : Int32) = nI 65536 from rfl, show (42 : Int32) = nI 42 from rfl, pk_div hm (by decide) (by decide), pk_rem (by omega) (by decide) (by decide)]
theorem bend23 {mc : Nat → Int32} {mr : Nat → Nat → Int32} {hs : Int64} {x : Int32} : zX6_bendNow (upd mc 23 x) mr hs = zX6_bendNow mc mr hs := rfl
theorem MH23 {mc : Nat → Int32} {mr : Nat → Nat → Int32} {kd : Nat → Nat} {li s : Nat} {x : Int32} (h : MH mc mr kd li s) : MH (upd mc 23 x) mr kd li s := h
theorem q_daysL {sc : Nat → Int32} {ar : Nat → Nat → Int32} {mc : Nat → Int32} {mr : Nat → Nat → Int32} {hs : Int64} {kd : Nat → Nat} {li s0 be : Nat} (hC : CH sc ar kd li) (hM : MH mc mr kd li s0) (hbe : be < 10) (b5 : zX5_bendNow sc ar = nI be) (b6 : zX6_bendNow mc mr hs = nI be) (x1 x2 x3 : Int32) : ∀ (n i s m : Nat) (y7 y8 : Int32), s < 4096 → m < 2 ^ 31 → (i ≤ 90 ∧ 90 - i < n) → x1 ≤ 90 → ∃ m', fX6_days_61 mc mr hs x1 x2 x3 n i (nI s) y7 y8 (upd mc 23 (nI m)) mr hs = (zX5_days_64 sc ar x1 x2 x3 n i (nI s) (nI m) y7 y8, (upd mc 23 (nI m'), mr, hs)) := by
  intro n
  induction n with
  | zero => intro i s m y7 y8 _ _ h; exact absurd h.2 (Nat.not_lt_zero _)
  | succ n ih =>
    intro i s m y7 y8 hs4 hm hi hx
    unfold fX6_days_61 zX5_days_64
    by_cases c : x1 ≤ nI i
    · rw [if_pos c, if_pos c, pk_us, tons5 hs4, tons6 hs4]
      refine ⟨m, ?_⟩
      by_cases a0 : x3 = 0
      · rw [if_pos a0, if_pos a0]
      by_cases a1 : x3 = 1
      · rw [if_neg a0, if_neg a0, if_pos a1, if_pos a1]
      by_cases a2 : x3 = 2
      · rw [if_neg a0, if_neg a0, if_neg a1, if_neg a1, if_pos a2, if_pos a2]
      · rw [if_neg a0, if_neg a0, if_neg a1, if_neg a1, if_neg a2, if_neg a2]
    · have hi9 : i < 90 := by
        rcases Nat.lt_or_ge i 90 with q | q
        · exact q
        · exfalso
          apply c
          have : i = 90 := by omega
          subst this
          exact hx
      obtain ⟨m2, hm2, e5, e6⟩ := seed_same hm
      rw [if_neg c, if_neg c, draw_at hm2 e6, e5, d_of hm2]
      have ha : m2 / 65536 % 42 < 42 := Nat.mod_lt _ (by decide)
      generalize m2 / 65536 % 42 = a at ha ⊢
      simp only
      rw [bend23, b6, b5, goesM (be := be) (MH23 hM) hs4 ha (by omega), act5 a ha]
      by_cases hA : isA a = true
      · rw [if_pos hA, if_pos hA, if_neg (show ¬ (1 : Int32) = 0 by decide), behC (be := be) hC hs4 ha (by omega)]
        cases hg : goN (hk kd) li be s a with
        | none =>
          rw [if_pos (show emb none = -1 from rfl), if_pos (show emb none = -1 from rfl)]
          exact ih (i + 1) s m2 y7 y8 hs4 hm2 (by omega) hx
        | some t =>
          have ht := goN_lt hs4 hg
          have hne : ¬ emb (some t) = -1 := nI_m1 (by omega)
          rw [if_neg hne, if_neg hne, show emb (some t) = nI t from rfl, min5 hC.2.2.2 ha, lasts6 hM.2.2.2.2 ha]
          exact ih (i + 1) t m2 (y7 + 1) (y8 + nI (wtN kd a)) ht hm2 (by omega) hx
      · rw [if_neg hA, if_neg hA, if_pos (show (0 : Int32) = 0 from rfl), if_pos (show emb none = -1 from rfl)]
        exact ih (i + 1) s m2 y7 y8 hs4 hm2 (by omega) hx
theorem q_days {N : Nat} {sc : Nat → Int32} {ar : Nat → Nat → Int32} {mc : Nat → Int32} {mr : Nat → Nat → Int32} {hs : Int64} (x y w : Int32) (h : RelB N (sc, ar) (mc, mr, hs)) : RQ N (zX5_days sc ar x y w, (sc, ar)) (fX6_days mc mr hs x y w) := by
  obtain ⟨kd, li, s, be, bs, T, hC, hK, hM, e7, hbe, b5, b6, s5, s6, e2⟩ := h.view
  obtain ⟨c1, c2, c3⟩ : (x < 1 → zX6_in x.toInt64 1 90 = 0) ∧ (¬ x < 1 → x ≤ 90 → ¬ zX6_in x.toInt64 1 90 = 0) ∧ (¬ x ≤ 90 → zX6_in x.toInt64 1 90 = 0) := in_cls x 1 90 (by decide) (by decide)
  obtain ⟨d1, d2, d3⟩ : (w < 0 → zX6_in w.toInt64 0 3 = 0) ∧ (¬ w < 0 → w ≤ 3 → ¬ zX6_in w.toInt64 0 3 = 0) ∧ (¬ w ≤ 3 → zX6_in w.toInt64 0 3 = 0) := in_cls w 0 3 (by decide) (by decide)
  unfold zX5_days fX6_days
  by_cases a : x < 1
  · rw [if_pos a, if_pos (c1 a)]
    exact ⟨rfl, h⟩
  rw [if_neg a]
  by_cases b : x ≤ 90
  · rw [if_neg (show ¬ (90 : Int32) < x from fun q => (fa_of_lt q).2.1 b), if_neg (c2 a b)]
    by_cases c : y < 0
    · rw [if_pos c, if_pos c]
      exact ⟨rfl, h⟩
    rw [if_neg c, if_neg c]
    by_cases d : w < 0
    · rw [if_pos d, if_pos (d1 d)]
      exact ⟨rfl, h⟩
    rw [if_neg d]
    by_cases f : w ≤ 3
    · rw [if_pos f, if_neg (d2 d f), e2]
      by_cases q : sc 1 = 0
      · rw [if_pos q, if_pos q]
        exact ⟨rfl, h⟩
      · rw [if_neg q, if_neg q]
        obtain ⟨m, hm, rfl⟩ := nI_of c
        rw [e7, hM.1]
        obtain ⟨m', e⟩ := q_daysL (hC q) hM hbe b5 b6 x (nI m) w (90 + 1) 0 s m 0 0 hM.2.1 hm ⟨by decide, by decide⟩ b
        rw [e]
        exact ⟨rfl, h⟩
    · rw [if_neg f, if_pos (d3 f)]
      exact ⟨rfl, h⟩
  · rw [if_pos (fa_of_nle b), if_pos (c3 b)]
    exact ⟨rfl, h⟩
