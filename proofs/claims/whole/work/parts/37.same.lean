/-! the searches side by side: what they answer -/
theorem q_soonest {E : Nat → Nat → Option Nat} {w : Nat → Nat} {s : Nat} (hG : Gr E w s) {m f m' f' : Nat → Int32} {x a : Int32} (h1 : ¬ x < 0 → x ≤ 1 → ¬ a = 0 → Sol E w s m f) (h2 : ¬ zX6_in x.toInt64 0 1 = 0 → ¬ a = 0 → Sol E w s m' f') : (if x < 0 then (-102 : Int32) else if x ≤ 1 then (if a = 0 then -103 else if x = 0 then m 0 else f 0) else -102) = if zX6_in x.toInt64 0 1 = 0 then -102 else if a = 0 then -103 else if x = 0 then m' 0 else f' 0 := by
  obtain ⟨c1, c2, c3⟩ : (x < 0 → zX6_in x.toInt64 0 1 = 0) ∧ (¬ x < 0 → x ≤ 1 → ¬ zX6_in x.toInt64 0 1 = 0) ∧ (¬ x ≤ 1 → zX6_in x.toInt64 0 1 = 0) := in_cls x 0 1 (by decide) (by decide)
  by_cases p : x < 0
  · rw [if_pos p, if_pos (c1 p)]
  rw [if_neg p]
  by_cases q : x ≤ 1
  · rw [if_pos q, if_neg (c2 p q)]
    by_cases r : a = 0
    · rw [if_pos r, if_pos r]
    · have u := Sol.unique hG (h1 p q r) (h2 (c2 p q) r) (n := 0) (by decide)
      rw [u.1, u.2]
  · rw [if_neg q, if_pos (c3 q)]
theorem q_most {E : Nat → Nat → Option Nat} {w : Nat → Nat} {s : Nat} (hG : Gr E w s) {x y a : Int32} (h1 : ¬ a = 0 → ∃ m f, Sol E w s m f ∧ IsMost m s x) (h2 : ¬ a = 0 → ∃ m f, Sol E w s m f ∧ IsMost m s y) : (if a = 0 then (-103 : Int32) else x) = if a = 0 then -103 else y := by
  by_cases r : a = 0
  · rw [if_pos r, if_pos r]
  · obtain ⟨m, f, s1, i1⟩ := h1 r
    obtain ⟨m', f', s2, i2⟩ := h2 r
    rw [IsMost.unique (fun n hn => (Sol.unique hG s1 s2 hn).1) i1 i2]
theorem q_holds {E : Nat → Nat → Option Nat} {w : Nat → Nat} {s : Nat} (hG : Gr E w s) {x y a : Int32} (h1 : ¬ a = 0 → ∃ m f, Sol E w s m f ∧ x = nI (ctD m)) (h2 : ¬ a = 0 → ∃ m f, Sol E w s m f ∧ y = nI (ctD m)) : (if a = 0 then (-103 : Int32) else x) = if a = 0 then -103 else y := by
  by_cases r : a = 0
  · rw [if_pos r, if_pos r]
  · obtain ⟨m, f, s1, i1⟩ := h1 r
    obtain ⟨m', f', s2, i2⟩ := h2 r
    rw [i1, i2, ctD_cong (fun n hn => (Sol.unique hG s1 s2 hn).1)]
theorem lt12 {e : Nat} (he : e ≤ 12) : nI e < (12 : Int32) ↔ ¬ nI e = (12 : Int32) := by
  constructor
  · intro h q
    rw [q] at h
    exact absurd h (by decide)
  · intro h
    refine nI_lt (b := 12) ?_ (by decide)
    rcases Nat.lt_or_ge e 12 with q | q
    · exact q
    · exact absurd (by rw [show e = 12 by omega]; rfl) h
theorem q_least {h : Nat → Bool} {li s e : Nat} {x y a : Int32} (he : e ≤ 12) (h1 : ¬ a = 0 → nI e < (12 : Int32) → Lst h li s x) (h2 : ¬ a = 0 → ¬ nI e = (12 : Int32) → Lst h li s y) : (if a = 0 then (-103 : Int32) else if nI e < 12 then x else -103) = if a = 0 then -103 else if nI e = 12 then -103 else y := by
  by_cases r : a = 0
  · rw [if_pos r, if_pos r]
  · rw [if_neg r, if_neg r]
    by_cases q : nI e = (12 : Int32)
    · rw [if_pos q, if_neg (fun k => (lt12 he).mp k q)]
    · have k := (lt12 he).mpr q
      rw [if_neg q, if_pos k, Lst.unique (h1 r k) (h2 r q)]
theorem q_fits {x a v1 v2 v3 : Int32} : (if x < 0 then (-102 : Int32) else if x ≤ 2 then (if a = 0 then -103 else if x = 0 then v1 else if x = 1 then v2 else v3) else -102) = if zX6_in x.toInt64 0 2 = 0 then -102 else if a = 0 then -103 else if x = 0 then v1 else if x = 1 then v2 else v3 := by
  obtain ⟨c1, c2, c3⟩ : (x < 0 → zX6_in x.toInt64 0 2 = 0) ∧ (¬ x < 0 → x ≤ 2 → ¬ zX6_in x.toInt64 0 2 = 0) ∧ (¬ x ≤ 2 → zX6_in x.toInt64 0 2 = 0) := in_cls x 0 2 (by decide) (by decide)
  by_cases p : x < 0
  · rw [if_pos p, if_pos (c1 p)]
  rw [if_neg p]
  by_cases q : x ≤ 2
  · rw [if_pos q, if_neg (c2 p q)]
  · rw [if_neg q, if_pos (c3 q)]
theorem syH_same {E : Nat → Nat → Option Nat} {w : Nat → Nat} {s : Nat} (hG : Gr E w s) {m f m' f' : Nat → Int32} {x y : Int32} {a b : Int64} {F : Nat × Nat × Int32} (s1 : Sol E w s m f) (s2 : Sol E w s m' f') (i1 : IsMost m s x) (i2 : IsMost m' s y) (e : a = b) : syH a m f x F = syH b m' f' y F := by
  have u := Sol.unique hG s1 s2 (n := 0) (by decide)
  unfold syH
  rw [u.1, u.2, e, IsMost.unique (fun n hn => (Sol.unique hG s1 s2 hn).1) i1 i2, ctD_cong (fun n hn => (Sol.unique hG s1 s2 hn).1)]
