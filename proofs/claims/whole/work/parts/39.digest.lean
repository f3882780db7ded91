/-! the digest, side by side; an act's tons -/
theorem q_digest {N : Nat} {sc1 : Nat → Int32} {ar1 : Nat → Nat → Int32} {mc : Nat → Int32} {mr : Nat → Nat → Int32} {hs : Int64} {E : Nat → Nat → Option Nat} {w : Nat → Nat} {s Pn : Nat} {F : Nat × Nat × Int32} {a b : Int64} (h : RelB N (sc1, ar1) (mc, mr, hs)) (hG : Gr E w s) (hP : Pn ≤ 16) (q1 : (sc1 1 = 0 → a = 829) ∧ (¬ sc1 1 = 0 → ∃ m f x, Sol E w s m f ∧ IsMost m s x ∧ a = syH (zX5_withActs sc1 ar1 (zX5_withLighter sc1 ar1 829)) m f x F)) (q2 : (mc 2 = 0 → b = 829) ∧ (¬ mc 2 = 0 → ∃ m f x, Sol E w s m f ∧ IsMost m s x ∧ b = syH (syL mc mr 829) m f x F)) : dig (fun k9 => zX5_count sc1 ar1 (nI k9)) 10 (dig (ar1 0) Pn a) = dig (cntQ mc) 10 (dig (mr 0) Pn b) := by
  have e2 : mc 2 = sc1 1 := h.2.2.2.2.1
  have hab : a = b := by
    by_cases q : sc1 1 = 0
    · rw [q1.1 q, q2.1 (e2.trans q)]
    · obtain ⟨m, f, x, s1, i1, ea⟩ := q1.2 q
      obtain ⟨m', f', x', s2, i2, eb⟩ := q2.2 (by rw [e2]; exact q)
      rw [ea, eb]
      exact syH_same hG s1 s2 i1 i2 (syL_same h q 829)
  obtain ⟨P, _, _, _, p4⟩ := h.1
  rw [hab, dig_cong (f := ar1 0) (f' := mr 0) (fun k hk => (p4 k (by omega)).1)]
  refine dig_cong (fun k hk => ?_)
  exact (q_count (nI k) h).trans (cntQ_eq (fun _ _ => rfl) k)
/-- how many tons lie behind a slide: as many -/
theorem cel_six (n : Nat) (hn : n < 4096) : n = cel n 0 + 4 * cel n 1 + 16 * cel n 2 + 64 * cel n 3 + 256 * cel n 4 + 1024 * cel n 5 := by
  unfold cel
  simp only [Nat.reducePow]
  omega
theorem tns_mod3 (n : Nat) (hn : n < 4096) : n % 3 = tns n % 3 := by
  have := cel_six n hn
  unfold tns
  omega
