/-! tons behind an act -/
set_option maxRecDepth 100000 in
theorem t_sl : ∀ i, i < 64 → ∀ j, j < 64 → ∀ b, b < 3 → tns (sl1 true b (64 * i + j)) = tns (64 * i + j) := by decide +kernel
set_option maxRecDepth 100000 in
theorem t_tk : ∀ i, i < 64 → ∀ j, j < 64 → ∀ c, c < 6 → cel (64 * i + j) c = 0 ∨ tns (64 * i + j - 4 ^ c) + 1 = tns (64 * i + j) := by decide +kernel
set_option maxRecDepth 100000 in
theorem t_mv0 : ∀ i, i < 64 → ∀ j, j < 64 → ∀ t, t < 6 → 0 = t ∨ cel (64 * i + j) 0 = 0 ∨ cel (64 * i + j) t = 3 ∨ tns (64 * i + j - 4 ^ 0 + 4 ^ t) = tns (64 * i + j) := by decide +kernel
set_option maxRecDepth 100000 in
theorem t_mv1 : ∀ i, i < 64 → ∀ j, j < 64 → ∀ t, t < 6 → 1 = t ∨ cel (64 * i + j) 1 = 0 ∨ cel (64 * i + j) t = 3 ∨ tns (64 * i + j - 4 ^ 1 + 4 ^ t) = tns (64 * i + j) := by decide +kernel
set_option maxRecDepth 100000 in
theorem t_mv2 : ∀ i, i < 64 → ∀ j, j < 64 → ∀ t, t < 6 → 2 = t ∨ cel (64 * i + j) 2 = 0 ∨ cel (64 * i + j) t = 3 ∨ tns (64 * i + j - 4 ^ 2 + 4 ^ t) = tns (64 * i + j) := by decide +kernel
set_option maxRecDepth 100000 in
theorem t_mv3 : ∀ i, i < 64 → ∀ j, j < 64 → ∀ t, t < 6 → 3 = t ∨ cel (64 * i + j) 3 = 0 ∨ cel (64 * i + j) t = 3 ∨ tns (64 * i + j - 4 ^ 3 + 4 ^ t) = tns (64 * i + j) := by decide +kernel
set_option maxRecDepth 100000 in
theorem t_mv4 : ∀ i, i < 64 → ∀ j, j < 64 → ∀ t, t < 6 → 4 = t ∨ cel (64 * i + j) 4 = 0 ∨ cel (64 * i + j) t = 3 ∨ tns (64 * i + j - 4 ^ 4 + 4 ^ t) = tns (64 * i + j) := by decide +kernel
set_option maxRecDepth 100000 in
theorem t_mv5 : ∀ i, i < 64 → ∀ j, j < 64 → ∀ t, t < 6 → 5 = t ∨ cel (64 * i + j) 5 = 0 ∨ cel (64 * i + j) t = 3 ∨ tns (64 * i + j - 4 ^ 5 + 4 ^ t) = tns (64 * i + j) := by decide +kernel
theorem t_mv (i : Nat) (hi : i < 64) (j : Nat) (hj : j < 64) (c : Nat) (hc : c < 6) (t : Nat) (ht : t < 6) : c = t ∨ cel (64 * i + j) c = 0 ∨ cel (64 * i + j) t = 3 ∨ tns (64 * i + j - 4 ^ c + 4 ^ t) = tns (64 * i + j) := by
  match c, hc with
  | 0, _ => exact t_mv0 i hi j hj t ht
  | 1, _ => exact t_mv1 i hi j hj t ht
  | 2, _ => exact t_mv2 i hi j hj t ht
  | 3, _ => exact t_mv3 i hi j hj t ht
  | 4, _ => exact t_mv4 i hi j hj t ht
  | 5, _ => exact t_mv5 i hi j hj t ht
  | c + 6, hc => omega
theorem sl1_tns {h : Bool} {b n : Nat} (hb : b < 3) (hn : n < 4096) : tns (sl1 h b n) = tns n := by
  cases h with
  | false => rfl
  | true =>
    have := t_sl (n / 64) (by omega) (n % 64) (by omega) b hb
    rw [show 64 * (n / 64) + n % 64 = n by omega] at this
    exact this
theorem sld_tns {h : Nat → Bool} {n : Nat} (hn : n < 4096) : tns (sld h n) = tns n := by
  unfold sld
  have h0 := sl1_lt (h := h 0) (b := 0) (by decide) hn
  have h1 := sl1_lt (h := h 1) (b := 1) (by decide) h0
  rw [sl1_tns (by decide) h1, sl1_tns (by decide) h0, sl1_tns (by decide) hn]
theorem isA_ne : ∀ a, a < 42 → isA a = true → 6 ≤ a → ¬ afr a = ato a := by decide +kernel
theorem mvN_tns {h : Nat → Bool} {n a t : Nat} (hn : n < 4096) (ha : a < 42) (hA : isA a = true) (e : mvN h n a = some t) : tns t + (if a < 6 then 1 else 0) = tns n := by
  unfold mvN at e
  have hf := afr_lt a ha
  have d : 64 * (n / 64) + n % 64 = n := by omega
  by_cases c : cel n (afr a) = 0
  · rw [if_pos c] at e; cases e
  rw [if_neg c] at e
  by_cases h6 : a < 6
  · rw [if_pos h6] at e
    rw [if_pos h6]
    cases e
    have := t_tk (n / 64) (by omega) (n % 64) (by omega) (afr a) hf
    rw [d] at this
    rw [sld_tns (n := n - 4 ^ afr a) (Nat.lt_of_le_of_lt (Nat.sub_le _ _) hn)]
    rcases this with q | q
    · exact absurd q c
    · exact q
  · rw [if_neg h6] at e
    rw [if_neg h6]
    by_cases c2 : cel n (ato a) = 3
    · rw [if_pos c2] at e; cases e
    · rw [if_neg c2] at e
      cases e
      have ht : ato a < 6 := Nat.mod_lt _ (by decide)
      have := t_mv (n / 64) (by omega) (n % 64) (by omega) (afr a) hf (ato a) ht
      rw [d] at this
      have hr := cel_room ht hn c2
      rw [sld_tns (n := n - 4 ^ afr a + 4 ^ ato a) (Nat.lt_of_le_of_lt (Nat.add_le_add_right (Nat.sub_le _ _) _) hr)]
      rcases this with q | q | q | q
      · exact absurd q (isA_ne a ha hA (by omega))
      · exact absurd q c
      · exact absurd q c2
      · omega
