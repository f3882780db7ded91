/-! what lies behind an act: both classes' functions -/
def hpd (f : Nat → Int32) (b : Nat) : Bool := decide (f b = 3)
theorem slid_step {sc : Nat → Int32} {ar : Nat → Nat → Int32} {n m b k : Nat} (hb : b < 3) (hn : n < 4096) (hm : m < 4096) (e0 : cel n (2 * b) = cel m (2 * b)) (e1 : cel n (2 * b + 1) = cel m (2 * b + 1)) : zX2_slid_4 sc ar (nI n) (k + 1) b (nI m) = zX2_slid_4 sc ar (nI n) k (b + 1) (nI (sl1 (hpd (ar 1) b) b m)) := by
  obtain ⟨s1, s2, s3, s4, s5⟩ := s16 b hb
  obtain ⟨k1, k2, k3⟩ := k16 b hb
  rw [zX2_slid_4, if_neg (fun h => s5.mp h), shr_cel (c := 2 * b) hn (by omega) s1, shr_cel (c := 2 * b + 1) hn (by omega) s2, e0, e1, k1, k2]
  obtain ⟨d1, d2, -, -⟩ := d4 (cel m (2 * b)) (cel_lt _ _) (cel m (2 * b + 1)) (cel_lt _ _)
  unfold sl1 hpd
  by_cases h3 : ar 1 b = 3
  · rw [if_pos h3, if_pos (decide_eq_true h3)]
    by_cases h4 : cel m (2 * b) < cel m (2 * b + 1) + 2
    · rw [if_pos (d1.mpr h4), if_pos h4]
      by_cases h5 : cel m (2 * b + 1) < cel m (2 * b) + 2
      · rw [if_pos (d2.mpr h5), if_pos h5]
      · rw [if_neg (fun h => h5 (d2.mp h)), if_neg h5, ← Int32.sub_eq_add_neg, pk_sub (sl1_sub hb h5)]
    · rw [if_neg (fun h => h4 (d1.mp h)), if_neg h4, nI_add]
  · rw [if_neg h3, if_neg (by simp [h3])]
theorem slid5 {sc : Nat → Int32} {ar : Nat → Nat → Int32} {n : Nat} (hn : n < 4096) : zX2_slid sc ar (nI n) = nI (sld (hpd (ar 1)) n) := by
  unfold zX2_slid sld
  have h0 : sl1 (hpd (ar 1) 0) 0 n < 4096 := sl1_lt (by decide) hn
  have h1 : sl1 (hpd (ar 1) 1) 1 (sl1 (hpd (ar 1) 0) 0 n) < 4096 := sl1_lt (by decide) h0
  rw [slid_step (by decide) hn hn rfl rfl, slid_step (by decide) hn h0 (sl1_cel (by decide) (by decide) (by decide) (by decide)).symm (sl1_cel (by decide) (by decide) (by decide) (by decide)).symm, slid_step (by decide) hn h1 (by rw [sl1_cel (by decide) (by decide) (by decide) (by decide), sl1_cel (by decide) (by decide) (by decide) (by decide)]) (by rw [sl1_cel (by decide) (by decide) (by decide) (by decide), sl1_cel (by decide) (by decide) (by decide) (by decide)]), zX2_slid_4, if_pos (by decide)]
theorem beh_step {sc : Nat → Int32} {ar : Nat → Nat → Int32} {hs : Int64} {x1 x2 : Int32} {m b k : Nat} (hb : b < 3) (hm : m < 4096) : zX6_behind_88 sc ar hs x1 x2 (k + 1) b (nI m) = zX6_behind_88 sc ar hs x1 x2 k (b + 1) (nI (sl1 (hpd (ar 1) b) b m)) := by
  obtain ⟨s1, s2, s3, s4, s5⟩ := s16 b hb
  obtain ⟨k1, k2, k3⟩ := k16 b hb
  rw [zX6_behind_88, if_neg (fun h => s5.mp h), s4, s3, at6 hm (by omega), at6 hm (by omega), k3]
  obtain ⟨-, -, d3, d4⟩ := d4 (cel m (2 * b)) (cel_lt _ _) (cel m (2 * b + 1)) (cel_lt _ _)
  unfold sl1 hpd
  by_cases h3 : ar 1 b = 3
  · rw [if_pos h3, if_pos (decide_eq_true h3)]
    by_cases h4 : cel m (2 * b) < cel m (2 * b + 1) + 2
    · rw [if_pos h4]
      by_cases h5 : cel m (2 * b + 1) < cel m (2 * b) + 2
      · rw [if_pos (d3.mpr ⟨h4, h5⟩), if_pos h5]
      · rw [if_neg (fun h => h5 (d3.mp h).2), if_neg h5, if_pos (d4.mpr (by omega)), ← Int32.sub_eq_add_neg, pk_sub (sl1_sub hb h5)]
    · rw [if_neg (fun h => h4 (d3.mp h).1), if_neg h4, if_neg (fun h => h4 (by have := d4.mp h; omega)), nI_add]
  · rw [if_neg h3, if_neg (by simp [h3])]
theorem beh5 {sc : Nat → Int32} {ar : Nat → Nat → Int32} {hs : Int64} {x1 x2 : Int32} {n : Nat} (hn : n < 4096) : zX6_behind_88 sc ar hs x1 x2 (3 + 1) 0 (nI n) = nI (sld (hpd (ar 1)) n) := by
  unfold sld
  have h0 : sl1 (hpd (ar 1) 0) 0 n < 4096 := sl1_lt (by decide) hn
  have h1 : sl1 (hpd (ar 1) 1) 1 (sl1 (hpd (ar 1) 0) 0 n) < 4096 := sl1_lt (by decide) h0
  rw [beh_step (by decide) hn, beh_step (by decide) h0, beh_step (by decide) h1, zX6_behind_88, if_pos (by decide)]
theorem sld_lt {h : Nat → Bool} {n : Nat} (hn : n < 4096) : sld h n < 4096 := sl1_lt (by decide) (sl1_lt (by decide) (sl1_lt (by decide) hn))
theorem c6 {c : Nat} (hc : c < 6) : c = 0 ∨ c = 1 ∨ c = 2 ∨ c = 3 ∨ c = 4 ∨ c = 5 := by omega
theorem cel_pos {n c : Nat} (h : ¬ cel n c = 0) : 4 ^ c ≤ n := by
  rcases Nat.lt_or_ge n (4 ^ c) with q | q
  · exact absurd (by unfold cel; rw [Nat.div_eq_of_lt q]) h
  · exact q
theorem cel_room {n c : Nat} (hc : c < 6) (hn : n < 4096) (h : ¬ cel n c = 3) : n + 4 ^ c < 4096 := by
  unfold cel at h
  rcases c6 hc with rfl | rfl | rfl | rfl | rfl | rfl <;> simp only [Nat.reducePow] at * <;> omega
theorem nz0 {x : Nat} (hx : x < 4) (h : ¬ x = 0) : ¬ nI x = (0 : Int32) := fun q => h ((nI_eq (by omega) (by decide)).mp (show nI x = nI 0 from q))
theorem nz3 {x : Nat} (hx : x < 4) (h : ¬ x = 3) : ¬ nI x = (3 : Int32) := fun q => h ((nI_eq (by omega) (by decide)).mp (show nI x = nI 3 from q))
theorem nl6 {a : Nat} (ha : a < 42) (h : a < 6) : ¬ (6 : Int32) ≤ nI a := fun q => absurd ((nI_leI (a := 6) (b := a) (by decide) (by omega)).mp q) (by omega)
theorem mvN_lt {h : Nat → Bool} {n a t : Nat} (hn : n < 4096) (e : mvN h n a = some t) : t < 4096 := by
  unfold mvN at e
  split at e
  · cases e
  · split at e
    · cases e; exact sld_lt (Nat.lt_of_le_of_lt (Nat.sub_le _ _) hn)
    · split at e
      · cases e
      · cases e
        exact sld_lt (by have := cel_room (ato_lt a) hn (by assumption); have := Nat.sub_le n (4 ^ afr a); omega)
theorem moved5 {sc : Nat → Int32} {ar : Nat → Nat → Int32} {n a : Nat} (hn : n < 4096) (ha : a < 42) : zX2_moved sc ar (nI n) (nI a) = emb (mvN (hpd (ar 1)) n a) := by
  unfold zX2_moved mvN
  have hf := afr_lt a ha
  have ht := ato_lt a
  rw [fr5 a ha, shr_cel hn hf (two_c _ hf), one_c _ hf]
  have hc := cel_lt n (afr a)
  by_cases h1 : cel n (afr a) = 0
  · rw [if_pos (by rw [h1]; rfl), if_pos h1]; rfl
  · rw [if_neg (nz0 hc h1), if_neg h1, pk_sub (cel_pos h1)]
    by_cases h2 : a < 6
    · rw [if_pos (to5n a h2), if_pos h2, slid5 (Nat.lt_of_le_of_lt (Nat.sub_le _ _) hn)]; rfl
    · rw [to5 a ha (by omega), if_neg (nI_m1 (by omega)), if_neg h2, shr_cel hn ht (two_c _ ht), one_c _ ht]
      have hc2 := cel_lt n (ato a)
      by_cases h3 : cel n (ato a) = 3
      · rw [if_pos (by rw [h3]; rfl), if_pos h3]; rfl
      · have := cel_room ht hn h3
        rw [if_neg (nz3 hc2 h3), if_neg h3, nI_add, slid5 (by have := Nat.sub_le n (4 ^ afr a); omega)]; rfl
theorem behind6 {sc : Nat → Int32} {ar : Nat → Nat → Int32} {hs : Int64} {n a : Nat} (hn : n < 4096) (ha : a < 42) : zX6_behind sc ar hs (nI n) (nI a) = emb (mvN (hpd (ar 1)) n a) := by
  unfold zX6_behind mvN
  have hf := afr_lt a ha
  have ht := ato_lt a
  by_cases h2 : a < 6
  · have e : afr a = a := by unfold afr; rw [if_pos h2]
    rw [if_neg (nl6 ha h2), at6 hn h2, one_c _ h2, e]
    have hc := cel_lt n a
    by_cases h1 : cel n a = 0
    · rw [if_pos (by rw [h1]; rfl), if_pos h1]; rfl
    · rw [if_neg (nz0 hc h1), if_neg h1, pk_sub (cel_pos h1), if_pos h2, show (0 : Int32) = nI 0 from rfl, nI_add, Nat.add_zero (n - 4 ^ a), beh5 (Nat.lt_of_le_of_lt (Nat.sub_le _ _) hn)]; rfl
  · rw [if_pos (show (6 : Int32) ≤ nI a from (nI_leI (a := 6) (by decide) (by omega)).mpr (by omega)), fr6 a ha (by omega), to6 a ha (by omega), at6 hn hf, one_c _ hf, at6 hn ht, one_c _ ht]
    have hc := cel_lt n (afr a)
    have hc2 := cel_lt n (ato a)
    by_cases h1 : cel n (afr a) = 0
    · rw [if_pos (by rw [h1]; rfl), if_pos h1]; rfl
    · rw [if_neg (nz0 hc h1), if_neg h1, pk_sub (cel_pos h1), if_neg (nI_m1 (by omega)), if_neg h2]
      by_cases h3 : cel n (ato a) = 3
      · rw [if_pos (by rw [h3]; rfl), if_pos h3]; rfl
      · have := cel_room ht hn h3
        rw [if_neg (nz3 hc2 h3), if_neg h3, nI_add, beh5 (by have := Nat.sub_le n (4 ^ afr a); omega)]; rfl
theorem goN_lt {h : Nat → Bool} {li be n a t : Nat} (hn : n < 4096) (e : goN h li be n a = some t) : t < 4096 := by
  unfold goN at e
  split at e
  · cases e
  · split at e
    · cases e; exact mvN_lt hn (by assumption)
    · cases e
theorem bears5 {sc : Nat → Int32} {ar : Nat → Nat → Int32} {n li be : Nat} (hn : n < 4096) (hl : sc 6 = nI li) (hli : li < 2 ^ 31) (hbe : be < 2 ^ 31) : zX2_bears sc ar (nI n) (nI be) = if bnt n ≤ be ∧ lst n ≤ li then 1 else 0 := by
  unfold zX2_bears
  have hb := bnt_le n
  have hl2 := lst_le n
  rw [bent5 hn, list5 hn, hl]
  by_cases h1 : bnt n ≤ be
  · rw [if_neg (fun h => by have := (nI_ltI (by omega) (by omega)).mp h; omega)]
    by_cases h2 : lst n ≤ li
    · rw [if_neg (fun h => by have := (nI_ltI (by omega) (by omega)).mp h; omega), if_pos ⟨h1, h2⟩]
    · rw [if_pos ((nI_ltI (by omega) (by omega)).mpr (by omega)), if_neg (fun h => h2 h.2)]
  · rw [if_pos ((nI_ltI (by omega) (by omega)).mpr (by omega)), if_neg (fun h => h1 h.1)]
theorem bears6 {sc : Nat → Int32} {ar : Nat → Nat → Int32} {hs : Int64} {n li be : Nat} (hn : n < 4096) (hl : sc 4 = nI li) (hli : li < 2 ^ 31) (hbe : be < 2 ^ 31) : zX6_bears sc ar hs (nI n) (nI be) = if bnt n ≤ be ∧ lst n ≤ li then 1 else 0 := by
  unfold zX6_bears
  have hb := bnt_le n
  have hl2 := lst_le n
  rw [bent6 hn, list6 hn, hl]
  by_cases h1 : bnt n ≤ be
  · rw [if_neg (fun h => by have := (nI_ltI (by omega) (by omega)).mp h; omega)]
    by_cases h2 : lst n ≤ li
    · rw [if_neg (fun h => by have := (nI_ltI (by omega) (by omega)).mp h; omega), if_pos ⟨h1, h2⟩]
    · rw [if_pos ((nI_ltI (by omega) (by omega)).mpr (by omega)), if_neg (fun h => h2 h.2)]
  · rw [if_pos ((nI_ltI (by omega) (by omega)).mpr (by omega)), if_neg (fun h => h1 h.1)]
theorem behind5 {sc : Nat → Int32} {ar : Nat → Nat → Int32} {n a li be : Nat} (hn : n < 4096) (ha : a < 42) (hl : sc 6 = nI li) (hli : li < 2 ^ 31) (hbe : be < 2 ^ 31) : zX2_behind sc ar (nI n) (nI a) (nI be) = emb (goN (hpd (ar 1)) li be n a) := by
  unfold zX2_behind goN
  rw [moved5 hn ha]
  cases e : mvN (hpd (ar 1)) n a with
  | none => exact if_pos rfl
  | some t =>
    have ht := mvN_lt hn e
    show (if nI t = -1 then (-1 : Int32) else if zX2_bears sc ar (nI t) (nI be) = 0 then -1 else nI t) = emb (if bnt t ≤ be ∧ lst t ≤ li then some t else none)
    rw [if_neg (nI_m1 (by omega)), bears5 ht hl hli hbe]
    by_cases h : bnt t ≤ be ∧ lst t ≤ li
    · rw [if_pos h, if_neg (by decide), if_pos h]; rfl
    · rw [if_neg h, if_pos rfl, if_neg h]; rfl
theorem goes6 {sc : Nat → Int32} {ar : Nat → Nat → Int32} {hs : Int64} {n a li be : Nat} (hn : n < 4096) (ha : a < 42) (hl : sc 4 = nI li) (hli : li < 2 ^ 31) (hbe : be < 2 ^ 31) : zX6_goes sc ar hs (nI n) (nI a) (nI be) = emb (if isA a = true then goN (hpd (ar 1)) li be n a else none) := by
  unfold zX6_goes goN
  rw [act6 a ha]
  by_cases hA : isA a = true
  · rw [if_pos hA, if_neg (by decide), if_pos hA, behind6 hn ha]
    cases e : mvN (hpd (ar 1)) n a with
    | none => exact if_pos rfl
    | some t =>
      have ht := mvN_lt hn e
      show (if nI t = -1 then (-1 : Int32) else if zX6_bears sc ar hs (nI t) (nI be) = 0 then -1 else nI t) = emb (if bnt t ≤ be ∧ lst t ≤ li then some t else none)
      rw [if_neg (nI_m1 (by omega)), bears6 ht hl hli hbe]
      by_cases h : bnt t ≤ be ∧ lst t ≤ li
      · rw [if_pos h, if_neg (by decide), if_pos h]; rfl
      · rw [if_neg h, if_pos rfl, if_neg h]; rfl
  · rw [if_neg hA, if_pos rfl, if_neg hA]; rfl
