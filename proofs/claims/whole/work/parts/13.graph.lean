/-! how tons lie, as numbers: cells, bend, list, tons, acts, what lies behind an act; both classes' functions are these -/
def cel (n c : Nat) : Nat := n / 4 ^ c % 4
def dif (a b : Nat) : Nat := if a ≤ b then b - a else a - b
def bnt (n : Nat) : Nat := dif (cel n 0 + cel n 1 + cel n 4 + cel n 5) (2 * (cel n 2 + cel n 3))
def lst (n : Nat) : Nat := dif (cel n 0 + cel n 2 + cel n 4) (cel n 1 + cel n 3 + cel n 5)
def tns (n : Nat) : Nat := cel n 0 + cel n 1 + cel n 2 + cel n 3 + cel n 4 + cel n 5
def afr (a : Nat) : Nat := if a < 6 then a else (a - 6) / 6
def ato (a : Nat) : Nat := (a - 6) % 6
def isA (a : Nat) : Bool := decide (a < 6) || (decide (a < 42) && (if afr a % 2 = ato a % 2 then decide (dif (afr a / 2) (ato a / 2) = 1) else decide (afr a / 2 = ato a / 2)))
def sl1 (h : Bool) (b n : Nat) : Nat := if h = true then (if cel n (2 * b) < cel n (2 * b + 1) + 2 then (if cel n (2 * b + 1) < cel n (2 * b) + 2 then n else n - 3 * 16 ^ b) else n + 3 * 16 ^ b) else n
def sld (h : Nat → Bool) (n : Nat) : Nat := sl1 (h 2) 2 (sl1 (h 1) 1 (sl1 (h 0) 0 n))
def mvN (h : Nat → Bool) (n a : Nat) : Option Nat := if cel n (afr a) = 0 then none else if a < 6 then some (sld h (n - 4 ^ afr a)) else if cel n (ato a) = 3 then none else some (sld h (n - 4 ^ afr a + 4 ^ ato a))
def goN (h : Nat → Bool) (li be n a : Nat) : Option Nat := match mvN h n a with
  | none => none
  | some t => if bnt t ≤ be ∧ lst t ≤ li then some t else none
def emb : Option Nat → Int32
  | none => -1
  | some t => nI t
theorem cel_lt (n c : Nat) : cel n c < 4 := Nat.mod_lt _ (by decide)
theorem emb_none {o : Option Nat} (h : ∀ t, o = some t → t < 4096) : emb o = -1 ↔ o = none := by
  cases o with
  | none => simp [emb]
  | some t =>
    have ht := h t rfl
    simp only [emb, reduceCtorEq, iff_false]
    intro e
    have := congrArg Int32.toInt e
    rw [nI_toInt (by omega)] at this
    have e2 : (-1 : Int32).toInt = -1 := by decide
    omega
theorem nI_m1 {t : Nat} (h : t < 2 ^ 31) : ¬ nI t = -1 := by
  intro e
  have := congrArg Int32.toInt e
  rw [nI_toInt h] at this
  have e2 : (-1 : Int32).toInt = -1 := by decide
  omega
/-! shifts -/
theorem shr_cel {n c : Nat} (hn : n < 4096) (hc : c < 6) {s : Int32} (hs : s &&& 31 = nI (2 * c)) : ((nI n : Int32) >>> ((s : Int32) &&& 31)) &&& 3 = nI (cel n c) := by
  rw [hs, pk_shrN (k := 2 * c) (by omega) (nI (2 * c)) (by
    have : ∀ c, c < 6 → ((nI (2 * c)).toBitVec.smod 32).toNat = 2 * c := by decide +kernel
    exact this c hc)]
  have e : n / 2 ^ (2 * c) < 2 ^ 32 := by
    have := Nat.div_le_self n (2 ^ (2 * c))
    omega
  rw [pk_andN e 2 (by decide)]
  unfold cel
  rw [Nat.pow_mul]
theorem two_c : ∀ c, c < 6 → (2 * nI c) &&& 31 = nI (2 * c) := by decide +kernel
theorem one_c : ∀ c, c < 6 → (1 : Int32) <<< ((2 * nI c) &&& 31) = nI (4 ^ c) := by decide +kernel
theorem at5 {n c : Nat} (hn : n < 4096) (hc : c < 6) : zX5_tonsAt (nI n) (nI c) = nI (cel n c) := by
  unfold zX5_tonsAt
  exact shr_cel hn hc (two_c c hc)
theorem at6 {n c : Nat} (hn : n < 4096) (hc : c < 6) : zX6_at (nI n) (nI c) = nI (cel n c) := by
  unfold zX6_at
  exact shr_cel hn hc (two_c c hc)
theorem tons5 {n : Nat} (hn : n < 4096) : zX5_tonsOf (nI n) = nI (tns n) := by
  unfold zX5_tonsOf tns
  rw [show (0 : Int32) = nI 0 from rfl, show (1 : Int32) = nI 1 from rfl, show (2 : Int32) = nI 2 from rfl, show (3 : Int32) = nI 3 from rfl, show (4 : Int32) = nI 4 from rfl, show (5 : Int32) = nI 5 from rfl, at5 hn (by decide), at5 hn (by decide), at5 hn (by decide), at5 hn (by decide), at5 hn (by decide), at5 hn (by decide)]
  simp only [nI_add, Nat.zero_add]
theorem tons6 {n : Nat} (hn : n < 4096) : zX6_tonsOf (nI n) = nI (tns n) := by
  unfold zX6_tonsOf tns
  rw [show (0 : Int32) = nI 0 from rfl, show (1 : Int32) = nI 1 from rfl, show (2 : Int32) = nI 2 from rfl, show (3 : Int32) = nI 3 from rfl, show (4 : Int32) = nI 4 from rfl, show (5 : Int32) = nI 5 from rfl, at6 hn (by decide), at6 hn (by decide), at6 hn (by decide), at6 hn (by decide), at6 hn (by decide), at6 hn (by decide)]
  simp only [nI_add, Nat.zero_add]
theorem unl {a b : Nat} (ha : a < 2 ^ 30) (hb : b < 2 ^ 30) : zX6_unlike (nI a) (nI b) = nI (dif a b) := by
  unfold zX6_unlike dif
  by_cases h : a ≤ b
  · rw [if_pos (nI_le h (by omega)), if_pos h, pk_sub h]
  · rw [if_neg (fun q => h ((nI_leI (by omega) (by omega)).mp q)), if_neg h, pk_sub (by omega)]
theorem bent6 {n : Nat} (hn : n < 4096) : zX6_bentOf (nI n) = nI (bnt n) := by
  have h := cel_lt n
  have h0 := h 0; have h1 := h 1; have h2 := h 2; have h3 := h 3; have h4 := h 4; have h5 := h 5
  unfold zX6_bentOf bnt
  rw [show (0 : Int32) = nI 0 from rfl, show (1 : Int32) = nI 1 from rfl, show (2 : Int32) = nI 2 from rfl, show (3 : Int32) = nI 3 from rfl, show (4 : Int32) = nI 4 from rfl, show (5 : Int32) = nI 5 from rfl, at6 hn (by decide), at6 hn (by decide), at6 hn (by decide), at6 hn (by decide), at6 hn (by decide), at6 hn (by decide)]
  simp only [nI_add, pk_mul]
  exact unl (by omega) (by omega)
theorem list6 {n : Nat} (hn : n < 4096) : zX6_listingOf (nI n) = nI (lst n) := by
  have h := cel_lt n
  have h0 := h 0; have h1 := h 1; have h2 := h 2; have h3 := h 3; have h4 := h 4; have h5 := h 5
  unfold zX6_listingOf lst
  rw [show (0 : Int32) = nI 0 from rfl, show (1 : Int32) = nI 1 from rfl, show (2 : Int32) = nI 2 from rfl, show (3 : Int32) = nI 3 from rfl, show (4 : Int32) = nI 4 from rfl, show (5 : Int32) = nI 5 from rfl, at6 hn (by decide), at6 hn (by decide), at6 hn (by decide), at6 hn (by decide), at6 hn (by decide), at6 hn (by decide)]
  simp only [nI_add]
  exact unl (by omega) (by omega)
theorem cell0 {n : Nat} (hn : n < 4096) : (nI n : Int32) &&& 3 = nI (cel n 0) := by
  rw [pk_andN (by omega) 2 (by decide)]
  unfold cel
  rw [Nat.pow_zero, Nat.div_one]
theorem bent5 {n : Nat} (hn : n < 4096) : zX5_bentBy (nI n) = nI (bnt n) := by
  have h := cel_lt n
  have h0 := h 0; have h1 := h 1; have h2 := h 2; have h3 := h 3; have h4 := h 4; have h5 := h 5
  unfold zX5_bentBy bnt
  rw [cell0 hn, shr_cel (c := 1) hn (by decide) (s := 2) (by decide), shr_cel (c := 4) hn (by decide) (s := 8) (by decide), shr_cel (c := 5) hn (by decide) (s := 10) (by decide), shr_cel (c := 2) hn (by decide) (s := 4) (by decide), shr_cel (c := 3) hn (by decide) (s := 6) (by decide)]
  rw [show (2 : Int32) = nI 2 from rfl]
  simp only [nI_add, pk_mul]
  generalize ha : cel n 0 + cel n 1 + cel n 4 + cel n 5 = a
  generalize hb : 2 * (cel n 2 + cel n 3) = b
  have ha' : a ≤ 12 := by omega
  have hb' : b ≤ 12 := by omega
  have key : ∀ a, a < 13 → ∀ b, b < 13 → (if (0 : Int32) ≤ nI a - nI b then nI a - nI b else -(nI a - nI b)) = nI (dif a b) := by decide +kernel
  exact key a (by omega) b (by omega)
theorem list5 {n : Nat} (hn : n < 4096) : zX5_listingBy (nI n) = nI (lst n) := by
  have h := cel_lt n
  have h0 := h 0; have h1 := h 1; have h2 := h 2; have h3 := h 3; have h4 := h 4; have h5 := h 5
  unfold zX5_listingBy lst
  rw [cell0 hn, shr_cel (c := 1) hn (by decide) (s := 2) (by decide), shr_cel (c := 4) hn (by decide) (s := 8) (by decide), shr_cel (c := 5) hn (by decide) (s := 10) (by decide), shr_cel (c := 2) hn (by decide) (s := 4) (by decide), shr_cel (c := 3) hn (by decide) (s := 6) (by decide)]
  simp only [nI_add]
  generalize ha : cel n 0 + cel n 2 + cel n 4 = a
  generalize hb : cel n 1 + cel n 3 + cel n 5 = b
  have key : ∀ a, a < 13 → ∀ b, b < 13 → (if nI b ≤ nI a then nI a - nI b else nI b - nI a) = nI (dif a b) := by decide +kernel
  exact key a (by omega) b (by omega)
theorem bnt_le (n : Nat) : bnt n ≤ 12 := by
  have h := cel_lt n
  have h0 := h 0; have h1 := h 1; have h2 := h 2; have h3 := h 3; have h4 := h 4; have h5 := h 5
  unfold bnt dif
  split <;> omega
theorem lst_le (n : Nat) : lst n ≤ 9 := by
  have h := cel_lt n
  have h0 := h 0; have h1 := h 1; have h2 := h 2; have h3 := h 3; have h4 := h 4; have h5 := h 5
  unfold lst dif
  split <;> omega
theorem tns_le (n : Nat) : tns n ≤ 18 := by
  have h := cel_lt n
  have h0 := h 0; have h1 := h 1; have h2 := h 2; have h3 := h 3; have h4 := h 4; have h5 := h 5
  unfold tns
  omega
/-! acts -/
theorem fr5 : ∀ a, a < 42 → zX5_cellFrom (nI a) = nI (afr a) := by decide +kernel
theorem to5 : ∀ a, a < 42 → 6 ≤ a → zX5_cellInto (nI a) = nI (ato a) := by decide +kernel
theorem to5n : ∀ a, a < 6 → zX5_cellInto (nI a) = -1 := by decide +kernel
theorem act5 : ∀ a, a < 42 → zX5_isAct (nI a) = if isA a = true then 1 else 0 := by decide +kernel
theorem act6 : ∀ a, a < 42 → zX6_isAct (nI a) = if isA a = true then 1 else 0 := by decide +kernel
theorem fr6 : ∀ a, a < 42 → 6 ≤ a → nI a / 6 - 1 = nI (afr a) := by decide +kernel
theorem to6 : ∀ a, a < 42 → 6 ≤ a → nI a - nI a / 6 * 6 = nI (ato a) := by decide +kernel
theorem afr_lt : ∀ a, a < 42 → afr a < 6 := by decide +kernel
theorem ato_lt (a : Nat) : ato a < 6 := Nat.mod_lt _ (by decide)
theorem aft : ∀ a, a < 42 → 6 ≤ a → isA a = true → afr a ≠ ato a := by decide +kernel
/-! sliding -/
theorem d4 : ∀ a, a < 4 → ∀ b, b < 4 → (nI a - nI b < 2 ↔ a < b + 2) ∧ ((-2 : Int32) < nI a - nI b ↔ b < a + 2) ∧ (zX6_unlike (nI a - nI b) 0 ≤ 1 ↔ a < b + 2 ∧ b < a + 2) ∧ (nI a - nI b ≤ 0 ↔ a ≤ b) := by decide +kernel
theorem k16 : ∀ b, b < 3 → (((1 : Int32) <<< ((4 * nI b) &&& 31)) <<< ((2 : Int32) &&& 31)) - ((1 : Int32) <<< ((4 * nI b) &&& 31)) = nI (3 * 16 ^ b) ∧ ((1 : Int32) <<< ((4 * nI b) &&& 31)) - (((1 : Int32) <<< ((4 * nI b) &&& 31)) <<< ((2 : Int32) &&& 31)) = - nI (3 * 16 ^ b) ∧ ((1 : Int32) <<< ((4 * nI b + 2) &&& 31)) - ((1 : Int32) <<< ((4 * nI b) &&& 31)) = nI (3 * 16 ^ b) := by decide +kernel
theorem s16 : ∀ b, b < 3 → (4 * nI b) &&& 31 = nI (2 * (2 * b)) ∧ (4 * nI b + 2) &&& 31 = nI (2 * (2 * b + 1)) ∧ 2 * nI b = nI (2 * b) ∧ 2 * nI b + 1 = nI (2 * b + 1) ∧ ((3 : Int32) ≤ nI b ↔ False) := by decide +kernel
theorem b3 {b : Nat} (hb : b < 3) : b = 0 ∨ b = 1 ∨ b = 2 := by omega
theorem sl1_lt {h : Bool} {b n : Nat} (hb : b < 3) (hn : n < 4096) : sl1 h b n < 4096 := by
  unfold sl1 cel
  rcases b3 hb with rfl | rfl | rfl <;> (split <;> (try split) <;> (try split) <;> (try simp only [Nat.reduceMul, Nat.reduceAdd, Nat.reducePow] at *) <;> omega)
theorem sl1_sub {b n : Nat} (hb : b < 3) (h : ¬ cel n (2 * b + 1) < cel n (2 * b) + 2) : 3 * 16 ^ b ≤ n := by
  unfold cel at h
  rcases b3 hb with rfl | rfl | rfl <;> simp only [Nat.reduceMul, Nat.reduceAdd, Nat.reducePow] at * <;> omega
theorem sl1_cel {h : Bool} {b n c : Nat} (hb : b < 3) (hc : c < 6) (h1 : c ≠ 2 * b) (h2 : c ≠ 2 * b + 1) : cel (sl1 h b n) c = cel n c := by
  have hc6 : c = 0 ∨ c = 1 ∨ c = 2 ∨ c = 3 ∨ c = 4 ∨ c = 5 := by omega
  unfold sl1 cel
  rcases b3 hb with rfl | rfl | rfl <;> rcases hc6 with rfl | rfl | rfl | rfl | rfl | rfl <;> first | (exfalso; omega) | (split <;> (try split) <;> (try split) <;> simp only [Nat.reduceMul, Nat.reduceAdd, Nat.reducePow] at * <;> omega)
