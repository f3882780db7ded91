/-! rows of acts that make what the string tells: how many -/
def nA (a : Nat) : Nat := fb_ct isA a
theorem nA_act : ∀ a, a < 42 → isA a = true → actN (nA a) = a := by decide +kernel
theorem nA_42 : nA 42 = 20 := by decide +kernel
theorem nA_s (a : Nat) : nA (a + 1) = nA a + if isA a = true then 1 else 0 := fb_ct_succ isA a
theorem sumA (g : Nat → Nat) : ∀ A, A ≤ 42 → fb_sm (fun a => if isA a = true then g a else 0) A = fb_sm (fun j => g (actN j)) (nA A)
  | 0, _ => rfl
  | A + 1, h => by
    rw [fb_sm_succ, sumA g A (by omega), nA_s]
    by_cases q : isA A = true
    · rw [if_pos q, if_pos q, fb_sm_succ, nA_act A (by omega) q]
    · rw [if_neg q, if_neg q, Nat.add_zero, Nat.add_zero]
/-- one act's share -/
def shr (E : Nat → Nat → Option Nat) (b : Nat) (F : Nat → Nat) (n a : Nat) : Nat := match E n a with
  | none => 0
  | some t => if bnt t = b then F t else 0
def fitC (E : Nat → Nat → Option Nat) : List Nat → Nat → Nat
  | [], _ => 1
  | b :: l, n => fb_sm (fun j => shr E b (fitC E l) n (actN j)) 20
/-- all acts by number -/
def dgr (E : Nat → Nat → Option Nat) (b : Nat) (F : Nat → Nat) (n : Nat) (A : Nat) : Nat := fb_sm (fun a => if isA a = true then shr E b F n a else 0) A
theorem dgr_42 (E : Nat → Nat → Option Nat) (b : Nat) (F : Nat → Nat) (n : Nat) : dgr E b F n 42 = fb_sm (fun j => shr E b F n (actN j)) 20 := by
  unfold dgr
  rw [sumA (shr E b F n) 42 (Nat.le_refl _), nA_42]
theorem fitC_cons (E : Nat → Nat → Option Nat) (b : Nat) (l : List Nat) (n : Nat) : fitC E (b :: l) n = dgr E b (fitC E l) n 42 := (dgr_42 E b (fitC E l) n).symm
theorem shr_le {E : Nat → Nat → Option Nat} {b : Nat} {F : Nat → Nat} {B : Nat} (h : ∀ t, F t ≤ B) (n a : Nat) : shr E b F n a ≤ B := by
  unfold shr
  split
  · exact Nat.zero_le _
  · split
    · exact h _
    · exact Nat.zero_le _
theorem fitC_le (E : Nat → Nat → Option Nat) : ∀ (l : List Nat) (n : Nat), fitC E l n ≤ 20 ^ l.length
  | [], _ => Nat.le_refl 1
  | b :: l, n => by
    have := fb_sm_bound (f := fun j => shr E b (fitC E l) n (actN j)) (c := 20 ^ l.length) (n := 20) (fun k _ => shr_le (fun t => fitC_le E l t) n (actN k))
    show fb_sm _ 20 ≤ 20 ^ (l.length + 1)
    rw [Nat.pow_succ]
    omega
theorem dgr_le {E : Nat → Nat → Option Nat} {b : Nat} {F : Nat → Nat} {B : Nat} (h : ∀ t, F t ≤ B) (n A : Nat) : dgr E b F n A ≤ A * B := fb_sm_bound (fun a _ => by
  show (if isA a = true then shr E b F n a else 0) ≤ B
  split
  · exact shr_le h n a
  · exact Nat.zero_le _)
/-- the string, from a place on -/
def strL (bs : Nat → Nat) (T p : Nat) : List Nat := (List.range (T - p)).map (fun i => bs (p + i))
theorem strL_nil {bs : Nat → Nat} {T p : Nat} (h : T ≤ p) : strL bs T p = [] := by unfold strL; rw [show T - p = 0 by omega]; rfl
theorem strL_cons {bs : Nat → Nat} {T p : Nat} (h : p < T) : strL bs T p = bs p :: strL bs T (p + 1) := by
  unfold strL
  obtain ⟨k, hk⟩ : ∃ k, T - p = k + 1 := ⟨T - p - 1, by omega⟩
  rw [hk, show T - (p + 1) = k by omega, List.range_succ_eq_map, List.map_cons, List.map_map]
  congr 1
  apply List.map_congr_left
  intro i _
  show bs (p + (i + 1)) = bs (p + 1 + i)
  rw [show p + (i + 1) = p + 1 + i by omega]
theorem strL_len (bs : Nat → Nat) (T p : Nat) : (strL bs T p).length = T - p := by unfold strL; rw [List.length_map, List.length_range]
/-- rows of the whole string, by the first act -/
def rowA (E : Nat → Nat → Option Nat) (bs : Nat → Nat) (T s a : Nat) : Nat := shr E (bs 0) (fitC E (strL bs T 1)) s a
/-- rows, how many firsts, the least: by going through the acts -/
def fst3 (R : Nat → Nat) (a : Nat) (q : Nat × Nat × Int32) : Nat × Nat × Int32 := (q.1 + R a, q.2.1 + (if 0 < R a then 1 else 0), if 0 < R a then (if q.2.2 = -1 then nI a else q.2.2) else q.2.2)
def fsC (R : Nat → Nat) : Nat → Nat × Nat × Int32
  | 0 => (0, 0, -1)
  | j + 1 => fst3 R (actN j) (fsC R j)
def fsM (R : Nat → Nat) : Nat → Nat × Nat × Int32
  | 0 => (0, 0, -1)
  | a + 1 => if isA a = true then fst3 R a (fsM R a) else fsM R a
theorem fsM_C (R : Nat → Nat) : ∀ A, A ≤ 42 → fsM R A = fsC R (nA A)
  | 0, _ => rfl
  | A + 1, h => by
    rw [fsM, fsM_C R A (by omega), nA_s]
    by_cases q : isA A = true
    · rw [if_pos q, if_pos q]
      show _ = fst3 R (actN (nA A)) (fsC R (nA A))
      rw [nA_act A (by omega) q]
    · rw [if_neg q, if_neg q, Nat.add_zero]
theorem fsM_42 (R : Nat → Nat) : fsM R 42 = fsC R 20 := by rw [fsM_C R 42 (Nat.le_refl _), nA_42]
theorem fsC_bd {R : Nat → Nat} {B : Nat} (h : ∀ a, R a ≤ B) : ∀ j, (fsC R j).1 ≤ j * B ∧ (fsC R j).2.1 ≤ j
  | 0 => ⟨Nat.le_of_eq (Nat.zero_mul B).symm, Nat.le_refl _⟩
  | j + 1 => by
    obtain ⟨h1, h2⟩ := fsC_bd h j
    have h3 := h (actN j)
    rw [Nat.succ_mul]
    refine ⟨?_, ?_⟩
    · show (fsC R j).1 + R (actN j) ≤ _
      omega
    · show (fsC R j).2.1 + (if 0 < R (actN j) then 1 else 0) ≤ _
      split <;> omega
theorem rowA_le (E : Nat → Nat → Option Nat) (bs : Nat → Nat) {T : Nat} (hT : T ≤ 4) (s a : Nat) : rowA E bs T s a ≤ 8000 := by
  refine Nat.le_trans (shr_le (B := 20 ^ (T - 1)) (fun t => ?_) s a) ?_
  · have := fitC_le E (strL bs T 1) t
    rw [strL_len] at this
    exact this
  · exact Nat.le_trans (Nat.pow_le_pow_right (by decide) (show T - 1 ≤ 3 by omega)) (by decide)
/-- what the class's rowsBehind answers: p a place of the string, o what lies behind the act there -/
def rbN (E : Nat → Nat → Option Nat) (bs : Nat → Nat) (T p : Nat) (o : Option Nat) : Nat := match o with
  | none => 0
  | some t => if bnt t = bs p then fitC E (strL bs T (p + 1)) t else 0
theorem rbN_shr (E : Nat → Nat → Option Nat) (bs : Nat → Nat) (T p n a : Nat) : rbN E bs T p (E n a) = shr E (bs p) (fitC E (strL bs T (p + 1))) n a := rfl
theorem rbN_le (E : Nat → Nat → Option Nat) (bs : Nat → Nat) {T : Nat} (hT : T ≤ 4) (p : Nat) (o : Option Nat) : rbN E bs T p o ≤ 8000 := by
  unfold rbN
  split
  · exact Nat.zero_le _
  · split
    · rename_i t _
      have := fitC_le E (strL bs T (p + 1)) t
      rw [strL_len] at this
      exact Nat.le_trans this (Nat.le_trans (Nat.pow_le_pow_right (by decide) (show T - (p + 1) ≤ 3 by omega)) (by decide))
    · exact Nat.zero_le _
theorem fitC_p {E : Nat → Nat → Option Nat} {bs : Nat → Nat} {T p : Nat} (h : p < T) (n : Nat) : fitC E (strL bs T p) n = fb_sm (fun j => rbN E bs T p (E n (actN j))) 20 := by
  rw [strL_cons h]; rfl
/-- totals of the reference's rows of counts -/
def tot (N F : Nat → Nat) : Nat := fb_sm (fun n => N n * F n) 4096
theorem tot_up {N F : Nat → Nat} {t v : Nat} (ht : t < 4096) : tot (fun k => if k = t then N k + v else N k) F = tot N F + v * F t := by
  unfold tot
  have e : (fun n => (if n = t then N n + v else N n) * F n) = fun k => if k = t then (N t + v) * F t else N k * F k := by
    funext k
    by_cases q : k = t
    · subst q; rw [if_pos rfl, if_pos rfl]
    · rw [if_neg q, if_neg q]
  rw [e]
  have := fb_sm_upd (fun n => N n * F n) ((N t + v) * F t) ht
  have e2 : (N t + v) * F t = N t * F t + v * F t := Nat.add_mul _ _ _
  omega
theorem tot_delta {F : Nat → Nat} {t : Nat} (ht : t < 4096) : tot (fun k => if k = t then 1 else 0) F = F t := by
  have h0 : tot (fun _ => 0) F = 0 := by
    show fb_sm (fun n => 0 * F n) 4096 = 0
    rw [fb_sm_cong (g := fun _ => 0) (fun k _ => Nat.zero_mul _), fb_sm_const]
  have e := tot_up (N := fun _ => 0) (F := F) (v := 1) ht
  rw [h0, Nat.one_mul] at e
  exact (show tot (fun k => if k = t then 1 else 0) F = 0 + F t from e).trans (Nat.zero_add _)
theorem tot_part {N F : Nat → Nat} {t : Nat} (ht : t < 4096) : N t * F t ≤ tot N F := by
  have := fb_sm_part (fun n => N n * F n) ht
  unfold tot
  omega
