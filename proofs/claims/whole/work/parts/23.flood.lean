/-! by how small a bend: what can be come to under a bend; the class's flood by levels -/
def RN (h : Nat → Bool) (li b s : Nat) : Nat → Nat → Prop
  | 0, n => n = s
  | k + 1, n => ∃ x a, RN h li b s k x ∧ a < 42 ∧ isA a = true ∧ goN h li b x a = some n
def RB (h : Nat → Bool) (li s b n : Nat) : Prop := ∃ k, RN h li b s k n
theorem RB.start (h : Nat → Bool) (li s b : Nat) : RB h li s b s := ⟨0, rfl⟩
theorem goN_iff {h : Nat → Bool} {li be n a t : Nat} : goN h li be n a = some t ↔ mvN h n a = some t ∧ bnt t ≤ be ∧ lst t ≤ li := by
  unfold goN
  cases e : mvN h n a with
  | none => simp
  | some x =>
    by_cases q : bnt x ≤ be ∧ lst x ≤ li
    · simp only [q, and_self, if_true, Option.some.injEq]
      constructor
      · intro r; subst r; exact ⟨rfl, q⟩
      · intro r; exact r.1
    · simp only [q, if_false, Option.some.injEq, reduceCtorEq, false_iff]
      rintro ⟨r, s⟩
      subst r
      exact q s
theorem RB.step {h : Nat → Bool} {li s b x a t : Nat} (hr : RB h li s b x) (ha : a < 42) (hA : isA a = true) (hm : mvN h x a = some t) (hb : bnt t ≤ b) (hl : lst t ≤ li) : RB h li s b t := by
  obtain ⟨k, hk⟩ := hr
  exact ⟨k + 1, x, a, hk, ha, hA, goN_iff.mpr ⟨hm, hb, hl⟩⟩
theorem RN.mono {h : Nat → Bool} {li s b b' : Nat} (hb : b ≤ b') : ∀ (k n : Nat), RN h li b s k n → RN h li b' s k n
  | 0, _, e => e
  | k + 1, _, ⟨x, a, hk, ha, hA, he⟩ => by
    obtain ⟨h1, h2, h3⟩ := goN_iff.mp he
    exact ⟨x, a, RN.mono hb k x hk, ha, hA, goN_iff.mpr ⟨h1, by omega, h3⟩⟩
theorem RB.mono {h : Nat → Bool} {li s b b' n : Nat} (hb : b ≤ b') (hr : RB h li s b n) : RB h li s b' n := hr.imp fun k hk => RN.mono hb k n hk
theorem RN.RP {h : Nat → Bool} {li s b : Nat} {w : Nat → Nat} : ∀ (k n : Nat), RN h li b s k n → ∃ v f, RP (goN h li b) w s k n v f
  | 0, n, e => ⟨0, -1, e, rfl, rfl⟩
  | k + 1, n, ⟨x, a, hk, ha, hA, he⟩ => by
    obtain ⟨v, f, hr⟩ := RN.RP (w := w) k x hk
    exact ⟨_, _, x, v, f, a, hr, ha, hA, he, rfl, rfl⟩
theorem RP.RN {h : Nat → Bool} {li s b : Nat} {w : Nat → Nat} : ∀ (k n v : Nat) (f : Int32), RP (goN h li b) w s k n v f → RN h li b s k n
  | 0, n, v, f, e => e.1
  | k + 1, n, v, f, ⟨x, v', f', a, hk, ha, hA, he, _, _⟩ => ⟨x, a, RP.RN k x v' f' hk, ha, hA, he⟩
/-- a table of soonest ways tells what can be come to -/
theorem Sol.RB {h : Nat → Bool} {li s b : Nat} {w : Nat → Nat} {m f : Nat → Int32} (hG : Gr (goN h li b) w s) (hS : Sol (goN h li b) w s m f) {n : Nat} (hn : n < 4096) : m n ≠ -1 ↔ RB h li s b n := by
  constructor
  · intro hd
    obtain ⟨k, hk⟩ := (hS.1 n hn hd).2.2
    exact ⟨k, RP.RN k n _ _ hk⟩
  · rintro ⟨k, hk⟩
    obtain ⟨v, g, hr⟩ := RN.RP (w := w) k n hk
    exact (Sol.least hG hS k n v g hr).1
/-- the answer of leastBend -/
def Lst (h : Nat → Bool) (li s : Nat) (r : Int32) : Prop := (∃ k, k < 13 ∧ r = nI k ∧ RB h li s k 0 ∧ ∀ j, j < k → ¬ RB h li s j 0) ∨ (r = -1 ∧ ∀ j, j < 13 → ¬ RB h li s j 0)
theorem Lst.unique {h : Nat → Bool} {li s : Nat} {r r' : Int32} (h1 : Lst h li s r) (h2 : Lst h li s r') : r = r' := by
  rcases h1 with ⟨k, a1, a2, a3, a4⟩ | ⟨a1, a2⟩ <;> rcases h2 with ⟨k', b1, b2, b3, b4⟩ | ⟨b1, b2⟩
  · have : k = k' := by
      rcases Nat.lt_trichotomy k k' with q | q | q
      · exact absurd a3 (b4 k q)
      · exact q
      · exact absurd b3 (a4 k' q)
    rw [a2, b2, this]
  · exact absurd a3 (b2 k a1)
  · exact absurd b3 (a2 k' b1)
  · rw [a1, b1]
/-- chains -/
def Ch (nx : Nat → Int32) : Int32 → List Nat → Prop
  | x, [] => x = -1
  | x, c :: l => x = nI c ∧ c < 4096 ∧ Ch nx (nx c) l
theorem Ch.put {nx : Nat → Int32} {t : Nat} {y : Int32} : ∀ {l : List Nat} {x : Int32}, Ch nx x l → t ∉ l → Ch (upd nx t y) x l
  | [], _, h, _ => h
  | c :: l, x, ⟨h1, h2, h3⟩, hm => by
    have hne : c ≠ t := fun e => hm (by rw [e]; exact List.mem_cons_self)
    refine ⟨h1, h2, ?_⟩
    rw [pk_un hne]
    exact Ch.put h3 (fun q => hm (List.mem_cons_of_mem _ q))
theorem Ch.ne2 {nx : Nat → Int32} {l : List Nat} {x : Int32} (h : Ch nx x l) : x ≠ -2 := by
  cases l with
  | nil => rw [show x = -1 from h]; decide
  | cons c l =>
    obtain ⟨h1, h2, -⟩ := h
    rw [h1]
    intro e
    have := congrArg Int32.toInt e
    rw [nI_toInt (by omega)] at this
    have e2 : (-2 : Int32).toInt = -2 := by decide
    omega
def FC (h : Nat → Bool) (li : Nat) (nx : Nat → Int32) (lv : Nat → Nat) (x k : Nat) : Prop := ∀ j t, j < k → mvN h x (actN j) = some t → lst t ≤ li → nx t ≠ -2 ∧ lv t ≤ max (lv x) (bnt t)
def FI (h : Nat → Bool) (li s : Nat) (nx hd : Nat → Int32) (L : Nat → List Nat) (pd : Nat → Bool) (lv : Nat → Nat) (b : Nat) : Prop :=
  (∀ j, j < 13 → Ch nx (hd j) (L j)) ∧ (∀ j, j < 13 → ∀ x ∈ L j, x < 4096 ∧ lv x = j ∧ pd x = false ∧ nx x ≠ -2 ∧ b ≤ j) ∧ (∀ j, j < 13 → (L j).Nodup) ∧
  (∀ x, x < 4096 → nx x ≠ -2 → pd x = true ∨ (lv x < 13 ∧ x ∈ L (lv x))) ∧
  (∀ x, x < 4096 → pd x = true → nx x ≠ -2 ∧ x ≠ 0 ∧ lv x ≤ b ∧ FC h li nx lv x 20) ∧
  (∀ x, x < 4096 → nx x ≠ -2 → lv x ≤ 12 ∧ RB h li s (lv x) x ∧ lv x ≤ max b (bnt x)) ∧ (s < 4096 ∧ nx s ≠ -2 ∧ lv s = 0)
def FA (h : Nat → Bool) (li s : Nat) (nx hd : Nat → Int32) (L : Nat → List Nat) (pd : Nat → Bool) (lv : Nat → Nat) (b c k : Nat) : Prop :=
  (∀ j, j < 13 → Ch nx (hd j) (L j)) ∧ (∀ j, j < 13 → ∀ x ∈ L j, x < 4096 ∧ lv x = j ∧ pd x = false ∧ nx x ≠ -2 ∧ b ≤ j ∧ x ≠ c) ∧ (∀ j, j < 13 → (L j).Nodup) ∧
  (∀ x, x < 4096 → nx x ≠ -2 → x ≠ c → pd x = true ∨ (lv x < 13 ∧ x ∈ L (lv x))) ∧
  (∀ x, x < 4096 → pd x = true → nx x ≠ -2 ∧ x ≠ 0 ∧ lv x ≤ b ∧ FC h li nx lv x 20) ∧
  (∀ x, x < 4096 → nx x ≠ -2 → lv x ≤ 12 ∧ RB h li s (lv x) x ∧ lv x ≤ max b (bnt x)) ∧ (s < 4096 ∧ nx s ≠ -2 ∧ lv s = 0) ∧ (c < 4096 ∧ c ≠ 0 ∧ lv c = b ∧ nx c ≠ -2 ∧ pd c = false ∧ b < 13) ∧ FC h li nx lv c k
theorem FI.pop {h : Nat → Bool} {li s : Nat} {nx hd : Nat → Int32} {L : Nat → List Nat} {pd : Nat → Bool} {lv : Nat → Nat} {b : Nat} (hI : FI h li s nx hd L pd lv b) (hb : b < 13) (hne : hd b ≠ -1) (h0 : hd b ≠ 0) : ∃ c, c < 4096 ∧ hd b = nI c ∧ FA h li s nx (upd hd b (nx c)) (va_up L b (L b).tail) pd lv b c 0 := by
  obtain ⟨a1, a2, a3, a4, a5, a6, a7⟩ := hI
  have hc := a1 b hb
  cases e : L b with
  | nil => rw [e] at hc; exact absurd hc hne
  | cons c l =>
    rw [e] at hc
    obtain ⟨c1, c2, c3⟩ := hc
    have hcm : c ∈ L b := by rw [e]; exact List.mem_cons_self
    have hnd := a3 b hb
    rw [e] at hnd
    have hcl : c ∉ l := (List.nodup_cons.mp hnd).1
    obtain ⟨d1, d2, d3, d4, d5⟩ := a2 b hb c hcm
    refine ⟨c, c2, c1, fun j hj => ?_, fun j hj x hx => ?_, fun j hj => ?_, fun x hx hs hxc => ?_, a5, a6, a7, ⟨c2, fun q => h0 (by rw [c1, q]; rfl), d2, d4, d3, hb⟩, fun j t hj => absurd hj (Nat.not_lt_zero _)⟩
    · by_cases ej : j = b
      · subst ej; rw [pk_us, va_us, List.tail_cons]; exact c3
      · rw [pk_un ej, va_un ej]; exact a1 j hj
    · by_cases ej : j = b
      · subst ej
        rw [va_us, List.tail_cons] at hx
        obtain ⟨f1, f2, f3, f4, f5⟩ := a2 j hj x (by rw [e]; exact List.mem_cons_of_mem _ hx)
        exact ⟨f1, f2, f3, f4, f5, fun q => hcl (by rw [← q]; exact hx)⟩
      · rw [va_un ej] at hx
        obtain ⟨f1, f2, f3, f4, f5⟩ := a2 j hj x hx
        exact ⟨f1, f2, f3, f4, f5, fun q => ej (by rw [← f2, q, d2])⟩
    · by_cases ej : j = b
      · subst ej; rw [va_us, List.tail_cons]; exact (List.nodup_cons.mp hnd).2
      · rw [va_un ej]; exact a3 j hj
    · rcases a4 x hx hs with r | ⟨r1, r2⟩
      · exact Or.inl r
      · refine Or.inr ⟨r1, ?_⟩
        by_cases ej : lv x = b
        · rw [ej, va_us, List.tail_cons]
          rw [ej, e] at r2
          exact (List.mem_cons.mp r2).resolve_left hxc
        · rw [va_un ej]; exact r2
theorem FA.skip {h : Nat → Bool} {li s : Nat} {nx hd : Nat → Int32} {L : Nat → List Nat} {pd : Nat → Bool} {lv : Nat → Nat} {b c k : Nat} (hA : FA h li s nx hd L pd lv b c k) (hs : ∀ t, mvN h c (actN k) = some t → lst t ≤ li → nx t ≠ -2 ∧ lv t ≤ max b (bnt t)) : FA h li s nx hd L pd lv b c (k + 1) := by
  obtain ⟨a1, a2, a3, a4, a5, a6, a7, a8, a9⟩ := hA
  refine ⟨a1, a2, a3, a4, a5, a6, a7, a8, fun j t hj hm hl => ?_⟩
  by_cases e : j = k
  · subst e; rw [a8.2.2.1]; exact hs t hm hl
  · exact a9 j t (by omega) hm hl
/-- a way to lie that was unseen is put into its level's chain -/
theorem FA.new {h : Nat → Bool} {li s : Nat} {nx hd : Nat → Int32} {L : Nat → List Nat} {pd : Nat → Bool} {lv : Nat → Nat} {b c k t : Nat} (hA : FA h li s nx hd L pd lv b c k) (hk : k < 20) (hm : mvN h c (actN k) = some t) (hl : lst t ≤ li) (hu : nx t = -2) :
    FA h li s (upd nx t (hd (max b (bnt t)))) (upd hd (max b (bnt t)) (nI t)) (va_up L (max b (bnt t)) (t :: L (max b (bnt t)))) pd (va_up lv t (max b (bnt t))) b c (k + 1) := by
  obtain ⟨a1, a2, a3, a4, a5, a6, a7, ⟨e1, e2, e3, e4, e5, e6⟩, a9⟩ := hA
  have ht := mvN_lt e1 hm
  have hbt := bnt_le t
  generalize hj : max b (bnt t) = j at *
  have hj13 : j < 13 := by omega
  have htc : t ≠ c := fun q => e4 (by rw [← q]; exact hu)
  have hts : t ≠ s := fun q => a7.2.1 (by rw [← q]; exact hu)
  have hni : ∀ i, i < 13 → t ∉ L i := fun i hi q => (a2 i hi t q).2.2.2.1 hu
  have hnt : upd nx t (hd j) t ≠ -2 := by rw [pk_us]; exact (a1 j hj13).ne2
  have keep : ∀ x, nx x ≠ -2 → x ≠ t := fun x hx q => hx (by rw [q]; exact hu)
  have keep2 : ∀ x, nx x ≠ -2 → upd nx t (hd j) x ≠ -2 := fun x hx => by rw [pk_un (keep x hx)]; exact hx
  have fc : ∀ x i, x ≠ t → FC h li nx lv x i → FC h li (upd nx t (hd j)) (va_up lv t j) x i := fun x i hxt hf j' t' hj' hm' hl' => by
    obtain ⟨g1, g2⟩ := hf j' t' hj' hm' hl'
    refine ⟨keep2 t' g1, ?_⟩
    rw [va_un (keep t' g1), va_un hxt]
    exact g2
  refine ⟨fun i hi => ?_, fun i hi x hx => ?_, fun i hi => ?_, fun x hx hs hxc => ?_, fun x hx hp => ?_, fun x hx hs => ?_, ⟨a7.1, keep2 s a7.2.1, by rw [va_un (Ne.symm hts)]; exact a7.2.2⟩, ⟨e1, e2, by rw [va_un (Ne.symm htc)]; exact e3, keep2 c e4, e5, e6⟩, fun j' t' hj' hm' hl' => ?_⟩
  · by_cases ei : i = j
    · subst ei
      rw [pk_us, va_us]
      refine ⟨rfl, ht, ?_⟩
      rw [pk_us]
      exact (a1 i hi).put (hni i hi)
    · rw [pk_un ei, va_un ei]
      exact (a1 i hi).put (hni i hi)
  · by_cases ei : i = j
    · subst ei
      rw [va_us] at hx
      rcases List.mem_cons.mp hx with r | r
      · subst r
        refine ⟨ht, va_us, ?_, hnt, by omega, htc⟩
        cases q : pd x with
        | false => rfl
        | true => exact absurd hu (a5 x ht q).1
      · obtain ⟨f1, f2, f3, f4, f5, f6⟩ := a2 i hi x r
        exact ⟨f1, by rw [va_un (keep x f4)]; exact f2, f3, keep2 x f4, f5, f6⟩
    · rw [va_un ei] at hx
      obtain ⟨f1, f2, f3, f4, f5, f6⟩ := a2 i hi x hx
      exact ⟨f1, by rw [va_un (keep x f4)]; exact f2, f3, keep2 x f4, f5, f6⟩
  · by_cases ei : i = j
    · subst ei; rw [va_us]; exact List.nodup_cons.mpr ⟨hni i hi, a3 i hi⟩
    · rw [va_un ei]; exact a3 i hi
  · by_cases ex : x = t
    · subst ex
      right
      rw [va_us, va_us]
      exact ⟨hj13, List.mem_cons_self⟩
    · rw [pk_un ex] at hs
      rw [va_un ex]
      rcases a4 x hx hs hxc with r | ⟨r1, r2⟩
      · exact Or.inl r
      · refine Or.inr ⟨r1, ?_⟩
        by_cases ei : lv x = j
        · rw [ei, va_us]; rw [ei] at r2; exact List.mem_cons_of_mem _ r2
        · rw [va_un ei]; exact r2
  · obtain ⟨f1, f2, f3, f4⟩ := a5 x hx hp
    exact ⟨keep2 x f1, f2, by rw [va_un (keep x f1)]; exact f3, fc x 20 (keep x f1) f4⟩
  · by_cases ex : x = t
    · subst ex
      rw [va_us]
      refine ⟨by omega, ?_, by omega⟩
      obtain ⟨k1, kA⟩ := actN_A k hk
      have := (a6 c e1 e4).2.1
      rw [e3] at this
      exact (RB.mono (show b ≤ j by omega) this).step k1 kA hm (by omega) hl
    · rw [pk_un ex] at hs
      rw [va_un ex]
      exact a6 x hx hs
  · by_cases ej : j' = k
    · subst ej
      rw [hm] at hm'
      cases hm'
      refine ⟨hnt, ?_⟩
      rw [va_us, va_un (Ne.symm htc), e3, hj]
      exact Nat.le_refl _
    · exact fc c k (Ne.symm htc) a9 j' t' (by omega) hm' hl'
theorem FA.done {h : Nat → Bool} {li s : Nat} {nx hd : Nat → Int32} {L : Nat → List Nat} {pd : Nat → Bool} {lv : Nat → Nat} {b c k : Nat} (hA : FA h li s nx hd L pd lv b c k) (hk : 20 ≤ k) : FI h li s nx hd L (va_up pd c true) lv b := by
  obtain ⟨a1, a2, a3, a4, a5, a6, a7, ⟨e1, e2, e3, e4, e5, e6⟩, a9⟩ := hA
  refine ⟨a1, fun j hj x hx => ?_, a3, fun x hx hs => ?_, fun x hx hp => ?_, a6, a7⟩
  · obtain ⟨f1, f2, f3, f4, f5, f6⟩ := a2 j hj x hx
    exact ⟨f1, f2, by rw [va_un f6]; exact f3, f4, f5⟩
  · by_cases e : x = c
    · subst e; exact Or.inl va_us
    · rw [va_un e]; exact a4 x hx hs e
  · by_cases e : x = c
    · subst e
      exact ⟨e4, e2, by omega, fun j t hj hm hl => a9 j t (by omega) hm hl⟩
    · rw [va_un e] at hp; exact a5 x hx hp
theorem FI.up {h : Nat → Bool} {li s : Nat} {nx hd : Nat → Int32} {L : Nat → List Nat} {pd : Nat → Bool} {lv : Nat → Nat} {b : Nat} (hI : FI h li s nx hd L pd lv b) (hb : b < 13) (he : hd b = -1) : FI h li s nx hd L pd lv (b + 1) := by
  obtain ⟨a1, a2, a3, a4, a5, a6, a7⟩ := hI
  refine ⟨a1, fun j hj x hx => ?_, a3, a4, fun x hx hp => ?_, fun x hx hs => ⟨(a6 x hx hs).1, (a6 x hx hs).2.1, by have := (a6 x hx hs).2.2; omega⟩, a7⟩
  · obtain ⟨f1, f2, f3, f4, f5⟩ := a2 j hj x hx
    refine ⟨f1, f2, f3, f4, ?_⟩
    have : j ≠ b := fun q => by
      subst q
      have hc := a1 j hj
      cases e : L j with
      | nil => rw [e] at hx; cases hx
      | cons y l =>
        rw [e, he] at hc
        exact absurd hc.1.symm (nI_m1 (by have := hc.2.1; omega))
    omega
  · obtain ⟨f1, f2, f3, f4⟩ := a5 x hx hp
    exact ⟨f1, f2, by omega, f4⟩
/-- below the level all that can be come to is done with -/
theorem FI.below {h : Nat → Bool} {li s : Nat} {nx hd : Nat → Int32} {L : Nat → List Nat} {pd : Nat → Bool} {lv : Nat → Nat} {b : Nat} (hI : FI h li s nx hd L pd lv b) {j : Nat} (hj : j < b) : ∀ (k n : Nat), RN h li j s k n → n < 4096 ∧ nx n ≠ -2 ∧ lv n ≤ j ∧ pd n = true := by
  obtain ⟨a1, a2, a3, a4, a5, a6, a7⟩ := hI
  have dn : ∀ n, n < 4096 → nx n ≠ -2 → lv n ≤ j → pd n = true := fun n hn hs hl => by
    rcases a4 n hn hs with r | ⟨r1, r2⟩
    · exact r
    · have := (a2 (lv n) r1 n r2).2.2.2.2
      omega
  intro k
  induction k with
  | zero => intro n e; rw [show n = s from e]; exact ⟨a7.1, a7.2.1, by omega, dn s a7.1 a7.2.1 (by omega)⟩
  | succ k ih =>
    rintro n ⟨x, a, hk, ha, hA, he⟩
    obtain ⟨b1, b2, b3, b4⟩ := ih x hk
    obtain ⟨g1, g2, g3⟩ := goN_iff.mp he
    obtain ⟨i, hi, ei⟩ := actN_all a ha hA
    subst ei
    obtain ⟨c1, c2⟩ := (a5 x b1 b4).2.2.2 i n hi g1 g3
    have hn := mvN_lt b1 g1
    have hl : lv n ≤ j := by omega
    exact ⟨hn, c1, hl, dn n hn c1 hl⟩
theorem FI.none {h : Nat → Bool} {li s : Nat} {nx hd : Nat → Int32} {L : Nat → List Nat} {pd : Nat → Bool} {lv : Nat → Nat} {b : Nat} (hI : FI h li s nx hd L pd lv b) {j : Nat} (hj : j < b) : ¬ RB h li s j 0 := by
  rintro ⟨k, hk⟩
  obtain ⟨b1, b2, b3, b4⟩ := hI.below hj k 0 hk
  exact (hI.2.2.2.2.1 0 b1 b4).2.1 rfl
theorem FI.found {h : Nat → Bool} {li s : Nat} {nx hd : Nat → Int32} {L : Nat → List Nat} {pd : Nat → Bool} {lv : Nat → Nat} {b : Nat} (hI : FI h li s nx hd L pd lv b) (hb : b < 13) (h0 : hd b = 0) : Lst h li s (nI b) := by
  refine Or.inl ⟨b, hb, rfl, ?_, fun j hj => hI.none hj⟩
  obtain ⟨a1, a2, a3, a4, a5, a6, a7⟩ := hI
  have hc := a1 b hb
  cases e : L b with
  | nil => rw [e, h0] at hc; exact absurd hc m0_ne
  | cons c l =>
    rw [e, h0] at hc
    have c0 : c = 0 := ((nI_eq (a := 0) (b := c) (by decide) (by have := hc.2.1; omega)).mp hc.1).symm
    subst c0
    obtain ⟨f1, f2, f3, f4, f5⟩ := a2 b hb 0 (by rw [e]; exact List.mem_cons_self)
    have := (a6 0 f1 f4).2.1
    rw [f2] at this
    exact this
theorem FI.start {h : Nat → Bool} {li s : Nat} (hs : s < 4096) {nx hd : Nat → Int32} (hn : ∀ n, n < 4096 → nx n = -2) (hh : ∀ j, j < 13 → hd j = -1) : FI h li s (upd nx s (hd 0)) (upd hd 0 (nI s)) (va_up (fun _ => ([] : List Nat)) 0 [s]) (fun _ => false) (fun _ => 0) 0 := by
  have hu : ∀ x, x < 4096 → upd nx s (hd 0) x ≠ -2 → x = s := fun x hx q => by
    by_cases e : x = s
    · exact e
    · rw [pk_un e] at q; exact absurd (hn x hx) q
  have hsn : upd nx s (hd 0) s ≠ -2 := by rw [pk_us, hh 0 (by decide)]; decide
  refine ⟨fun j hj => ?_, fun j hj x hx => ?_, fun j hj => ?_, fun x hx q => ?_, fun x hx q => (by cases q), fun x hx q => ?_, hs, hsn, rfl⟩
  · by_cases e : j = 0
    · subst e
      rw [pk_us, va_us]
      exact ⟨rfl, hs, by rw [pk_us]; exact hh 0 (by decide)⟩
    · rw [pk_un e, va_un e]; exact hh j hj
  · by_cases e : j = 0
    · subst e
      rw [va_us] at hx
      have := List.mem_singleton.mp hx
      subst this
      exact ⟨hs, rfl, rfl, hsn, by omega⟩
    · rw [va_un e] at hx; exact absurd hx List.not_mem_nil
  · by_cases e : j = 0
    · subst e; rw [va_us]; simp
    · rw [va_un e]; exact List.nodup_nil
  · have e := hu x hx q
    subst e
    right
    rw [va_us]
    exact ⟨(by decide : 0 < 13), List.mem_singleton.mpr rfl⟩
  · have e := hu x hx q
    subst e
    exact ⟨(by decide : 0 ≤ 12), RB.start h li x 0, Nat.zero_le _⟩
theorem FI.full {h : Nat → Bool} {li s : Nat} {nx hd : Nat → Int32} {L : Nat → List Nat} {pd : Nat → Bool} {lv : Nat → Nat} {b : Nat} (hI : FI h li s nx hd L pd lv b) (hb : b < 13) (hc : 4096 ≤ fb_ct pd 4096) : hd b = -1 := by
  obtain ⟨a1, a2, a3, a4, a5, a6, a7⟩ := hI
  have hall := fb_ct_all.mp (Nat.le_antisymm (fb_ct_le pd 4096) hc)
  have hch := a1 b hb
  cases e : L b with
  | nil => rw [e] at hch; exact hch
  | cons c l =>
    obtain ⟨f1, f2, f3, f4, f5⟩ := a2 b hb c (by rw [e]; exact List.mem_cons_self)
    rw [hall c f1] at f3
    cases f3
