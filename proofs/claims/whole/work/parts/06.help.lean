/-! helpers of the walks -/
theorem jI_P {X : jX} {l : Launch} {rm : Room} {D : va_G} {nl : Nat} {b : Bool} {ws : va_W} {H : Heap} {locs : List Loc} (E : JE X l rm D nl) (hI : jI X b ws H locs) : va_P D vwCl ws H := by
  obtain ⟨p, l, e, R, s, m, args, below, meth, c, Q, A, D, nL⟩ := X
  obtain ⟨rfl, rfl, rfl, rfl⟩ := E
  exact hI.1
theorem jL_of {X : jX} {l : Launch} {rm : Room} {D : va_G} {nl : Nat} {P : Nat → Prop} (E : JE X l rm D nl) (h : P nl) : jL X P := by
  obtain ⟨p, l, e, R, s, m, args, below, meth, c, Q, A, D, nL⟩ := X
  obtain ⟨rfl, rfl, rfl, rfl⟩ := E
  exact h
theorem jP_nil (D : va_G) (H : Heap) : va_P D vwCl [] H := fun k q h => by simp at h
theorem J_goRie {X : jX} {b : Bool} {k n pc pc' : Nat} {lv : List (Nat × Value)} {st : List Value} {ws : va_W} {cc : ByteArray} {own : String} {cI cZ : ClassId} {z : Nat → Nat} {l : Launch} {rm0 : Room} {D : va_G} {nl : Nat} {wc : va_W} {av rest : List Value} {v : Int32} (F : JF X cc own cI cZ z) (E : JE X l rm0 D nl) (hs : ∀ H : Heap, va_P D vwCl ws H → va_P D vwCl wc H) (hrun : ∀ (H : Heap) (locs : List Loc), jI X b ws H locs → jPre X H (jPcR D cI cZ z wc av) av → jRun X k n pc lv st H locs rest (vp_Si (fun r => r = v) av.toArray) (fun _ => False)) (hn : pc + 3 = pc') (kk : J X b k n pc' lv (.int v :: rest) ws) : J X b k n pc lv st ws := J_goRi F E hs hrun hn (fun r h => by subst h; exact kk)
theorem J_goRle {X : jX} {b : Bool} {k n pc pc' : Nat} {lv : List (Nat × Value)} {st : List Value} {ws : va_W} {cc : ByteArray} {own : String} {cI cZ : ClassId} {z : Nat → Nat} {l : Launch} {rm0 : Room} {D : va_G} {nl : Nat} {wc : va_W} {av rest : List Value} {v : Int64} (F : JF X cc own cI cZ z) (E : JE X l rm0 D nl) (hs : ∀ H : Heap, va_P D vwCl ws H → va_P D vwCl wc H) (hrun : ∀ (H : Heap) (locs : List Loc), jI X b ws H locs → jPre X H (jPcR D cI cZ z wc av) av → jRun X k n pc lv st H locs rest (vp_Sl (fun r => r = v) av.toArray) (fun _ => False)) (hn : pc + 3 = pc') (kk : J X b k n pc' lv (.long v :: rest) ws) : J X b k n pc lv st ws := J_goRl F E hs hrun hn (fun r h => by subst h; exact kk)
theorem jts_1 {x : Int32} (h0 : ¬ x = 0) (h1 : ¬ x = 1) : x.toInt < 0 ∨ 1 < x.toInt := by
  simp only [← Int32.toInt_inj] at h0 h1
  have e0 : (0 : Int32).toInt = 0 := by decide
  have e1 : (1 : Int32).toInt = 1 := by decide
  simp only [e0, e1] at h0 h1
  omega
theorem jts_2 {x : Int32} (h0 : ¬ x = 0) (h1 : ¬ x = 1) (h2 : ¬ x = 2) : x.toInt < 0 ∨ 2 < x.toInt := by
  simp only [← Int32.toInt_inj] at h0 h1 h2
  have e0 : (0 : Int32).toInt = 0 := by decide
  have e1 : (1 : Int32).toInt = 1 := by decide
  have e2 : (2 : Int32).toInt = 2 := by decide
  simp only [e0, e1, e2] at h0 h1 h2
  omega
theorem jts_3 {x : Int32} (h0 : ¬ x = 0) (h1 : ¬ x = 1) (h2 : ¬ x = 2) (h3 : ¬ x = 3) : x.toInt < 0 ∨ 3 < x.toInt := by
  simp only [← Int32.toInt_inj] at h0 h1 h2 h3
  have e0 : (0 : Int32).toInt = 0 := by decide
  have e1 : (1 : Int32).toInt = 1 := by decide
  have e2 : (2 : Int32).toInt = 2 := by decide
  have e3 : (3 : Int32).toInt = 3 := by decide
  simp only [e0, e1, e2, e3] at h0 h1 h2 h3
  omega
theorem jts_4 {x : Int32} (h0 : ¬ x = 0) (h1 : ¬ x = 1) (h2 : ¬ x = 2) (h3 : ¬ x = 3) (h4 : ¬ x = 4) : x.toInt < 0 ∨ 4 < x.toInt := by
  simp only [← Int32.toInt_inj] at h0 h1 h2 h3 h4
  have e0 : (0 : Int32).toInt = 0 := by decide
  have e1 : (1 : Int32).toInt = 1 := by decide
  have e2 : (2 : Int32).toInt = 2 := by decide
  have e3 : (3 : Int32).toInt = 3 := by decide
  have e4 : (4 : Int32).toInt = 4 := by decide
  simp only [e0, e1, e2, e3, e4] at h0 h1 h2 h3 h4
  omega
theorem jts_9 {x : Int32} (h0 : ¬ x = 0) (h1 : ¬ x = 1) (h2 : ¬ x = 2) (h3 : ¬ x = 3) (h4 : ¬ x = 4) (h5 : ¬ x = 5) (h6 : ¬ x = 6) (h7 : ¬ x = 7) (h8 : ¬ x = 8) (h9 : ¬ x = 9) : x.toInt < 0 ∨ 9 < x.toInt := by
  simp only [← Int32.toInt_inj] at h0 h1 h2 h3 h4 h5 h6 h7 h8 h9
  have e0 : (0 : Int32).toInt = 0 := by decide
  have e1 : (1 : Int32).toInt = 1 := by decide
  have e2 : (2 : Int32).toInt = 2 := by decide
  have e3 : (3 : Int32).toInt = 3 := by decide
  have e4 : (4 : Int32).toInt = 4 := by decide
  have e5 : (5 : Int32).toInt = 5 := by decide
  have e6 : (6 : Int32).toInt = 6 := by decide
  have e7 : (7 : Int32).toInt = 7 := by decide
  have e8 : (8 : Int32).toInt = 8 := by decide
  have e9 : (9 : Int32).toInt = 9 := by decide
  simp only [e0, e1, e2, e3, e4, e5, e6, e7, e8, e9] at h0 h1 h2 h3 h4 h5 h6 h7 h8 h9
  omega
theorem jts_21 {x : Int32} (h0 : ¬ x = 0) (h1 : ¬ x = 1) (h2 : ¬ x = 2) (h3 : ¬ x = 3) (h4 : ¬ x = 4) (h5 : ¬ x = 5) (h6 : ¬ x = 6) (h7 : ¬ x = 7) (h8 : ¬ x = 8) (h9 : ¬ x = 9) (h10 : ¬ x = 10) (h11 : ¬ x = 11) (h12 : ¬ x = 12) (h13 : ¬ x = 13) (h14 : ¬ x = 14) (h15 : ¬ x = 15) (h16 : ¬ x = 16) (h17 : ¬ x = 17) (h18 : ¬ x = 18) (h19 : ¬ x = 19) (h20 : ¬ x = 20) (h21 : ¬ x = 21) : x.toInt < 0 ∨ 21 < x.toInt := by
  simp only [← Int32.toInt_inj] at h0 h1 h2 h3 h4 h5 h6 h7 h8 h9 h10 h11 h12 h13 h14 h15 h16 h17 h18 h19 h20 h21
  have e0 : (0 : Int32).toInt = 0 := by decide
  have e1 : (1 : Int32).toInt = 1 := by decide
  have e2 : (2 : Int32).toInt = 2 := by decide
  have e3 : (3 : Int32).toInt = 3 := by decide
  have e4 : (4 : Int32).toInt = 4 := by decide
  have e5 : (5 : Int32).toInt = 5 := by decide
  have e6 : (6 : Int32).toInt = 6 := by decide
  have e7 : (7 : Int32).toInt = 7 := by decide
  have e8 : (8 : Int32).toInt = 8 := by decide
  have e9 : (9 : Int32).toInt = 9 := by decide
  have e10 : (10 : Int32).toInt = 10 := by decide
  have e11 : (11 : Int32).toInt = 11 := by decide
  have e12 : (12 : Int32).toInt = 12 := by decide
  have e13 : (13 : Int32).toInt = 13 := by decide
  have e14 : (14 : Int32).toInt = 14 := by decide
  have e15 : (15 : Int32).toInt = 15 := by decide
  have e16 : (16 : Int32).toInt = 16 := by decide
  have e17 : (17 : Int32).toInt = 17 := by decide
  have e18 : (18 : Int32).toInt = 18 := by decide
  have e19 : (19 : Int32).toInt = 19 := by decide
  have e20 : (20 : Int32).toInt = 20 := by decide
  have e21 : (21 : Int32).toInt = 21 := by decide
  simp only [e0, e1, e2, e3, e4, e5, e6, e7, e8, e9, e10, e11, e12, e13, e14, e15, e16, e17, e18, e19, e20, e21] at h0 h1 h2 h3 h4 h5 h6 h7 h8 h9 h10 h11 h12 h13 h14 h15 h16 h17 h18 h19 h20 h21
  omega
theorem jzb {v : Int32} (h : v = 0 ∨ v = 1) : narrow .boolean (.int v) = .int v := by rcases h with rfl | rfl <;> rfl
theorem jStS {z : Nat → Nat} {A : Nat → Prop} {U : State} {H : Heap} (h : jSt z A U H) : vk_S 2 jLen jByt (fun i => z (3 + i)) (fun i => z (5 + i)) A U H := h.2.2.2.2.2.2.2.2.2.2.1
theorem J_getsq {X : jX} {b : Bool} {k n pc pc' : Nat} {lv : List (Nat × Value)} {st : List Value} {ws : va_W} {cc : ByteArray} {own : String} {cI cZ : ClassId} {z : Nat → Nat} {index : Nat} (F : JF X cc own cI cZ z) (hd : decode cc pc = .ok (.getstatic index, 3)) (hlink : Cond.fieldLink own index "jdk/internal/util/Preconditions" "SIOOBE_FORMATTER" "Ljava/util/function/BiFunction;" ∈ wsG) (hn : pc + 3 = pc') (kk : ∀ v : Value, v.category = 1 → J X b k n pc' lv (v :: st) ws) : J X b k n pc lv st ws := by
  obtain ⟨p, l, e, R, s, m, args, below, meth, c, Q, A, D, nL⟩ := X
  obtain ⟨hx, hb, hml, hown, hts, hlk, hK, hZ⟩ := F
  subst hn
  intro H locs ls hI hl
  rcases hZ.2.2.2.2.2.2.2.2.2.2.2.2 with h | ⟨t, h⟩
  · exact va_gets hx hb h hI.S hown (hts _ hlink) (fun _ h => h) hd (kk .null rfl H locs ls hI hl)
  · exact va_gets hx hb h hI.S hown (hts _ hlink) (fun _ h => h) hd (kk (.ref t) rfl H locs ls hI hl)
theorem jin_lt {i N : Nat} (hN : N < 2 ^ 31) (hi : i ≤ N) (c : ¬ nI N ≤ nI i) : i < N := by
  rcases Nat.lt_or_ge i N with h | h
  · exact h
  · have e : i = N := by omega
    subst e
    exact absurd ((nI_leI hN hN).mpr (Nat.le_refl _)) c
theorem vp_in2 {x : Int32} {N : Nat} (h0 : ¬ x < 0) (h1 : ¬ nI N ≤ x) (hN : N < 2 ^ 31) : vp_in x N := by
  obtain ⟨j, hj, hx, -⟩ := pk_mu h0 h1 hN
  rw [hx]; exact vp_in_nI hj hN
theorem vp_in3 {x : Int32} {N : Nat} (h0 : ¬ x < 0) (h1 : x < nI N) (hN : N < 2 ^ 31) : vp_in x N := vp_in2 h0 (fun h => by have a := Int32.lt_iff_toInt_lt.mp h1; have b := Int32.le_iff_toInt_le.mp h; omega) hN
theorem nI_inc (i : Nat) : nI i + Int32.ofInt 1 = nI (i + 1) := by rw [show Int32.ofInt 1 = 1 from by decide]; exact nI_1 i
theorem jlt_of {i B : Nat} {x M : Int32} (hM : M = nI B) (hB : B < 2 ^ 31) (hi : i ≤ B) (c : ¬ x ≤ nI i) (cm : ¬ M < x) : i < B := by
  subst hM
  rw [Int32.le_iff_toInt_le, nI_toInt (by omega)] at c
  rw [Int32.lt_iff_toInt_lt, nI_toInt hB] at cm
  omega
theorem oX0_init : jOut yX0_init 0 := by unfold jOut; decide +kernel
theorem oJ7_fill_53178 : jOut yJ7_fill_53178 2 := by unfold jOut; decide +kernel
theorem oX0_put : jOut yX0_put 2 := by unfold jOut; decide +kernel
theorem oX5_cellFrom : jOut yX5_cellFrom 1 := by unfold jOut; decide +kernel
theorem oX5_cellInto : jOut yX5_cellInto 1 := by unfold jOut; decide +kernel
theorem oX2_slid : jOut yX2_slid 1 := by unfold jOut; decide +kernel
theorem oX2_moved : jOut yX2_moved 2 := by unfold jOut; decide +kernel
theorem oX5_listingBy : jOut yX5_listingBy 1 := by unfold jOut; decide +kernel
theorem oX5_bentBy : jOut yX5_bentBy 1 := by unfold jOut; decide +kernel
theorem oX0_leaveHead : jOut yX0_leaveHead 2 := by unfold jOut; decide +kernel
theorem oX0_leastFrom : jOut yX0_leastFrom 2 := by unfold jOut; decide +kernel
theorem oX1_init : jOut yX1_init 0 := by unfold jOut; decide +kernel
theorem oX2_bears : jOut yX2_bears 2 := by unfold jOut; decide +kernel
theorem oX2_behind : jOut yX2_behind 3 := by unfold jOut; decide +kernel
theorem oX1_rowsBehind : jOut yX1_rowsBehind 5 := by unfold jOut; decide +kernel
theorem oX1_tellOf : jOut yX1_tellOf 3 := by unfold jOut; decide +kernel
theorem oX2_init : jOut yX2_init 0 := by unfold jOut; decide +kernel
theorem oX5_at : jOut yX5_at 2 := by unfold jOut; decide +kernel
theorem oX2_setKind : jOut yX2_setKind 2 := by unfold jOut; decide +kernel
theorem oX2_minutesOf : jOut yX2_minutesOf 1 := by unfold jOut; decide +kernel
theorem oX3_init : jOut yX3_init 0 := by unfold jOut; decide +kernel
theorem oX3_clear : jOut yX3_clear 0 := by unfold jOut; decide +kernel
theorem oX3_copyOf : jOut yX3_copyOf 1 := by unfold jOut; decide +kernel
theorem oX4_init : jOut yX4_init 0 := by unfold jOut; decide +kernel
theorem oX5_tonsAt : jOut yX5_tonsAt 2 := by unfold jOut; decide +kernel
theorem oX5_tonsOf : jOut yX5_tonsOf 1 := by unfold jOut; decide +kernel
theorem oX4_reach : jOut yX4_reach 3 := by unfold jOut; decide +kernel
theorem oX4_leave : jOut yX4_leave 4 := by unfold jOut; decide +kernel
theorem oX4_lookFrom : jOut yX4_lookFrom 4 := by unfold jOut; decide +kernel
theorem oX5_init : jOut yX5_init 0 := by unfold jOut; decide +kernel
theorem oX5_letter : jOut yX5_letter 1 := by unfold jOut; decide +kernel
theorem oX5_blank : jOut yX5_blank 0 := by unfold jOut; decide +kernel
theorem oJ0_coder_7d493 : jOut yJ0_coder_7d493 0 := by unfold jOut; decide +kernel
theorem oJ0_length_8abf5 : jOut yJ0_length_8abf5 0 := by unfold jOut; decide +kernel
theorem oJ0_isLatin1_aae02 : jOut yJ0_isLatin1_aae02 0 := by unfold jOut; decide +kernel
theorem oJ3_checkIndex_8e157 : jOut yJ3_checkIndex_8e157 3 := by unfold jOut; decide +kernel
theorem oJ0_checkIndex_df160 : jOut yJ0_checkIndex_df160 2 := by unfold jOut; decide +kernel
theorem oJ1_charAt_3b067 : jOut yJ1_charAt_3b067 2 := by unfold jOut; decide +kernel
theorem oJ0_charAt_5068e : jOut yJ0_charAt_5068e 1 := by unfold jOut; decide +kernel
theorem oJ1_canEncode_9a6ad : jOut yJ1_canEncode_9a6ad 1 := by unfold jOut; decide +kernel
theorem oJ1_indexOfChar_4cfef : jOut yJ1_indexOfChar_4cfef 4 := by unfold jOut; decide +kernel
theorem oJ1_indexOf_4cfef : jOut yJ1_indexOf_4cfef 4 := by unfold jOut; decide +kernel
theorem oJ3_checkFromToIndex_8c36e : jOut yJ3_checkFromToIndex_8c36e 4 := by unfold jOut; decide +kernel
theorem oJ0_checkBoundsBeginEnd_23922 : jOut yJ0_checkBoundsBeginEnd_23922 3 := by unfold jOut; decide +kernel
theorem oJ0_indexOf_7cf53 : jOut yJ0_indexOf_7cf53 2 := by unfold jOut; decide +kernel
theorem oJ0_indexOf_0f7a4 : jOut yJ0_indexOf_0f7a4 1 := by unfold jOut; decide +kernel
theorem oX5_isOfForm : jOut yX5_isOfForm 2 := by unfold jOut; decide +kernel
theorem oX5_fault : jOut yX5_fault 0 := by unfold jOut; decide +kernel
theorem oX5_digitAt : jOut yX5_digitAt 1 := by unfold jOut; decide +kernel
theorem oX5_readPage : jOut yX5_readPage 0 := by unfold jOut; decide +kernel
theorem oX5_hold : jOut yX5_hold 0 := by unfold jOut; decide +kernel
theorem oX5_isBay : jOut yX5_isBay 1 := by unfold jOut; decide +kernel
theorem oX5_bay : jOut yX5_bay 2 := by unfold jOut; decide +kernel
theorem oX5_as : jOut yX5_as 2 := by unfold jOut; decide +kernel
theorem oX5_asNumber : jOut yX5_asNumber 1 := by unfold jOut; decide +kernel
theorem oX5_ground : jOut yX5_ground 1 := by unfold jOut; decide +kernel
theorem oX5_bendNow : jOut yX5_bendNow 0 := by unfold jOut; decide +kernel
theorem oX5_hull : jOut yX5_hull 1 := by unfold jOut; decide +kernel
theorem oX5_isAct : jOut yX5_isAct 1 := by unfold jOut; decide +kernel
theorem oX5_may : jOut yX5_may 1 := by unfold jOut; decide +kernel
theorem oX5_act : jOut yX5_act 1 := by unfold jOut; decide +kernel
theorem oX5_lookAhead : jOut yX5_lookAhead 0 := by unfold jOut; decide +kernel
theorem oX5_soonest : jOut yX5_soonest 1 := by unfold jOut; decide +kernel
theorem oX5_most : jOut yX5_most 0 := by unfold jOut; decide +kernel
theorem oX5_holds : jOut yX5_holds 0 := by unfold jOut; decide +kernel
theorem oX5_leastBend : jOut yX5_leastBend 0 := by unfold jOut; decide +kernel
theorem oX5_string : jOut yX5_string 1 := by unfold jOut; decide +kernel
theorem oX5_forget : jOut yX5_forget 0 := by unfold jOut; decide +kernel
theorem oX5_lookBack : jOut yX5_lookBack 0 := by unfold jOut; decide +kernel
theorem oX5_fits : jOut yX5_fits 1 := by unfold jOut; decide +kernel
theorem oX5_nextSeed : jOut yX5_nextSeed 1 := by unfold jOut; decide +kernel
theorem oX5_days : jOut yX5_days 3 := by unfold jOut; decide +kernel
theorem oX5_image : jOut yX5_image 0 := by unfold jOut; decide +kernel
theorem oX5_restore : jOut yX5_restore 0 := by unfold jOut; decide +kernel
theorem oX5_count : jOut yX5_count 1 := by unfold jOut; decide +kernel
theorem oX5_withLighter : jOut yX5_withLighter 1 := by unfold jOut; decide +kernel
theorem oX5_withActs : jOut yX5_withActs 1 := by unfold jOut; decide +kernel
theorem oX5_withOutlook : jOut yX5_withOutlook 1 := by unfold jOut; decide +kernel
theorem oX5_digest : jOut yX5_digest 0 := by unfold jOut; decide +kernel
theorem oX6_init : jOut yX6_init 0 := by unfold jOut; decide +kernel
theorem oX6_in : jOut yX6_in 3 := by unfold jOut; decide +kernel
theorem oX6_letter : jOut yX6_letter 1 := by unfold jOut; decide +kernel
theorem oX6_blank : jOut yX6_blank 0 := by unfold jOut; decide +kernel
theorem oX6_kindBy : jOut yX6_kindBy 1 := by unfold jOut; decide +kernel
theorem oX6_isGood : jOut yX6_isGood 2 := by unfold jOut; decide +kernel
theorem oX6_faultOf : jOut yX6_faultOf 0 := by unfold jOut; decide +kernel
theorem oX6_fault : jOut yX6_fault 0 := by unfold jOut; decide +kernel
theorem oX6_at : jOut yX6_at 2 := by unfold jOut; decide +kernel
theorem oX6_tonsOf : jOut yX6_tonsOf 1 := by unfold jOut; decide +kernel
theorem oX6_hold : jOut yX6_hold 0 := by unfold jOut; decide +kernel
theorem oX6_unlike : jOut yX6_unlike 2 := by unfold jOut; decide +kernel
theorem oX6_bentOf : jOut yX6_bentOf 1 := by unfold jOut; decide +kernel
theorem oX6_listingOf : jOut yX6_listingOf 1 := by unfold jOut; decide +kernel
theorem oX6_bendNow : jOut yX6_bendNow 0 := by unfold jOut; decide +kernel
theorem oX6_takingOf : jOut yX6_takingOf 1 := by unfold jOut; decide +kernel
theorem oX6_carryingOf : jOut yX6_carryingOf 1 := by unfold jOut; decide +kernel
theorem oX6_bay : jOut yX6_bay 2 := by unfold jOut; decide +kernel
theorem oX6_as : jOut yX6_as 2 := by unfold jOut; decide +kernel
theorem oX6_ground : jOut yX6_ground 1 := by unfold jOut; decide +kernel
theorem oX6_bears : jOut yX6_bears 2 := by unfold jOut; decide +kernel
theorem oX6_hullOf : jOut yX6_hullOf 1 := by unfold jOut; decide +kernel
theorem oX6_hull : jOut yX6_hull 1 := by unfold jOut; decide +kernel
theorem oX6_isAct : jOut yX6_isAct 1 := by unfold jOut; decide +kernel
theorem oX6_behind : jOut yX6_behind 2 := by unfold jOut; decide +kernel
theorem oX6_goes : jOut yX6_goes 3 := by unfold jOut; decide +kernel
theorem oX6_lasts : jOut yX6_lasts 1 := by unfold jOut; decide +kernel
theorem oX6_may : jOut yX6_may 1 := by unfold jOut; decide +kernel
theorem oX6_act : jOut yX6_act 1 := by unfold jOut; decide +kernel
theorem oX6_isBetter : jOut yX6_isBetter 3 := by unfold jOut; decide +kernel
theorem oX6_layFar : jOut yX6_layFar 1 := by unfold jOut; decide +kernel
theorem oX6_soonest : jOut yX6_soonest 1 := by unfold jOut; decide +kernel
theorem oX6_mostOf : jOut yX6_mostOf 0 := by unfold jOut; decide +kernel
theorem oX6_most : jOut yX6_most 0 := by unfold jOut; decide +kernel
theorem oX6_manyOf : jOut yX6_manyOf 0 := by unfold jOut; decide +kernel
theorem oX6_holds : jOut yX6_holds 0 := by unfold jOut; decide +kernel
theorem oX6_leastBend : jOut yX6_leastBend 0 := by unfold jOut; decide +kernel
theorem oX6_string : jOut yX6_string 1 := by unfold jOut; decide +kernel
theorem oX6_forget : jOut yX6_forget 0 := by unfold jOut; decide +kernel
theorem oX6_stepAll : jOut yX6_stepAll 1 := by unfold jOut; decide +kernel
theorem oX6_rowsFrom : jOut yX6_rowsFrom 2 := by unfold jOut; decide +kernel
theorem oX6_layFits : jOut yX6_layFits 0 := by unfold jOut; decide +kernel
theorem oX6_fits : jOut yX6_fits 1 := by unfold jOut; decide +kernel
theorem oX6_draw : jOut yX6_draw 1 := by unfold jOut; decide +kernel
theorem oX6_days : jOut yX6_days 3 := by unfold jOut; decide +kernel
theorem oX6_copy : jOut yX6_copy 2 := by unfold jOut; decide +kernel
theorem oX6_image : jOut yX6_image 0 := by unfold jOut; decide +kernel
theorem oX6_restore : jOut yX6_restore 0 := by unfold jOut; decide +kernel
theorem oX6_countOf : jOut yX6_countOf 1 := by unfold jOut; decide +kernel
theorem oX6_count : jOut yX6_count 1 := by unfold jOut; decide +kernel
theorem oX6_say : jOut yX6_say 1 := by unfold jOut; decide +kernel
theorem oX6_sayHold : jOut yX6_sayHold 0 := by unfold jOut; decide +kernel
theorem oX6_digest : jOut yX6_digest 0 := by unfold jOut; decide +kernel
theorem oJ9_abs_0f7a4 : jOut yJ9_abs_0f7a4 1 := by unfold jOut; decide +kernel
theorem oJ9_max_7cf53 : jOut yJ9_max_7cf53 2 := by unfold jOut; decide +kernel
theorem oJ9_min_7cf53 : jOut yJ9_min_7cf53 2 := by unfold jOut; decide +kernel
abbrev ww_X0_init : List Cond := Cond.code yX0_init cX0_init 1 none :: wsG
abbrev ww_J7_fill_53178 : List Cond := Cond.code yJ7_fill_53178 cJ7_fill_53178 4 none :: wsG
abbrev ww_X0_put : List Cond := Cond.code yX0_put cX0_put 3 none :: wsG
abbrev ww_X5_cellFrom : List Cond := Cond.code yX5_cellFrom cX5_cellFrom 1 (some .int) :: wsG
abbrev ww_X5_cellInto : List Cond := Cond.code yX5_cellInto cX5_cellInto 1 (some .int) :: wsG
abbrev ww_X2_slid : List Cond := Cond.code yX2_slid cX2_slid 7 (some .int) :: wsG
abbrev ww_X2_moved : List Cond := Cond.code yX2_moved cX2_moved 6 (some .int) :: wsG
abbrev ww_X5_listingBy : List Cond := Cond.code yX5_listingBy cX5_listingBy 3 (some .int) :: wsG
abbrev ww_X5_bentBy : List Cond := Cond.code yX5_bentBy cX5_bentBy 4 (some .int) :: wsG
abbrev ww_X0_leaveHead : List Cond := Cond.code yX0_leaveHead cX0_leaveHead 9 none :: wsG
abbrev ww_X0_leastFrom : List Cond := Cond.code yX0_leastFrom cX0_leastFrom 5 (some .int) :: wsG
abbrev ww_X1_init : List Cond := Cond.code yX1_init cX1_init 1 none :: wsG
abbrev ww_X2_bears : List Cond := Cond.code yX2_bears cX2_bears 3 (some .boolean) :: wsG
abbrev ww_X2_behind : List Cond := Cond.code yX2_behind cX2_behind 5 (some .int) :: wsG
abbrev ww_X1_rowsBehind : List Cond := Cond.code yX1_rowsBehind cX1_rowsBehind 10 (some .int) :: wsG
abbrev ww_X1_tellOf : List Cond := Cond.code yX1_tellOf cX1_tellOf 9 none :: wsG
abbrev ww_X2_init : List Cond := Cond.code yX2_init cX2_init 1 none :: wsG
abbrev ww_X5_at : List Cond := Cond.code yX5_at cX5_at 2 (some .int) :: wsG
abbrev ww_X2_setKind : List Cond := Cond.code yX2_setKind cX2_setKind 3 none :: wsG
abbrev ww_X2_minutesOf : List Cond := Cond.code yX2_minutesOf cX2_minutesOf 2 (some .int) :: wsG
abbrev ww_X3_init : List Cond := Cond.code yX3_init cX3_init 1 none :: wsG
abbrev ww_X3_clear : List Cond := Cond.code yX3_clear cX3_clear 1 none :: wsG
abbrev ww_X3_copyOf : List Cond := Cond.code yX3_copyOf cX3_copyOf 3 none :: wsG
abbrev ww_X4_init : List Cond := Cond.code yX4_init cX4_init 1 none :: wsG
abbrev ww_X5_tonsAt : List Cond := Cond.code yX5_tonsAt cX5_tonsAt 2 (some .int) :: wsG
abbrev ww_X5_tonsOf : List Cond := Cond.code yX5_tonsOf cX5_tonsOf 3 (some .int) :: wsG
abbrev ww_X4_reach : List Cond := Cond.code yX4_reach cX4_reach 5 none :: wsG
abbrev ww_X4_leave : List Cond := Cond.code yX4_leave cX4_leave 11 none :: wsG
abbrev ww_X4_lookFrom : List Cond := Cond.code yX4_lookFrom cX4_lookFrom 9 none :: wsG
abbrev ww_X5_init : List Cond := Cond.code yX5_init cX5_init 1 none :: wsG
abbrev ww_X5_letter : List Cond := Cond.code yX5_letter cX5_letter 2 (some .int) :: wsG
abbrev ww_X5_blank : List Cond := Cond.code yX5_blank cX5_blank 2 (some .int) :: wsG
abbrev ww_J0_coder_7d493 : List Cond := Cond.code yJ0_coder_7d493 cJ0_coder_7d493 1 (some .byte) :: wsG
abbrev ww_J0_length_8abf5 : List Cond := Cond.code yJ0_length_8abf5 cJ0_length_8abf5 1 (some .int) :: wsG
abbrev ww_J0_isLatin1_aae02 : List Cond := Cond.code yJ0_isLatin1_aae02 cJ0_isLatin1_aae02 1 (some .boolean) :: wsG
abbrev ww_J3_checkIndex_8e157 : List Cond := Cond.code yJ3_checkIndex_8e157 cJ3_checkIndex_8e157 3 (some .int) :: wsG
abbrev ww_J0_checkIndex_df160 : List Cond := Cond.code yJ0_checkIndex_df160 cJ0_checkIndex_df160 2 none :: wsG
abbrev ww_J1_charAt_3b067 : List Cond := Cond.code yJ1_charAt_3b067 cJ1_charAt_3b067 2 (some .char) :: wsG
abbrev ww_J0_charAt_5068e : List Cond := Cond.code yJ0_charAt_5068e cJ0_charAt_5068e 2 (some .char) :: wsG
abbrev ww_J1_canEncode_9a6ad : List Cond := Cond.code yJ1_canEncode_9a6ad cJ1_canEncode_9a6ad 1 (some .boolean) :: wsG
abbrev ww_J1_indexOfChar_4cfef : List Cond := Cond.code yJ1_indexOfChar_4cfef cJ1_indexOfChar_4cfef 6 (some .int) :: wsG
abbrev ww_J1_indexOf_4cfef : List Cond := Cond.code yJ1_indexOf_4cfef cJ1_indexOf_4cfef 4 (some .int) :: wsG
abbrev ww_J3_checkFromToIndex_8c36e : List Cond := Cond.code yJ3_checkFromToIndex_8c36e cJ3_checkFromToIndex_8c36e 4 (some .int) :: wsG
abbrev ww_J0_checkBoundsBeginEnd_23922 : List Cond := Cond.code yJ0_checkBoundsBeginEnd_23922 cJ0_checkBoundsBeginEnd_23922 3 none :: wsG
abbrev ww_J0_indexOf_7cf53 : List Cond := Cond.code yJ0_indexOf_7cf53 cJ0_indexOf_7cf53 3 (some .int) :: wsG
abbrev ww_J0_indexOf_0f7a4 : List Cond := Cond.code yJ0_indexOf_0f7a4 cJ0_indexOf_0f7a4 2 (some .int) :: wsG
abbrev ww_X5_isOfForm : List Cond := Cond.code yX5_isOfForm cX5_isOfForm 3 (some .boolean) :: wsG
abbrev ww_X5_fault : List Cond := Cond.code yX5_fault cX5_fault 2 (some .int) :: wsG
abbrev ww_X5_digitAt : List Cond := Cond.code yX5_digitAt cX5_digitAt 2 (some .int) :: wsG
abbrev ww_X5_readPage : List Cond := Cond.code yX5_readPage cX5_readPage 3 (some .int) :: wsG
abbrev ww_X5_hold : List Cond := Cond.code yX5_hold cX5_hold 1 (some .int) :: wsG
abbrev ww_X5_isBay : List Cond := Cond.code yX5_isBay cX5_isBay 2 (some .boolean) :: wsG
abbrev ww_X5_bay : List Cond := Cond.code yX5_bay cX5_bay 3 (some .int) :: wsG
abbrev ww_X5_as : List Cond := Cond.code yX5_as cX5_as 5 (some .int) :: wsG
abbrev ww_X5_asNumber : List Cond := Cond.code yX5_asNumber cX5_asNumber 1 (some .int) :: wsG
abbrev ww_X5_ground : List Cond := Cond.code yX5_ground cX5_ground 3 (some .int) :: wsG
abbrev ww_X5_bendNow : List Cond := Cond.code yX5_bendNow cX5_bendNow 1 (some .int) :: wsG
abbrev ww_X5_hull : List Cond := Cond.code yX5_hull cX5_hull 2 (some .int) :: wsG
abbrev ww_X5_isAct : List Cond := Cond.code yX5_isAct cX5_isAct 5 (some .boolean) :: wsG
abbrev ww_X5_may : List Cond := Cond.code yX5_may cX5_may 2 (some .int) :: wsG
abbrev ww_X5_act : List Cond := Cond.code yX5_act cX5_act 3 (some .int) :: wsG
abbrev ww_X5_lookAhead : List Cond := Cond.code yX5_lookAhead cX5_lookAhead 1 none :: wsG
abbrev ww_X5_soonest : List Cond := Cond.code yX5_soonest cX5_soonest 2 (some .int) :: wsG
abbrev ww_X5_most : List Cond := Cond.code yX5_most cX5_most 1 (some .int) :: wsG
abbrev ww_X5_holds : List Cond := Cond.code yX5_holds cX5_holds 1 (some .int) :: wsG
abbrev ww_X5_leastBend : List Cond := Cond.code yX5_leastBend cX5_leastBend 1 (some .int) :: wsG
abbrev ww_X5_string : List Cond := Cond.code yX5_string cX5_string 2 (some .int) :: wsG
abbrev ww_X5_forget : List Cond := Cond.code yX5_forget cX5_forget 2 (some .int) :: wsG
abbrev ww_X5_lookBack : List Cond := Cond.code yX5_lookBack cX5_lookBack 1 none :: wsG
abbrev ww_X5_fits : List Cond := Cond.code yX5_fits cX5_fits 2 (some .int) :: wsG
abbrev ww_X5_nextSeed : List Cond := Cond.code yX5_nextSeed cX5_nextSeed 1 (some .int) :: wsG
abbrev ww_X5_days : List Cond := Cond.code yX5_days cX5_days 12 (some .int) :: wsG
abbrev ww_X5_image : List Cond := Cond.code yX5_image cX5_image 1 (some .int) :: wsG
abbrev ww_X5_restore : List Cond := Cond.code yX5_restore cX5_restore 1 (some .int) :: wsG
abbrev ww_X5_count : List Cond := Cond.code yX5_count cX5_count 2 (some .int) :: wsG
abbrev ww_X5_withLighter : List Cond := Cond.code yX5_withLighter cX5_withLighter 7 (some .long) :: wsG
abbrev ww_X5_withActs : List Cond := Cond.code yX5_withActs cX5_withActs 9 (some .long) :: wsG
abbrev ww_X5_withOutlook : List Cond := Cond.code yX5_withOutlook cX5_withOutlook 5 (some .long) :: wsG
abbrev ww_X5_digest : List Cond := Cond.code yX5_digest cX5_digest 4 (some .long) :: wsG
abbrev ww_X6_init : List Cond := Cond.code yX6_init cX6_init 1 none :: wsG
abbrev ww_X6_in : List Cond := Cond.code yX6_in cX6_in 6 (some .boolean) :: wsG
abbrev ww_X6_letter : List Cond := Cond.code yX6_letter cX6_letter 2 (some .int) :: wsG
abbrev ww_X6_blank : List Cond := Cond.code yX6_blank cX6_blank 2 (some .int) :: wsG
abbrev ww_X6_kindBy : List Cond := Cond.code yX6_kindBy cX6_kindBy 1 (some .int) :: wsG
abbrev ww_X6_isGood : List Cond := Cond.code yX6_isGood cX6_isGood 3 (some .boolean) :: wsG
abbrev ww_X6_faultOf : List Cond := Cond.code yX6_faultOf cX6_faultOf 2 (some .int) :: wsG
abbrev ww_X6_fault : List Cond := Cond.code yX6_fault cX6_fault 1 (some .int) :: wsG
abbrev ww_X6_at : List Cond := Cond.code yX6_at cX6_at 2 (some .int) :: wsG
abbrev ww_X6_tonsOf : List Cond := Cond.code yX6_tonsOf cX6_tonsOf 3 (some .int) :: wsG
abbrev ww_X6_hold : List Cond := Cond.code yX6_hold cX6_hold 2 (some .int) :: wsG
abbrev ww_X6_unlike : List Cond := Cond.code yX6_unlike cX6_unlike 2 (some .int) :: wsG
abbrev ww_X6_bentOf : List Cond := Cond.code yX6_bentOf cX6_bentOf 1 (some .int) :: wsG
abbrev ww_X6_listingOf : List Cond := Cond.code yX6_listingOf cX6_listingOf 1 (some .int) :: wsG
abbrev ww_X6_bendNow : List Cond := Cond.code yX6_bendNow cX6_bendNow 1 (some .int) :: wsG
abbrev ww_X6_takingOf : List Cond := Cond.code yX6_takingOf cX6_takingOf 3 (some .int) :: wsG
abbrev ww_X6_carryingOf : List Cond := Cond.code yX6_carryingOf cX6_carryingOf 2 (some .int) :: wsG
abbrev ww_X6_bay : List Cond := Cond.code yX6_bay cX6_bay 3 (some .int) :: wsG
abbrev ww_X6_as : List Cond := Cond.code yX6_as cX6_as 4 (some .int) :: wsG
abbrev ww_X6_ground : List Cond := Cond.code yX6_ground cX6_ground 3 (some .int) :: wsG
abbrev ww_X6_bears : List Cond := Cond.code yX6_bears cX6_bears 3 (some .boolean) :: wsG
abbrev ww_X6_hullOf : List Cond := Cond.code yX6_hullOf cX6_hullOf 2 (some .int) :: wsG
abbrev ww_X6_hull : List Cond := Cond.code yX6_hull cX6_hull 2 (some .int) :: wsG
abbrev ww_X6_isAct : List Cond := Cond.code yX6_isAct cX6_isAct 3 (some .boolean) :: wsG
abbrev ww_X6_behind : List Cond := Cond.code yX6_behind cX6_behind 9 (some .int) :: wsG
abbrev ww_X6_goes : List Cond := Cond.code yX6_goes cX6_goes 5 (some .int) :: wsG
abbrev ww_X6_lasts : List Cond := Cond.code yX6_lasts cX6_lasts 2 (some .int) :: wsG
abbrev ww_X6_may : List Cond := Cond.code yX6_may cX6_may 2 (some .int) :: wsG
abbrev ww_X6_act : List Cond := Cond.code yX6_act cX6_act 3 (some .int) :: wsG
abbrev ww_X6_isBetter : List Cond := Cond.code yX6_isBetter cX6_isBetter 7 (some .boolean) :: wsG
abbrev ww_X6_layFar : List Cond := Cond.code yX6_layFar cX6_layFar 7 none :: wsG
abbrev ww_X6_soonest : List Cond := Cond.code yX6_soonest cX6_soonest 2 (some .int) :: wsG
abbrev ww_X6_mostOf : List Cond := Cond.code yX6_mostOf cX6_mostOf 3 (some .int) :: wsG
abbrev ww_X6_most : List Cond := Cond.code yX6_most cX6_most 1 (some .int) :: wsG
abbrev ww_X6_manyOf : List Cond := Cond.code yX6_manyOf cX6_manyOf 3 (some .int) :: wsG
abbrev ww_X6_holds : List Cond := Cond.code yX6_holds cX6_holds 1 (some .int) :: wsG
abbrev ww_X6_leastBend : List Cond := Cond.code yX6_leastBend cX6_leastBend 2 (some .int) :: wsG
abbrev ww_X6_string : List Cond := Cond.code yX6_string cX6_string 2 (some .int) :: wsG
abbrev ww_X6_forget : List Cond := Cond.code yX6_forget cX6_forget 2 (some .int) :: wsG
abbrev ww_X6_stepAll : List Cond := Cond.code yX6_stepAll cX6_stepAll 5 none :: wsG
abbrev ww_X6_rowsFrom : List Cond := Cond.code yX6_rowsFrom cX6_rowsFrom 5 (some .int) :: wsG
abbrev ww_X6_layFits : List Cond := Cond.code yX6_layFits cX6_layFits 4 none :: wsG
abbrev ww_X6_fits : List Cond := Cond.code yX6_fits cX6_fits 2 (some .int) :: wsG
abbrev ww_X6_draw : List Cond := Cond.code yX6_draw cX6_draw 2 (some .int) :: wsG
abbrev ww_X6_days : List Cond := Cond.code yX6_days cX6_days 10 (some .int) :: wsG
abbrev ww_X6_copy : List Cond := Cond.code yX6_copy cX6_copy 3 none :: wsG
abbrev ww_X6_image : List Cond := Cond.code yX6_image cX6_image 1 (some .int) :: wsG
abbrev ww_X6_restore : List Cond := Cond.code yX6_restore cX6_restore 1 (some .int) :: wsG
abbrev ww_X6_countOf : List Cond := Cond.code yX6_countOf cX6_countOf 2 (some .int) :: wsG
abbrev ww_X6_count : List Cond := Cond.code yX6_count cX6_count 2 (some .int) :: wsG
abbrev ww_X6_say : List Cond := Cond.code yX6_say cX6_say 3 none :: wsG
abbrev ww_X6_sayHold : List Cond := Cond.code yX6_sayHold cX6_sayHold 3 none :: wsG
abbrev ww_X6_digest : List Cond := Cond.code yX6_digest cX6_digest 2 (some .long) :: wsG
abbrev ww_J9_abs_0f7a4 : List Cond := Cond.code yJ9_abs_0f7a4 cJ9_abs_0f7a4 1 (some .int) :: wsG
abbrev ww_J9_max_7cf53 : List Cond := Cond.code yJ9_max_7cf53 cJ9_max_7cf53 2 (some .int) :: wsG
abbrev ww_J9_min_7cf53 : List Cond := Cond.code yJ9_min_7cf53 cJ9_min_7cf53 2 (some .int) :: wsG
