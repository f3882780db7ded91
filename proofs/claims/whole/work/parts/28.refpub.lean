/-! the reference's public searches -/
theorem many6_go {sc : Nat → Int32} {ar : Nat → Nat → Int32} {hs : Int64} : ∀ (n i : Nat) (y : Int32), i ≤ 4096 → 4096 - i < n → y = nI (fb_ct (fun n => !decide (ar 2 n = -1)) i) → zX6_manyOf_4 sc ar hs n i y = nI (ctD (ar 2)) := by
  intro n
  induction n with
  | zero => intro i _ _ hm; exact absurd hm (Nat.not_lt_zero _)
  | succ n ih =>
    intro i y hi hm e
    rw [zX6_manyOf_4]
    by_cases q : i = 4096
    · subst q
      rw [if_pos (show (4096 : Int32) ≤ nI 4096 by decide), e]
      rfl
    · rw [if_neg (show ¬ (4096 : Int32) ≤ nI i from nI_ge (b := 4096) (by omega) (by decide))]
      by_cases q2 : ar 2 i = -1
      · rw [if_pos q2]
        refine ih _ _ (by omega) (by omega) ?_
        rw [fb_ct_succ, e, q2]
        exact Int32.add_zero _
      · rw [if_neg q2]
        refine ih _ _ (by omega) (by omega) ?_
        rw [fb_ct_succ, e, nI_1]
        simp only [q2, decide_false, Bool.not_false, if_true]
theorem many6 (sc : Nat → Int32) (ar : Nat → Nat → Int32) (hs : Int64) : zX6_manyOf sc ar hs = nI (ctD (ar 2)) := many6_go _ _ _ (Nat.zero_le _) (Nat.lt_succ_self _) rfl
theorem most6_go {sc : Nat → Int32} {ar : Nat → Nat → Int32} {hs : Int64} {s : Nat} (h5 : sc 5 = nI s) (hss : s < 4096) (hd : ar 2 s ≠ -1) : ∀ (n i : Nat) (k : Nat), i ≤ 4096 → 4096 - i < n → k ≤ 18 → (∀ j, j < i → ar 2 j ≠ -1 → k ≤ tns j) → (k = 18 ∨ ∃ j, j < i ∧ ar 2 j ≠ -1 ∧ tns j = k) → IsMost (ar 2) s (zX6_mostOf_5 sc ar hs n i (nI k)) := by
  intro n
  induction n with
  | zero => intro i _ _ hm; exact absurd hm (Nat.not_lt_zero _)
  | succ n ih =>
    intro i k hi hm hk18 hall hex
    rw [zX6_mostOf_5]
    by_cases q : i = 4096
    · subst q
      rw [if_pos (show (4096 : Int32) ≤ nI 4096 by decide), h5, tons6 hss]
      have hks := hall s hss hd
      have h18 := tns_le s
      refine ⟨tns s - k, pk_sub (by omega), by omega, fun j hj hjd => ?_, ?_⟩
      · have := hall j hj hjd
        omega
      · rcases hex with e | ⟨j, hj, hjd, e⟩
        · exact ⟨s, hss, hd, by omega⟩
        · exact ⟨j, hj, hjd, by omega⟩
    · rw [if_neg (show ¬ (4096 : Int32) ≤ nI i from nI_ge (b := 4096) (by omega) (by decide))]
      by_cases q2 : ar 2 i = -1
      · rw [if_pos q2]
        refine ih _ _ (by omega) (by omega) hk18 (fun j hj hjd => ?_) ?_
        · by_cases e : j = i
          · subst e; exact absurd q2 hjd
          · exact hall j (by omega) hjd
        · rcases hex with e | ⟨j, hj, hjd, e⟩
          · exact Or.inl e
          · exact Or.inr ⟨j, by omega, hjd, e⟩
      · rw [if_neg q2, tons6 (show i < 4096 by omega)]
        have ht := tns_le i
        by_cases q3 : k ≤ tns i
        · rw [if_pos (nI_le q3 (by omega))]
          refine ih _ _ (by omega) (by omega) hk18 (fun j hj hjd => ?_) ?_
          · by_cases e : j = i
            · subst e; exact q3
            · exact hall j (by omega) hjd
          · rcases hex with e | ⟨j, hj, hjd, e⟩
            · exact Or.inl e
            · exact Or.inr ⟨j, by omega, hjd, e⟩
        · rw [if_neg (nI_ge (by omega) (by omega))]
          refine ih _ _ (by omega) (by omega) ht (fun j hj hjd => ?_) (Or.inr ⟨i, by omega, q2, rfl⟩)
          by_cases e : j = i
          · subst e; exact Nat.le_refl _
          · have := hall j (by omega) hjd
            omega
theorem most6 {sc : Nat → Int32} {ar : Nat → Nat → Int32} {hs : Int64} {s : Nat} (h5 : sc 5 = nI s) (hss : s < 4096) (hd : ar 2 s ≠ -1) : IsMost (ar 2) s (zX6_mostOf sc ar hs) := most6_go h5 hss hd _ _ 18 (Nat.zero_le _) (Nat.lt_succ_self _) (Nat.le_refl _) (fun j hj => absurd hj (Nat.not_lt_zero _)) (Or.inl rfl)
theorem IsMost.unique {m m' : Nat → Int32} {s : Nat} {x x' : Int32} (he : ∀ n, n < 4096 → m n = m' n) (h : IsMost m s x) (h' : IsMost m' s x') : x = x' := by
  obtain ⟨k, rfl, _, h1, n, hn, hd, e⟩ := h
  obtain ⟨k', rfl, _, h1', n', hn', hd', e'⟩ := h'
  have a := h1' n hn (by rw [← he n hn]; exact hd)
  have b := h1 n' hn' (by rw [he n' hn']; exact hd')
  rw [show k = k' by omega]
theorem ctD_cong {m m' : Nat → Int32} (he : ∀ n, n < 4096 → m n = m' n) : ctD m = ctD m' := fb_ct_cong (fun k hk => by rw [he k hk])
theorem Sol.at_s {E : Nat → Nat → Option Nat} {w : Nat → Nat} {s : Nat} {m f : Nat → Int32} (h : Sol E w s m f) : m s ≠ -1 := by rw [h.2.2.1.1]; exact m0_ne
abbrev rm_X6_soonest : Room := { frames := 5, cells := 0, slots := 0, locals := 113 }
set_option maxHeartbeats 4000000 in
set_option maxRecDepth 100000 in
theorem c_X6_soonest (l : Launch) (D : va_G) (cI cZ : ClassId) (z : Nat → Nat) (g : Nat → Nat) (sc : Nat → Int32) (ar : Nat → Nat → Int32) (hs : Int64) (x1 : Int32) (kd : Nat → Nat) (li s be : Nat) (hM : MH sc ar kd li s) (hbe : be < 2 ^ 31) (hbn : zX6_bendNow sc ar hs = nI be) : cWi l yX6_soonest ww_X6_soonest rm_X6_soonest D cI cZ z (fM cI cZ g) (wM cI cZ g sc ar hs) [.ref (g 0), .int x1] (fun r u => ∃ ar' m f, u = (sc, ar', hs) ∧ frM ar ar' ∧ (¬ zX6_in x1.toInt64 0 1 = 0 → ¬ sc 2 = 0 → Sol (goN (hk kd) li be) (wtN kd) s m f) ∧ r = if zX6_in x1.toInt64 0 1 = 0 then -102 else if sc 2 = 0 then -103 else if x1 = 0 then m 0 else f 0) := by
  refine cWi.of (cc := cX6_soonest) (maxL := 2) (rt := .int) (by decide) rfl (Nat.le_of_ble_eq_true rfl) (fun X F E hA hR => ?_)
  refine J_lv [0, 1] (lv' := [(0, .ref (g 0)), (1, .int x1)]) rfl ?_
  refine J_iload_n (pc' := 1) (q := 1) F dX6_soonest_0 rfl rfl ?_
  refine J_i2l (pc' := 2) (v := (x1 : Int32).toInt64) F dX6_soonest_1 rfl rfl ?_
  refine J_lconst (pc' := 3) (v := 0) F dX6_soonest_2 (by decide) rfl ?_
  refine J_lconst (pc' := 4) (v := 1) F dX6_soonest_3 (by decide) rfl ?_
  refine J_goRie (wc := []) (av := [.long ((x1 : Int32).toInt64), .long 0, .long 1]) (rest := []) (v := zX6_in ((x1 : Int32).toInt64) 0 1) (pc' := 7) F E (fun _ _ => jP_nil _ _) (fun H locs hI hp => jrun_S F E (c_X6_in l D cI cZ z ((x1 : Int32).toInt64) 0 1) kw_682 kw_683 rfl kw_684 kw_7 oX6_in ⟨⟨rfl, rfl⟩, ⟨Nat.le_of_ble_eq_true rfl, Nat.le_of_ble_eq_true rfl⟩, Nat.zero_le _, Nat.zero_le _⟩ rfl (Nat.le_of_ble_eq_true rfl) dX6_soonest_4 hp) rfl ?_
  refine J_if_ne (tgt := 13) (pc' := 10) F dX6_soonest_7 (by decide) rfl (fun kq7 => ?_) (fun kq7 => ?_)
  · refine J_aload_n (pc' := 14) (q := 0) F dX6_soonest_13 rfl rfl ?_
    refine M_get_0_2 (v := sc 2) (pc' := 17) F dX6_soonest_14 kw_581 rfl rfl ?_
    refine J_if_ne (tgt := 23) (pc' := 20) F dX6_soonest_17 (by decide) rfl (fun kq17 => ?_) (fun kq17 => ?_)
    · refine J_aload_n (pc' := 24) (q := 0) F dX6_soonest_23 rfl rfl ?_
      refine J_aload_n (pc' := 25) (q := 0) F dX6_soonest_24 rfl rfl ?_
      refine J_goRie (wc := (wM cI cZ g sc ar hs)) (av := [.ref (g 0)]) (rest := [.ref (g 0)]) (v := zX6_bendNow sc ar hs) (pc' := 28) F E (fun _ h => h) (fun H locs hI hp => jrun_V (As := []) 0 F E (c_X6_bendNow l D cI cZ z g sc ar hs ) kw_754 kw_756 kp_13 rfl kw_757 kw_7 oX6_bendNow ⟨⟨rfl, rfl⟩, ⟨Nat.le_of_ble_eq_true rfl, Nat.le_of_ble_eq_true rfl⟩, Nat.zero_le _, Nat.zero_le _⟩ rfl rfl (Nat.le_of_ble_eq_true rfl) dX6_soonest_25 rfl rfl (jI_P E hI) hp) rfl ?_
      refine J_vali (y := nI be) hbn ?_
      refine J_goWv (wf := (fM cI cZ g)) (w0 := (wM cI cZ g sc ar hs)) (av := [.ref (g 0), .int (nI be)]) (rest := []) (pc' := 31) (fM cI cZ g) F E hA (fun _ h => h) id (jsubA_rf _) (fun _ => jOver_rf _ _ _) (fun H locs hI hp => jrun_V (As := [.int (nI be)]) 0 F E (c_X6_layFar l D cI cZ z g sc ar hs kd li s be hM hbe H.size) kw_790 kw_792 kp_18 rfl kw_793 kw_7 oX6_layFar ⟨⟨rfl, rfl⟩, ⟨Nat.le_of_ble_eq_true rfl, Nat.le_of_ble_eq_true rfl⟩, Nat.zero_le _, Nat.zero_le _⟩ rfl rfl (Nat.le_of_ble_eq_true rfl) dX6_soonest_28 rfl rfl (jI_P E hI) hp) rfl (fun ur28 hr28 => ?_)
      obtain ⟨ar3, rfl, hfr3, hS3⟩ := hr28
      refine J_ws (ws' := (wM cI cZ g sc ar3 hs)) rfl ?_
      refine J_iload_n (pc' := 32) (q := 1) F dX6_soonest_31 rfl rfl ?_
      refine J_if_ne (tgt := 44) (pc' := 35) F dX6_soonest_32 (by decide) rfl (fun kq32 => ?_) (fun kq32 => ?_)
      · refine J_aload_n (pc' := 45) (q := 0) F dX6_soonest_44 rfl rfl ?_
        refine M_get_0_12 (pc' := 48) F dX6_soonest_45 kw_591 rfl ?_
        refine J_iconst (pc' := 49) (v := 0) F dX6_soonest_48 (by decide) rfl ?_
        refine M_ld_3 (f := ar3 3) (q := 0) (pc' := 50) F dX6_soonest_49 rfl rfl (by unfold vp_in; decide) rfl ?_
        exact J_iretW (sc, ar3, hs) F hR dX6_soonest_50 rfl rfl ⟨ar3, ar3 2, ar3 3, rfl, hfr3, fun _ _ => hS3, by rw [if_neg kq7, if_neg kq17, if_neg kq32]⟩
      · refine J_aload_n (pc' := 36) (q := 0) F dX6_soonest_35 rfl rfl ?_
        refine M_get_0_11 (pc' := 39) F dX6_soonest_36 kw_590 rfl ?_
        refine J_iconst (pc' := 40) (v := 0) F dX6_soonest_39 (by decide) rfl ?_
        refine M_ld_2 (f := ar3 2) (q := 0) (pc' := 41) F dX6_soonest_40 rfl rfl (by unfold vp_in; decide) rfl ?_
        refine J_goto (tgt := 50) F dX6_soonest_41 (by decide) ?_
        exact J_iretW (sc, ar3, hs) F hR dX6_soonest_50 rfl rfl ⟨ar3, ar3 2, ar3 3, rfl, hfr3, fun _ _ => hS3, by rw [if_neg kq7, if_neg kq17, if_pos kq32]⟩
    · refine J_bipush (pc' := 22) (v := (-103)) F dX6_soonest_20 (by decide) rfl ?_
      exact J_iretW (sc, ar, hs) F hR dX6_soonest_22 rfl rfl ⟨ar, fun _ => 0, fun _ => 0, rfl, fun _ _ _ _ _ => rfl, (fun a9 b9 => absurd kq17 b9), by rw [if_neg kq7, if_pos kq17]⟩
  · refine J_bipush (pc' := 12) (v := (-102)) F dX6_soonest_10 (by decide) rfl ?_
    exact J_iretW (sc, ar, hs) F hR dX6_soonest_12 rfl rfl ⟨ar, fun _ => 0, fun _ => 0, rfl, fun _ _ _ _ _ => rfl, (fun a9 b9 => absurd kq7 a9), by rw [if_pos kq7]⟩
abbrev rm_X6_most : Room := { frames := 5, cells := 0, slots := 0, locals := 113 }
set_option maxHeartbeats 4000000 in
set_option maxRecDepth 100000 in
theorem c_X6_most (l : Launch) (D : va_G) (cI cZ : ClassId) (z : Nat → Nat) (g : Nat → Nat) (sc : Nat → Int32) (ar : Nat → Nat → Int32) (hs : Int64) (kd : Nat → Nat) (li s be : Nat) (hM : MH sc ar kd li s) (hbe : be < 2 ^ 31) (hbn : zX6_bendNow sc ar hs = nI be) : cWi l yX6_most ww_X6_most rm_X6_most D cI cZ z (fM cI cZ g) (wM cI cZ g sc ar hs) [.ref (g 0)] (fun r u => ∃ ar' x, u = (sc, ar', hs) ∧ frM ar ar' ∧ (¬ sc 2 = 0 → ∃ m f, Sol (goN (hk kd) li be) (wtN kd) s m f ∧ IsMost m s x) ∧ r = if sc 2 = 0 then -103 else x) := by
  refine cWi.of (cc := cX6_most) (maxL := 1) (rt := .int) (by decide) rfl (Nat.le_of_ble_eq_true rfl) (fun X F E hA hR => ?_)
  refine J_lv [0] (lv' := [(0, .ref (g 0))]) rfl ?_
  refine J_aload_n (pc' := 1) (q := 0) F dX6_most_0 rfl rfl ?_
  refine M_get_0_2 (v := sc 2) (pc' := 4) F dX6_most_1 kw_581 rfl rfl ?_
  refine J_if_ne (tgt := 10) (pc' := 7) F dX6_most_4 (by decide) rfl (fun kq4 => ?_) (fun kq4 => ?_)
  · refine J_aload_n (pc' := 11) (q := 0) F dX6_most_10 rfl rfl ?_
    refine J_aload_n (pc' := 12) (q := 0) F dX6_most_11 rfl rfl ?_
    refine J_goRie (wc := (wM cI cZ g sc ar hs)) (av := [.ref (g 0)]) (rest := [.ref (g 0)]) (v := zX6_bendNow sc ar hs) (pc' := 15) F E (fun _ h => h) (fun H locs hI hp => jrun_V (As := []) 0 F E (c_X6_bendNow l D cI cZ z g sc ar hs ) kw_754 kw_756 kp_13 rfl kw_757 kw_7 oX6_bendNow ⟨⟨rfl, rfl⟩, ⟨Nat.le_of_ble_eq_true rfl, Nat.le_of_ble_eq_true rfl⟩, Nat.zero_le _, Nat.zero_le _⟩ rfl rfl (Nat.le_of_ble_eq_true rfl) dX6_most_12 rfl rfl (jI_P E hI) hp) rfl ?_
    refine J_vali (y := nI be) hbn ?_
    refine J_goWv (wf := (fM cI cZ g)) (w0 := (wM cI cZ g sc ar hs)) (av := [.ref (g 0), .int (nI be)]) (rest := []) (pc' := 18) (fM cI cZ g) F E hA (fun _ h => h) id (jsubA_rf _) (fun _ => jOver_rf _ _ _) (fun H locs hI hp => jrun_V (As := [.int (nI be)]) 0 F E (c_X6_layFar l D cI cZ z g sc ar hs kd li s be hM hbe H.size) kw_790 kw_792 kp_18 rfl kw_793 kw_7 oX6_layFar ⟨⟨rfl, rfl⟩, ⟨Nat.le_of_ble_eq_true rfl, Nat.le_of_ble_eq_true rfl⟩, Nat.zero_le _, Nat.zero_le _⟩ rfl rfl (Nat.le_of_ble_eq_true rfl) dX6_most_15 rfl rfl (jI_P E hI) hp) rfl (fun ur15 hr15 => ?_)
    obtain ⟨ar3, rfl, hfr3, hS3⟩ := hr15
    refine J_ws (ws' := (wM cI cZ g sc ar3 hs)) rfl ?_
    refine J_aload_n (pc' := 19) (q := 0) F dX6_most_18 rfl rfl ?_
    refine J_goRie (wc := (wM cI cZ g sc ar3 hs)) (av := [.ref (g 0)]) (rest := []) (v := zX6_mostOf sc ar3 hs) (pc' := 22) F E (fun _ h => h) (fun H locs hI hp => jrun_V (As := []) 0 F E (c_X6_mostOf l D cI cZ z g sc ar3 hs ) kw_802 kw_804 kp_20 rfl kw_805 kw_7 oX6_mostOf ⟨⟨rfl, rfl⟩, ⟨Nat.le_of_ble_eq_true rfl, Nat.le_of_ble_eq_true rfl⟩, Nat.zero_le _, Nat.zero_le _⟩ rfl rfl (Nat.le_of_ble_eq_true rfl) dX6_most_19 rfl rfl (jI_P E hI) hp) rfl ?_
    exact J_iretW (sc, ar3, hs) F hR dX6_most_22 rfl rfl ⟨ar3, _, rfl, hfr3, fun _ => ⟨ar3 2, ar3 3, hS3, most6 hM.1 hM.2.1 hS3.at_s⟩, by rw [if_neg kq4]⟩
  · refine J_bipush (pc' := 9) (v := (-103)) F dX6_most_7 (by decide) rfl ?_
    exact J_iretW (sc, ar, hs) F hR dX6_most_9 rfl rfl ⟨ar, 0, rfl, fun _ _ _ _ _ => rfl, fun b9 => absurd kq4 b9, by rw [if_pos kq4]⟩
abbrev rm_X6_holds : Room := { frames := 5, cells := 0, slots := 0, locals := 113 }
set_option maxHeartbeats 4000000 in
set_option maxRecDepth 100000 in
theorem c_X6_holds (l : Launch) (D : va_G) (cI cZ : ClassId) (z : Nat → Nat) (g : Nat → Nat) (sc : Nat → Int32) (ar : Nat → Nat → Int32) (hs : Int64) (kd : Nat → Nat) (li s be : Nat) (hM : MH sc ar kd li s) (hbe : be < 2 ^ 31) (hbn : zX6_bendNow sc ar hs = nI be) : cWi l yX6_holds ww_X6_holds rm_X6_holds D cI cZ z (fM cI cZ g) (wM cI cZ g sc ar hs) [.ref (g 0)] (fun r u => ∃ ar' x, u = (sc, ar', hs) ∧ frM ar ar' ∧ (¬ sc 2 = 0 → ∃ m f, Sol (goN (hk kd) li be) (wtN kd) s m f ∧ x = nI (ctD m)) ∧ r = if sc 2 = 0 then -103 else x) := by
  refine cWi.of (cc := cX6_holds) (maxL := 1) (rt := .int) (by decide) rfl (Nat.le_of_ble_eq_true rfl) (fun X F E hA hR => ?_)
  refine J_lv [0] (lv' := [(0, .ref (g 0))]) rfl ?_
  refine J_aload_n (pc' := 1) (q := 0) F dX6_holds_0 rfl rfl ?_
  refine M_get_0_2 (v := sc 2) (pc' := 4) F dX6_holds_1 kw_581 rfl rfl ?_
  refine J_if_ne (tgt := 10) (pc' := 7) F dX6_holds_4 (by decide) rfl (fun kq4 => ?_) (fun kq4 => ?_)
  · refine J_aload_n (pc' := 11) (q := 0) F dX6_holds_10 rfl rfl ?_
    refine J_aload_n (pc' := 12) (q := 0) F dX6_holds_11 rfl rfl ?_
    refine J_goRie (wc := (wM cI cZ g sc ar hs)) (av := [.ref (g 0)]) (rest := [.ref (g 0)]) (v := zX6_bendNow sc ar hs) (pc' := 15) F E (fun _ h => h) (fun H locs hI hp => jrun_V (As := []) 0 F E (c_X6_bendNow l D cI cZ z g sc ar hs ) kw_754 kw_756 kp_13 rfl kw_757 kw_7 oX6_bendNow ⟨⟨rfl, rfl⟩, ⟨Nat.le_of_ble_eq_true rfl, Nat.le_of_ble_eq_true rfl⟩, Nat.zero_le _, Nat.zero_le _⟩ rfl rfl (Nat.le_of_ble_eq_true rfl) dX6_holds_12 rfl rfl (jI_P E hI) hp) rfl ?_
    refine J_vali (y := nI be) hbn ?_
    refine J_goWv (wf := (fM cI cZ g)) (w0 := (wM cI cZ g sc ar hs)) (av := [.ref (g 0), .int (nI be)]) (rest := []) (pc' := 18) (fM cI cZ g) F E hA (fun _ h => h) id (jsubA_rf _) (fun _ => jOver_rf _ _ _) (fun H locs hI hp => jrun_V (As := [.int (nI be)]) 0 F E (c_X6_layFar l D cI cZ z g sc ar hs kd li s be hM hbe H.size) kw_790 kw_792 kp_18 rfl kw_793 kw_7 oX6_layFar ⟨⟨rfl, rfl⟩, ⟨Nat.le_of_ble_eq_true rfl, Nat.le_of_ble_eq_true rfl⟩, Nat.zero_le _, Nat.zero_le _⟩ rfl rfl (Nat.le_of_ble_eq_true rfl) dX6_holds_15 rfl rfl (jI_P E hI) hp) rfl (fun ur15 hr15 => ?_)
    obtain ⟨ar3, rfl, hfr3, hS3⟩ := hr15
    refine J_ws (ws' := (wM cI cZ g sc ar3 hs)) rfl ?_
    refine J_aload_n (pc' := 19) (q := 0) F dX6_holds_18 rfl rfl ?_
    refine J_goRie (wc := (wM cI cZ g sc ar3 hs)) (av := [.ref (g 0)]) (rest := []) (v := zX6_manyOf sc ar3 hs) (pc' := 22) F E (fun _ h => h) (fun H locs hI hp => jrun_V (As := []) 0 F E (c_X6_manyOf l D cI cZ z g sc ar3 hs ) kw_810 kw_812 kp_21 rfl kw_813 kw_7 oX6_manyOf ⟨⟨rfl, rfl⟩, ⟨Nat.le_of_ble_eq_true rfl, Nat.le_of_ble_eq_true rfl⟩, Nat.zero_le _, Nat.zero_le _⟩ rfl rfl (Nat.le_of_ble_eq_true rfl) dX6_holds_19 rfl rfl (jI_P E hI) hp) rfl ?_
    exact J_iretW (sc, ar3, hs) F hR dX6_holds_22 rfl rfl ⟨ar3, _, rfl, hfr3, fun _ => ⟨ar3 2, ar3 3, hS3, many6 _ _ _⟩, by rw [if_neg kq4]⟩
  · refine J_bipush (pc' := 9) (v := (-103)) F dX6_holds_7 (by decide) rfl ?_
    exact J_iretW (sc, ar, hs) F hR dX6_holds_9 rfl rfl ⟨ar, 0, rfl, fun _ _ _ _ _ => rfl, fun b9 => absurd kq4 b9, by rw [if_pos kq4]⟩
theorem MH_of {sc : Nat → Int32} {ar : Nat → Nat → Int32} {kd : Nat → Nat} {li s : Nat} {x : Int32} (hM : MH sc ar kd li s) : MH (upd sc 15 x) ar kd li s := ⟨by rw [pk_un (by decide)]; exact hM.1, hM.2.1, by rw [pk_un (by decide)]; exact hM.2.2.1, hM.2.2.2⟩
abbrev rm_X6_leastBend : Room := { frames := 5, cells := 0, slots := 0, locals := 113 }
set_option maxHeartbeats 4000000 in
set_option maxRecDepth 100000 in
theorem c_X6_leastBend (l : Launch) (D : va_G) (cI cZ : ClassId) (z : Nat → Nat) (g : Nat → Nat) (sc : Nat → Int32) (ar : Nat → Nat → Int32) (hs : Int64) (kd : Nat → Nat) (li s : Nat) (hM : MH sc ar kd li s) : cWi l yX6_leastBend ww_X6_leastBend rm_X6_leastBend D cI cZ z (fM cI cZ g) (wM cI cZ g sc ar hs) [.ref (g 0)] (fun r u => ∃ ar' x, u = (if sc 2 = 0 then sc else if sc 15 = 12 then sc else (upd sc 15 (sc 15 + 1)), ar', hs) ∧ frM ar ar' ∧ (¬ sc 2 = 0 → ¬ sc 15 = 12 → Lst (hk kd) li s x) ∧ r = if sc 2 = 0 then -103 else if sc 15 = 12 then -103 else x) := by
  refine cWi.of (cc := cX6_leastBend) (maxL := 2) (rt := .int) (by decide) rfl (Nat.le_of_ble_eq_true rfl) (fun X F E hA hR => ?_)
  refine J_lv [0] (lv' := [(0, .ref (g 0))]) rfl ?_
  refine J_aload_n (pc' := 1) (q := 0) F dX6_leastBend_0 rfl rfl ?_
  refine M_get_0_2 (v := sc 2) (pc' := 4) F dX6_leastBend_1 kw_581 rfl rfl ?_
  refine J_if_eq (tgt := 16) (pc' := 7) F dX6_leastBend_4 (by decide) rfl (fun kq4 => ?_) (fun kq4 => ?_)
  · refine J_bipush (pc' := 18) (v := (-103)) F dX6_leastBend_16 (by decide) rfl ?_
    exact J_iretW (sc, ar, hs) F hR dX6_leastBend_18 rfl rfl ⟨ar, 0, by rw [if_pos kq4], fun _ _ _ _ _ => rfl, fun b9 => absurd kq4 b9, by rw [if_pos kq4]⟩
  · refine J_aload_n (pc' := 8) (q := 0) F dX6_leastBend_7 rfl rfl ?_
    refine M_get_0_15 (v := sc 15) (pc' := 11) F dX6_leastBend_8 kw_594 rfl rfl ?_
    refine J_bipush (pc' := 13) (v := 12) F dX6_leastBend_11 (by decide) rfl ?_
    refine J_icmp_ne (tgt := 19) (pc' := 16) F dX6_leastBend_13 (by decide) rfl (fun kq13 => ?_) (fun kq13 => ?_)
    · refine J_aload_n (pc' := 20) (q := 0) F dX6_leastBend_19 rfl rfl ?_
      refine J_dup (pc' := 21) F dX6_leastBend_20 rfl rfl ?_
      refine M_get_0_15 (v := sc 15) (pc' := 24) F dX6_leastBend_21 kw_594 rfl rfl ?_
      refine J_iconst (pc' := 25) (v := 1) F dX6_leastBend_24 (by decide) rfl ?_
      refine J_iadd (pc' := 26) F dX6_leastBend_25 rfl ?_
      refine M_put_0_15 (pc' := 29) F dX6_leastBend_26 kw_594 rfl ?_
      refine J_iconst (pc' := 30) (v := 0) F dX6_leastBend_29 (by decide) rfl ?_
      refine J_istore_n (pc' := 31) [1, 0] [(0, .ref (g 0)), (1, .int 0)] F dX6_leastBend_30 rfl (jL_of E (show 1 < 2 by decide)) rfl rfl ?_
      have L31 : ∀ (N31 : Nat) (k : Nat) (ar2 : Nat → Nat → Int32), k ≤ 13 → frM ar ar2 → (∀ j, j < k → ¬ RB (hk kd) li s j 0) → 13 - k < N31 → J X true 0 0 31 [(0, .ref (g 0)), (1, .int (nI k))] [] (wM cI cZ g (upd sc 15 (sc 15 + 1)) ar2 hs) := by
        intro N31
        induction N31 with
        | zero => intro _ _ _ _ _ hm; exact absurd hm (Nat.not_lt_zero _)
        | succ N31 ih31 =>
          intro k ar2 hk13 hfr2 hno hm31
          refine J_iload_n (pc' := 32) (q := 1) F dX6_leastBend_31 rfl rfl ?_
          refine J_bipush (pc' := 34) (v := 13) F dX6_leastBend_32 (by decide) rfl ?_
          refine J_icmp_ge (tgt := 60) (pc' := 37) F dX6_leastBend_34 (by decide) rfl (fun kq34 => ?_) (fun kq34 => ?_)
          · refine J_iconst (pc' := 61) (v := (-1)) F dX6_leastBend_60 (by decide) rfl ?_
            have e13 : k = 13 := by have := (nI_leI (a := 13) (b := k) (by decide) (by omega)).mp kq34; omega
            subst e13
            exact J_iretW ((upd sc 15 (sc 15 + 1)), ar2, hs) F hR dX6_leastBend_61 rfl rfl ⟨ar2, _, by rw [if_neg kq4, if_neg kq13], hfr2, fun _ _ => Or.inr ⟨rfl, hno⟩, by rw [if_neg kq4, if_neg kq13]⟩
          · have hkk : k < 13 := jin_lt (by decide) hk13 kq34
            have hM2 : MH (upd sc 15 (sc 15 + 1)) ar2 kd li s := hfr2.MH (MH_of hM)
            refine J_aload_n (pc' := 38) (q := 0) F dX6_leastBend_37 rfl rfl ?_
            refine J_iload_n (pc' := 39) (q := 1) F dX6_leastBend_38 rfl rfl ?_
            refine J_goWv (wf := (fM cI cZ g)) (w0 := (wM cI cZ g (upd sc 15 (sc 15 + 1)) ar2 hs)) (av := [.ref (g 0), .int (nI k)]) (rest := []) (pc' := 42) (fM cI cZ g) F E hA (fun _ h => h) id (jsubA_rf _) (fun _ => jOver_rf _ _ _) (fun H locs hI hp => jrun_V (As := [.int (nI k)]) 0 F E (c_X6_layFar l D cI cZ z g (upd sc 15 (sc 15 + 1)) ar2 hs kd li s k hM2 (by omega) H.size) kw_790 kw_792 kp_18 rfl kw_793 kw_7 oX6_layFar ⟨⟨rfl, rfl⟩, ⟨Nat.le_of_ble_eq_true rfl, Nat.le_of_ble_eq_true rfl⟩, Nat.zero_le _, Nat.zero_le _⟩ rfl rfl (Nat.le_of_ble_eq_true rfl) dX6_leastBend_39 rfl rfl (jI_P E hI) hp) rfl (fun ur39 hr39 => ?_)
            obtain ⟨ar3, rfl, hfr3, hS3⟩ := hr39
            refine J_ws (ws' := (wM cI cZ g (upd sc 15 (sc 15 + 1)) ar3 hs)) rfl ?_
            refine J_aload_n (pc' := 43) (q := 0) F dX6_leastBend_42 rfl rfl ?_
            refine M_get_0_11 (pc' := 46) F dX6_leastBend_43 kw_590 rfl ?_
            refine J_iconst (pc' := 47) (v := 0) F dX6_leastBend_46 (by decide) rfl ?_
            refine M_ld_2 (f := ar3 2) (q := 0) (pc' := 48) F dX6_leastBend_47 rfl rfl (by unfold vp_in; decide) rfl ?_
            refine J_iconst (pc' := 49) (v := (-1)) F dX6_leastBend_48 (by decide) rfl ?_
            refine J_icmp_eq (tgt := 54) (pc' := 52) F dX6_leastBend_49 (by decide) rfl (fun kq49 => ?_) (fun kq49 => ?_)
            · refine J_iinc (v := nI (k + 1)) (q := 1) (pc' := 57) [1, 0] [(0, .ref (g 0)), (1, .int (nI (k + 1)))] F dX6_leastBend_54 rfl (nI_inc k) (jL_of E (show 1 < 2 by decide)) rfl rfl ?_
              refine J_goto (tgt := 31) F dX6_leastBend_57 (by decide) ?_
              exact ih31 (k + 1) ar3 (by omega) (fun j a b c d => (hfr3 j a b c d).trans (hfr2 j a b c d)) (fun j hj => by by_cases q : j = k; (subst q; exact fun h => absurd kq49 ((hS3.RB (gr_of hM.2.2.2.2 li j hM.2.1) (by decide)).mpr h)); exact hno j (by omega)) (by omega)
            · refine J_iload_n (pc' := 53) (q := 1) F dX6_leastBend_52 rfl rfl ?_
              exact J_iretW ((upd sc 15 (sc 15 + 1)), ar3, hs) F hR dX6_leastBend_53 rfl rfl ⟨ar3, _, by rw [if_neg kq4, if_neg kq13], fun j a b c d => (hfr3 j a b c d).trans (hfr2 j a b c d), fun _ _ => Or.inl ⟨k, hkk, rfl, (hS3.RB (gr_of hM.2.2.2.2 li k hM.2.1) (by decide)).mp kq49, hno⟩, by rw [if_neg kq4, if_neg kq13]⟩
      exact L31 _ 0 ar (Nat.zero_le _) (fun _ _ _ _ _ => rfl) (fun j hj => absurd hj (Nat.not_lt_zero _)) (Nat.lt_succ_self _)
    · refine J_bipush (pc' := 18) (v := (-103)) F dX6_leastBend_16 (by decide) rfl ?_
      exact J_iretW (sc, ar, hs) F hR dX6_leastBend_18 rfl rfl ⟨ar, 0, by rw [if_neg kq4, if_pos kq13], fun _ _ _ _ _ => rfl, fun _ b9 => absurd kq13 b9, by rw [if_neg kq4, if_pos kq13]⟩
abbrev rm_X6_fits : Room := { frames := 7, cells := 0, slots := 0, locals := 158 }
set_option maxHeartbeats 4000000 in
set_option maxRecDepth 100000 in
theorem c_X6_fits (l : Launch) (D : va_G) (cI cZ : ClassId) (z : Nat → Nat) (g : Nat → Nat) (sc : Nat → Int32) (ar : Nat → Nat → Int32) (hs : Int64) (x1 : Int32) (kd : Nat → Nat) (li s be : Nat) (hM : MH sc ar kd li s) (hbe : be < 2 ^ 31) (hbn : zX6_bendNow sc ar hs = nI be) (bs : Nat → Nat) (T : Nat) (hSH : SH (sc 16) (ar 6) bs T) : cWi l yX6_fits ww_X6_fits rm_X6_fits D cI cZ z (fM cI cZ g) (wM cI cZ g sc ar hs) [.ref (g 0), .int x1] (fun r u => ∃ ar' sc', u = (sc', ar', hs) ∧ frG sc sc' ∧ frR ar ar' ∧ r = if zX6_in x1.toInt64 0 2 = 0 then -102 else if sc 2 = 0 then -103 else if x1 = 0 then nI (fit3 (goN (hk kd) li be) bs T s).1 else if x1 = 1 then nI (fit3 (goN (hk kd) li be) bs T s).2.1 else (fit3 (goN (hk kd) li be) bs T s).2.2) := by
  refine cWi.of (cc := cX6_fits) (maxL := 2) (rt := .int) (by decide) rfl (Nat.le_of_ble_eq_true rfl) (fun X F E hA hR => ?_)
  refine J_lv [0, 1] (lv' := [(0, .ref (g 0)), (1, .int x1)]) rfl ?_
  refine J_iload_n (pc' := 1) (q := 1) F dX6_fits_0 rfl rfl ?_
  refine J_i2l (pc' := 2) (v := (x1 : Int32).toInt64) F dX6_fits_1 rfl rfl ?_
  refine J_lconst (pc' := 3) (v := 0) F dX6_fits_2 (by decide) rfl ?_
  refine J_ldc2 (pc' := 6) (v := 2) F dX6_fits_3 kw_719 rfl ?_
  refine J_goRie (wc := []) (av := [.long ((x1 : Int32).toInt64), .long 0, .long 2]) (rest := []) (v := zX6_in ((x1 : Int32).toInt64) 0 2) (pc' := 9) F E (fun _ _ => jP_nil _ _) (fun H locs hI hp => jrun_S F E (c_X6_in l D cI cZ z ((x1 : Int32).toInt64) 0 2) kw_682 kw_683 rfl kw_684 kw_7 oX6_in ⟨⟨rfl, rfl⟩, ⟨Nat.le_of_ble_eq_true rfl, Nat.le_of_ble_eq_true rfl⟩, Nat.zero_le _, Nat.zero_le _⟩ rfl (Nat.le_of_ble_eq_true rfl) dX6_fits_6 hp) rfl ?_
  refine J_if_ne (tgt := 15) (pc' := 12) F dX6_fits_9 (by decide) rfl (fun kq9 => ?_) (fun kq9 => ?_)
  · refine J_aload_n (pc' := 16) (q := 0) F dX6_fits_15 rfl rfl ?_
    refine M_get_0_2 (v := sc 2) (pc' := 19) F dX6_fits_16 kw_581 rfl rfl ?_
    refine J_if_ne (tgt := 25) (pc' := 22) F dX6_fits_19 (by decide) rfl (fun kq19 => ?_) (fun kq19 => ?_)
    · refine J_aload_n (pc' := 26) (q := 0) F dX6_fits_25 rfl rfl ?_
      refine J_goWv (wf := (fM cI cZ g)) (w0 := (wM cI cZ g sc ar hs)) (av := [.ref (g 0)]) (rest := []) (pc' := 29) (fM cI cZ g) F E hA (fun _ h => h) id (jsubA_rf _) (fun _ => jOver_rf _ _ _) (fun H locs hI hp => jrun_V (As := []) 0 F E (c_X6_layFits l D cI cZ z g sc ar hs kd li s be bs T hM hbe hbn hSH H.size) kw_831 kw_833 kp_22 rfl kw_834 kw_7 oX6_layFits ⟨⟨rfl, rfl⟩, ⟨Nat.le_of_ble_eq_true rfl, Nat.le_of_ble_eq_true rfl⟩, Nat.zero_le _, Nat.zero_le _⟩ rfl rfl (Nat.le_of_ble_eq_true rfl) dX6_fits_26 rfl rfl (jI_P E hI) hp) rfl (fun ur26 hr26 => ?_)
      obtain ⟨ar3, sc3, rfl, hfg, hfr3, h20, h21, h22⟩ := hr26
      refine J_ws (ws' := (wM cI cZ g sc3 ar3 hs)) rfl ?_
      refine J_iload_n (pc' := 30) (q := 1) F dX6_fits_29 rfl rfl ?_
      refine J_if_ne (tgt := 40) (pc' := 33) F dX6_fits_30 (by decide) rfl (fun kq30 => ?_) (fun kq30 => ?_)
      · refine J_iload_n (pc' := 41) (q := 1) F dX6_fits_40 rfl rfl ?_
        refine J_iconst (pc' := 42) (v := 1) F dX6_fits_41 (by decide) rfl ?_
        refine J_icmp_ne (tgt := 52) (pc' := 45) F dX6_fits_42 (by decide) rfl (fun kq42 => ?_) (fun kq42 => ?_)
        · refine J_aload_n (pc' := 53) (q := 0) F dX6_fits_52 rfl rfl ?_
          refine M_get_0_22 (v := sc3 22) (pc' := 56) F dX6_fits_53 kw_601 rfl rfl ?_
          exact J_iretW (sc3, ar3, hs) F hR dX6_fits_56 rfl rfl ⟨ar3, sc3, rfl, hfg, hfr3, by rw [if_neg kq9, if_neg kq19, if_neg kq30, if_neg kq42]; first | exact h20 | exact h21 | exact h22⟩
        · refine J_aload_n (pc' := 46) (q := 0) F dX6_fits_45 rfl rfl ?_
          refine M_get_0_21 (v := sc3 21) (pc' := 49) F dX6_fits_46 kw_600 rfl rfl ?_
          refine J_goto (tgt := 56) F dX6_fits_49 (by decide) ?_
          exact J_iretW (sc3, ar3, hs) F hR dX6_fits_56 rfl rfl ⟨ar3, sc3, rfl, hfg, hfr3, by rw [if_neg kq9, if_neg kq19, if_neg kq30, if_pos kq42]; first | exact h20 | exact h21 | exact h22⟩
      · refine J_aload_n (pc' := 34) (q := 0) F dX6_fits_33 rfl rfl ?_
        refine M_get_0_20 (v := sc3 20) (pc' := 37) F dX6_fits_34 kw_599 rfl rfl ?_
        refine J_goto (tgt := 56) F dX6_fits_37 (by decide) ?_
        exact J_iretW (sc3, ar3, hs) F hR dX6_fits_56 rfl rfl ⟨ar3, sc3, rfl, hfg, hfr3, by rw [if_neg kq9, if_neg kq19, if_pos kq30]; first | exact h20 | exact h21 | exact h22⟩
    · refine J_bipush (pc' := 24) (v := (-103)) F dX6_fits_22 (by decide) rfl ?_
      exact J_iretW (sc, ar, hs) F hR dX6_fits_24 rfl rfl ⟨ar, sc, rfl, fun _ _ => rfl, fun _ _ _ => rfl, by rw [if_neg kq9, if_pos kq19]⟩
  · refine J_bipush (pc' := 14) (v := (-102)) F dX6_fits_12 (by decide) rfl ?_
    exact J_iretW (sc, ar, hs) F hR dX6_fits_14 rfl rfl ⟨ar, sc, rfl, fun _ _ => rfl, fun _ _ _ => rfl, by rw [if_pos kq9]⟩
