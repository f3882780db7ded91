/-! the class's public searches -/
/-- what the Outlook knows is so, of the lighter that is read now -/
def KR (sc : Nat → Int32) : Prop := ∃ R j : Nat, R < 2 ^ 31 ∧ j ≤ R ∧ sc 3 = nI R ∧ sc 20 = nI j
def KC (sc : Nat → Int32) (ar : Nat → Nat → Int32) (kd : Nat → Nat) (li : Nat) : Prop := KR sc ∧ ∀ s be, s < 4096 → be < 2 ^ 31 → sc 3 = sc 20 → nI s = sc 21 → nI be = sc 23 → OutOK (goN (hk kd) li be) (wtN kd) s sc ar
def frN (sc : Nat → Int32) (ar : Nat → Nat → Int32) (sc1 : Nat → Int32) (ar1 : Nat → Nat → Int32) : Prop := (∀ j, (j < 17 ∨ 27 ≤ j) → sc1 j = sc j) ∧ ∀ k, (k < 6 ∨ 10 ≤ k) → ar1 k = ar k
theorem frN.rf (sc : Nat → Int32) (ar : Nat → Nat → Int32) : frN sc ar sc ar := ⟨fun _ _ => rfl, fun _ _ => rfl⟩
theorem frN.CH {sc sc1 : Nat → Int32} {ar ar1 : Nat → Nat → Int32} {kd : Nat → Nat} {li : Nat} (h : frN sc ar sc1 ar1) (hC : CH sc ar kd li) : CH sc1 ar1 kd li := by
  refine ⟨by rw [h.1 6 (by decide)]; exact hC.1, hC.2.1, ?_, ?_⟩
  · rw [h.2 1 (by decide)]; exact hC.2.2.1
  · rw [h.2 2 (by decide), h.2 3 (by decide)]; exact hC.2.2.2
theorem frN.bend {sc sc1 : Nat → Int32} {ar ar1 : Nat → Nat → Int32} (h : frN sc ar sc1 ar1) : zX5_bendNow sc1 ar1 = zX5_bendNow sc ar := by
  unfold zX5_bendNow
  rw [h.1 8 (by decide), h.1 5 (by decide)]
theorem KC.of {sc : Nat → Int32} {ar : Nat → Nat → Int32} {kd : Nat → Nat} {li s be : Nat} (hR : KR sc) (hss : s < 4096) (hbe : be < 2 ^ 31) (h1 : sc 21 = nI s) (h3 : sc 23 = nI be) (hO : OutOK (goN (hk kd) li be) (wtN kd) s sc ar) : KC sc ar kd li := by
  refine ⟨hR, ?_⟩
  intro s' be' hs' hbe' _ e1 e3
  rw [h1] at e1
  rw [h3] at e3
  have a := (nI_eq (by omega) (by omega)).mp e1
  have b := (nI_eq hbe' hbe).mp e3
  subst a b
  exact hO
theorem KR.lk {sc sc1 : Nat → Int32} (h : KR sc) (h3 : sc1 3 = sc 3) (h20 : sc1 20 = sc 3) : KR sc1 := by
  obtain ⟨R, j, r1, r2, r3, r4⟩ := h
  exact ⟨R, R, r1, Nat.le_refl _, h3.trans r3, h20.trans r3⟩
theorem KC.fit {sc sc1 : Nat → Int32} {ar : Nat → Nat → Int32} {kd : Nat → Nat} {li : Nat} (h : KC sc ar kd li) (hf : frF sc sc1) : KC sc1 ar kd li := by
  obtain ⟨⟨R, j, r1, r2, r3, r4⟩, h⟩ := h
  refine ⟨⟨R, j, r1, r2, by rw [hf 3 (by decide)]; exact r3, by rw [hf 20 (by decide)]; exact r4⟩, ?_⟩
  intro s be hs hbe e0 e1 e3
  rw [hf 3 (by decide), hf 20 (by decide)] at e0
  rw [hf 21 (by decide)] at e1
  rw [hf 23 (by decide)] at e3
  have hO := h s be hs hbe e0 e1 e3
  exact ⟨hO.1, by rw [hf 18 (by decide)]; exact hO.2.1, by rw [hf 19 (by decide)]; exact hO.2.2⟩
theorem jls {x : Int32} (h0 : ¬ x = 0) (h1 : ¬ x = 1) : Op.lookupswitch.offset (#[((0 : Int), (25 : Int)), (1, 33)] : Array (Int × Int)).toList 41 x.toInt = 41 := by
  have a : ¬ x.toInt = 0 := fun q => h0 (Int32.toInt_inj.mp q)
  have b : ¬ x.toInt = 1 := fun q => h1 (Int32.toInt_inj.mp q)
  have a' : ¬ (0 : Int) = x.toInt := fun q => a q.symm
  have b' : ¬ (1 : Int) = x.toInt := fun q => b q.symm
  simp [Op.lookupswitch.offset, a, b, a', b']
def frC (u : uC) (sc : Nat → Int32) (ar : Nat → Nat → Int32) : Prop := frN sc ar u.1 u.2
abbrev rm_X5_lookAhead : Room := { frames := 5, cells := 0, slots := 0, locals := 133 }
set_option maxHeartbeats 4000000 in
set_option maxRecDepth 100000 in
theorem c_X5_lookAhead (l : Launch) (D : va_G) (cI cZ : ClassId) (z : Nat → Nat) (g : Nat → Nat) (sc : Nat → Int32) (ar : Nat → Nat → Int32) (kd : Nat → Nat) (li s be : Nat) (hC : CH sc ar kd li) (hsv : sc 7 = nI s) (hss : s < 4096) (hbe : be < 2 ^ 31) (hbn : zX5_bendNow sc ar = nI be) (hKC : KC sc ar kd li) : cWv l yX5_lookAhead ww_X5_lookAhead rm_X5_lookAhead D cI cZ z (fC cI g) (wC cI g sc ar) [.ref (g 0)] (fun v => frN sc ar v.1 v.2 ∧ (∀ j, (24 ≤ j ∧ j < 27) → v.1 j = sc j) ∧ OutOK (goN (hk kd) li be) (wtN kd) s v.1 v.2 ∧ KC v.1 v.2 kd li) := by
  refine cWv.of (cc := cX5_lookAhead) (maxL := 1) (by decide) rfl (Nat.le_of_ble_eq_true rfl) (fun X F E hA hR => ?_)
  refine J_lv [0] (lv' := [(0, .ref (g 0))]) rfl ?_
  refine J_aload_n (pc' := 1) (q := 0) F dX5_lookAhead_0 rfl rfl ?_
  refine C_get_0_9 (pc' := 4) F dX5_lookAhead_1 kw_171 rfl ?_
  refine J_aload_n (pc' := 5) (q := 0) F dX5_lookAhead_4 rfl rfl ?_
  refine C_get_0_2 (pc' := 8) F dX5_lookAhead_5 kw_164 rfl ?_
  refine J_aload_n (pc' := 9) (q := 0) F dX5_lookAhead_8 rfl rfl ?_
  refine C_get_0_4 (pc' := 12) F dX5_lookAhead_9 kw_166 rfl ?_
  refine C_get_6_0 (v := sc 7) (pc' := 15) F dX5_lookAhead_12 kw_60 rfl rfl ?_
  refine J_vali (y := nI s) hsv ?_
  refine J_aload_n (pc' := 16) (q := 0) F dX5_lookAhead_15 rfl rfl ?_
  refine J_goRie (wc := (wC cI g sc ar)) (av := [.ref (g 0)]) (rest := [.int (nI s), .ref (g 2), .ref (g 10)]) (v := zX5_bendNow sc ar) (pc' := 19) F E (fun _ h => h) (fun H locs hI hp => jrun_V (As := []) 0 F E (c_X5_bendNow l D cI cZ z g sc ar ) kw_388 kw_390 kp_3 rfl kw_391 kw_1 oX5_bendNow ⟨⟨rfl, rfl⟩, ⟨Nat.le_of_ble_eq_true rfl, Nat.le_of_ble_eq_true rfl⟩, Nat.zero_le _, Nat.zero_le _⟩ rfl rfl (Nat.le_of_ble_eq_true rfl) dX5_lookAhead_16 rfl rfl (jI_P E hI) hp) rfl ?_
  refine J_vali (y := nI be) hbn ?_
  refine J_aload_n (pc' := 20) (q := 0) F dX5_lookAhead_19 rfl rfl ?_
  refine C_get_0_7 (v := sc 3) (pc' := 23) F dX5_lookAhead_20 kw_169 rfl rfl ?_
  refine J_goWv (wf := (fC cI g)) (w0 := (wC cI g sc ar)) (av := [.ref (g 10), .ref (g 2), .int (nI s), .int (nI be), .int (sc 3)]) (rest := []) (pc' := 26) (fC cI g) F E hA (fun _ h => h) id (jsubA_rf _) (fun _ => jOver_rf _ _ _) (fun H locs hI hp => jrun_V (As := [.ref (g 2), .int (nI s), .int (nI be), .int (sc 3)]) 10 F E (c_X4_lookFrom l D cI cZ z g sc ar kd li s be (sc 3) hC hss hbe (hKC.2 s be hss hbe) H.size) kw_445 kw_446 kw_447 rfl kw_448 kw_4 oX4_lookFrom ⟨⟨rfl, rfl⟩, ⟨Nat.le_of_ble_eq_true rfl, Nat.le_of_ble_eq_true rfl⟩, Nat.zero_le _, Nat.zero_le _⟩ rfl rfl (Nat.le_of_ble_eq_true rfl) dX5_lookAhead_23 rfl rfl (jI_P E hI) hp) rfl (fun ur23 hr23 => ?_)
  obtain ⟨sc3, ar3⟩ := ur23
  refine J_ws (ws' := (wC cI g sc3 ar3)) rfl ?_
  obtain ⟨hq1, hq2, hq3, hq4, hq5, hq6⟩ := hr23
  exact J_vretW (sc3, ar3) F hR dX5_lookAhead_26 rfl ⟨⟨fun j hj => hq1 j (by omega), hq2⟩, (fun j hj => hq1 j (Or.inr hj.1)), hq6, KC.of (KR.lk hKC.1 (hq1 3 (by omega)) hq3) hss hbe hq4 hq5 hq6⟩
abbrev rm_X5_lookBack : Room := { frames := 8, cells := 0, slots := 0, locals := 248 }
set_option maxHeartbeats 4000000 in
set_option maxRecDepth 100000 in
theorem c_X5_lookBack (l : Launch) (D : va_G) (cI cZ : ClassId) (z : Nat → Nat) (g : Nat → Nat) (sc : Nat → Int32) (ar : Nat → Nat → Int32) (kd : Nat → Nat) (li s be : Nat) (hC : CH sc ar kd li) (hsv : sc 7 = nI s) (hss : s < 4096) (hbe : be < 2 ^ 31) (hbn : zX5_bendNow sc ar = nI be) (bs : Nat → Nat) (T : Nat) (hSH : SH (sc 11) (ar 4) bs T) : cWv l yX5_lookBack ww_X5_lookBack rm_X5_lookBack D cI cZ z (fC cI g) (wC cI g sc ar) [.ref (g 0)] (fun v => v.2 = ar ∧ frF sc v.1 ∧ v.1 24 = nI (fit3 (goN (hk kd) li be) bs T s).1 ∧ v.1 25 = nI (fit3 (goN (hk kd) li be) bs T s).2.1 ∧ v.1 26 = (fit3 (goN (hk kd) li be) bs T s).2.2) := by
  refine cWv.of (cc := cX5_lookBack) (maxL := 1) (by decide) rfl (Nat.le_of_ble_eq_true rfl) (fun X F E hA hR => ?_)
  refine J_lv [0] (lv' := [(0, .ref (g 0))]) rfl ?_
  refine J_aload_n (pc' := 1) (q := 0) F dX5_lookBack_0 rfl rfl ?_
  refine C_get_0_11 (pc' := 4) F dX5_lookBack_1 kw_173 rfl ?_
  refine J_aload_n (pc' := 5) (q := 0) F dX5_lookBack_4 rfl rfl ?_
  refine C_get_0_2 (pc' := 8) F dX5_lookBack_5 kw_164 rfl ?_
  refine J_aload_n (pc' := 9) (q := 0) F dX5_lookBack_8 rfl rfl ?_
  refine C_get_0_4 (pc' := 12) F dX5_lookBack_9 kw_166 rfl ?_
  refine J_aload_n (pc' := 13) (q := 0) F dX5_lookBack_12 rfl rfl ?_
  refine J_goRie (wc := (wC cI g sc ar)) (av := [.ref (g 0)]) (rest := [.ref (g 6), .ref (g 2), .ref (g 18)]) (v := zX5_bendNow sc ar) (pc' := 16) F E (fun _ h => h) (fun H locs hI hp => jrun_V (As := []) 0 F E (c_X5_bendNow l D cI cZ z g sc ar ) kw_388 kw_390 kp_3 rfl kw_391 kw_1 oX5_bendNow ⟨⟨rfl, rfl⟩, ⟨Nat.le_of_ble_eq_true rfl, Nat.le_of_ble_eq_true rfl⟩, Nat.zero_le _, Nat.zero_le _⟩ rfl rfl (Nat.le_of_ble_eq_true rfl) dX5_lookBack_13 rfl rfl (jI_P E hI) hp) rfl ?_
  refine J_vali (y := nI be) hbn ?_
  refine J_goWv (wf := (fC cI g)) (w0 := (wC cI g sc ar)) (av := [.ref (g 18), .ref (g 2), .ref (g 6), .int (nI be)]) (rest := []) (pc' := 19) (fC cI g) F E hA (fun _ h => h) id (jsubA_rf _) (fun _ => jOver_rf _ _ _) (fun H locs hI hp => jrun_V (As := [.ref (g 2), .ref (g 6), .int (nI be)]) 18 F E (c_X1_tellOf l D cI cZ z g sc ar kd li be s bs T hC hbe hSH hsv hss H.size) kw_513 kw_514 kw_515 rfl kw_516 kw_6 oX1_tellOf ⟨⟨rfl, rfl⟩, ⟨Nat.le_of_ble_eq_true rfl, Nat.le_of_ble_eq_true rfl⟩, Nat.zero_le _, Nat.zero_le _⟩ rfl rfl (Nat.le_of_ble_eq_true rfl) dX5_lookBack_16 rfl rfl (jI_P E hI) hp) rfl (fun ur16 hr16 => ?_)
  obtain ⟨sc3, ar3⟩ := ur16
  refine J_ws (ws' := (wC cI g sc3 ar3)) rfl ?_
  obtain ⟨hq1, hq2, hq3, hq4, hq5⟩ := hr16
  exact J_vretW (sc3, ar3) F hR dX5_lookBack_19 rfl ⟨hq1, hq2, hq3, hq4, hq5⟩
abbrev rm_X5_soonest : Room := { frames := 6, cells := 0, slots := 0, locals := 153 }
set_option maxHeartbeats 4000000 in
set_option maxRecDepth 100000 in
theorem c_X5_soonest (l : Launch) (D : va_G) (cI cZ : ClassId) (z : Nat → Nat) (g : Nat → Nat) (sc : Nat → Int32) (ar : Nat → Nat → Int32) (x1 : Int32) (kd : Nat → Nat) (li s be : Nat) (hC : ¬ sc 1 = 0 → CH sc ar kd li) (hsv : sc 7 = nI s) (hss : s < 4096) (hbe : be < 2 ^ 31) (hbn : zX5_bendNow sc ar = nI be) (hKC : KC sc ar kd li) : cWi l yX5_soonest ww_X5_soonest rm_X5_soonest D cI cZ z (fC cI g) (wC cI g sc ar) [.ref (g 0), .int x1] (fun r v => ∃ m f, frN sc ar v.1 v.2 ∧ KC v.1 v.2 kd li ∧ (¬ x1 < 0 → x1 ≤ 1 → ¬ sc 1 = 0 → Sol (goN (hk kd) li be) (wtN kd) s m f) ∧ r = if x1 < 0 then -102 else if x1 ≤ 1 then (if sc 1 = 0 then -103 else if x1 = 0 then m 0 else f 0) else -102) := by
  refine cWi.of (cc := cX5_soonest) (maxL := 2) (rt := .int) (by decide) rfl (Nat.le_of_ble_eq_true rfl) (fun X F E hA hR => ?_)
  refine J_lv [0, 1] (lv' := [(0, .ref (g 0)), (1, .int x1)]) rfl ?_
  refine J_iload_n (pc' := 1) (q := 1) F dX5_soonest_0 rfl rfl ?_
  refine J_if_lt (tgt := 9) (pc' := 4) F dX5_soonest_1 (by decide) rfl (fun kq1 => ?_) (fun kq1 => ?_)
  · refine J_bipush (pc' := 11) (v := (-102)) F dX5_soonest_9 (by decide) rfl ?_
    exact J_iretW (sc, ar) F hR dX5_soonest_11 rfl rfl ⟨fun _ => 0, fun _ => 0, frN.rf sc ar, hKC, (fun a9 _ _ => absurd kq1 a9), by rw [if_pos kq1]⟩
  · refine J_iload_n (pc' := 5) (q := 1) F dX5_soonest_4 rfl rfl ?_
    refine J_iconst (pc' := 6) (v := 1) F dX5_soonest_5 (by decide) rfl ?_
    refine J_icmp_le (tgt := 12) (pc' := 9) F dX5_soonest_6 (by decide) rfl (fun kq6 => ?_) (fun kq6 => ?_)
    · refine J_aload_n (pc' := 13) (q := 0) F dX5_soonest_12 rfl rfl ?_
      refine C_get_0_3 (v := sc 1) (pc' := 16) F dX5_soonest_13 kw_165 rfl rfl ?_
      refine J_if_ne (tgt := 22) (pc' := 19) F dX5_soonest_16 (by decide) rfl (fun kq16 => ?_) (fun kq16 => ?_)
      · refine J_aload_n (pc' := 23) (q := 0) F dX5_soonest_22 rfl rfl ?_
        refine J_goWv (wf := (fC cI g)) (w0 := (wC cI g sc ar)) (av := [.ref (g 0)]) (rest := []) (pc' := 26) (fC cI g) F E hA (fun _ h => h) id (jsubA_rf _) (fun _ => jOver_rf _ _ _) (fun H locs hI hp => jrun_V (As := []) 0 F E (c_X5_lookAhead l D cI cZ z g sc ar kd li s be (hC kq16) hsv hss hbe hbn hKC H.size) kw_441 kw_443 kp_4 rfl kw_444 kw_1 oX5_lookAhead ⟨⟨rfl, rfl⟩, ⟨Nat.le_of_ble_eq_true rfl, Nat.le_of_ble_eq_true rfl⟩, Nat.zero_le _, Nat.zero_le _⟩ rfl rfl (Nat.le_of_ble_eq_true rfl) dX5_soonest_23 rfl rfl (jI_P E hI) hp) rfl (fun ur23 hr23 => ?_)
        obtain ⟨sc3, ar3⟩ := ur23
        refine J_ws (ws' := (wC cI g sc3 ar3)) rfl ?_
        obtain ⟨hfn, h27, hO, hK⟩ := hr23
        refine J_iload_n (pc' := 27) (q := 1) F dX5_soonest_26 rfl rfl ?_
        refine J_if_ne (tgt := 42) (pc' := 30) F dX5_soonest_27 (by decide) rfl (fun kq27 => ?_) (fun kq27 => ?_)
        · refine J_aload_n (pc' := 43) (q := 0) F dX5_soonest_42 rfl rfl ?_
          refine C_get_0_9 (pc' := 46) F dX5_soonest_43 kw_171 rfl ?_
          refine C_get_10_1 (pc' := 49) F dX5_soonest_46 kw_95 rfl ?_
          refine J_iconst (pc' := 50) (v := 0) F dX5_soonest_49 (by decide) rfl ?_
          refine C_ld_7 (f := ar3 7) (q := 0) (pc' := 51) F dX5_soonest_50 rfl rfl (by unfold vp_in; decide) rfl ?_
          exact J_iretW (sc3, ar3) F hR dX5_soonest_51 rfl rfl ⟨ar3 6, ar3 7, hfn, hK, fun _ _ _ => hO.1, by rw [if_neg kq1, if_pos kq6, if_neg kq16, if_neg kq27]⟩
        · refine J_aload_n (pc' := 31) (q := 0) F dX5_soonest_30 rfl rfl ?_
          refine C_get_0_9 (pc' := 34) F dX5_soonest_31 kw_171 rfl ?_
          refine C_get_10_0 (pc' := 37) F dX5_soonest_34 kw_93 rfl ?_
          refine J_iconst (pc' := 38) (v := 0) F dX5_soonest_37 (by decide) rfl ?_
          refine C_ld_6 (f := ar3 6) (q := 0) (pc' := 39) F dX5_soonest_38 rfl rfl (by unfold vp_in; decide) rfl ?_
          refine J_goto (tgt := 51) F dX5_soonest_39 (by decide) ?_
          exact J_iretW (sc3, ar3) F hR dX5_soonest_51 rfl rfl ⟨ar3 6, ar3 7, hfn, hK, fun _ _ _ => hO.1, by rw [if_neg kq1, if_pos kq6, if_neg kq16, if_pos kq27]⟩
      · refine J_bipush (pc' := 21) (v := (-103)) F dX5_soonest_19 (by decide) rfl ?_
        exact J_iretW (sc, ar) F hR dX5_soonest_21 rfl rfl ⟨fun _ => 0, fun _ => 0, frN.rf sc ar, hKC, (fun _ _ c9 => absurd kq16 c9), by rw [if_neg kq1, if_pos kq6, if_pos kq16]⟩
    · refine J_bipush (pc' := 11) (v := (-102)) F dX5_soonest_9 (by decide) rfl ?_
      exact J_iretW (sc, ar) F hR dX5_soonest_11 rfl rfl ⟨fun _ => 0, fun _ => 0, frN.rf sc ar, hKC, (fun _ b9 _ => absurd b9 kq6), by rw [if_neg kq1, if_neg kq6]⟩
abbrev rm_X5_most : Room := { frames := 6, cells := 0, slots := 0, locals := 153 }
set_option maxHeartbeats 4000000 in
set_option maxRecDepth 100000 in
theorem c_X5_most (l : Launch) (D : va_G) (cI cZ : ClassId) (z : Nat → Nat) (g : Nat → Nat) (sc : Nat → Int32) (ar : Nat → Nat → Int32) (kd : Nat → Nat) (li s be : Nat) (hC : ¬ sc 1 = 0 → CH sc ar kd li) (hsv : sc 7 = nI s) (hss : s < 4096) (hbe : be < 2 ^ 31) (hbn : zX5_bendNow sc ar = nI be) (hKC : KC sc ar kd li) : cWi l yX5_most ww_X5_most rm_X5_most D cI cZ z (fC cI g) (wC cI g sc ar) [.ref (g 0)] (fun r v => ∃ x, frN sc ar v.1 v.2 ∧ KC v.1 v.2 kd li ∧ (¬ sc 1 = 0 → ∃ m f, Sol (goN (hk kd) li be) (wtN kd) s m f ∧ IsMost m s x) ∧ r = if sc 1 = 0 then -103 else x) := by
  refine cWi.of (cc := cX5_most) (maxL := 1) (rt := .int) (by decide) rfl (Nat.le_of_ble_eq_true rfl) (fun X F E hA hR => ?_)
  refine J_lv [0] (lv' := [(0, .ref (g 0))]) rfl ?_
  refine J_aload_n (pc' := 1) (q := 0) F dX5_most_0 rfl rfl ?_
  refine C_get_0_3 (v := sc 1) (pc' := 4) F dX5_most_1 kw_165 rfl rfl ?_
  refine J_if_ne (tgt := 10) (pc' := 7) F dX5_most_4 (by decide) rfl (fun kq4 => ?_) (fun kq4 => ?_)
  · refine J_aload_n (pc' := 11) (q := 0) F dX5_most_10 rfl rfl ?_
    refine J_goWv (wf := (fC cI g)) (w0 := (wC cI g sc ar)) (av := [.ref (g 0)]) (rest := []) (pc' := 14) (fC cI g) F E hA (fun _ h => h) id (jsubA_rf _) (fun _ => jOver_rf _ _ _) (fun H locs hI hp => jrun_V (As := []) 0 F E (c_X5_lookAhead l D cI cZ z g sc ar kd li s be (hC kq4) hsv hss hbe hbn hKC H.size) kw_441 kw_443 kp_4 rfl kw_444 kw_1 oX5_lookAhead ⟨⟨rfl, rfl⟩, ⟨Nat.le_of_ble_eq_true rfl, Nat.le_of_ble_eq_true rfl⟩, Nat.zero_le _, Nat.zero_le _⟩ rfl rfl (Nat.le_of_ble_eq_true rfl) dX5_most_11 rfl rfl (jI_P E hI) hp) rfl (fun ur11 hr11 => ?_)
    obtain ⟨sc3, ar3⟩ := ur11
    refine J_ws (ws' := (wC cI g sc3 ar3)) rfl ?_
    obtain ⟨hfn, h27, hO, hK⟩ := hr11
    refine J_aload_n (pc' := 15) (q := 0) F dX5_most_14 rfl rfl ?_
    refine C_get_0_9 (pc' := 18) F dX5_most_15 kw_171 rfl ?_
    refine C_get_10_6 (v := sc3 19) (pc' := 21) F dX5_most_18 kw_102 rfl rfl ?_
    exact J_iretW (sc3, ar3) F hR dX5_most_21 rfl rfl ⟨_, hfn, hK, fun _ => ⟨ar3 6, ar3 7, hO.1, hO.2.2⟩, by rw [if_neg kq4]⟩
  · refine J_bipush (pc' := 9) (v := (-103)) F dX5_most_7 (by decide) rfl ?_
    exact J_iretW (sc, ar) F hR dX5_most_9 rfl rfl ⟨0, frN.rf sc ar, hKC, fun b9 => absurd kq4 b9, by rw [if_pos kq4]⟩
abbrev rm_X5_holds : Room := { frames := 6, cells := 0, slots := 0, locals := 153 }
set_option maxHeartbeats 4000000 in
set_option maxRecDepth 100000 in
theorem c_X5_holds (l : Launch) (D : va_G) (cI cZ : ClassId) (z : Nat → Nat) (g : Nat → Nat) (sc : Nat → Int32) (ar : Nat → Nat → Int32) (kd : Nat → Nat) (li s be : Nat) (hC : ¬ sc 1 = 0 → CH sc ar kd li) (hsv : sc 7 = nI s) (hss : s < 4096) (hbe : be < 2 ^ 31) (hbn : zX5_bendNow sc ar = nI be) (hKC : KC sc ar kd li) : cWi l yX5_holds ww_X5_holds rm_X5_holds D cI cZ z (fC cI g) (wC cI g sc ar) [.ref (g 0)] (fun r v => ∃ x, frN sc ar v.1 v.2 ∧ KC v.1 v.2 kd li ∧ (¬ sc 1 = 0 → ∃ m f, Sol (goN (hk kd) li be) (wtN kd) s m f ∧ x = nI (ctD m)) ∧ r = if sc 1 = 0 then -103 else x) := by
  refine cWi.of (cc := cX5_holds) (maxL := 1) (rt := .int) (by decide) rfl (Nat.le_of_ble_eq_true rfl) (fun X F E hA hR => ?_)
  refine J_lv [0] (lv' := [(0, .ref (g 0))]) rfl ?_
  refine J_aload_n (pc' := 1) (q := 0) F dX5_holds_0 rfl rfl ?_
  refine C_get_0_3 (v := sc 1) (pc' := 4) F dX5_holds_1 kw_165 rfl rfl ?_
  refine J_if_ne (tgt := 10) (pc' := 7) F dX5_holds_4 (by decide) rfl (fun kq4 => ?_) (fun kq4 => ?_)
  · refine J_aload_n (pc' := 11) (q := 0) F dX5_holds_10 rfl rfl ?_
    refine J_goWv (wf := (fC cI g)) (w0 := (wC cI g sc ar)) (av := [.ref (g 0)]) (rest := []) (pc' := 14) (fC cI g) F E hA (fun _ h => h) id (jsubA_rf _) (fun _ => jOver_rf _ _ _) (fun H locs hI hp => jrun_V (As := []) 0 F E (c_X5_lookAhead l D cI cZ z g sc ar kd li s be (hC kq4) hsv hss hbe hbn hKC H.size) kw_441 kw_443 kp_4 rfl kw_444 kw_1 oX5_lookAhead ⟨⟨rfl, rfl⟩, ⟨Nat.le_of_ble_eq_true rfl, Nat.le_of_ble_eq_true rfl⟩, Nat.zero_le _, Nat.zero_le _⟩ rfl rfl (Nat.le_of_ble_eq_true rfl) dX5_holds_11 rfl rfl (jI_P E hI) hp) rfl (fun ur11 hr11 => ?_)
    obtain ⟨sc3, ar3⟩ := ur11
    refine J_ws (ws' := (wC cI g sc3 ar3)) rfl ?_
    obtain ⟨hfn, h27, hO, hK⟩ := hr11
    refine J_aload_n (pc' := 15) (q := 0) F dX5_holds_14 rfl rfl ?_
    refine C_get_0_9 (pc' := 18) F dX5_holds_15 kw_171 rfl ?_
    refine C_get_10_5 (v := sc3 18) (pc' := 21) F dX5_holds_18 kw_100 rfl rfl ?_
    exact J_iretW (sc3, ar3) F hR dX5_holds_21 rfl rfl ⟨_, hfn, hK, fun _ => ⟨ar3 6, ar3 7, hO.1, hO.2.1⟩, by rw [if_neg kq4]⟩
  · refine J_bipush (pc' := 9) (v := (-103)) F dX5_holds_7 (by decide) rfl ?_
    exact J_iretW (sc, ar) F hR dX5_holds_9 rfl rfl ⟨0, frN.rf sc ar, hKC, fun b9 => absurd kq4 b9, by rw [if_pos kq4]⟩
theorem CH_of {sc : Nat → Int32} {ar : Nat → Nat → Int32} {kd : Nat → Nat} {li : Nat} {x : Int32} (hC : CH sc ar kd li) : CH (upd sc 4 x) ar kd li := ⟨by rw [pk_un (by decide)]; exact hC.1, hC.2⟩
abbrev rm_X5_leastBend : Room := { frames := 4, cells := 0, slots := 0, locals := 103 }
set_option maxHeartbeats 4000000 in
set_option maxRecDepth 100000 in
theorem c_X5_leastBend (l : Launch) (D : va_G) (cI cZ : ClassId) (z : Nat → Nat) (g : Nat → Nat) (sc : Nat → Int32) (ar : Nat → Nat → Int32) (kd : Nat → Nat) (li s : Nat) (hC : ¬ sc 1 = 0 → CH sc ar kd li) (hsv : sc 7 = nI s) (hss : s < 4096) : cWi l yX5_leastBend ww_X5_leastBend rm_X5_leastBend D cI cZ z (fC cI g) (wC cI g sc ar) [.ref (g 0)] (fun r v => ∃ ar' x, v = (if sc 1 = 0 then sc else if sc 4 < 12 then (upd sc 4 (sc 4 + 1)) else sc, ar') ∧ frE ar ar' ∧ (¬ sc 1 = 0 → sc 4 < 12 → Lst (hk kd) li s x) ∧ r = if sc 1 = 0 then -103 else if sc 4 < 12 then x else -103) := by
  refine cWi.of (cc := cX5_leastBend) (maxL := 1) (rt := .int) (by decide) rfl (Nat.le_of_ble_eq_true rfl) (fun X F E hA hR => ?_)
  refine J_lv [0] (lv' := [(0, .ref (g 0))]) rfl ?_
  refine J_aload_n (pc' := 1) (q := 0) F dX5_leastBend_0 rfl rfl ?_
  refine C_get_0_3 (v := sc 1) (pc' := 4) F dX5_leastBend_1 kw_165 rfl rfl ?_
  refine J_if_eq (tgt := 16) (pc' := 7) F dX5_leastBend_4 (by decide) rfl (fun kq4 => ?_) (fun kq4 => ?_)
  · refine J_bipush (pc' := 18) (v := (-103)) F dX5_leastBend_16 (by decide) rfl ?_
    exact J_iretW (sc, ar) F hR dX5_leastBend_18 rfl rfl ⟨ar, 0, by rw [if_pos kq4], fun _ _ _ => rfl, (fun a9 _ => absurd kq4 a9), by rw [if_pos kq4]⟩
  · refine J_aload_n (pc' := 8) (q := 0) F dX5_leastBend_7 rfl rfl ?_
    refine C_get_0_8 (v := sc 4) (pc' := 11) F dX5_leastBend_8 kw_170 rfl rfl ?_
    refine J_bipush (pc' := 13) (v := 12) F dX5_leastBend_11 (by decide) rfl ?_
    refine J_icmp_lt (tgt := 19) (pc' := 16) F dX5_leastBend_13 (by decide) rfl (fun kq13 => ?_) (fun kq13 => ?_)
    · refine J_aload_n (pc' := 20) (q := 0) F dX5_leastBend_19 rfl rfl ?_
      refine J_dup (pc' := 21) F dX5_leastBend_20 rfl rfl ?_
      refine C_get_0_8 (v := sc 4) (pc' := 24) F dX5_leastBend_21 kw_170 rfl rfl ?_
      refine J_iconst (pc' := 25) (v := 1) F dX5_leastBend_24 (by decide) rfl ?_
      refine J_iadd (pc' := 26) F dX5_leastBend_25 rfl ?_
      refine C_put_0_8 (pc' := 29) F dX5_leastBend_26 kw_170 rfl ?_
      refine J_aload_n (pc' := 30) (q := 0) F dX5_leastBend_29 rfl rfl ?_
      refine C_get_0_10 (pc' := 33) F dX5_leastBend_30 kw_172 rfl ?_
      refine J_aload_n (pc' := 34) (q := 0) F dX5_leastBend_33 rfl rfl ?_
      refine C_get_0_2 (pc' := 37) F dX5_leastBend_34 kw_164 rfl ?_
      refine J_aload_n (pc' := 38) (q := 0) F dX5_leastBend_37 rfl rfl ?_
      refine C_get_0_4 (pc' := 41) F dX5_leastBend_38 kw_166 rfl ?_
      refine C_get_6_0 (v := sc 7) (pc' := 44) F dX5_leastBend_41 kw_60 rfl rfl ?_
      refine J_vali (y := nI s) hsv ?_
      refine J_goWi (wf := (fC cI g)) (w0 := (wC cI g (upd sc 4 ((sc 4) + 1)) ar)) (av := [.ref (g 15), .ref (g 2), .int (nI s)]) (rest := []) (pc' := 47) (fC cI g) F E hA (fun _ h => h) id (jsubA_rf _) (fun _ => jOver_rf _ _ _) (fun H locs hI hp => jrun_V (As := [.ref (g 2), .int (nI s)]) 15 F E (c_X0_leastFrom l D cI cZ z g (upd sc 4 ((sc 4) + 1)) ar kd li s (CH_of (hC kq4)) hss H.size) kw_479 kw_480 kw_481 rfl kw_482 kw_5 oX0_leastFrom ⟨⟨rfl, rfl⟩, ⟨Nat.le_of_ble_eq_true rfl, Nat.le_of_ble_eq_true rfl⟩, Nat.zero_le _, Nat.zero_le _⟩ rfl rfl (Nat.le_of_ble_eq_true rfl) dX5_leastBend_44 rfl rfl (jI_P E hI) hp) rfl (fun r44 ur44 hr44 => ?_)
      obtain ⟨ar3, rfl, hfe, hL⟩ := hr44
      refine J_ws (ws' := (wC cI g (upd sc 4 ((sc 4) + 1)) ar3)) rfl ?_
      exact J_iretW ((upd sc 4 ((sc 4) + 1)), ar3) F hR dX5_leastBend_47 rfl rfl ⟨ar3, _, by rw [if_neg kq4, if_pos kq13], hfe, fun _ _ => hL, by rw [if_neg kq4, if_pos kq13]⟩
    · refine J_bipush (pc' := 18) (v := (-103)) F dX5_leastBend_16 (by decide) rfl ?_
      exact J_iretW (sc, ar) F hR dX5_leastBend_18 rfl rfl ⟨ar, 0, by rw [if_neg kq4, if_neg kq13], fun _ _ _ => rfl, (fun _ b9 => absurd b9 kq13), by rw [if_neg kq4, if_neg kq13]⟩
abbrev rm_X5_fits : Room := { frames := 9, cells := 0, slots := 0, locals := 268 }
set_option maxHeartbeats 4000000 in
set_option maxRecDepth 100000 in
theorem c_X5_fits (l : Launch) (D : va_G) (cI cZ : ClassId) (z : Nat → Nat) (g : Nat → Nat) (sc : Nat → Int32) (ar : Nat → Nat → Int32) (x1 : Int32) (kd : Nat → Nat) (li s be : Nat) (hC : ¬ sc 1 = 0 → CH sc ar kd li) (hsv : sc 7 = nI s) (hss : s < 4096) (hbe : be < 2 ^ 31) (hbn : zX5_bendNow sc ar = nI be) (bs : Nat → Nat) (T : Nat) (hSH : SH (sc 11) (ar 4) bs T) : cWi l yX5_fits ww_X5_fits rm_X5_fits D cI cZ z (fC cI g) (wC cI g sc ar) [.ref (g 0), .int x1] (fun r v => v.2 = ar ∧ frF sc v.1 ∧ r = if x1 < 0 then -102 else if x1 ≤ 2 then (if sc 1 = 0 then -103 else if x1 = 0 then nI (fit3 (goN (hk kd) li be) bs T s).1 else if x1 = 1 then nI (fit3 (goN (hk kd) li be) bs T s).2.1 else (fit3 (goN (hk kd) li be) bs T s).2.2) else -102) := by
  refine cWi.of (cc := cX5_fits) (maxL := 2) (rt := .int) (by decide) rfl (Nat.le_of_ble_eq_true rfl) (fun X F E hA hR => ?_)
  refine J_lv [0, 1] (lv' := [(0, .ref (g 0)), (1, .int x1)]) rfl ?_
  refine J_iload_n (pc' := 1) (q := 1) F dX5_fits_0 rfl rfl ?_
  refine J_if_lt (tgt := 9) (pc' := 4) F dX5_fits_1 (by decide) rfl (fun kq1 => ?_) (fun kq1 => ?_)
  · refine J_bipush (pc' := 11) (v := (-102)) F dX5_fits_9 (by decide) rfl ?_
    exact J_iretW (sc, ar) F hR dX5_fits_11 rfl rfl ⟨rfl, fun _ _ => rfl, by rw [if_pos kq1]⟩
  · refine J_iload_n (pc' := 5) (q := 1) F dX5_fits_4 rfl rfl ?_
    refine J_iconst (pc' := 6) (v := 2) F dX5_fits_5 (by decide) rfl ?_
    refine J_icmp_le (tgt := 12) (pc' := 9) F dX5_fits_6 (by decide) rfl (fun kq6 => ?_) (fun kq6 => ?_)
    · refine J_aload_n (pc' := 13) (q := 0) F dX5_fits_12 rfl rfl ?_
      refine C_get_0_3 (v := sc 1) (pc' := 16) F dX5_fits_13 kw_165 rfl rfl ?_
      refine J_if_ne (tgt := 22) (pc' := 19) F dX5_fits_16 (by decide) rfl (fun kq16 => ?_) (fun kq16 => ?_)
      · refine J_aload_n (pc' := 23) (q := 0) F dX5_fits_22 rfl rfl ?_
        refine J_goWv (wf := (fC cI g)) (w0 := (wC cI g sc ar)) (av := [.ref (g 0)]) (rest := []) (pc' := 26) (fC cI g) F E hA (fun _ h => h) id (jsubA_rf _) (fun _ => jOver_rf _ _ _) (fun H locs hI hp => jrun_V (As := []) 0 F E (c_X5_lookBack l D cI cZ z g sc ar kd li s be (hC kq16) hsv hss hbe hbn bs T hSH H.size) kw_509 kw_511 kp_5 rfl kw_512 kw_1 oX5_lookBack ⟨⟨rfl, rfl⟩, ⟨Nat.le_of_ble_eq_true rfl, Nat.le_of_ble_eq_true rfl⟩, Nat.zero_le _, Nat.zero_le _⟩ rfl rfl (Nat.le_of_ble_eq_true rfl) dX5_fits_23 rfl rfl (jI_P E hI) hp) rfl (fun ur23 hr23 => ?_)
        obtain ⟨sc3, ar3⟩ := ur23
        refine J_ws (ws' := (wC cI g sc3 ar3)) rfl ?_
        obtain ⟨hq1, hff, h24, h25, h26⟩ := hr23
        refine J_iload_n (pc' := 27) (q := 1) F dX5_fits_26 rfl rfl ?_
        by_cases kq27_0 : x1 = 0
        · refine J_vali kq27_0 ?_
          refine J_lookup (tgt := 52) F dX5_fits_27 (by decide) rfl (by decide) ?_
          refine J_aload_n (pc' := 53) (q := 0) F dX5_fits_52 rfl rfl ?_
          refine C_get_0_11 (pc' := 56) F dX5_fits_53 kw_173 rfl ?_
          refine C_get_18_0 (v := sc3 24) (pc' := 59) F dX5_fits_56 kw_150 rfl rfl ?_
          exact J_iretW (sc3, ar3) F hR dX5_fits_59 rfl rfl ⟨hq1, hff, by rw [if_neg kq1, if_pos kq6, if_neg kq16, if_pos kq27_0]; first | exact h24 | exact h25 | exact h26⟩
        by_cases kq27_1 : x1 = 1
        · refine J_vali kq27_1 ?_
          refine J_lookup (tgt := 60) F dX5_fits_27 (by decide) rfl (by decide) ?_
          refine J_aload_n (pc' := 61) (q := 0) F dX5_fits_60 rfl rfl ?_
          refine C_get_0_11 (pc' := 64) F dX5_fits_61 kw_173 rfl ?_
          refine C_get_18_1 (v := sc3 25) (pc' := 67) F dX5_fits_64 kw_152 rfl rfl ?_
          exact J_iretW (sc3, ar3) F hR dX5_fits_67 rfl rfl ⟨hq1, hff, by rw [if_neg kq1, if_pos kq6, if_neg kq16, if_neg kq27_0, if_pos kq27_1]; first | exact h24 | exact h25 | exact h26⟩
        refine J_lookup (tgt := 68) F dX5_fits_27 (by decide) (jls kq27_0 kq27_1) (by decide) ?_
        refine J_aload_n (pc' := 69) (q := 0) F dX5_fits_68 rfl rfl ?_
        refine C_get_0_11 (pc' := 72) F dX5_fits_69 kw_173 rfl ?_
        refine C_get_18_2 (v := sc3 26) (pc' := 75) F dX5_fits_72 kw_154 rfl rfl ?_
        exact J_iretW (sc3, ar3) F hR dX5_fits_75 rfl rfl ⟨hq1, hff, by rw [if_neg kq1, if_pos kq6, if_neg kq16, if_neg kq27_0, if_neg kq27_1]; first | exact h24 | exact h25 | exact h26⟩
      · refine J_bipush (pc' := 21) (v := (-103)) F dX5_fits_19 (by decide) rfl ?_
        exact J_iretW (sc, ar) F hR dX5_fits_21 rfl rfl ⟨rfl, fun _ _ => rfl, by rw [if_neg kq1, if_pos kq6, if_pos kq16]⟩
    · refine J_bipush (pc' := 11) (v := (-102)) F dX5_fits_9 (by decide) rfl ?_
      exact J_iretW (sc, ar) F hR dX5_fits_11 rfl rfl ⟨rfl, fun _ _ => rfl, by rw [if_neg kq1, if_neg kq6]⟩
