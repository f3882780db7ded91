/-! the reference: what writes, without a search, as functions -/
theorem isAct_vp {x : Int32} (h : ¬ zX6_isAct x = 0) : vp_in x 42 := by
  have h1 : ¬ zX6_in x.toInt64 0 41 = 0 := by
    intro h2
    apply h
    unfold zX6_isAct
    rw [if_pos h2]
  have h3 := zin32 x 0 41 (by decide) (by decide)
  rw [vp_in_iff]
  by_cases h2 : ((0 : Nat) : Int) ≤ x.toInt ∧ x.toInt ≤ ((41 : Nat) : Int)
  · omega
  · rw [if_neg h2] at h3; exact absurd h3 h1
theorem days_lt {x : Int32} {i : Nat} (h : ¬ zX6_in x.toInt64 1 90 = 0) (hi : i ≤ 90) (c : ¬ x ≤ nI i) : i < 90 := by
  have h3 := zin32 x 1 90 (by decide) (by decide)
  by_cases h2 : ((1 : Nat) : Int) ≤ x.toInt ∧ x.toInt ≤ ((90 : Nat) : Int)
  · rw [Int32.le_iff_toInt_le, nI_toInt (by omega)] at c
    omega
  · rw [if_neg h2] at h3; exact absurd h3 h

def fX6_letter (sc : Nat → Int32) (ar : Nat → Nat → Int32) (hs : Int64) (x1 : Int32) : Int32 × uM := if (zX6_in ((x1 : Int32).toInt64) 1 126) = 0 then ((-102), (sc, ar, hs)) else (if (sc 1) = 16 then ((-104), (sc, ar, hs)) else ((sc 1) + 1, ((upd sc 1 ((sc 1) + 1)), (va_up ar 0 (upd (ar 0) (((sc 1) : Int32).toNatClampNeg) x1)), hs)))
abbrev rm_X6_letter : Room := { frames := 1, cells := 0, slots := 0, locals := 25 }
set_option maxHeartbeats 4000000 in
set_option maxRecDepth 100000 in
theorem c_X6_letter (l : Launch) (D : va_G) (cI cZ : ClassId) (z : Nat → Nat) (g : Nat → Nat) (sc : Nat → Int32) (ar : Nat → Nat → Int32) (hs : Int64) (x1 : Int32) (hpg : ∃ k, k ≤ 16 ∧ sc 1 = nI k) : cWi l yX6_letter ww_X6_letter rm_X6_letter D cI cZ z (fM cI cZ g) (wM cI cZ g sc ar hs) [.ref (g 0), .int x1] (fun r u => (r, u) = fX6_letter sc ar hs x1) := by
  refine cWi.of (cc := cX6_letter) (maxL := 2) (rt := .int) (by decide) rfl (Nat.le_of_ble_eq_true rfl) (fun X F E hA hR => ?_)
  refine J_lv [0, 1] (lv' := [(0, .ref (g 0)), (1, .int x1)]) rfl ?_
  refine J_iload_n (pc' := 1) (q := 1) F dX6_letter_0 rfl rfl ?_
  refine J_i2l (pc' := 2) (v := (x1 : Int32).toInt64) F dX6_letter_1 rfl rfl ?_
  refine J_lconst (pc' := 3) (v := 1) F dX6_letter_2 (by decide) rfl ?_
  refine J_ldc2 (pc' := 6) (v := 126) F dX6_letter_3 kw_681 rfl ?_
  refine J_goRie (wc := []) (av := [.long ((x1 : Int32).toInt64), .long 1, .long 126]) (rest := []) (v := zX6_in ((x1 : Int32).toInt64) 1 126) (pc' := 9) F E (fun _ _ => jP_nil _ _) (fun H locs hI hp => jrun_S F E (c_X6_in l D cI cZ z ((x1 : Int32).toInt64) 1 126) kw_682 kw_683 rfl kw_684 kw_7 oX6_in ⟨⟨rfl, rfl⟩, ⟨Nat.le_of_ble_eq_true rfl, Nat.le_of_ble_eq_true rfl⟩, Nat.zero_le _, Nat.zero_le _⟩ rfl (Nat.le_of_ble_eq_true rfl) dX6_letter_6 hp) rfl ?_
  refine J_if_ne (tgt := 15) (pc' := 12) F dX6_letter_9 (by decide) rfl (fun c9 => ?_) (fun c9 => ?_)
  · refine J_aload_n (pc' := 16) (q := 0) F dX6_letter_15 rfl rfl ?_
    refine M_get_0_1 (v := sc 1) (pc' := 19) F dX6_letter_16 kw_580 rfl rfl ?_
    refine J_bipush (pc' := 21) (v := 16) F dX6_letter_19 (by decide) rfl ?_
    refine J_icmp_ne (tgt := 27) (pc' := 24) F dX6_letter_21 (by decide) rfl (fun c21 => ?_) (fun c21 => ?_)
    · refine J_aload_n (pc' := 28) (q := 0) F dX6_letter_27 rfl rfl ?_
      refine M_get_0_0 (pc' := 31) F dX6_letter_28 kw_579 rfl ?_
      refine J_aload_n (pc' := 32) (q := 0) F dX6_letter_31 rfl rfl ?_
      refine M_get_0_1 (v := sc 1) (pc' := 35) F dX6_letter_32 kw_580 rfl rfl ?_
      refine J_iload_n (pc' := 36) (q := 1) F dX6_letter_35 rfl rfl ?_
      refine M_st_0 (f := ar 0) (q := ((sc 1) : Int32).toNatClampNeg) (pc' := 37) F dX6_letter_36 rfl rfl (cnt_in (by decide) hpg c21) rfl ?_
      refine J_aload_n (pc' := 38) (q := 0) F dX6_letter_37 rfl rfl ?_
      refine J_dup (pc' := 39) F dX6_letter_38 rfl rfl ?_
      refine M_get_0_1 (v := sc 1) (pc' := 42) F dX6_letter_39 kw_580 rfl rfl ?_
      refine J_iconst (pc' := 43) (v := 1) F dX6_letter_42 (by decide) rfl ?_
      refine J_iadd (pc' := 44) F dX6_letter_43 rfl ?_
      refine M_put_0_1 (pc' := 47) F dX6_letter_44 kw_580 rfl ?_
      refine J_aload_n (pc' := 48) (q := 0) F dX6_letter_47 rfl rfl ?_
      refine M_get_0_1 (v := (sc 1) + 1) (pc' := 51) F dX6_letter_48 kw_580 rfl rfl ?_
      exact J_iretW ((upd sc 1 ((sc 1) + 1)), (va_up ar 0 (upd (ar 0) (((sc 1) : Int32).toNatClampNeg) x1)), hs) F hR dX6_letter_51 rfl rfl (by show _ = fX6_letter sc ar hs x1; unfold fX6_letter; rw [if_neg c9, if_neg c21])
    · refine J_bipush (pc' := 26) (v := (-104)) F dX6_letter_24 (by decide) rfl ?_
      exact J_iretW (sc, ar, hs) F hR dX6_letter_26 rfl rfl (by show _ = fX6_letter sc ar hs x1; unfold fX6_letter; rw [if_neg c9, if_pos c21])
  · refine J_bipush (pc' := 14) (v := (-102)) F dX6_letter_12 (by decide) rfl ?_
    exact J_iretW (sc, ar, hs) F hR dX6_letter_14 rfl rfl (by show _ = fX6_letter sc ar hs x1; unfold fX6_letter; rw [if_pos c9])
def fX6_blank (sc : Nat → Int32) (ar : Nat → Nat → Int32) (hs : Int64) : Int32 × uM := (sc 1, ((upd sc 1 0), ar, hs))
abbrev rm_X6_blank : Room := { frames := 0, cells := 0, slots := 0, locals := 0 }
set_option maxHeartbeats 4000000 in
set_option maxRecDepth 100000 in
theorem c_X6_blank (l : Launch) (D : va_G) (cI cZ : ClassId) (z : Nat → Nat) (g : Nat → Nat) (sc : Nat → Int32) (ar : Nat → Nat → Int32) (hs : Int64)   : cWi l yX6_blank ww_X6_blank rm_X6_blank D cI cZ z (fM cI cZ g) (wM cI cZ g sc ar hs) [.ref (g 0)] (fun r u => (r, u) = fX6_blank sc ar hs) := by
  refine cWi.of (cc := cX6_blank) (maxL := 2) (rt := .int) (by decide) rfl (Nat.le_of_ble_eq_true rfl) (fun X F E hA hR => ?_)
  refine J_lv [0] (lv' := [(0, .ref (g 0))]) rfl ?_
  refine J_aload_n (pc' := 1) (q := 0) F dX6_blank_0 rfl rfl ?_
  refine M_get_0_1 (v := sc 1) (pc' := 4) F dX6_blank_1 kw_580 rfl rfl ?_
  refine J_istore_n (pc' := 5) [1, 0] [(0, .ref (g 0)), (1, .int (sc 1))] F dX6_blank_4 rfl (jL_of E (show 1 < 2 by decide)) rfl rfl ?_
  refine J_aload_n (pc' := 6) (q := 0) F dX6_blank_5 rfl rfl ?_
  refine J_iconst (pc' := 7) (v := 0) F dX6_blank_6 (by decide) rfl ?_
  refine M_put_0_1 (pc' := 10) F dX6_blank_7 kw_580 rfl ?_
  refine J_iload_n (pc' := 11) (q := 1) F dX6_blank_10 rfl rfl ?_
  exact J_iretW ((upd sc 1 0), ar, hs) F hR dX6_blank_11 rfl rfl rfl
def fX6_hold (sc : Nat → Int32) (ar : Nat → Nat → Int32) (hs : Int64) : Int32 × uM := if (sc 1) = 14 then (if (14 : Int32) ≤ (zX6_faultOf sc ar hs) then (zX6_tonsOf (((4 * (((4 * (((4 * (((4 * (((4 * ((0 + ((ar 0) 10)) - 48)) + ((ar 0) 9)) - 48)) + ((ar 0) 6)) - 48)) + ((ar 0) 5)) - 48)) + ((ar 0) 2)) - 48)) + ((ar 0) 1)) - 48), ((upd (upd (upd (upd (upd (upd (upd (upd (upd (upd (upd (upd (upd (upd (upd (upd sc 5 0) 5 ((0 + ((ar 0) 10)) - 48)) 5 (((4 * ((0 + ((ar 0) 10)) - 48)) + ((ar 0) 9)) - 48)) 5 (((4 * (((4 * ((0 + ((ar 0) 10)) - 48)) + ((ar 0) 9)) - 48)) + ((ar 0) 6)) - 48)) 5 (((4 * (((4 * (((4 * ((0 + ((ar 0) 10)) - 48)) + ((ar 0) 9)) - 48)) + ((ar 0) 6)) - 48)) + ((ar 0) 5)) - 48)) 5 (((4 * (((4 * (((4 * (((4 * ((0 + ((ar 0) 10)) - 48)) + ((ar 0) 9)) - 48)) + ((ar 0) 6)) - 48)) + ((ar 0) 5)) - 48)) + ((ar 0) 2)) - 48)) 5 (((4 * (((4 * (((4 * (((4 * (((4 * ((0 + ((ar 0) 10)) - 48)) + ((ar 0) 9)) - 48)) + ((ar 0) 6)) - 48)) + ((ar 0) 5)) - 48)) + ((ar 0) 2)) - 48)) + ((ar 0) 1)) - 48)) 3 (((ar 0) 12) - 48)) 4 (((ar 0) 13) - 48)) 6 0) 7 0) 8 0) 16 0) 2 1) 9 ((sc 9) + 1)) 1 0), (va_up (va_up (va_up ar 1 (upd (ar 1) 2 (zX6_kindBy ((ar 0) 8)))) 1 (upd (upd (ar 1) 2 (zX6_kindBy ((ar 0) 8))) 1 (zX6_kindBy ((ar 0) 4)))) 1 (upd (upd (upd (ar 1) 2 (zX6_kindBy ((ar 0) 8))) 1 (zX6_kindBy ((ar 0) 4))) 0 (zX6_kindBy ((ar 0) 0)))), hs)) else ((-103), (sc, ar, hs))) else ((-103), (sc, ar, hs))
abbrev rm_X6_hold : Room := { frames := 3, cells := 0, slots := 0, locals := 68 }
set_option maxHeartbeats 4000000 in
set_option maxRecDepth 100000 in
theorem c_X6_hold (l : Launch) (D : va_G) (cI cZ : ClassId) (z : Nat → Nat) (g : Nat → Nat) (sc : Nat → Int32) (ar : Nat → Nat → Int32) (hs : Int64)  (hpg : ∃ k, k ≤ 16 ∧ sc 1 = nI k) : cWi l yX6_hold ww_X6_hold rm_X6_hold D cI cZ z (fM cI cZ g) (wM cI cZ g sc ar hs) [.ref (g 0)] (fun r u => (r, u) = fX6_hold sc ar hs) := by
  refine cWi.of (cc := cX6_hold) (maxL := 2) (rt := .int) (by decide) rfl (Nat.le_of_ble_eq_true rfl) (fun X F E hA hR => ?_)
  refine J_lv [0] (lv' := [(0, .ref (g 0))]) rfl ?_
  refine J_aload_n (pc' := 1) (q := 0) F dX6_hold_0 rfl rfl ?_
  refine M_get_0_1 (v := sc 1) (pc' := 4) F dX6_hold_1 kw_580 rfl rfl ?_
  refine J_bipush (pc' := 6) (v := 14) F dX6_hold_4 (by decide) rfl ?_
  refine J_icmp_ne (tgt := 18) (pc' := 9) F dX6_hold_6 (by decide) rfl (fun c6 => ?_) (fun c6 => ?_)
  · refine J_bipush (pc' := 20) (v := (-103)) F dX6_hold_18 (by decide) rfl ?_
    exact J_iretW (sc, ar, hs) F hR dX6_hold_20 rfl rfl (by show _ = fX6_hold sc ar hs; unfold fX6_hold; rw [if_neg c6])
  · refine J_aload_n (pc' := 10) (q := 0) F dX6_hold_9 rfl rfl ?_
    refine J_goRie (wc := (wM cI cZ g sc ar hs)) (av := [.ref (g 0)]) (rest := []) (v := zX6_faultOf sc ar hs) (pc' := 13) F E (fun _ h => h) (fun H locs hI hp => jrun_V (As := []) 0 F E (c_X6_faultOf l D cI cZ z g sc ar hs  hpg) kw_693 kw_695 kp_9 rfl kw_696 kw_7 oX6_faultOf ⟨⟨rfl, rfl⟩, ⟨Nat.le_of_ble_eq_true rfl, Nat.le_of_ble_eq_true rfl⟩, Nat.zero_le _, Nat.zero_le _⟩ rfl rfl (Nat.le_of_ble_eq_true rfl) dX6_hold_10 rfl rfl (jI_P E hI) hp) rfl ?_
    refine J_bipush (pc' := 15) (v := 14) F dX6_hold_13 (by decide) rfl ?_
    refine J_icmp_ge (tgt := 21) (pc' := 18) F dX6_hold_15 (by decide) rfl (fun c15 => ?_) (fun c15 => ?_)
    · refine J_aload_n (pc' := 22) (q := 0) F dX6_hold_21 rfl rfl ?_
      refine J_iconst (pc' := 23) (v := 0) F dX6_hold_22 (by decide) rfl ?_
      refine M_put_0_5 (pc' := 26) F dX6_hold_23 kw_584 rfl ?_
      refine J_iconst (pc' := 27) (v := 2) F dX6_hold_26 (by decide) rfl ?_
      refine J_istore_n (pc' := 28) [1, 0] [(0, .ref (g 0)), (1, .int 2)] F dX6_hold_27 rfl (jL_of E (show 1 < 2 by decide)) rfl rfl ?_
      refine J_iload_n (pc' := 29) (q := 1) F dX6_hold_28 rfl rfl ?_
      refine J_if_lt (tgt := 103) (pc' := 32) F dX6_hold_29 (by decide) rfl (fun c9 => absurd c9 (by decide)) (fun _ => ?_)
      refine J_aload_n (pc' := 33) (q := 0) F dX6_hold_32 rfl rfl ?_
      refine M_get_0_10 (pc' := 36) F dX6_hold_33 kw_589 rfl ?_
      refine J_iload_n (pc' := 37) (q := 1) F dX6_hold_36 rfl rfl ?_
      refine J_aload_n (pc' := 38) (q := 0) F dX6_hold_37 rfl rfl ?_
      refine M_get_0_0 (pc' := 41) F dX6_hold_38 kw_579 rfl ?_
      refine J_iconst (pc' := 42) (v := 4) F dX6_hold_41 (by decide) rfl ?_
      refine J_iload_n (pc' := 43) (q := 1) F dX6_hold_42 rfl rfl ?_
      refine J_imul (pc' := 44) F dX6_hold_43 rfl ?_
      refine J_vali (y := 8) (by decide) ?_
      refine M_ld_0 (f := ar 0) (q := 8) (pc' := 45) F dX6_hold_44 rfl rfl (by unfold vp_in; decide) rfl ?_
      refine J_goRie (wc := []) (av := [.int ((ar 0) 8)]) (rest := [.int 2, .ref (g 2)]) (v := zX6_kindBy ((ar 0) 8)) (pc' := 48) F E (fun _ _ => jP_nil _ _) (fun H locs hI hp => jrun_S F E (c_X6_kindBy l D cI cZ z ((ar 0) 8)) kw_701 kw_702 rfl kw_703 kw_7 oX6_kindBy ⟨⟨rfl, rfl⟩, ⟨Nat.le_of_ble_eq_true rfl, Nat.le_of_ble_eq_true rfl⟩, Nat.zero_le _, Nat.zero_le _⟩ rfl (Nat.le_of_ble_eq_true rfl) dX6_hold_45 hp) rfl ?_
      refine M_st_1 (f := ar 1) (q := 2) (pc' := 49) F dX6_hold_48 rfl rfl (by unfold vp_in; decide) rfl ?_
      refine J_aload_n (pc' := 50) (q := 0) F dX6_hold_49 rfl rfl ?_
      refine J_iconst (pc' := 51) (v := 4) F dX6_hold_50 (by decide) rfl ?_
      refine J_aload_n (pc' := 52) (q := 0) F dX6_hold_51 rfl rfl ?_
      refine M_get_0_5 (v := 0) (pc' := 55) F dX6_hold_52 kw_584 rfl rfl ?_
      refine J_imul (pc' := 56) F dX6_hold_55 rfl ?_
      refine J_vali (y := 0) (by decide) ?_
      refine J_aload_n (pc' := 57) (q := 0) F dX6_hold_56 rfl rfl ?_
      refine M_get_0_0 (pc' := 60) F dX6_hold_57 kw_579 rfl ?_
      refine J_iconst (pc' := 61) (v := 4) F dX6_hold_60 (by decide) rfl ?_
      refine J_iload_n (pc' := 62) (q := 1) F dX6_hold_61 rfl rfl ?_
      refine J_imul (pc' := 63) F dX6_hold_62 rfl ?_
      refine J_vali (y := 8) (by decide) ?_
      refine J_iconst (pc' := 64) (v := 2) F dX6_hold_63 (by decide) rfl ?_
      refine J_iadd (pc' := 65) F dX6_hold_64 rfl ?_
      refine J_vali (y := 10) (by decide) ?_
      refine M_ld_0 (f := ar 0) (q := 10) (pc' := 66) F dX6_hold_65 rfl rfl (by unfold vp_in; decide) rfl ?_
      refine J_iadd (pc' := 67) F dX6_hold_66 rfl ?_
      refine J_bipush (pc' := 69) (v := 48) F dX6_hold_67 (by decide) rfl ?_
      refine J_isub (pc' := 70) F dX6_hold_69 rfl ?_
      refine M_put_0_5 (pc' := 73) F dX6_hold_70 kw_584 rfl ?_
      refine J_aload_n (pc' := 74) (q := 0) F dX6_hold_73 rfl rfl ?_
      refine J_iconst (pc' := 75) (v := 4) F dX6_hold_74 (by decide) rfl ?_
      refine J_aload_n (pc' := 76) (q := 0) F dX6_hold_75 rfl rfl ?_
      refine M_get_0_5 (v := (0 + ((ar 0) 10)) - 48) (pc' := 79) F dX6_hold_76 kw_584 rfl rfl ?_
      refine J_imul (pc' := 80) F dX6_hold_79 rfl ?_
      refine J_aload_n (pc' := 81) (q := 0) F dX6_hold_80 rfl rfl ?_
      refine M_get_0_0 (pc' := 84) F dX6_hold_81 kw_579 rfl ?_
      refine J_iconst (pc' := 85) (v := 4) F dX6_hold_84 (by decide) rfl ?_
      refine J_iload_n (pc' := 86) (q := 1) F dX6_hold_85 rfl rfl ?_
      refine J_imul (pc' := 87) F dX6_hold_86 rfl ?_
      refine J_vali (y := 8) (by decide) ?_
      refine J_iconst (pc' := 88) (v := 1) F dX6_hold_87 (by decide) rfl ?_
      refine J_iadd (pc' := 89) F dX6_hold_88 rfl ?_
      refine J_vali (y := 9) (by decide) ?_
      refine M_ld_0 (f := ar 0) (q := 9) (pc' := 90) F dX6_hold_89 rfl rfl (by unfold vp_in; decide) rfl ?_
      refine J_iadd (pc' := 91) F dX6_hold_90 rfl ?_
      refine J_bipush (pc' := 93) (v := 48) F dX6_hold_91 (by decide) rfl ?_
      refine J_isub (pc' := 94) F dX6_hold_93 rfl ?_
      refine M_put_0_5 (pc' := 97) F dX6_hold_94 kw_584 rfl ?_
      refine J_iinc (v := 1) (q := 1) (pc' := 100) [1, 0] [(0, .ref (g 0)), (1, .int 1)] F dX6_hold_97 rfl (by decide) (jL_of E (show 1 < 2 by decide)) rfl rfl ?_
      refine J_goto (tgt := 28) F dX6_hold_100 (by decide) ?_
      refine J_iload_n (pc' := 29) (q := 1) F dX6_hold_28 rfl rfl ?_
      refine J_if_lt (tgt := 103) (pc' := 32) F dX6_hold_29 (by decide) rfl (fun c9 => absurd c9 (by decide)) (fun _ => ?_)
      refine J_aload_n (pc' := 33) (q := 0) F dX6_hold_32 rfl rfl ?_
      refine M_get_0_10 (pc' := 36) F dX6_hold_33 kw_589 rfl ?_
      refine J_iload_n (pc' := 37) (q := 1) F dX6_hold_36 rfl rfl ?_
      refine J_aload_n (pc' := 38) (q := 0) F dX6_hold_37 rfl rfl ?_
      refine M_get_0_0 (pc' := 41) F dX6_hold_38 kw_579 rfl ?_
      refine J_iconst (pc' := 42) (v := 4) F dX6_hold_41 (by decide) rfl ?_
      refine J_iload_n (pc' := 43) (q := 1) F dX6_hold_42 rfl rfl ?_
      refine J_imul (pc' := 44) F dX6_hold_43 rfl ?_
      refine J_vali (y := 4) (by decide) ?_
      refine M_ld_0 (f := ar 0) (q := 4) (pc' := 45) F dX6_hold_44 rfl rfl (by unfold vp_in; decide) rfl ?_
      refine J_goRie (wc := []) (av := [.int ((ar 0) 4)]) (rest := [.int 1, .ref (g 2)]) (v := zX6_kindBy ((ar 0) 4)) (pc' := 48) F E (fun _ _ => jP_nil _ _) (fun H locs hI hp => jrun_S F E (c_X6_kindBy l D cI cZ z ((ar 0) 4)) kw_701 kw_702 rfl kw_703 kw_7 oX6_kindBy ⟨⟨rfl, rfl⟩, ⟨Nat.le_of_ble_eq_true rfl, Nat.le_of_ble_eq_true rfl⟩, Nat.zero_le _, Nat.zero_le _⟩ rfl (Nat.le_of_ble_eq_true rfl) dX6_hold_45 hp) rfl ?_
      refine M_st_1 (f := upd (ar 1) 2 (zX6_kindBy ((ar 0) 8))) (q := 1) (pc' := 49) F dX6_hold_48 rfl rfl (by unfold vp_in; decide) rfl ?_
      refine J_aload_n (pc' := 50) (q := 0) F dX6_hold_49 rfl rfl ?_
      refine J_iconst (pc' := 51) (v := 4) F dX6_hold_50 (by decide) rfl ?_
      refine J_aload_n (pc' := 52) (q := 0) F dX6_hold_51 rfl rfl ?_
      refine M_get_0_5 (v := ((4 * ((0 + ((ar 0) 10)) - 48)) + ((ar 0) 9)) - 48) (pc' := 55) F dX6_hold_52 kw_584 rfl rfl ?_
      refine J_imul (pc' := 56) F dX6_hold_55 rfl ?_
      refine J_aload_n (pc' := 57) (q := 0) F dX6_hold_56 rfl rfl ?_
      refine M_get_0_0 (pc' := 60) F dX6_hold_57 kw_579 rfl ?_
      refine J_iconst (pc' := 61) (v := 4) F dX6_hold_60 (by decide) rfl ?_
      refine J_iload_n (pc' := 62) (q := 1) F dX6_hold_61 rfl rfl ?_
      refine J_imul (pc' := 63) F dX6_hold_62 rfl ?_
      refine J_vali (y := 4) (by decide) ?_
      refine J_iconst (pc' := 64) (v := 2) F dX6_hold_63 (by decide) rfl ?_
      refine J_iadd (pc' := 65) F dX6_hold_64 rfl ?_
      refine J_vali (y := 6) (by decide) ?_
      refine M_ld_0 (f := ar 0) (q := 6) (pc' := 66) F dX6_hold_65 rfl rfl (by unfold vp_in; decide) rfl ?_
      refine J_iadd (pc' := 67) F dX6_hold_66 rfl ?_
      refine J_bipush (pc' := 69) (v := 48) F dX6_hold_67 (by decide) rfl ?_
      refine J_isub (pc' := 70) F dX6_hold_69 rfl ?_
      refine M_put_0_5 (pc' := 73) F dX6_hold_70 kw_584 rfl ?_
      refine J_aload_n (pc' := 74) (q := 0) F dX6_hold_73 rfl rfl ?_
      refine J_iconst (pc' := 75) (v := 4) F dX6_hold_74 (by decide) rfl ?_
      refine J_aload_n (pc' := 76) (q := 0) F dX6_hold_75 rfl rfl ?_
      refine M_get_0_5 (v := ((4 * (((4 * ((0 + ((ar 0) 10)) - 48)) + ((ar 0) 9)) - 48)) + ((ar 0) 6)) - 48) (pc' := 79) F dX6_hold_76 kw_584 rfl rfl ?_
      refine J_imul (pc' := 80) F dX6_hold_79 rfl ?_
      refine J_aload_n (pc' := 81) (q := 0) F dX6_hold_80 rfl rfl ?_
      refine M_get_0_0 (pc' := 84) F dX6_hold_81 kw_579 rfl ?_
      refine J_iconst (pc' := 85) (v := 4) F dX6_hold_84 (by decide) rfl ?_
      refine J_iload_n (pc' := 86) (q := 1) F dX6_hold_85 rfl rfl ?_
      refine J_imul (pc' := 87) F dX6_hold_86 rfl ?_
      refine J_vali (y := 4) (by decide) ?_
      refine J_iconst (pc' := 88) (v := 1) F dX6_hold_87 (by decide) rfl ?_
      refine J_iadd (pc' := 89) F dX6_hold_88 rfl ?_
      refine J_vali (y := 5) (by decide) ?_
      refine M_ld_0 (f := ar 0) (q := 5) (pc' := 90) F dX6_hold_89 rfl rfl (by unfold vp_in; decide) rfl ?_
      refine J_iadd (pc' := 91) F dX6_hold_90 rfl ?_
      refine J_bipush (pc' := 93) (v := 48) F dX6_hold_91 (by decide) rfl ?_
      refine J_isub (pc' := 94) F dX6_hold_93 rfl ?_
      refine M_put_0_5 (pc' := 97) F dX6_hold_94 kw_584 rfl ?_
      refine J_iinc (v := 0) (q := 1) (pc' := 100) [1, 0] [(0, .ref (g 0)), (1, .int 0)] F dX6_hold_97 rfl (by decide) (jL_of E (show 1 < 2 by decide)) rfl rfl ?_
      refine J_goto (tgt := 28) F dX6_hold_100 (by decide) ?_
      refine J_iload_n (pc' := 29) (q := 1) F dX6_hold_28 rfl rfl ?_
      refine J_if_lt (tgt := 103) (pc' := 32) F dX6_hold_29 (by decide) rfl (fun c9 => absurd c9 (by decide)) (fun _ => ?_)
      refine J_aload_n (pc' := 33) (q := 0) F dX6_hold_32 rfl rfl ?_
      refine M_get_0_10 (pc' := 36) F dX6_hold_33 kw_589 rfl ?_
      refine J_iload_n (pc' := 37) (q := 1) F dX6_hold_36 rfl rfl ?_
      refine J_aload_n (pc' := 38) (q := 0) F dX6_hold_37 rfl rfl ?_
      refine M_get_0_0 (pc' := 41) F dX6_hold_38 kw_579 rfl ?_
      refine J_iconst (pc' := 42) (v := 4) F dX6_hold_41 (by decide) rfl ?_
      refine J_iload_n (pc' := 43) (q := 1) F dX6_hold_42 rfl rfl ?_
      refine J_imul (pc' := 44) F dX6_hold_43 rfl ?_
      refine J_vali (y := 0) (by decide) ?_
      refine M_ld_0 (f := ar 0) (q := 0) (pc' := 45) F dX6_hold_44 rfl rfl (by unfold vp_in; decide) rfl ?_
      refine J_goRie (wc := []) (av := [.int ((ar 0) 0)]) (rest := [.int 0, .ref (g 2)]) (v := zX6_kindBy ((ar 0) 0)) (pc' := 48) F E (fun _ _ => jP_nil _ _) (fun H locs hI hp => jrun_S F E (c_X6_kindBy l D cI cZ z ((ar 0) 0)) kw_701 kw_702 rfl kw_703 kw_7 oX6_kindBy ⟨⟨rfl, rfl⟩, ⟨Nat.le_of_ble_eq_true rfl, Nat.le_of_ble_eq_true rfl⟩, Nat.zero_le _, Nat.zero_le _⟩ rfl (Nat.le_of_ble_eq_true rfl) dX6_hold_45 hp) rfl ?_
      refine M_st_1 (f := upd (upd (ar 1) 2 (zX6_kindBy ((ar 0) 8))) 1 (zX6_kindBy ((ar 0) 4))) (q := 0) (pc' := 49) F dX6_hold_48 rfl rfl (by unfold vp_in; decide) rfl ?_
      refine J_aload_n (pc' := 50) (q := 0) F dX6_hold_49 rfl rfl ?_
      refine J_iconst (pc' := 51) (v := 4) F dX6_hold_50 (by decide) rfl ?_
      refine J_aload_n (pc' := 52) (q := 0) F dX6_hold_51 rfl rfl ?_
      refine M_get_0_5 (v := ((4 * (((4 * (((4 * ((0 + ((ar 0) 10)) - 48)) + ((ar 0) 9)) - 48)) + ((ar 0) 6)) - 48)) + ((ar 0) 5)) - 48) (pc' := 55) F dX6_hold_52 kw_584 rfl rfl ?_
      refine J_imul (pc' := 56) F dX6_hold_55 rfl ?_
      refine J_aload_n (pc' := 57) (q := 0) F dX6_hold_56 rfl rfl ?_
      refine M_get_0_0 (pc' := 60) F dX6_hold_57 kw_579 rfl ?_
      refine J_iconst (pc' := 61) (v := 4) F dX6_hold_60 (by decide) rfl ?_
      refine J_iload_n (pc' := 62) (q := 1) F dX6_hold_61 rfl rfl ?_
      refine J_imul (pc' := 63) F dX6_hold_62 rfl ?_
      refine J_vali (y := 0) (by decide) ?_
      refine J_iconst (pc' := 64) (v := 2) F dX6_hold_63 (by decide) rfl ?_
      refine J_iadd (pc' := 65) F dX6_hold_64 rfl ?_
      refine J_vali (y := 2) (by decide) ?_
      refine M_ld_0 (f := ar 0) (q := 2) (pc' := 66) F dX6_hold_65 rfl rfl (by unfold vp_in; decide) rfl ?_
      refine J_iadd (pc' := 67) F dX6_hold_66 rfl ?_
      refine J_bipush (pc' := 69) (v := 48) F dX6_hold_67 (by decide) rfl ?_
      refine J_isub (pc' := 70) F dX6_hold_69 rfl ?_
      refine M_put_0_5 (pc' := 73) F dX6_hold_70 kw_584 rfl ?_
      refine J_aload_n (pc' := 74) (q := 0) F dX6_hold_73 rfl rfl ?_
      refine J_iconst (pc' := 75) (v := 4) F dX6_hold_74 (by decide) rfl ?_
      refine J_aload_n (pc' := 76) (q := 0) F dX6_hold_75 rfl rfl ?_
      refine M_get_0_5 (v := ((4 * (((4 * (((4 * (((4 * ((0 + ((ar 0) 10)) - 48)) + ((ar 0) 9)) - 48)) + ((ar 0) 6)) - 48)) + ((ar 0) 5)) - 48)) + ((ar 0) 2)) - 48) (pc' := 79) F dX6_hold_76 kw_584 rfl rfl ?_
      refine J_imul (pc' := 80) F dX6_hold_79 rfl ?_
      refine J_aload_n (pc' := 81) (q := 0) F dX6_hold_80 rfl rfl ?_
      refine M_get_0_0 (pc' := 84) F dX6_hold_81 kw_579 rfl ?_
      refine J_iconst (pc' := 85) (v := 4) F dX6_hold_84 (by decide) rfl ?_
      refine J_iload_n (pc' := 86) (q := 1) F dX6_hold_85 rfl rfl ?_
      refine J_imul (pc' := 87) F dX6_hold_86 rfl ?_
      refine J_vali (y := 0) (by decide) ?_
      refine J_iconst (pc' := 88) (v := 1) F dX6_hold_87 (by decide) rfl ?_
      refine J_iadd (pc' := 89) F dX6_hold_88 rfl ?_
      refine J_vali (y := 1) (by decide) ?_
      refine M_ld_0 (f := ar 0) (q := 1) (pc' := 90) F dX6_hold_89 rfl rfl (by unfold vp_in; decide) rfl ?_
      refine J_iadd (pc' := 91) F dX6_hold_90 rfl ?_
      refine J_bipush (pc' := 93) (v := 48) F dX6_hold_91 (by decide) rfl ?_
      refine J_isub (pc' := 94) F dX6_hold_93 rfl ?_
      refine M_put_0_5 (pc' := 97) F dX6_hold_94 kw_584 rfl ?_
      refine J_iinc (v := (-1)) (q := 1) (pc' := 100) [1, 0] [(0, .ref (g 0)), (1, .int (-1))] F dX6_hold_97 rfl (by decide) (jL_of E (show 1 < 2 by decide)) rfl rfl ?_
      refine J_goto (tgt := 28) F dX6_hold_100 (by decide) ?_
      refine J_iload_n (pc' := 29) (q := 1) F dX6_hold_28 rfl rfl ?_
      refine J_if_lt (tgt := 103) (pc' := 32) F dX6_hold_29 (by decide) rfl (fun _ => ?_) (fun c9 => absurd (by decide) c9)
      refine J_aload_n (pc' := 104) (q := 0) F dX6_hold_103 rfl rfl ?_
      refine J_aload_n (pc' := 105) (q := 0) F dX6_hold_104 rfl rfl ?_
      refine M_get_0_0 (pc' := 108) F dX6_hold_105 kw_579 rfl ?_
      refine J_bipush (pc' := 110) (v := 12) F dX6_hold_108 (by decide) rfl ?_
      refine M_ld_0 (f := ar 0) (q := 12) (pc' := 111) F dX6_hold_110 rfl rfl (by unfold vp_in; decide) rfl ?_
      refine J_bipush (pc' := 113) (v := 48) F dX6_hold_111 (by decide) rfl ?_
      refine J_isub (pc' := 114) F dX6_hold_113 rfl ?_
      refine M_put_0_3 (pc' := 117) F dX6_hold_114 kw_582 rfl ?_
      refine J_aload_n (pc' := 118) (q := 0) F dX6_hold_117 rfl rfl ?_
      refine J_aload_n (pc' := 119) (q := 0) F dX6_hold_118 rfl rfl ?_
      refine M_get_0_0 (pc' := 122) F dX6_hold_119 kw_579 rfl ?_
      refine J_bipush (pc' := 124) (v := 13) F dX6_hold_122 (by decide) rfl ?_
      refine M_ld_0 (f := ar 0) (q := 13) (pc' := 125) F dX6_hold_124 rfl rfl (by unfold vp_in; decide) rfl ?_
      refine J_bipush (pc' := 127) (v := 48) F dX6_hold_125 (by decide) rfl ?_
      refine J_isub (pc' := 128) F dX6_hold_127 rfl ?_
      refine M_put_0_4 (pc' := 131) F dX6_hold_128 kw_583 rfl ?_
      refine J_aload_n (pc' := 132) (q := 0) F dX6_hold_131 rfl rfl ?_
      refine J_iconst (pc' := 133) (v := 0) F dX6_hold_132 (by decide) rfl ?_
      refine M_put_0_6 (pc' := 136) F dX6_hold_133 kw_585 rfl ?_
      refine J_aload_n (pc' := 137) (q := 0) F dX6_hold_136 rfl rfl ?_
      refine J_iconst (pc' := 138) (v := 0) F dX6_hold_137 (by decide) rfl ?_
      refine M_put_0_7 (pc' := 141) F dX6_hold_138 kw_586 rfl ?_
      refine J_aload_n (pc' := 142) (q := 0) F dX6_hold_141 rfl rfl ?_
      refine J_iconst (pc' := 143) (v := 0) F dX6_hold_142 (by decide) rfl ?_
      refine M_put_0_8 (pc' := 146) F dX6_hold_143 kw_587 rfl ?_
      refine J_aload_n (pc' := 147) (q := 0) F dX6_hold_146 rfl rfl ?_
      refine J_iconst (pc' := 148) (v := 0) F dX6_hold_147 (by decide) rfl ?_
      refine M_put_0_16 (pc' := 151) F dX6_hold_148 kw_595 rfl ?_
      refine J_aload_n (pc' := 152) (q := 0) F dX6_hold_151 rfl rfl ?_
      refine J_iconst (pc' := 153) (v := 1) F dX6_hold_152 (by decide) rfl ?_
      refine M_put_0_2 (pc' := 156) F dX6_hold_153 kw_581 (by decide) rfl ?_
      refine J_aload_n (pc' := 157) (q := 0) F dX6_hold_156 rfl rfl ?_
      refine J_dup (pc' := 158) F dX6_hold_157 rfl rfl ?_
      refine M_get_0_9 (v := sc 9) (pc' := 161) F dX6_hold_158 kw_588 rfl rfl ?_
      refine J_iconst (pc' := 162) (v := 1) F dX6_hold_161 (by decide) rfl ?_
      refine J_iadd (pc' := 163) F dX6_hold_162 rfl ?_
      refine M_put_0_9 (pc' := 166) F dX6_hold_163 kw_588 rfl ?_
      refine J_aload_n (pc' := 167) (q := 0) F dX6_hold_166 rfl rfl ?_
      refine J_iconst (pc' := 168) (v := 0) F dX6_hold_167 (by decide) rfl ?_
      refine M_put_0_1 (pc' := 171) F dX6_hold_168 kw_580 rfl ?_
      refine J_aload_n (pc' := 172) (q := 0) F dX6_hold_171 rfl rfl ?_
      refine M_get_0_5 (v := ((4 * (((4 * (((4 * (((4 * (((4 * ((0 + ((ar 0) 10)) - 48)) + ((ar 0) 9)) - 48)) + ((ar 0) 6)) - 48)) + ((ar 0) 5)) - 48)) + ((ar 0) 2)) - 48)) + ((ar 0) 1)) - 48) (pc' := 175) F dX6_hold_172 kw_584 rfl rfl ?_
      refine J_goRie (wc := []) (av := [.int (((4 * (((4 * (((4 * (((4 * (((4 * ((0 + ((ar 0) 10)) - 48)) + ((ar 0) 9)) - 48)) + ((ar 0) 6)) - 48)) + ((ar 0) 5)) - 48)) + ((ar 0) 2)) - 48)) + ((ar 0) 1)) - 48)]) (rest := []) (v := zX6_tonsOf (((4 * (((4 * (((4 * (((4 * (((4 * ((0 + ((ar 0) 10)) - 48)) + ((ar 0) 9)) - 48)) + ((ar 0) 6)) - 48)) + ((ar 0) 5)) - 48)) + ((ar 0) 2)) - 48)) + ((ar 0) 1)) - 48)) (pc' := 178) F E (fun _ _ => jP_nil _ _) (fun H locs hI hp => jrun_S F E (c_X6_tonsOf l D cI cZ z (((4 * (((4 * (((4 * (((4 * (((4 * ((0 + ((ar 0) 10)) - 48)) + ((ar 0) 9)) - 48)) + ((ar 0) 6)) - 48)) + ((ar 0) 5)) - 48)) + ((ar 0) 2)) - 48)) + ((ar 0) 1)) - 48)) kw_709 kw_710 rfl kw_711 kw_7 oX6_tonsOf ⟨⟨rfl, rfl⟩, ⟨Nat.le_of_ble_eq_true rfl, Nat.le_of_ble_eq_true rfl⟩, Nat.zero_le _, Nat.zero_le _⟩ rfl (Nat.le_of_ble_eq_true rfl) dX6_hold_175 hp) rfl ?_
      exact J_iretW ((upd (upd (upd (upd (upd (upd (upd (upd (upd (upd (upd (upd (upd (upd (upd (upd sc 5 0) 5 ((0 + ((ar 0) 10)) - 48)) 5 (((4 * ((0 + ((ar 0) 10)) - 48)) + ((ar 0) 9)) - 48)) 5 (((4 * (((4 * ((0 + ((ar 0) 10)) - 48)) + ((ar 0) 9)) - 48)) + ((ar 0) 6)) - 48)) 5 (((4 * (((4 * (((4 * ((0 + ((ar 0) 10)) - 48)) + ((ar 0) 9)) - 48)) + ((ar 0) 6)) - 48)) + ((ar 0) 5)) - 48)) 5 (((4 * (((4 * (((4 * (((4 * ((0 + ((ar 0) 10)) - 48)) + ((ar 0) 9)) - 48)) + ((ar 0) 6)) - 48)) + ((ar 0) 5)) - 48)) + ((ar 0) 2)) - 48)) 5 (((4 * (((4 * (((4 * (((4 * (((4 * ((0 + ((ar 0) 10)) - 48)) + ((ar 0) 9)) - 48)) + ((ar 0) 6)) - 48)) + ((ar 0) 5)) - 48)) + ((ar 0) 2)) - 48)) + ((ar 0) 1)) - 48)) 3 (((ar 0) 12) - 48)) 4 (((ar 0) 13) - 48)) 6 0) 7 0) 8 0) 16 0) 2 1) 9 ((sc 9) + 1)) 1 0), (va_up (va_up (va_up ar 1 (upd (ar 1) 2 (zX6_kindBy ((ar 0) 8)))) 1 (upd (upd (ar 1) 2 (zX6_kindBy ((ar 0) 8))) 1 (zX6_kindBy ((ar 0) 4)))) 1 (upd (upd (upd (ar 1) 2 (zX6_kindBy ((ar 0) 8))) 1 (zX6_kindBy ((ar 0) 4))) 0 (zX6_kindBy ((ar 0) 0)))), hs) F hR dX6_hold_178 rfl rfl (by show _ = fX6_hold sc ar hs; unfold fX6_hold; rw [if_pos c6, if_pos c15])
    · refine J_bipush (pc' := 20) (v := (-103)) F dX6_hold_18 (by decide) rfl ?_
      exact J_iretW (sc, ar, hs) F hR dX6_hold_20 rfl rfl (by show _ = fX6_hold sc ar hs; unfold fX6_hold; rw [if_pos c6, if_neg c15])
def fX6_ground (sc : Nat → Int32) (ar : Nat → Nat → Int32) (hs : Int64) (x1 : Int32) : Int32 × uM := if (sc 2) = 0 then ((-103), (sc, ar, hs)) else (if x1 = 0 then (sc 8, ((upd sc 8 0), ar, hs)) else (sc 8, ((upd sc 8 1), ar, hs)))
abbrev rm_X6_ground : Room := { frames := 0, cells := 0, slots := 0, locals := 0 }
set_option maxHeartbeats 4000000 in
set_option maxRecDepth 100000 in
theorem c_X6_ground (l : Launch) (D : va_G) (cI cZ : ClassId) (z : Nat → Nat) (g : Nat → Nat) (sc : Nat → Int32) (ar : Nat → Nat → Int32) (hs : Int64) (x1 : Int32)  : cWi l yX6_ground ww_X6_ground rm_X6_ground D cI cZ z (fM cI cZ g) (wM cI cZ g sc ar hs) [.ref (g 0), .int x1] (fun r u => (r, u) = fX6_ground sc ar hs x1) := by
  refine cWi.of (cc := cX6_ground) (maxL := 3) (rt := .int) (by decide) rfl (Nat.le_of_ble_eq_true rfl) (fun X F E hA hR => ?_)
  refine J_lv [0, 1] (lv' := [(0, .ref (g 0)), (1, .int x1)]) rfl ?_
  refine J_aload_n (pc' := 1) (q := 0) F dX6_ground_0 rfl rfl ?_
  refine M_get_0_2 (v := sc 2) (pc' := 4) F dX6_ground_1 kw_581 rfl rfl ?_
  refine J_if_ne (tgt := 10) (pc' := 7) F dX6_ground_4 (by decide) rfl (fun c4 => ?_) (fun c4 => ?_)
  · refine J_aload_n (pc' := 11) (q := 0) F dX6_ground_10 rfl rfl ?_
    refine M_get_0_8 (v := sc 8) (pc' := 14) F dX6_ground_11 kw_587 rfl rfl ?_
    refine J_istore_n (pc' := 15) [1, 2, 0] [(0, .ref (g 0)), (1, .int x1), (2, .int (sc 8))] F dX6_ground_14 rfl (jL_of E (show 2 < 3 by decide)) rfl rfl ?_
    refine J_aload_n (pc' := 16) (q := 0) F dX6_ground_15 rfl rfl ?_
    refine J_iload_n (pc' := 17) (q := 1) F dX6_ground_16 rfl rfl ?_
    refine J_if_eq (tgt := 24) (pc' := 20) F dX6_ground_17 (by decide) rfl (fun c17 => ?_) (fun c17 => ?_)
    · refine J_iconst (pc' := 25) (v := 0) F dX6_ground_24 (by decide) rfl ?_
      refine M_put_0_8 (pc' := 28) F dX6_ground_25 kw_587 rfl ?_
      refine J_iload_n (pc' := 29) (q := 2) F dX6_ground_28 rfl rfl ?_
      exact J_iretW ((upd sc 8 0), ar, hs) F hR dX6_ground_29 rfl rfl (by show _ = fX6_ground sc ar hs x1; unfold fX6_ground; rw [if_neg c4, if_pos c17])
    · refine J_iconst (pc' := 21) (v := 1) F dX6_ground_20 (by decide) rfl ?_
      refine J_goto (tgt := 25) F dX6_ground_21 (by decide) ?_
      refine M_put_0_8 (pc' := 28) F dX6_ground_25 kw_587 rfl ?_
      refine J_iload_n (pc' := 29) (q := 2) F dX6_ground_28 rfl rfl ?_
      exact J_iretW ((upd sc 8 1), ar, hs) F hR dX6_ground_29 rfl rfl (by show _ = fX6_ground sc ar hs x1; unfold fX6_ground; rw [if_neg c4, if_neg c17])
  · refine J_bipush (pc' := 9) (v := (-103)) F dX6_ground_7 (by decide) rfl ?_
    exact J_iretW (sc, ar, hs) F hR dX6_ground_9 rfl rfl (by show _ = fX6_ground sc ar hs x1; unfold fX6_ground; rw [if_pos c4])
def fX6_act (sc : Nat → Int32) (ar : Nat → Nat → Int32) (hs : Int64) (x1 : Int32) : Int32 × uM := if (sc 2) = 0 then ((-101), (sc, ar, hs)) else (if (zX6_isAct x1) = 0 then ((-101), (sc, ar, hs)) else (if (zX6_goes sc ar hs (sc 5) x1 (zX6_bendNow sc ar hs)) = (-1) then ((-103), (sc, ar, hs)) else (if (6 : Int32) ≤ x1 then ((sc 7) + (zX6_lasts (upd (upd sc 5 (zX6_goes sc ar hs (sc 5) x1 (zX6_bendNow sc ar hs))) 6 ((sc 6) + 0)) ar hs x1), ((upd (upd (upd sc 5 (zX6_goes sc ar hs (sc 5) x1 (zX6_bendNow sc ar hs))) 6 ((sc 6) + 0)) 7 ((sc 7) + (zX6_lasts (upd (upd sc 5 (zX6_goes sc ar hs (sc 5) x1 (zX6_bendNow sc ar hs))) 6 ((sc 6) + 0)) ar hs x1))), ar, hs)) else ((sc 7) + (zX6_lasts (upd (upd sc 5 (zX6_goes sc ar hs (sc 5) x1 (zX6_bendNow sc ar hs))) 6 ((sc 6) + 1)) ar hs x1), ((upd (upd (upd sc 5 (zX6_goes sc ar hs (sc 5) x1 (zX6_bendNow sc ar hs))) 6 ((sc 6) + 1)) 7 ((sc 7) + (zX6_lasts (upd (upd sc 5 (zX6_goes sc ar hs (sc 5) x1 (zX6_bendNow sc ar hs))) 6 ((sc 6) + 1)) ar hs x1))), ar, hs)))))
abbrev rm_X6_act : Room := { frames := 4, cells := 0, slots := 0, locals := 87 }
set_option maxHeartbeats 4000000 in
set_option maxRecDepth 100000 in
theorem c_X6_act (l : Launch) (D : va_G) (cI cZ : ClassId) (z : Nat → Nat) (g : Nat → Nat) (sc : Nat → Int32) (ar : Nat → Nat → Int32) (hs : Int64) (x1 : Int32)  : cWi l yX6_act ww_X6_act rm_X6_act D cI cZ z (fM cI cZ g) (wM cI cZ g sc ar hs) [.ref (g 0), .int x1] (fun r u => (r, u) = fX6_act sc ar hs x1) := by
  refine cWi.of (cc := cX6_act) (maxL := 3) (rt := .int) (by decide) rfl (Nat.le_of_ble_eq_true rfl) (fun X F E hA hR => ?_)
  refine J_lv [0, 1] (lv' := [(0, .ref (g 0)), (1, .int x1)]) rfl ?_
  refine J_aload_n (pc' := 1) (q := 0) F dX6_act_0 rfl rfl ?_
  refine M_get_0_2 (v := sc 2) (pc' := 4) F dX6_act_1 kw_581 rfl rfl ?_
  refine J_if_eq (tgt := 14) (pc' := 7) F dX6_act_4 (by decide) rfl (fun c4 => ?_) (fun c4 => ?_)
  · refine J_bipush (pc' := 16) (v := (-101)) F dX6_act_14 (by decide) rfl ?_
    exact J_iretW (sc, ar, hs) F hR dX6_act_16 rfl rfl (by show _ = fX6_act sc ar hs x1; unfold fX6_act; rw [if_pos c4])
  · refine J_iload_n (pc' := 8) (q := 1) F dX6_act_7 rfl rfl ?_
    refine J_goRie (wc := []) (av := [.int x1]) (rest := []) (v := zX6_isAct x1) (pc' := 11) F E (fun _ _ => jP_nil _ _) (fun H locs hI hp => jrun_S F E (c_X6_isAct l D cI cZ z x1) kw_766 kw_767 rfl kw_768 kw_7 oX6_isAct ⟨⟨rfl, rfl⟩, ⟨Nat.le_of_ble_eq_true rfl, Nat.le_of_ble_eq_true rfl⟩, Nat.zero_le _, Nat.zero_le _⟩ rfl (Nat.le_of_ble_eq_true rfl) dX6_act_8 hp) rfl ?_
    refine J_if_ne (tgt := 17) (pc' := 14) F dX6_act_11 (by decide) rfl (fun c11 => ?_) (fun c11 => ?_)
    · refine J_aload_n (pc' := 18) (q := 0) F dX6_act_17 rfl rfl ?_
      refine J_aload_n (pc' := 19) (q := 0) F dX6_act_18 rfl rfl ?_
      refine M_get_0_5 (v := sc 5) (pc' := 22) F dX6_act_19 kw_584 rfl rfl ?_
      refine J_iload_n (pc' := 23) (q := 1) F dX6_act_22 rfl rfl ?_
      refine J_aload_n (pc' := 24) (q := 0) F dX6_act_23 rfl rfl ?_
      refine J_goRie (wc := (wM cI cZ g sc ar hs)) (av := [.ref (g 0)]) (rest := [.int x1, .int (sc 5), .ref (g 0)]) (v := zX6_bendNow sc ar hs) (pc' := 27) F E (fun _ h => h) (fun H locs hI hp => jrun_V (As := []) 0 F E (c_X6_bendNow l D cI cZ z g sc ar hs ) kw_754 kw_756 kp_13 rfl kw_757 kw_7 oX6_bendNow ⟨⟨rfl, rfl⟩, ⟨Nat.le_of_ble_eq_true rfl, Nat.le_of_ble_eq_true rfl⟩, Nat.zero_le _, Nat.zero_le _⟩ rfl rfl (Nat.le_of_ble_eq_true rfl) dX6_act_24 rfl rfl (jI_P E hI) hp) rfl ?_
      refine J_goRie (wc := (wM cI cZ g sc ar hs)) (av := [.ref (g 0), .int (sc 5), .int x1, .int (zX6_bendNow sc ar hs)]) (rest := []) (v := zX6_goes sc ar hs (sc 5) x1 (zX6_bendNow sc ar hs)) (pc' := 30) F E (fun _ h => h) (fun H locs hI hp => jrun_V (As := [.int (sc 5), .int x1, .int (zX6_bendNow sc ar hs)]) 0 F E (c_X6_goes l D cI cZ z g sc ar hs (sc 5) x1 (zX6_bendNow sc ar hs)) kw_770 kw_772 kp_15 rfl kw_773 kw_7 oX6_goes ⟨⟨rfl, rfl⟩, ⟨Nat.le_of_ble_eq_true rfl, Nat.le_of_ble_eq_true rfl⟩, Nat.zero_le _, Nat.zero_le _⟩ rfl rfl (Nat.le_of_ble_eq_true rfl) dX6_act_27 rfl rfl (jI_P E hI) hp) rfl ?_
      refine J_istore_n (pc' := 31) [1, 2, 0] [(0, .ref (g 0)), (1, .int x1), (2, .int (zX6_goes sc ar hs (sc 5) x1 (zX6_bendNow sc ar hs)))] F dX6_act_30 rfl (jL_of E (show 2 < 3 by decide)) rfl rfl ?_
      refine J_iload_n (pc' := 32) (q := 2) F dX6_act_31 rfl rfl ?_
      refine J_iconst (pc' := 33) (v := (-1)) F dX6_act_32 (by decide) rfl ?_
      refine J_icmp_ne (tgt := 39) (pc' := 36) F dX6_act_33 (by decide) rfl (fun c33 => ?_) (fun c33 => ?_)
      · refine J_aload_n (pc' := 40) (q := 0) F dX6_act_39 rfl rfl ?_
        refine J_iload_n (pc' := 41) (q := 2) F dX6_act_40 rfl rfl ?_
        refine M_put_0_5 (pc' := 44) F dX6_act_41 kw_584 rfl ?_
        refine J_aload_n (pc' := 45) (q := 0) F dX6_act_44 rfl rfl ?_
        refine J_dup (pc' := 46) F dX6_act_45 rfl rfl ?_
        refine M_get_0_6 (v := sc 6) (pc' := 49) F dX6_act_46 kw_585 rfl rfl ?_
        refine J_iload_n (pc' := 50) (q := 1) F dX6_act_49 rfl rfl ?_
        refine J_bipush (pc' := 52) (v := 6) F dX6_act_50 (by decide) rfl ?_
        refine J_icmp_ge (tgt := 59) (pc' := 55) F dX6_act_52 (by decide) rfl (fun c52 => ?_) (fun c52 => ?_)
        · refine J_iconst (pc' := 60) (v := 0) F dX6_act_59 (by decide) rfl ?_
          refine J_iadd (pc' := 61) F dX6_act_60 rfl ?_
          refine M_put_0_6 (pc' := 64) F dX6_act_61 kw_585 rfl ?_
          refine J_aload_n (pc' := 65) (q := 0) F dX6_act_64 rfl rfl ?_
          refine J_dup (pc' := 66) F dX6_act_65 rfl rfl ?_
          refine M_get_0_7 (v := sc 7) (pc' := 69) F dX6_act_66 kw_586 rfl rfl ?_
          refine J_aload_n (pc' := 70) (q := 0) F dX6_act_69 rfl rfl ?_
          refine J_iload_n (pc' := 71) (q := 1) F dX6_act_70 rfl rfl ?_
          refine J_goRie (wc := (wM cI cZ g (upd (upd sc 5 (zX6_goes sc ar hs (sc 5) x1 (zX6_bendNow sc ar hs))) 6 ((sc 6) + 0)) ar hs)) (av := [.ref (g 0), .int x1]) (rest := [.int (sc 7), .ref (g 0)]) (v := zX6_lasts (upd (upd sc 5 (zX6_goes sc ar hs (sc 5) x1 (zX6_bendNow sc ar hs))) 6 ((sc 6) + 0)) ar hs x1) (pc' := 74) F E (fun _ h => h) (fun H locs hI hp => jrun_V (As := [.int x1]) 0 F E (c_X6_lasts l D cI cZ z g (upd (upd sc 5 (zX6_goes sc ar hs (sc 5) x1 (zX6_bendNow sc ar hs))) 6 ((sc 6) + 0)) ar hs x1 (isAct_vp c11)) kw_782 kw_784 kp_17 rfl kw_785 kw_7 oX6_lasts ⟨⟨rfl, rfl⟩, ⟨Nat.le_of_ble_eq_true rfl, Nat.le_of_ble_eq_true rfl⟩, Nat.zero_le _, Nat.zero_le _⟩ rfl rfl (Nat.le_of_ble_eq_true rfl) dX6_act_71 rfl rfl (jI_P E hI) hp) rfl ?_
          refine J_iadd (pc' := 75) F dX6_act_74 rfl ?_
          refine M_put_0_7 (pc' := 78) F dX6_act_75 kw_586 rfl ?_
          refine J_aload_n (pc' := 79) (q := 0) F dX6_act_78 rfl rfl ?_
          refine M_get_0_7 (v := (sc 7) + (zX6_lasts (upd (upd sc 5 (zX6_goes sc ar hs (sc 5) x1 (zX6_bendNow sc ar hs))) 6 ((sc 6) + 0)) ar hs x1)) (pc' := 82) F dX6_act_79 kw_586 rfl rfl ?_
          exact J_iretW ((upd (upd (upd sc 5 (zX6_goes sc ar hs (sc 5) x1 (zX6_bendNow sc ar hs))) 6 ((sc 6) + 0)) 7 ((sc 7) + (zX6_lasts (upd (upd sc 5 (zX6_goes sc ar hs (sc 5) x1 (zX6_bendNow sc ar hs))) 6 ((sc 6) + 0)) ar hs x1))), ar, hs) F hR dX6_act_82 rfl rfl (by show _ = fX6_act sc ar hs x1; unfold fX6_act; rw [if_neg c4, if_neg c11, if_neg c33, if_pos c52])
        · refine J_iconst (pc' := 56) (v := 1) F dX6_act_55 (by decide) rfl ?_
          refine J_goto (tgt := 60) F dX6_act_56 (by decide) ?_
          refine J_iadd (pc' := 61) F dX6_act_60 rfl ?_
          refine M_put_0_6 (pc' := 64) F dX6_act_61 kw_585 rfl ?_
          refine J_aload_n (pc' := 65) (q := 0) F dX6_act_64 rfl rfl ?_
          refine J_dup (pc' := 66) F dX6_act_65 rfl rfl ?_
          refine M_get_0_7 (v := sc 7) (pc' := 69) F dX6_act_66 kw_586 rfl rfl ?_
          refine J_aload_n (pc' := 70) (q := 0) F dX6_act_69 rfl rfl ?_
          refine J_iload_n (pc' := 71) (q := 1) F dX6_act_70 rfl rfl ?_
          refine J_goRie (wc := (wM cI cZ g (upd (upd sc 5 (zX6_goes sc ar hs (sc 5) x1 (zX6_bendNow sc ar hs))) 6 ((sc 6) + 1)) ar hs)) (av := [.ref (g 0), .int x1]) (rest := [.int (sc 7), .ref (g 0)]) (v := zX6_lasts (upd (upd sc 5 (zX6_goes sc ar hs (sc 5) x1 (zX6_bendNow sc ar hs))) 6 ((sc 6) + 1)) ar hs x1) (pc' := 74) F E (fun _ h => h) (fun H locs hI hp => jrun_V (As := [.int x1]) 0 F E (c_X6_lasts l D cI cZ z g (upd (upd sc 5 (zX6_goes sc ar hs (sc 5) x1 (zX6_bendNow sc ar hs))) 6 ((sc 6) + 1)) ar hs x1 (isAct_vp c11)) kw_782 kw_784 kp_17 rfl kw_785 kw_7 oX6_lasts ⟨⟨rfl, rfl⟩, ⟨Nat.le_of_ble_eq_true rfl, Nat.le_of_ble_eq_true rfl⟩, Nat.zero_le _, Nat.zero_le _⟩ rfl rfl (Nat.le_of_ble_eq_true rfl) dX6_act_71 rfl rfl (jI_P E hI) hp) rfl ?_
          refine J_iadd (pc' := 75) F dX6_act_74 rfl ?_
          refine M_put_0_7 (pc' := 78) F dX6_act_75 kw_586 rfl ?_
          refine J_aload_n (pc' := 79) (q := 0) F dX6_act_78 rfl rfl ?_
          refine M_get_0_7 (v := (sc 7) + (zX6_lasts (upd (upd sc 5 (zX6_goes sc ar hs (sc 5) x1 (zX6_bendNow sc ar hs))) 6 ((sc 6) + 1)) ar hs x1)) (pc' := 82) F dX6_act_79 kw_586 rfl rfl ?_
          exact J_iretW ((upd (upd (upd sc 5 (zX6_goes sc ar hs (sc 5) x1 (zX6_bendNow sc ar hs))) 6 ((sc 6) + 1)) 7 ((sc 7) + (zX6_lasts (upd (upd sc 5 (zX6_goes sc ar hs (sc 5) x1 (zX6_bendNow sc ar hs))) 6 ((sc 6) + 1)) ar hs x1))), ar, hs) F hR dX6_act_82 rfl rfl (by show _ = fX6_act sc ar hs x1; unfold fX6_act; rw [if_neg c4, if_neg c11, if_neg c33, if_neg c52])
      · refine J_bipush (pc' := 38) (v := (-103)) F dX6_act_36 (by decide) rfl ?_
        exact J_iretW (sc, ar, hs) F hR dX6_act_38 rfl rfl (by show _ = fX6_act sc ar hs x1; unfold fX6_act; rw [if_neg c4, if_neg c11, if_pos c33])
    · refine J_bipush (pc' := 16) (v := (-101)) F dX6_act_14 (by decide) rfl ?_
      exact J_iretW (sc, ar, hs) F hR dX6_act_16 rfl rfl (by show _ = fX6_act sc ar hs x1; unfold fX6_act; rw [if_neg c4, if_pos c11])
def fX6_string (sc : Nat → Int32) (ar : Nat → Nat → Int32) (hs : Int64) (x1 : Int32) : Int32 × uM := if (zX6_in ((x1 : Int32).toInt64) 0 12) = 0 then ((-102), (sc, ar, hs)) else (if (sc 16) = 4 then ((-104), (sc, ar, hs)) else ((sc 16) + 1, ((upd sc 16 ((sc 16) + 1)), (va_up ar 6 (upd (ar 6) (((sc 16) : Int32).toNatClampNeg) x1)), hs)))
abbrev rm_X6_string : Room := { frames := 1, cells := 0, slots := 0, locals := 25 }
set_option maxHeartbeats 4000000 in
set_option maxRecDepth 100000 in
theorem c_X6_string (l : Launch) (D : va_G) (cI cZ : ClassId) (z : Nat → Nat) (g : Nat → Nat) (sc : Nat → Int32) (ar : Nat → Nat → Int32) (hs : Int64) (x1 : Int32) (hst : ∃ k, k ≤ 4 ∧ sc 16 = nI k) : cWi l yX6_string ww_X6_string rm_X6_string D cI cZ z (fM cI cZ g) (wM cI cZ g sc ar hs) [.ref (g 0), .int x1] (fun r u => (r, u) = fX6_string sc ar hs x1) := by
  refine cWi.of (cc := cX6_string) (maxL := 2) (rt := .int) (by decide) rfl (Nat.le_of_ble_eq_true rfl) (fun X F E hA hR => ?_)
  refine J_lv [0, 1] (lv' := [(0, .ref (g 0)), (1, .int x1)]) rfl ?_
  refine J_iload_n (pc' := 1) (q := 1) F dX6_string_0 rfl rfl ?_
  refine J_i2l (pc' := 2) (v := (x1 : Int32).toInt64) F dX6_string_1 rfl rfl ?_
  refine J_lconst (pc' := 3) (v := 0) F dX6_string_2 (by decide) rfl ?_
  refine J_ldc2 (pc' := 6) (v := 12) F dX6_string_3 kw_822 rfl ?_
  refine J_goRie (wc := []) (av := [.long ((x1 : Int32).toInt64), .long 0, .long 12]) (rest := []) (v := zX6_in ((x1 : Int32).toInt64) 0 12) (pc' := 9) F E (fun _ _ => jP_nil _ _) (fun H locs hI hp => jrun_S F E (c_X6_in l D cI cZ z ((x1 : Int32).toInt64) 0 12) kw_682 kw_683 rfl kw_684 kw_7 oX6_in ⟨⟨rfl, rfl⟩, ⟨Nat.le_of_ble_eq_true rfl, Nat.le_of_ble_eq_true rfl⟩, Nat.zero_le _, Nat.zero_le _⟩ rfl (Nat.le_of_ble_eq_true rfl) dX6_string_6 hp) rfl ?_
  refine J_if_ne (tgt := 15) (pc' := 12) F dX6_string_9 (by decide) rfl (fun c9 => ?_) (fun c9 => ?_)
  · refine J_aload_n (pc' := 16) (q := 0) F dX6_string_15 rfl rfl ?_
    refine M_get_0_16 (v := sc 16) (pc' := 19) F dX6_string_16 kw_595 rfl rfl ?_
    refine J_iconst (pc' := 20) (v := 4) F dX6_string_19 (by decide) rfl ?_
    refine J_icmp_ne (tgt := 26) (pc' := 23) F dX6_string_20 (by decide) rfl (fun c20 => ?_) (fun c20 => ?_)
    · refine J_aload_n (pc' := 27) (q := 0) F dX6_string_26 rfl rfl ?_
      refine M_get_0_17 (pc' := 30) F dX6_string_27 kw_596 rfl ?_
      refine J_aload_n (pc' := 31) (q := 0) F dX6_string_30 rfl rfl ?_
      refine M_get_0_16 (v := sc 16) (pc' := 34) F dX6_string_31 kw_595 rfl rfl ?_
      refine J_iload_n (pc' := 35) (q := 1) F dX6_string_34 rfl rfl ?_
      refine M_st_6 (f := ar 6) (q := ((sc 16) : Int32).toNatClampNeg) (pc' := 36) F dX6_string_35 rfl rfl (cnt_in (by decide) hst c20) rfl ?_
      refine J_aload_n (pc' := 37) (q := 0) F dX6_string_36 rfl rfl ?_
      refine J_dup (pc' := 38) F dX6_string_37 rfl rfl ?_
      refine M_get_0_16 (v := sc 16) (pc' := 41) F dX6_string_38 kw_595 rfl rfl ?_
      refine J_iconst (pc' := 42) (v := 1) F dX6_string_41 (by decide) rfl ?_
      refine J_iadd (pc' := 43) F dX6_string_42 rfl ?_
      refine M_put_0_16 (pc' := 46) F dX6_string_43 kw_595 rfl ?_
      refine J_aload_n (pc' := 47) (q := 0) F dX6_string_46 rfl rfl ?_
      refine M_get_0_16 (v := (sc 16) + 1) (pc' := 50) F dX6_string_47 kw_595 rfl rfl ?_
      exact J_iretW ((upd sc 16 ((sc 16) + 1)), (va_up ar 6 (upd (ar 6) (((sc 16) : Int32).toNatClampNeg) x1)), hs) F hR dX6_string_50 rfl rfl (by show _ = fX6_string sc ar hs x1; unfold fX6_string; rw [if_neg c9, if_neg c20])
    · refine J_bipush (pc' := 25) (v := (-104)) F dX6_string_23 (by decide) rfl ?_
      exact J_iretW (sc, ar, hs) F hR dX6_string_25 rfl rfl (by show _ = fX6_string sc ar hs x1; unfold fX6_string; rw [if_neg c9, if_pos c20])
  · refine J_bipush (pc' := 14) (v := (-102)) F dX6_string_12 (by decide) rfl ?_
    exact J_iretW (sc, ar, hs) F hR dX6_string_14 rfl rfl (by show _ = fX6_string sc ar hs x1; unfold fX6_string; rw [if_pos c9])
def fX6_forget (sc : Nat → Int32) (ar : Nat → Nat → Int32) (hs : Int64) : Int32 × uM := (sc 16, ((upd sc 16 0), ar, hs))
abbrev rm_X6_forget : Room := { frames := 0, cells := 0, slots := 0, locals := 0 }
set_option maxHeartbeats 4000000 in
set_option maxRecDepth 100000 in
theorem c_X6_forget (l : Launch) (D : va_G) (cI cZ : ClassId) (z : Nat → Nat) (g : Nat → Nat) (sc : Nat → Int32) (ar : Nat → Nat → Int32) (hs : Int64)   : cWi l yX6_forget ww_X6_forget rm_X6_forget D cI cZ z (fM cI cZ g) (wM cI cZ g sc ar hs) [.ref (g 0)] (fun r u => (r, u) = fX6_forget sc ar hs) := by
  refine cWi.of (cc := cX6_forget) (maxL := 2) (rt := .int) (by decide) rfl (Nat.le_of_ble_eq_true rfl) (fun X F E hA hR => ?_)
  refine J_lv [0] (lv' := [(0, .ref (g 0))]) rfl ?_
  refine J_aload_n (pc' := 1) (q := 0) F dX6_forget_0 rfl rfl ?_
  refine M_get_0_16 (v := sc 16) (pc' := 4) F dX6_forget_1 kw_595 rfl rfl ?_
  refine J_istore_n (pc' := 5) [1, 0] [(0, .ref (g 0)), (1, .int (sc 16))] F dX6_forget_4 rfl (jL_of E (show 1 < 2 by decide)) rfl rfl ?_
  refine J_aload_n (pc' := 6) (q := 0) F dX6_forget_5 rfl rfl ?_
  refine J_iconst (pc' := 7) (v := 0) F dX6_forget_6 (by decide) rfl ?_
  refine M_put_0_16 (pc' := 10) F dX6_forget_7 kw_595 rfl ?_
  refine J_iload_n (pc' := 11) (q := 1) F dX6_forget_10 rfl rfl ?_
  exact J_iretW ((upd sc 16 0), ar, hs) F hR dX6_forget_11 rfl rfl rfl
def fX6_copy_k (sc : Nat → Int32) (ar : Nat → Nat → Int32) (hs : Int64) : uM := (sc, (va_up (va_up (va_up (va_up ar 9 (upd (ar 9) 0 ((ar 6) 0))) 9 (upd (upd (ar 9) 0 ((ar 6) 0)) 1 ((ar 6) 1))) 9 (upd (upd (upd (ar 9) 0 ((ar 6) 0)) 1 ((ar 6) 1)) 2 ((ar 6) 2))) 9 (upd (upd (upd (upd (ar 9) 0 ((ar 6) 0)) 1 ((ar 6) 1)) 2 ((ar 6) 2)) 3 ((ar 6) 3))), hs)
abbrev rm_X6_copy_k : Room := { frames := 0, cells := 0, slots := 0, locals := 0 }
set_option maxHeartbeats 4000000 in
set_option maxRecDepth 100000 in
theorem c_X6_copy_k (l : Launch) (D : va_G) (cI cZ : ClassId) (z : Nat → Nat) (g : Nat → Nat) (sc : Nat → Int32) (ar : Nat → Nat → Int32) (hs : Int64)   : cWv l yX6_copy ww_X6_copy rm_X6_copy_k D cI cZ z (fM cI cZ g) (wM cI cZ g sc ar hs) [.ref (g 7), .ref (g 10)] (fun u => u = fX6_copy_k sc ar hs) := by
  refine cWv.of (cc := cX6_copy) (maxL := 3) (by decide) rfl (Nat.le_of_ble_eq_true rfl) (fun X F E hA hR => ?_)
  refine J_lv [0, 1] (lv' := [(0, .ref (g 7)), (1, .ref (g 10))]) rfl ?_
  refine J_iconst (pc' := 1) (v := 0) F dX6_copy_0 (by decide) rfl ?_
  refine J_istore_n (pc' := 2) [1, 2, 0] [(0, .ref (g 7)), (1, .ref (g 10)), (2, .int 0)] F dX6_copy_1 rfl (jL_of E (show 2 < 3 by decide)) rfl rfl ?_
  refine J_iload_n (pc' := 3) (q := 2) F dX6_copy_2 rfl rfl ?_
  refine J_aload_n (pc' := 4) (q := 0) F dX6_copy_3 rfl rfl ?_
  refine M_len_6 (pc' := 5) F dX6_copy_4 rfl ?_
  refine J_icmp_ge (tgt := 20) (pc' := 8) F dX6_copy_5 (by decide) rfl (fun c9 => absurd c9 (by decide)) (fun _ => ?_)
  refine J_aload_n (pc' := 9) (q := 1) F dX6_copy_8 rfl rfl ?_
  refine J_iload_n (pc' := 10) (q := 2) F dX6_copy_9 rfl rfl ?_
  refine J_aload_n (pc' := 11) (q := 0) F dX6_copy_10 rfl rfl ?_
  refine J_iload_n (pc' := 12) (q := 2) F dX6_copy_11 rfl rfl ?_
  refine M_ld_6 (f := ar 6) (q := 0) (pc' := 13) F dX6_copy_12 rfl rfl (by unfold vp_in; decide) rfl ?_
  refine M_st_9 (f := ar 9) (q := 0) (pc' := 14) F dX6_copy_13 rfl rfl (by unfold vp_in; decide) rfl ?_
  refine J_iinc (v := 1) (q := 2) (pc' := 17) [1, 2, 0] [(0, .ref (g 7)), (1, .ref (g 10)), (2, .int 1)] F dX6_copy_14 rfl (by decide) (jL_of E (show 2 < 3 by decide)) rfl rfl ?_
  refine J_goto (tgt := 2) F dX6_copy_17 (by decide) ?_
  refine J_iload_n (pc' := 3) (q := 2) F dX6_copy_2 rfl rfl ?_
  refine J_aload_n (pc' := 4) (q := 0) F dX6_copy_3 rfl rfl ?_
  refine M_len_6 (pc' := 5) F dX6_copy_4 rfl ?_
  refine J_icmp_ge (tgt := 20) (pc' := 8) F dX6_copy_5 (by decide) rfl (fun c9 => absurd c9 (by decide)) (fun _ => ?_)
  refine J_aload_n (pc' := 9) (q := 1) F dX6_copy_8 rfl rfl ?_
  refine J_iload_n (pc' := 10) (q := 2) F dX6_copy_9 rfl rfl ?_
  refine J_aload_n (pc' := 11) (q := 0) F dX6_copy_10 rfl rfl ?_
  refine J_iload_n (pc' := 12) (q := 2) F dX6_copy_11 rfl rfl ?_
  refine M_ld_6 (f := ar 6) (q := 1) (pc' := 13) F dX6_copy_12 rfl rfl (by unfold vp_in; decide) rfl ?_
  refine M_st_9 (f := upd (ar 9) 0 ((ar 6) 0)) (q := 1) (pc' := 14) F dX6_copy_13 rfl rfl (by unfold vp_in; decide) rfl ?_
  refine J_iinc (v := 2) (q := 2) (pc' := 17) [1, 2, 0] [(0, .ref (g 7)), (1, .ref (g 10)), (2, .int 2)] F dX6_copy_14 rfl (by decide) (jL_of E (show 2 < 3 by decide)) rfl rfl ?_
  refine J_goto (tgt := 2) F dX6_copy_17 (by decide) ?_
  refine J_iload_n (pc' := 3) (q := 2) F dX6_copy_2 rfl rfl ?_
  refine J_aload_n (pc' := 4) (q := 0) F dX6_copy_3 rfl rfl ?_
  refine M_len_6 (pc' := 5) F dX6_copy_4 rfl ?_
  refine J_icmp_ge (tgt := 20) (pc' := 8) F dX6_copy_5 (by decide) rfl (fun c9 => absurd c9 (by decide)) (fun _ => ?_)
  refine J_aload_n (pc' := 9) (q := 1) F dX6_copy_8 rfl rfl ?_
  refine J_iload_n (pc' := 10) (q := 2) F dX6_copy_9 rfl rfl ?_
  refine J_aload_n (pc' := 11) (q := 0) F dX6_copy_10 rfl rfl ?_
  refine J_iload_n (pc' := 12) (q := 2) F dX6_copy_11 rfl rfl ?_
  refine M_ld_6 (f := ar 6) (q := 2) (pc' := 13) F dX6_copy_12 rfl rfl (by unfold vp_in; decide) rfl ?_
  refine M_st_9 (f := upd (upd (ar 9) 0 ((ar 6) 0)) 1 ((ar 6) 1)) (q := 2) (pc' := 14) F dX6_copy_13 rfl rfl (by unfold vp_in; decide) rfl ?_
  refine J_iinc (v := 3) (q := 2) (pc' := 17) [1, 2, 0] [(0, .ref (g 7)), (1, .ref (g 10)), (2, .int 3)] F dX6_copy_14 rfl (by decide) (jL_of E (show 2 < 3 by decide)) rfl rfl ?_
  refine J_goto (tgt := 2) F dX6_copy_17 (by decide) ?_
  refine J_iload_n (pc' := 3) (q := 2) F dX6_copy_2 rfl rfl ?_
  refine J_aload_n (pc' := 4) (q := 0) F dX6_copy_3 rfl rfl ?_
  refine M_len_6 (pc' := 5) F dX6_copy_4 rfl ?_
  refine J_icmp_ge (tgt := 20) (pc' := 8) F dX6_copy_5 (by decide) rfl (fun c9 => absurd c9 (by decide)) (fun _ => ?_)
  refine J_aload_n (pc' := 9) (q := 1) F dX6_copy_8 rfl rfl ?_
  refine J_iload_n (pc' := 10) (q := 2) F dX6_copy_9 rfl rfl ?_
  refine J_aload_n (pc' := 11) (q := 0) F dX6_copy_10 rfl rfl ?_
  refine J_iload_n (pc' := 12) (q := 2) F dX6_copy_11 rfl rfl ?_
  refine M_ld_6 (f := ar 6) (q := 3) (pc' := 13) F dX6_copy_12 rfl rfl (by unfold vp_in; decide) rfl ?_
  refine M_st_9 (f := upd (upd (upd (ar 9) 0 ((ar 6) 0)) 1 ((ar 6) 1)) 2 ((ar 6) 2)) (q := 3) (pc' := 14) F dX6_copy_13 rfl rfl (by unfold vp_in; decide) rfl ?_
  refine J_iinc (v := 4) (q := 2) (pc' := 17) [1, 2, 0] [(0, .ref (g 7)), (1, .ref (g 10)), (2, .int 4)] F dX6_copy_14 rfl (by decide) (jL_of E (show 2 < 3 by decide)) rfl rfl ?_
  refine J_goto (tgt := 2) F dX6_copy_17 (by decide) ?_
  refine J_iload_n (pc' := 3) (q := 2) F dX6_copy_2 rfl rfl ?_
  refine J_aload_n (pc' := 4) (q := 0) F dX6_copy_3 rfl rfl ?_
  refine M_len_6 (pc' := 5) F dX6_copy_4 rfl ?_
  refine J_icmp_ge (tgt := 20) (pc' := 8) F dX6_copy_5 (by decide) rfl (fun _ => ?_) (fun c9 => absurd (by decide) c9)
  exact J_vretW (sc, (va_up (va_up (va_up (va_up ar 9 (upd (ar 9) 0 ((ar 6) 0))) 9 (upd (upd (ar 9) 0 ((ar 6) 0)) 1 ((ar 6) 1))) 9 (upd (upd (upd (ar 9) 0 ((ar 6) 0)) 1 ((ar 6) 1)) 2 ((ar 6) 2))) 9 (upd (upd (upd (upd (ar 9) 0 ((ar 6) 0)) 1 ((ar 6) 1)) 2 ((ar 6) 2)) 3 ((ar 6) 3))), hs) F hR dX6_copy_20 rfl rfl
def fX6_copy_n (sc : Nat → Int32) (ar : Nat → Nat → Int32) (hs : Int64) : uM := (sc, (va_up (va_up (va_up (va_up ar 6 (upd (ar 6) 0 ((ar 9) 0))) 6 (upd (upd (ar 6) 0 ((ar 9) 0)) 1 ((ar 9) 1))) 6 (upd (upd (upd (ar 6) 0 ((ar 9) 0)) 1 ((ar 9) 1)) 2 ((ar 9) 2))) 6 (upd (upd (upd (upd (ar 6) 0 ((ar 9) 0)) 1 ((ar 9) 1)) 2 ((ar 9) 2)) 3 ((ar 9) 3))), hs)
abbrev rm_X6_copy_n : Room := { frames := 0, cells := 0, slots := 0, locals := 0 }
set_option maxHeartbeats 4000000 in
set_option maxRecDepth 100000 in
theorem c_X6_copy_n (l : Launch) (D : va_G) (cI cZ : ClassId) (z : Nat → Nat) (g : Nat → Nat) (sc : Nat → Int32) (ar : Nat → Nat → Int32) (hs : Int64)   : cWv l yX6_copy ww_X6_copy rm_X6_copy_n D cI cZ z (fM cI cZ g) (wM cI cZ g sc ar hs) [.ref (g 10), .ref (g 7)] (fun u => u = fX6_copy_n sc ar hs) := by
  refine cWv.of (cc := cX6_copy) (maxL := 3) (by decide) rfl (Nat.le_of_ble_eq_true rfl) (fun X F E hA hR => ?_)
  refine J_lv [0, 1] (lv' := [(0, .ref (g 10)), (1, .ref (g 7))]) rfl ?_
  refine J_iconst (pc' := 1) (v := 0) F dX6_copy_0 (by decide) rfl ?_
  refine J_istore_n (pc' := 2) [1, 2, 0] [(0, .ref (g 10)), (1, .ref (g 7)), (2, .int 0)] F dX6_copy_1 rfl (jL_of E (show 2 < 3 by decide)) rfl rfl ?_
  refine J_iload_n (pc' := 3) (q := 2) F dX6_copy_2 rfl rfl ?_
  refine J_aload_n (pc' := 4) (q := 0) F dX6_copy_3 rfl rfl ?_
  refine M_len_9 (pc' := 5) F dX6_copy_4 rfl ?_
  refine J_icmp_ge (tgt := 20) (pc' := 8) F dX6_copy_5 (by decide) rfl (fun c9 => absurd c9 (by decide)) (fun _ => ?_)
  refine J_aload_n (pc' := 9) (q := 1) F dX6_copy_8 rfl rfl ?_
  refine J_iload_n (pc' := 10) (q := 2) F dX6_copy_9 rfl rfl ?_
  refine J_aload_n (pc' := 11) (q := 0) F dX6_copy_10 rfl rfl ?_
  refine J_iload_n (pc' := 12) (q := 2) F dX6_copy_11 rfl rfl ?_
  refine M_ld_9 (f := ar 9) (q := 0) (pc' := 13) F dX6_copy_12 rfl rfl (by unfold vp_in; decide) rfl ?_
  refine M_st_6 (f := ar 6) (q := 0) (pc' := 14) F dX6_copy_13 rfl rfl (by unfold vp_in; decide) rfl ?_
  refine J_iinc (v := 1) (q := 2) (pc' := 17) [1, 2, 0] [(0, .ref (g 10)), (1, .ref (g 7)), (2, .int 1)] F dX6_copy_14 rfl (by decide) (jL_of E (show 2 < 3 by decide)) rfl rfl ?_
  refine J_goto (tgt := 2) F dX6_copy_17 (by decide) ?_
  refine J_iload_n (pc' := 3) (q := 2) F dX6_copy_2 rfl rfl ?_
  refine J_aload_n (pc' := 4) (q := 0) F dX6_copy_3 rfl rfl ?_
  refine M_len_9 (pc' := 5) F dX6_copy_4 rfl ?_
  refine J_icmp_ge (tgt := 20) (pc' := 8) F dX6_copy_5 (by decide) rfl (fun c9 => absurd c9 (by decide)) (fun _ => ?_)
  refine J_aload_n (pc' := 9) (q := 1) F dX6_copy_8 rfl rfl ?_
  refine J_iload_n (pc' := 10) (q := 2) F dX6_copy_9 rfl rfl ?_
  refine J_aload_n (pc' := 11) (q := 0) F dX6_copy_10 rfl rfl ?_
  refine J_iload_n (pc' := 12) (q := 2) F dX6_copy_11 rfl rfl ?_
  refine M_ld_9 (f := ar 9) (q := 1) (pc' := 13) F dX6_copy_12 rfl rfl (by unfold vp_in; decide) rfl ?_
  refine M_st_6 (f := upd (ar 6) 0 ((ar 9) 0)) (q := 1) (pc' := 14) F dX6_copy_13 rfl rfl (by unfold vp_in; decide) rfl ?_
  refine J_iinc (v := 2) (q := 2) (pc' := 17) [1, 2, 0] [(0, .ref (g 10)), (1, .ref (g 7)), (2, .int 2)] F dX6_copy_14 rfl (by decide) (jL_of E (show 2 < 3 by decide)) rfl rfl ?_
  refine J_goto (tgt := 2) F dX6_copy_17 (by decide) ?_
  refine J_iload_n (pc' := 3) (q := 2) F dX6_copy_2 rfl rfl ?_
  refine J_aload_n (pc' := 4) (q := 0) F dX6_copy_3 rfl rfl ?_
  refine M_len_9 (pc' := 5) F dX6_copy_4 rfl ?_
  refine J_icmp_ge (tgt := 20) (pc' := 8) F dX6_copy_5 (by decide) rfl (fun c9 => absurd c9 (by decide)) (fun _ => ?_)
  refine J_aload_n (pc' := 9) (q := 1) F dX6_copy_8 rfl rfl ?_
  refine J_iload_n (pc' := 10) (q := 2) F dX6_copy_9 rfl rfl ?_
  refine J_aload_n (pc' := 11) (q := 0) F dX6_copy_10 rfl rfl ?_
  refine J_iload_n (pc' := 12) (q := 2) F dX6_copy_11 rfl rfl ?_
  refine M_ld_9 (f := ar 9) (q := 2) (pc' := 13) F dX6_copy_12 rfl rfl (by unfold vp_in; decide) rfl ?_
  refine M_st_6 (f := upd (upd (ar 6) 0 ((ar 9) 0)) 1 ((ar 9) 1)) (q := 2) (pc' := 14) F dX6_copy_13 rfl rfl (by unfold vp_in; decide) rfl ?_
  refine J_iinc (v := 3) (q := 2) (pc' := 17) [1, 2, 0] [(0, .ref (g 10)), (1, .ref (g 7)), (2, .int 3)] F dX6_copy_14 rfl (by decide) (jL_of E (show 2 < 3 by decide)) rfl rfl ?_
  refine J_goto (tgt := 2) F dX6_copy_17 (by decide) ?_
  refine J_iload_n (pc' := 3) (q := 2) F dX6_copy_2 rfl rfl ?_
  refine J_aload_n (pc' := 4) (q := 0) F dX6_copy_3 rfl rfl ?_
  refine M_len_9 (pc' := 5) F dX6_copy_4 rfl ?_
  refine J_icmp_ge (tgt := 20) (pc' := 8) F dX6_copy_5 (by decide) rfl (fun c9 => absurd c9 (by decide)) (fun _ => ?_)
  refine J_aload_n (pc' := 9) (q := 1) F dX6_copy_8 rfl rfl ?_
  refine J_iload_n (pc' := 10) (q := 2) F dX6_copy_9 rfl rfl ?_
  refine J_aload_n (pc' := 11) (q := 0) F dX6_copy_10 rfl rfl ?_
  refine J_iload_n (pc' := 12) (q := 2) F dX6_copy_11 rfl rfl ?_
  refine M_ld_9 (f := ar 9) (q := 3) (pc' := 13) F dX6_copy_12 rfl rfl (by unfold vp_in; decide) rfl ?_
  refine M_st_6 (f := upd (upd (upd (ar 6) 0 ((ar 9) 0)) 1 ((ar 9) 1)) 2 ((ar 9) 2)) (q := 3) (pc' := 14) F dX6_copy_13 rfl rfl (by unfold vp_in; decide) rfl ?_
  refine J_iinc (v := 4) (q := 2) (pc' := 17) [1, 2, 0] [(0, .ref (g 10)), (1, .ref (g 7)), (2, .int 4)] F dX6_copy_14 rfl (by decide) (jL_of E (show 2 < 3 by decide)) rfl rfl ?_
  refine J_goto (tgt := 2) F dX6_copy_17 (by decide) ?_
  refine J_iload_n (pc' := 3) (q := 2) F dX6_copy_2 rfl rfl ?_
  refine J_aload_n (pc' := 4) (q := 0) F dX6_copy_3 rfl rfl ?_
  refine M_len_9 (pc' := 5) F dX6_copy_4 rfl ?_
  refine J_icmp_ge (tgt := 20) (pc' := 8) F dX6_copy_5 (by decide) rfl (fun _ => ?_) (fun c9 => absurd (by decide) c9)
  exact J_vretW (sc, (va_up (va_up (va_up (va_up ar 6 (upd (ar 6) 0 ((ar 9) 0))) 6 (upd (upd (ar 6) 0 ((ar 9) 0)) 1 ((ar 9) 1))) 6 (upd (upd (upd (ar 6) 0 ((ar 9) 0)) 1 ((ar 9) 1)) 2 ((ar 9) 2))) 6 (upd (upd (upd (upd (ar 6) 0 ((ar 9) 0)) 1 ((ar 9) 1)) 2 ((ar 9) 2)) 3 ((ar 9) 3))), hs) F hR dX6_copy_20 rfl rfl
def fX6_image (sc : Nat → Int32) (ar : Nat → Nat → Int32) (hs : Int64) : Int32 × uM := if (sc 2) = 0 then ((-103), (sc, ar, hs)) else (((fX6_copy_k sc ar hs).1) 7, ((upd (upd (upd (upd (upd (upd ((fX6_copy_k sc ar hs).1) 25 (((fX6_copy_k sc ar hs).1) 5)) 26 (((fX6_copy_k sc ar hs).1) 6)) 27 (((fX6_copy_k sc ar hs).1) 7)) 28 (((fX6_copy_k sc ar hs).1) 8)) 29 (((fX6_copy_k sc ar hs).1) 16)) 24 (((fX6_copy_k sc ar hs).1) 9)), ((fX6_copy_k sc ar hs).2.1), ((fX6_copy_k sc ar hs).2.2)))
abbrev rm_X6_image : Room := { frames := 1, cells := 0, slots := 0, locals := 22 }
set_option maxHeartbeats 4000000 in
set_option maxRecDepth 100000 in
theorem c_X6_image (l : Launch) (D : va_G) (cI cZ : ClassId) (z : Nat → Nat) (g : Nat → Nat) (sc : Nat → Int32) (ar : Nat → Nat → Int32) (hs : Int64)   : cWi l yX6_image ww_X6_image rm_X6_image D cI cZ z (fM cI cZ g) (wM cI cZ g sc ar hs) [.ref (g 0)] (fun r u => (r, u) = fX6_image sc ar hs) := by
  refine cWi.of (cc := cX6_image) (maxL := 1) (rt := .int) (by decide) rfl (Nat.le_of_ble_eq_true rfl) (fun X F E hA hR => ?_)
  refine J_lv [0] (lv' := [(0, .ref (g 0))]) rfl ?_
  refine J_aload_n (pc' := 1) (q := 0) F dX6_image_0 rfl rfl ?_
  refine M_get_0_2 (v := sc 2) (pc' := 4) F dX6_image_1 kw_581 rfl rfl ?_
  refine J_if_ne (tgt := 10) (pc' := 7) F dX6_image_4 (by decide) rfl (fun c4 => ?_) (fun c4 => ?_)
  · refine J_aload_n (pc' := 11) (q := 0) F dX6_image_10 rfl rfl ?_
    refine M_get_0_17 (pc' := 14) F dX6_image_11 kw_596 rfl ?_
    refine J_aload_n (pc' := 15) (q := 0) F dX6_image_14 rfl rfl ?_
    refine M_get_0_30 (pc' := 18) F dX6_image_15 kw_609 rfl ?_
    refine J_goWv (wf := (fM cI cZ g)) (w0 := (wM cI cZ g sc ar hs)) (av := [.ref (g 7), .ref (g 10)]) (rest := []) (pc' := 21) (fM cI cZ g) F E hA (fun _ h => h) id (jsubA_rf _) (fun _ => jOver_rf _ _ _) (fun H locs hI hp => jrun_S F E (c_X6_copy_k l D cI cZ z g sc ar hs  H.size) kw_860 kw_861 rfl kw_862 kw_7 oX6_copy ⟨⟨rfl, rfl⟩, ⟨Nat.le_of_ble_eq_true rfl, Nat.le_of_ble_eq_true rfl⟩, Nat.zero_le _, Nat.zero_le _⟩ rfl (Nat.le_of_ble_eq_true rfl) dX6_image_18 hp) rfl (fun ur18 hr18 => ?_)
    subst hr18
    refine J_ws (ws' := (wM cI cZ g ((fX6_copy_k sc ar hs).1) ((fX6_copy_k sc ar hs).2.1) ((fX6_copy_k sc ar hs).2.2))) rfl ?_
    refine J_aload_n (pc' := 22) (q := 0) F dX6_image_21 rfl rfl ?_
    refine J_aload_n (pc' := 23) (q := 0) F dX6_image_22 rfl rfl ?_
    refine M_get_0_5 (v := ((fX6_copy_k sc ar hs).1) 5) (pc' := 26) F dX6_image_23 kw_584 rfl rfl ?_
    refine M_put_0_25 (pc' := 29) F dX6_image_26 kw_604 rfl ?_
    refine J_aload_n (pc' := 30) (q := 0) F dX6_image_29 rfl rfl ?_
    refine J_aload_n (pc' := 31) (q := 0) F dX6_image_30 rfl rfl ?_
    refine M_get_0_6 (v := ((fX6_copy_k sc ar hs).1) 6) (pc' := 34) F dX6_image_31 kw_585 rfl rfl ?_
    refine M_put_0_26 (pc' := 37) F dX6_image_34 kw_605 rfl ?_
    refine J_aload_n (pc' := 38) (q := 0) F dX6_image_37 rfl rfl ?_
    refine J_aload_n (pc' := 39) (q := 0) F dX6_image_38 rfl rfl ?_
    refine M_get_0_7 (v := ((fX6_copy_k sc ar hs).1) 7) (pc' := 42) F dX6_image_39 kw_586 rfl rfl ?_
    refine M_put_0_27 (pc' := 45) F dX6_image_42 kw_606 rfl ?_
    refine J_aload_n (pc' := 46) (q := 0) F dX6_image_45 rfl rfl ?_
    refine J_aload_n (pc' := 47) (q := 0) F dX6_image_46 rfl rfl ?_
    refine M_get_0_8 (v := ((fX6_copy_k sc ar hs).1) 8) (pc' := 50) F dX6_image_47 kw_587 rfl rfl ?_
    refine M_put_0_28 (pc' := 53) F dX6_image_50 kw_607 rfl ?_
    refine J_aload_n (pc' := 54) (q := 0) F dX6_image_53 rfl rfl ?_
    refine J_aload_n (pc' := 55) (q := 0) F dX6_image_54 rfl rfl ?_
    refine M_get_0_16 (v := ((fX6_copy_k sc ar hs).1) 16) (pc' := 58) F dX6_image_55 kw_595 rfl rfl ?_
    refine M_put_0_29 (pc' := 61) F dX6_image_58 kw_608 rfl ?_
    refine J_aload_n (pc' := 62) (q := 0) F dX6_image_61 rfl rfl ?_
    refine J_aload_n (pc' := 63) (q := 0) F dX6_image_62 rfl rfl ?_
    refine M_get_0_9 (v := ((fX6_copy_k sc ar hs).1) 9) (pc' := 66) F dX6_image_63 kw_588 rfl rfl ?_
    refine M_put_0_24 (pc' := 69) F dX6_image_66 kw_603 rfl ?_
    refine J_aload_n (pc' := 70) (q := 0) F dX6_image_69 rfl rfl ?_
    refine M_get_0_7 (v := ((fX6_copy_k sc ar hs).1) 7) (pc' := 73) F dX6_image_70 kw_586 rfl rfl ?_
    exact J_iretW ((upd (upd (upd (upd (upd (upd ((fX6_copy_k sc ar hs).1) 25 (((fX6_copy_k sc ar hs).1) 5)) 26 (((fX6_copy_k sc ar hs).1) 6)) 27 (((fX6_copy_k sc ar hs).1) 7)) 28 (((fX6_copy_k sc ar hs).1) 8)) 29 (((fX6_copy_k sc ar hs).1) 16)) 24 (((fX6_copy_k sc ar hs).1) 9)), ((fX6_copy_k sc ar hs).2.1), ((fX6_copy_k sc ar hs).2.2)) F hR dX6_image_73 rfl rfl (by show _ = fX6_image sc ar hs; unfold fX6_image; rw [if_neg c4])
  · refine J_bipush (pc' := 9) (v := (-103)) F dX6_image_7 (by decide) rfl ?_
    exact J_iretW (sc, ar, hs) F hR dX6_image_9 rfl rfl (by show _ = fX6_image sc ar hs; unfold fX6_image; rw [if_pos c4])
def fX6_restore (sc : Nat → Int32) (ar : Nat → Nat → Int32) (hs : Int64) : Int32 × uM := if (sc 24) = (sc 9) then (((fX6_copy_n sc ar hs).1) 27, ((upd (upd (upd (upd (upd ((fX6_copy_n sc ar hs).1) 5 (((fX6_copy_n sc ar hs).1) 25)) 6 (((fX6_copy_n sc ar hs).1) 26)) 7 (((fX6_copy_n sc ar hs).1) 27)) 8 (((fX6_copy_n sc ar hs).1) 28)) 16 (((fX6_copy_n sc ar hs).1) 29)), ((fX6_copy_n sc ar hs).2.1), ((fX6_copy_n sc ar hs).2.2))) else ((-103), (sc, ar, hs))
abbrev rm_X6_restore : Room := { frames := 1, cells := 0, slots := 0, locals := 22 }
set_option maxHeartbeats 4000000 in
set_option maxRecDepth 100000 in
theorem c_X6_restore (l : Launch) (D : va_G) (cI cZ : ClassId) (z : Nat → Nat) (g : Nat → Nat) (sc : Nat → Int32) (ar : Nat → Nat → Int32) (hs : Int64)   : cWi l yX6_restore ww_X6_restore rm_X6_restore D cI cZ z (fM cI cZ g) (wM cI cZ g sc ar hs) [.ref (g 0)] (fun r u => (r, u) = fX6_restore sc ar hs) := by
  refine cWi.of (cc := cX6_restore) (maxL := 1) (rt := .int) (by decide) rfl (Nat.le_of_ble_eq_true rfl) (fun X F E hA hR => ?_)
  refine J_lv [0] (lv' := [(0, .ref (g 0))]) rfl ?_
  refine J_aload_n (pc' := 1) (q := 0) F dX6_restore_0 rfl rfl ?_
  refine M_get_0_24 (v := sc 24) (pc' := 4) F dX6_restore_1 kw_603 rfl rfl ?_
  refine J_aload_n (pc' := 5) (q := 0) F dX6_restore_4 rfl rfl ?_
  refine M_get_0_9 (v := sc 9) (pc' := 8) F dX6_restore_5 kw_588 rfl rfl ?_
  refine J_icmp_eq (tgt := 14) (pc' := 11) F dX6_restore_8 (by decide) rfl (fun c8 => ?_) (fun c8 => ?_)
  · refine J_aload_n (pc' := 15) (q := 0) F dX6_restore_14 rfl rfl ?_
    refine M_get_0_30 (pc' := 18) F dX6_restore_15 kw_609 rfl ?_
    refine J_aload_n (pc' := 19) (q := 0) F dX6_restore_18 rfl rfl ?_
    refine M_get_0_17 (pc' := 22) F dX6_restore_19 kw_596 rfl ?_
    refine J_goWv (wf := (fM cI cZ g)) (w0 := (wM cI cZ g sc ar hs)) (av := [.ref (g 10), .ref (g 7)]) (rest := []) (pc' := 25) (fM cI cZ g) F E hA (fun _ h => h) id (jsubA_rf _) (fun _ => jOver_rf _ _ _) (fun H locs hI hp => jrun_S F E (c_X6_copy_n l D cI cZ z g sc ar hs  H.size) kw_860 kw_861 rfl kw_862 kw_7 oX6_copy ⟨⟨rfl, rfl⟩, ⟨Nat.le_of_ble_eq_true rfl, Nat.le_of_ble_eq_true rfl⟩, Nat.zero_le _, Nat.zero_le _⟩ rfl (Nat.le_of_ble_eq_true rfl) dX6_restore_22 hp) rfl (fun ur22 hr22 => ?_)
    subst hr22
    refine J_ws (ws' := (wM cI cZ g ((fX6_copy_n sc ar hs).1) ((fX6_copy_n sc ar hs).2.1) ((fX6_copy_n sc ar hs).2.2))) rfl ?_
    refine J_aload_n (pc' := 26) (q := 0) F dX6_restore_25 rfl rfl ?_
    refine J_aload_n (pc' := 27) (q := 0) F dX6_restore_26 rfl rfl ?_
    refine M_get_0_25 (v := ((fX6_copy_n sc ar hs).1) 25) (pc' := 30) F dX6_restore_27 kw_604 rfl rfl ?_
    refine M_put_0_5 (pc' := 33) F dX6_restore_30 kw_584 rfl ?_
    refine J_aload_n (pc' := 34) (q := 0) F dX6_restore_33 rfl rfl ?_
    refine J_aload_n (pc' := 35) (q := 0) F dX6_restore_34 rfl rfl ?_
    refine M_get_0_26 (v := ((fX6_copy_n sc ar hs).1) 26) (pc' := 38) F dX6_restore_35 kw_605 rfl rfl ?_
    refine M_put_0_6 (pc' := 41) F dX6_restore_38 kw_585 rfl ?_
    refine J_aload_n (pc' := 42) (q := 0) F dX6_restore_41 rfl rfl ?_
    refine J_aload_n (pc' := 43) (q := 0) F dX6_restore_42 rfl rfl ?_
    refine M_get_0_27 (v := ((fX6_copy_n sc ar hs).1) 27) (pc' := 46) F dX6_restore_43 kw_606 rfl rfl ?_
    refine M_put_0_7 (pc' := 49) F dX6_restore_46 kw_586 rfl ?_
    refine J_aload_n (pc' := 50) (q := 0) F dX6_restore_49 rfl rfl ?_
    refine J_aload_n (pc' := 51) (q := 0) F dX6_restore_50 rfl rfl ?_
    refine M_get_0_28 (v := ((fX6_copy_n sc ar hs).1) 28) (pc' := 54) F dX6_restore_51 kw_607 rfl rfl ?_
    refine M_put_0_8 (pc' := 57) F dX6_restore_54 kw_587 rfl ?_
    refine J_aload_n (pc' := 58) (q := 0) F dX6_restore_57 rfl rfl ?_
    refine J_aload_n (pc' := 59) (q := 0) F dX6_restore_58 rfl rfl ?_
    refine M_get_0_29 (v := ((fX6_copy_n sc ar hs).1) 29) (pc' := 62) F dX6_restore_59 kw_608 rfl rfl ?_
    refine M_put_0_16 (pc' := 65) F dX6_restore_62 kw_595 rfl ?_
    refine J_aload_n (pc' := 66) (q := 0) F dX6_restore_65 rfl rfl ?_
    refine M_get_0_7 (v := ((fX6_copy_n sc ar hs).1) 27) (pc' := 69) F dX6_restore_66 kw_586 rfl rfl ?_
    exact J_iretW ((upd (upd (upd (upd (upd ((fX6_copy_n sc ar hs).1) 5 (((fX6_copy_n sc ar hs).1) 25)) 6 (((fX6_copy_n sc ar hs).1) 26)) 7 (((fX6_copy_n sc ar hs).1) 27)) 8 (((fX6_copy_n sc ar hs).1) 28)) 16 (((fX6_copy_n sc ar hs).1) 29)), ((fX6_copy_n sc ar hs).2.1), ((fX6_copy_n sc ar hs).2.2)) F hR dX6_restore_69 rfl rfl (by show _ = fX6_restore sc ar hs; unfold fX6_restore; rw [if_pos c8])
  · refine J_bipush (pc' := 13) (v := (-103)) F dX6_restore_11 (by decide) rfl ?_
    exact J_iretW (sc, ar, hs) F hR dX6_restore_13 rfl rfl (by show _ = fX6_restore sc ar hs; unfold fX6_restore; rw [if_neg c8])
def fX6_say (sc : Nat → Int32) (ar : Nat → Nat → Int32) (hs : Int64) (x1 : Int64) : uM := (sc, ar, ((31 * hs) + x1))
abbrev rm_X6_say : Room := { frames := 0, cells := 0, slots := 0, locals := 0 }
set_option maxHeartbeats 4000000 in
set_option maxRecDepth 100000 in
theorem c_X6_say (l : Launch) (D : va_G) (cI cZ : ClassId) (z : Nat → Nat) (g : Nat → Nat) (sc : Nat → Int32) (ar : Nat → Nat → Int32) (hs : Int64) (x1 : Int64)  : cWv l yX6_say ww_X6_say rm_X6_say D cI cZ z (fM cI cZ g) (wM cI cZ g sc ar hs) [.ref (g 0), .long x1] (fun u => u = fX6_say sc ar hs x1) := by
  refine cWv.of (cc := cX6_say) (maxL := 3) (by decide) rfl (Nat.le_of_ble_eq_true rfl) (fun X F E hA hR => ?_)
  refine J_lv [0, 1] (lv' := [(0, .ref (g 0)), (1, .long x1)]) rfl ?_
  refine J_aload_n (pc' := 1) (q := 0) F dX6_say_0 rfl rfl ?_
  refine J_ldc2 (pc' := 4) (v := 31) F dX6_say_1 kw_889 rfl ?_
  refine J_aload_n (pc' := 5) (q := 0) F dX6_say_4 rfl rfl ?_
  refine M_get_0_31 (v := hs) (pc' := 8) F dX6_say_5 kw_610 rfl rfl ?_
  refine J_lmul (pc' := 9) F dX6_say_8 rfl ?_
  refine J_lload_n (pc' := 10) (q := 1) F dX6_say_9 rfl rfl ?_
  refine J_ladd (pc' := 11) F dX6_say_10 rfl ?_
  refine M_put_0_31 (pc' := 14) F dX6_say_11 kw_610 rfl ?_
  exact J_vretW (sc, ar, ((31 * hs) + x1)) F hR dX6_say_14 rfl rfl
def fX6_draw (sc : Nat → Int32) (ar : Nat → Nat → Int32) (hs : Int64) : Int32 × uM := (((((((1103515245 * (((sc 23) : Int32).toInt64)) + 12345) &&& 2147483647) : Int64).toInt32) / 65536) - ((((((1103515245 * (((sc 23) : Int32).toInt64)) + 12345) &&& 2147483647) : Int64).toInt32) / 65536) / 42 * 42, ((upd sc 23 (((((1103515245 * (((sc 23) : Int32).toInt64)) + 12345) &&& 2147483647) : Int64).toInt32)), ar, hs))
abbrev rm_X6_draw : Room := { frames := 0, cells := 0, slots := 0, locals := 0 }
set_option maxHeartbeats 4000000 in
set_option maxRecDepth 100000 in
theorem c_X6_draw (l : Launch) (D : va_G) (cI cZ : ClassId) (z : Nat → Nat) (g : Nat → Nat) (sc : Nat → Int32) (ar : Nat → Nat → Int32) (hs : Int64)   : cWi l yX6_draw ww_X6_draw rm_X6_draw D cI cZ z (fM cI cZ g) (wM cI cZ g sc ar hs) [.ref (g 0), .int 42] (fun r u => (r, u) = fX6_draw sc ar hs) := by
  refine cWi.of (cc := cX6_draw) (maxL := 2) (rt := .int) (by decide) rfl (Nat.le_of_ble_eq_true rfl) (fun X F E hA hR => ?_)
  refine J_lv [0, 1] (lv' := [(0, .ref (g 0)), (1, .int 42)]) rfl ?_
  refine J_aload_n (pc' := 1) (q := 0) F dX6_draw_0 rfl rfl ?_
  refine J_ldc2 (pc' := 4) (v := 1103515245) F dX6_draw_1 kw_852 rfl ?_
  refine J_aload_n (pc' := 5) (q := 0) F dX6_draw_4 rfl rfl ?_
  refine M_get_0_23 (v := sc 23) (pc' := 8) F dX6_draw_5 kw_602 rfl rfl ?_
  refine J_i2l (pc' := 9) (v := ((sc 23) : Int32).toInt64) F dX6_draw_8 rfl rfl ?_
  refine J_lmul (pc' := 10) F dX6_draw_9 rfl ?_
  refine J_ldc2 (pc' := 13) (v := 12345) F dX6_draw_10 kw_853 rfl ?_
  refine J_ladd (pc' := 14) F dX6_draw_13 rfl ?_
  refine J_ldc2 (pc' := 17) (v := 2147483647) F dX6_draw_14 kw_854 rfl ?_
  refine J_land (pc' := 18) F dX6_draw_17 rfl ?_
  refine J_l2i (pc' := 19) (v := ((((1103515245 * (((sc 23) : Int32).toInt64)) + 12345) &&& 2147483647) : Int64).toInt32) F dX6_draw_18 rfl rfl ?_
  refine M_put_0_23 (pc' := 22) F dX6_draw_19 kw_602 rfl ?_
  refine J_aload_n (pc' := 23) (q := 0) F dX6_draw_22 rfl rfl ?_
  refine M_get_0_23 (v := ((((1103515245 * (((sc 23) : Int32).toInt64)) + 12345) &&& 2147483647) : Int64).toInt32) (pc' := 26) F dX6_draw_23 kw_602 rfl rfl ?_
  refine J_ldc (pc' := 28) (v := 65536) F dX6_draw_26 kw_855 rfl ?_
  refine J_idiv (pc' := 29) F dX6_draw_28 (by decide) rfl ?_
  refine J_iload_n (pc' := 30) (q := 1) F dX6_draw_29 rfl rfl ?_
  refine J_irem (pc' := 31) F dX6_draw_30 (by decide) rfl ?_
  exact J_iretW ((upd sc 23 (((((1103515245 * (((sc 23) : Int32).toInt64)) + 12345) &&& 2147483647) : Int64).toInt32)), ar, hs) F hR dX6_draw_31 rfl rfl rfl
theorem draw_vp (sc : Nat → Int32) (ar : Nat → Nat → Int32) (hs : Int64) : vp_in (fX6_draw sc ar hs).1 42 := by
  unfold fX6_draw
  show vp_in _ 42
  generalize (1103515245 * _ + 12345 : Int64) = v
  have h1 : ∃ j : Nat, j < 2 ^ 31 ∧ (v &&& 2147483647).toInt32 = nI j := by
    refine ⟨v.toBitVec.toNat % 2 ^ 31, Nat.mod_lt _ (by decide), ?_⟩
    apply Int32.toBitVec_inj.mp
    apply BitVec.eq_of_toNat_eq
    rw [pk_tn (by omega), Int64.toBitVec_toInt32, BitVec.signExtend_eq_setWidth_of_le _ (by decide)]
    simp only [Int64.toBitVec_and, BitVec.toNat_setWidth, BitVec.toNat_and]
    rw [show (2147483647 : Int64).toBitVec.toNat = 2 ^ 31 - 1 from by decide, Nat.and_two_pow_sub_one_eq_mod]
    omega
  obtain ⟨j, hj, e⟩ := h1
  rw [e, show (65536 : Int32) = nI 65536 from rfl, pk_div hj (by decide) (by decide), show (42 : Int32) = nI 42 from rfl, pk_rem (by omega) (by decide) (by decide)]
  exact vp_in_nI (Nat.mod_lt _ (by decide)) (by decide)
def fX6_days_61 (sc : Nat → Int32) (ar : Nat → Nat → Int32) (hs : Int64) (x1 : Int32) (x2 : Int32) (x3 : Int32) : Nat → Nat → Int32 → Int32 → Int32 → (Nat → Int32) → (Nat → Nat → Int32) → Int64 → Int32 × uM
  | 0, _, _, _, _, _, _, _ => (0, (sc, ar, hs))
  | n + 1, i, y4, y5, y6, sc1, ar1, hs1 => if x1 ≤ (nI i) then (if x3 = 0 then (y5, (sc1, ar1, hs1)) else (if x3 = 1 then (y6, (sc1, ar1, hs1)) else (if x3 = 2 then (zX6_tonsOf y4, (sc1, ar1, hs1)) else (sc1 23, (sc1, ar1, hs1))))) else (if (zX6_goes ((fX6_draw sc1 ar1 hs1).2.1) ((fX6_draw sc1 ar1 hs1).2.2.1) ((fX6_draw sc1 ar1 hs1).2.2.2) y4 ((fX6_draw sc1 ar1 hs1).1) (zX6_bendNow ((fX6_draw sc1 ar1 hs1).2.1) ((fX6_draw sc1 ar1 hs1).2.2.1) ((fX6_draw sc1 ar1 hs1).2.2.2))) = (-1) then fX6_days_61 sc ar hs x1 x2 x3 n (i + 1) y4 y5 y6 ((fX6_draw sc1 ar1 hs1).2.1) ((fX6_draw sc1 ar1 hs1).2.2.1) ((fX6_draw sc1 ar1 hs1).2.2.2) else fX6_days_61 sc ar hs x1 x2 x3 n (i + 1) (zX6_goes ((fX6_draw sc1 ar1 hs1).2.1) ((fX6_draw sc1 ar1 hs1).2.2.1) ((fX6_draw sc1 ar1 hs1).2.2.2) y4 ((fX6_draw sc1 ar1 hs1).1) (zX6_bendNow ((fX6_draw sc1 ar1 hs1).2.1) ((fX6_draw sc1 ar1 hs1).2.2.1) ((fX6_draw sc1 ar1 hs1).2.2.2))) (y5 + 1) (y6 + (zX6_lasts ((fX6_draw sc1 ar1 hs1).2.1) ((fX6_draw sc1 ar1 hs1).2.2.1) ((fX6_draw sc1 ar1 hs1).2.2.2) ((fX6_draw sc1 ar1 hs1).1))) ((fX6_draw sc1 ar1 hs1).2.1) ((fX6_draw sc1 ar1 hs1).2.2.1) ((fX6_draw sc1 ar1 hs1).2.2.2))
def fX6_days (sc : Nat → Int32) (ar : Nat → Nat → Int32) (hs : Int64) (x1 : Int32) (x2 : Int32) (x3 : Int32) : Int32 × uM := if (zX6_in ((x1 : Int32).toInt64) 1 90) = 0 then ((-102), (sc, ar, hs)) else (if x2 < 0 then ((-102), (sc, ar, hs)) else (if (zX6_in ((x3 : Int32).toInt64) 0 3) = 0 then ((-102), (sc, ar, hs)) else (if (sc 2) = 0 then ((-103), (sc, ar, hs)) else fX6_days_61 sc ar hs x1 x2 x3 (90 + 1) 0 (sc 5) 0 0 (upd sc 23 x2) ar hs)))
abbrev rm_X6_days : Room := { frames := 4, cells := 0, slots := 0, locals := 87 }
set_option maxHeartbeats 4000000 in
set_option maxRecDepth 100000 in
theorem c_X6_days (l : Launch) (D : va_G) (cI cZ : ClassId) (z : Nat → Nat) (g : Nat → Nat) (sc : Nat → Int32) (ar : Nat → Nat → Int32) (hs : Int64) (x1 : Int32) (x2 : Int32) (x3 : Int32)  : cWi l yX6_days ww_X6_days rm_X6_days D cI cZ z (fM cI cZ g) (wM cI cZ g sc ar hs) [.ref (g 0), .int x1, .int x2, .int x3] (fun r u => (r, u) = fX6_days sc ar hs x1 x2 x3) := by
  refine cWi.of (cc := cX6_days) (maxL := 10) (rt := .int) (by decide) rfl (Nat.le_of_ble_eq_true rfl) (fun X F E hA hR => ?_)
  refine J_lv [0, 1, 2, 3] (lv' := [(0, .ref (g 0)), (1, .int x1), (2, .int x2), (3, .int x3)]) rfl ?_
  refine J_iload_n (pc' := 1) (q := 1) F dX6_days_0 rfl rfl ?_
  refine J_i2l (pc' := 2) (v := (x1 : Int32).toInt64) F dX6_days_1 rfl rfl ?_
  refine J_lconst (pc' := 3) (v := 1) F dX6_days_2 (by decide) rfl ?_
  refine J_ldc2 (pc' := 6) (v := 90) F dX6_days_3 kw_847 rfl ?_
  refine J_goRie (wc := []) (av := [.long ((x1 : Int32).toInt64), .long 1, .long 90]) (rest := []) (v := zX6_in ((x1 : Int32).toInt64) 1 90) (pc' := 9) F E (fun _ _ => jP_nil _ _) (fun H locs hI hp => jrun_S F E (c_X6_in l D cI cZ z ((x1 : Int32).toInt64) 1 90) kw_682 kw_683 rfl kw_684 kw_7 oX6_in ⟨⟨rfl, rfl⟩, ⟨Nat.le_of_ble_eq_true rfl, Nat.le_of_ble_eq_true rfl⟩, Nat.zero_le _, Nat.zero_le _⟩ rfl (Nat.le_of_ble_eq_true rfl) dX6_days_6 hp) rfl ?_
  refine J_if_eq (tgt := 28) (pc' := 12) F dX6_days_9 (by decide) rfl (fun c9 => ?_) (fun c9 => ?_)
  · refine J_bipush (pc' := 30) (v := (-102)) F dX6_days_28 (by decide) rfl ?_
    exact J_iretW (sc, ar, hs) F hR dX6_days_30 rfl rfl (by show _ = fX6_days sc ar hs x1 x2 x3; unfold fX6_days; rw [if_pos c9])
  · refine J_iload_n (pc' := 13) (q := 2) F dX6_days_12 rfl rfl ?_
    refine J_if_lt (tgt := 28) (pc' := 16) F dX6_days_13 (by decide) rfl (fun c13 => ?_) (fun c13 => ?_)
    · refine J_bipush (pc' := 30) (v := (-102)) F dX6_days_28 (by decide) rfl ?_
      exact J_iretW (sc, ar, hs) F hR dX6_days_30 rfl rfl (by show _ = fX6_days sc ar hs x1 x2 x3; unfold fX6_days; rw [if_neg c9, if_pos c13])
    · refine J_iload_n (pc' := 17) (q := 3) F dX6_days_16 rfl rfl ?_
      refine J_i2l (pc' := 18) (v := (x3 : Int32).toInt64) F dX6_days_17 rfl rfl ?_
      refine J_lconst (pc' := 19) (v := 0) F dX6_days_18 (by decide) rfl ?_
      refine J_ldc2 (pc' := 22) (v := 3) F dX6_days_19 kw_704 rfl ?_
      refine J_goRie (wc := []) (av := [.long ((x3 : Int32).toInt64), .long 0, .long 3]) (rest := []) (v := zX6_in ((x3 : Int32).toInt64) 0 3) (pc' := 25) F E (fun _ _ => jP_nil _ _) (fun H locs hI hp => jrun_S F E (c_X6_in l D cI cZ z ((x3 : Int32).toInt64) 0 3) kw_682 kw_683 rfl kw_684 kw_7 oX6_in ⟨⟨rfl, rfl⟩, ⟨Nat.le_of_ble_eq_true rfl, Nat.le_of_ble_eq_true rfl⟩, Nat.zero_le _, Nat.zero_le _⟩ rfl (Nat.le_of_ble_eq_true rfl) dX6_days_22 hp) rfl ?_
      refine J_if_ne (tgt := 31) (pc' := 28) F dX6_days_25 (by decide) rfl (fun c25 => ?_) (fun c25 => ?_)
      · refine J_aload_n (pc' := 32) (q := 0) F dX6_days_31 rfl rfl ?_
        refine M_get_0_2 (v := sc 2) (pc' := 35) F dX6_days_32 kw_581 rfl rfl ?_
        refine J_if_ne (tgt := 41) (pc' := 38) F dX6_days_35 (by decide) rfl (fun c35 => ?_) (fun c35 => ?_)
        · refine J_aload_n (pc' := 42) (q := 0) F dX6_days_41 rfl rfl ?_
          refine J_iload_n (pc' := 43) (q := 2) F dX6_days_42 rfl rfl ?_
          refine M_put_0_23 (pc' := 46) F dX6_days_43 kw_602 rfl ?_
          refine J_aload_n (pc' := 47) (q := 0) F dX6_days_46 rfl rfl ?_
          refine M_get_0_5 (v := sc 5) (pc' := 50) F dX6_days_47 kw_584 rfl rfl ?_
          refine J_istore (pc' := 52) [1, 2, 3, 4, 0] [(0, .ref (g 0)), (1, .int x1), (2, .int x2), (3, .int x3), (4, .int (sc 5))] F dX6_days_50 (jL_of E (show 4 < 10 by decide)) rfl rfl ?_
          refine J_iconst (pc' := 53) (v := 0) F dX6_days_52 (by decide) rfl ?_
          refine J_istore (pc' := 55) [1, 2, 3, 4, 5, 0] [(0, .ref (g 0)), (1, .int x1), (2, .int x2), (3, .int x3), (4, .int (sc 5)), (5, .int 0)] F dX6_days_53 (jL_of E (show 5 < 10 by decide)) rfl rfl ?_
          refine J_iconst (pc' := 56) (v := 0) F dX6_days_55 (by decide) rfl ?_
          refine J_istore (pc' := 58) [1, 2, 3, 4, 5, 6, 0] [(0, .ref (g 0)), (1, .int x1), (2, .int x2), (3, .int x3), (4, .int (sc 5)), (5, .int 0), (6, .int 0)] F dX6_days_56 (jL_of E (show 6 < 10 by decide)) rfl rfl ?_
          refine J_iconst (pc' := 59) (v := 0) F dX6_days_58 (by decide) rfl ?_
          refine J_istore (pc' := 61) [1, 2, 3, 4, 5, 6, 7, 0] [(0, .ref (g 0)), (1, .int x1), (2, .int x2), (3, .int x3), (4, .int (sc 5)), (5, .int 0), (6, .int 0), (7, .int 0)] F dX6_days_59 (jL_of E (show 7 < 10 by decide)) rfl rfl ?_
          have L61 : ∀ (n i : Nat) (y4 : Int32) (y5 : Int32) (y6 : Int32) (sc1 : Nat → Int32) (ar1 : Nat → Nat → Int32) (hs1 : Int64), i ≤ 90 → 90 - i < n → fX6_days_61 sc ar hs x1 x2 x3 n i y4 y5 y6 sc1 ar1 hs1 = fX6_days sc ar hs x1 x2 x3 → J X true 0 0 61 [(0, .ref (g 0)), (1, .int x1), (3, .int x3), (4, .int y4), (5, .int y5), (6, .int y6), (7, .int (nI i))] [] (wM cI cZ g sc1 ar1 hs1) := by
            intro n
            induction n with
            | zero => intro i _ _ _ _ _ _ _ hm; exact absurd hm (Nat.not_lt_zero _)
            | succ n ih =>
              intro i y4 y5 y6 sc1 ar1 hs1 hi hm heq
              refine J_iload (pc' := 63) (q := 6) F dX6_days_61 rfl rfl ?_
              refine J_iload_n (pc' := 64) (q := 1) F dX6_days_63 rfl rfl ?_
              refine J_icmp_ge (tgt := 119) (pc' := 67) F dX6_days_64 (by decide) rfl (fun c64 => ?_) (fun c64 => ?_)
              · refine J_iload_n (pc' := 120) (q := 2) F dX6_days_119 rfl rfl ?_
                refine J_if_ne (tgt := 128) (pc' := 123) F dX6_days_120 (by decide) rfl (fun c120 => ?_) (fun c120 => ?_)
                · refine J_iload_n (pc' := 129) (q := 2) F dX6_days_128 rfl rfl ?_
                  refine J_iconst (pc' := 130) (v := 1) F dX6_days_129 (by decide) rfl ?_
                  refine J_icmp_ne (tgt := 138) (pc' := 133) F dX6_days_130 (by decide) rfl (fun c130 => ?_) (fun c130 => ?_)
                  · refine J_iload_n (pc' := 139) (q := 2) F dX6_days_138 rfl rfl ?_
                    refine J_iconst (pc' := 140) (v := 2) F dX6_days_139 (by decide) rfl ?_
                    refine J_icmp_ne (tgt := 151) (pc' := 143) F dX6_days_140 (by decide) rfl (fun c140 => ?_) (fun c140 => ?_)
                    · refine J_aload_n (pc' := 152) (q := 0) F dX6_days_151 rfl rfl ?_
                      refine M_get_0_23 (v := sc1 23) (pc' := 155) F dX6_days_152 kw_602 rfl rfl ?_
                      exact J_iretW (sc1, ar1, hs1) F hR dX6_days_155 rfl rfl (by show _ = fX6_days sc ar hs x1 x2 x3; rw [← heq, fX6_days_61, if_pos c64, if_neg c120, if_neg c130, if_neg c140])
                    · refine J_iload (pc' := 145) (q := 3) F dX6_days_143 rfl rfl ?_
                      refine J_goRie (wc := []) (av := [.int y4]) (rest := []) (v := zX6_tonsOf y4) (pc' := 148) F E (fun _ _ => jP_nil _ _) (fun H locs hI hp => jrun_S F E (c_X6_tonsOf l D cI cZ z y4) kw_709 kw_710 rfl kw_711 kw_7 oX6_tonsOf ⟨⟨rfl, rfl⟩, ⟨Nat.le_of_ble_eq_true rfl, Nat.le_of_ble_eq_true rfl⟩, Nat.zero_le _, Nat.zero_le _⟩ rfl (Nat.le_of_ble_eq_true rfl) dX6_days_145 hp) rfl ?_
                      refine J_goto (tgt := 155) F dX6_days_148 (by decide) ?_
                      exact J_iretW (sc1, ar1, hs1) F hR dX6_days_155 rfl rfl (by show _ = fX6_days sc ar hs x1 x2 x3; rw [← heq, fX6_days_61, if_pos c64, if_neg c120, if_neg c130, if_pos c140])
                  · refine J_iload (pc' := 135) (q := 5) F dX6_days_133 rfl rfl ?_
                    refine J_goto (tgt := 155) F dX6_days_135 (by decide) ?_
                    exact J_iretW (sc1, ar1, hs1) F hR dX6_days_155 rfl rfl (by show _ = fX6_days sc ar hs x1 x2 x3; rw [← heq, fX6_days_61, if_pos c64, if_neg c120, if_pos c130])
                · refine J_iload (pc' := 125) (q := 4) F dX6_days_123 rfl rfl ?_
                  refine J_goto (tgt := 155) F dX6_days_125 (by decide) ?_
                  exact J_iretW (sc1, ar1, hs1) F hR dX6_days_155 rfl rfl (by show _ = fX6_days sc ar hs x1 x2 x3; rw [← heq, fX6_days_61, if_pos c64, if_pos c120])
              · have hlt : i < 90 := days_lt c9 hi c64
                refine J_aload_n (pc' := 68) (q := 0) F dX6_days_67 rfl rfl ?_
                refine J_bipush (pc' := 70) (v := 42) F dX6_days_68 (by decide) rfl ?_
                refine J_goWi (wf := (fM cI cZ g)) (w0 := (wM cI cZ g sc1 ar1 hs1)) (av := [.ref (g 0), .int 42]) (rest := []) (pc' := 73) (fM cI cZ g) F E hA (fun _ h => h) id (jsubA_rf _) (fun _ => jOver_rf _ _ _) (fun H locs hI hp => jrun_V (As := [.int 42]) 0 F E (c_X6_draw l D cI cZ z g sc1 ar1 hs1  H.size) kw_848 kw_850 kp_25 rfl kw_851 kw_7 oX6_draw ⟨⟨rfl, rfl⟩, ⟨Nat.le_of_ble_eq_true rfl, Nat.le_of_ble_eq_true rfl⟩, Nat.zero_le _, Nat.zero_le _⟩ rfl rfl (Nat.le_of_ble_eq_true rfl) dX6_days_70 rfl rfl (jI_P E hI) hp) rfl (fun r70 ur70 hr70 => ?_)
                obtain ⟨hr70, hr70u⟩ := Prod.mk.inj (hr70.trans (Prod.eta (fX6_draw sc1 ar1 hs1)).symm)
                subst hr70; subst hr70u
                refine J_ws (ws' := (wM cI cZ g ((fX6_draw sc1 ar1 hs1).2.1) ((fX6_draw sc1 ar1 hs1).2.2.1) ((fX6_draw sc1 ar1 hs1).2.2.2))) rfl ?_
                refine J_istore (pc' := 75) [1, 2, 3, 4, 5, 6, 7, 0] [(0, .ref (g 0)), (1, .int x1), (3, .int x3), (4, .int y4), (5, .int y5), (6, .int y6), (7, .int (nI i)), (8, .int ((fX6_draw sc1 ar1 hs1).1))] F dX6_days_73 (jL_of E (show 8 < 10 by decide)) rfl rfl ?_
                refine J_aload_n (pc' := 76) (q := 0) F dX6_days_75 rfl rfl ?_
                refine J_iload (pc' := 78) (q := 3) F dX6_days_76 rfl rfl ?_
                refine J_iload (pc' := 80) (q := 7) F dX6_days_78 rfl rfl ?_
                refine J_aload_n (pc' := 81) (q := 0) F dX6_days_80 rfl rfl ?_
                refine J_goRie (wc := (wM cI cZ g ((fX6_draw sc1 ar1 hs1).2.1) ((fX6_draw sc1 ar1 hs1).2.2.1) ((fX6_draw sc1 ar1 hs1).2.2.2))) (av := [.ref (g 0)]) (rest := [.int ((fX6_draw sc1 ar1 hs1).1), .int y4, .ref (g 0)]) (v := zX6_bendNow ((fX6_draw sc1 ar1 hs1).2.1) ((fX6_draw sc1 ar1 hs1).2.2.1) ((fX6_draw sc1 ar1 hs1).2.2.2)) (pc' := 84) F E (fun _ h => h) (fun H locs hI hp => jrun_V (As := []) 0 F E (c_X6_bendNow l D cI cZ z g ((fX6_draw sc1 ar1 hs1).2.1) ((fX6_draw sc1 ar1 hs1).2.2.1) ((fX6_draw sc1 ar1 hs1).2.2.2) ) kw_754 kw_756 kp_13 rfl kw_757 kw_7 oX6_bendNow ⟨⟨rfl, rfl⟩, ⟨Nat.le_of_ble_eq_true rfl, Nat.le_of_ble_eq_true rfl⟩, Nat.zero_le _, Nat.zero_le _⟩ rfl rfl (Nat.le_of_ble_eq_true rfl) dX6_days_81 rfl rfl (jI_P E hI) hp) rfl ?_
                refine J_goRie (wc := (wM cI cZ g ((fX6_draw sc1 ar1 hs1).2.1) ((fX6_draw sc1 ar1 hs1).2.2.1) ((fX6_draw sc1 ar1 hs1).2.2.2))) (av := [.ref (g 0), .int y4, .int ((fX6_draw sc1 ar1 hs1).1), .int (zX6_bendNow ((fX6_draw sc1 ar1 hs1).2.1) ((fX6_draw sc1 ar1 hs1).2.2.1) ((fX6_draw sc1 ar1 hs1).2.2.2))]) (rest := []) (v := zX6_goes ((fX6_draw sc1 ar1 hs1).2.1) ((fX6_draw sc1 ar1 hs1).2.2.1) ((fX6_draw sc1 ar1 hs1).2.2.2) y4 ((fX6_draw sc1 ar1 hs1).1) (zX6_bendNow ((fX6_draw sc1 ar1 hs1).2.1) ((fX6_draw sc1 ar1 hs1).2.2.1) ((fX6_draw sc1 ar1 hs1).2.2.2))) (pc' := 87) F E (fun _ h => h) (fun H locs hI hp => jrun_V (As := [.int y4, .int ((fX6_draw sc1 ar1 hs1).1), .int (zX6_bendNow ((fX6_draw sc1 ar1 hs1).2.1) ((fX6_draw sc1 ar1 hs1).2.2.1) ((fX6_draw sc1 ar1 hs1).2.2.2))]) 0 F E (c_X6_goes l D cI cZ z g ((fX6_draw sc1 ar1 hs1).2.1) ((fX6_draw sc1 ar1 hs1).2.2.1) ((fX6_draw sc1 ar1 hs1).2.2.2) y4 ((fX6_draw sc1 ar1 hs1).1) (zX6_bendNow ((fX6_draw sc1 ar1 hs1).2.1) ((fX6_draw sc1 ar1 hs1).2.2.1) ((fX6_draw sc1 ar1 hs1).2.2.2))) kw_770 kw_772 kp_15 rfl kw_773 kw_7 oX6_goes ⟨⟨rfl, rfl⟩, ⟨Nat.le_of_ble_eq_true rfl, Nat.le_of_ble_eq_true rfl⟩, Nat.zero_le _, Nat.zero_le _⟩ rfl rfl (Nat.le_of_ble_eq_true rfl) dX6_days_84 rfl rfl (jI_P E hI) hp) rfl ?_
                refine J_istore (pc' := 89) [1, 2, 3, 4, 5, 6, 7, 8, 0] [(0, .ref (g 0)), (1, .int x1), (3, .int x3), (4, .int y4), (5, .int y5), (6, .int y6), (7, .int (nI i)), (8, .int ((fX6_draw sc1 ar1 hs1).1)), (9, .int (zX6_goes ((fX6_draw sc1 ar1 hs1).2.1) ((fX6_draw sc1 ar1 hs1).2.2.1) ((fX6_draw sc1 ar1 hs1).2.2.2) y4 ((fX6_draw sc1 ar1 hs1).1) (zX6_bendNow ((fX6_draw sc1 ar1 hs1).2.1) ((fX6_draw sc1 ar1 hs1).2.2.1) ((fX6_draw sc1 ar1 hs1).2.2.2))))] F dX6_days_87 (jL_of E (show 9 < 10 by decide)) rfl rfl ?_
                refine J_iload (pc' := 91) (q := 8) F dX6_days_89 rfl rfl ?_
                refine J_iconst (pc' := 92) (v := (-1)) F dX6_days_91 (by decide) rfl ?_
                refine J_icmp_eq (tgt := 113) (pc' := 95) F dX6_days_92 (by decide) rfl (fun c92 => ?_) (fun c92 => ?_)
                · refine J_iinc (v := nI (i + 1)) (q := 6) (pc' := 116) [1, 2, 3, 4, 5, 6, 0, 7, 8] [(0, .ref (g 0)), (1, .int x1), (3, .int x3), (4, .int y4), (5, .int y5), (6, .int y6), (7, .int (nI (i + 1))), (8, .int ((fX6_draw sc1 ar1 hs1).1)), (9, .int (zX6_goes ((fX6_draw sc1 ar1 hs1).2.1) ((fX6_draw sc1 ar1 hs1).2.2.1) ((fX6_draw sc1 ar1 hs1).2.2.2) y4 ((fX6_draw sc1 ar1 hs1).1) (zX6_bendNow ((fX6_draw sc1 ar1 hs1).2.1) ((fX6_draw sc1 ar1 hs1).2.2.1) ((fX6_draw sc1 ar1 hs1).2.2.2))))] F dX6_days_113 rfl (nI_inc i) (jL_of E (show 7 < 10 by decide)) rfl rfl ?_
                  refine J_goto (tgt := 61) F dX6_days_116 (by decide) ?_
                  refine J_lv [0, 1, 2, 3, 4, 5, 6] (lv' := [(0, .ref (g 0)), (1, .int x1), (3, .int x3), (4, .int y4), (5, .int y5), (6, .int y6), (7, .int (nI (i + 1)))]) rfl ?_
                  exact ih (i + 1) y4 y5 y6 ((fX6_draw sc1 ar1 hs1).2.1) ((fX6_draw sc1 ar1 hs1).2.2.1) ((fX6_draw sc1 ar1 hs1).2.2.2) (by omega) (by omega) (by show _ = fX6_days sc ar hs x1 x2 x3; rw [← heq, fX6_days_61, if_neg c64, if_pos c92])
                · refine J_iload (pc' := 97) (q := 8) F dX6_days_95 rfl rfl ?_
                  refine J_istore (pc' := 99) [1, 2, 3, 0, 4, 5, 6, 7, 8] [(0, .ref (g 0)), (1, .int x1), (3, .int x3), (4, .int (zX6_goes ((fX6_draw sc1 ar1 hs1).2.1) ((fX6_draw sc1 ar1 hs1).2.2.1) ((fX6_draw sc1 ar1 hs1).2.2.2) y4 ((fX6_draw sc1 ar1 hs1).1) (zX6_bendNow ((fX6_draw sc1 ar1 hs1).2.1) ((fX6_draw sc1 ar1 hs1).2.2.1) ((fX6_draw sc1 ar1 hs1).2.2.2)))), (5, .int y5), (6, .int y6), (7, .int (nI i)), (8, .int ((fX6_draw sc1 ar1 hs1).1)), (9, .int (zX6_goes ((fX6_draw sc1 ar1 hs1).2.1) ((fX6_draw sc1 ar1 hs1).2.2.1) ((fX6_draw sc1 ar1 hs1).2.2.2) y4 ((fX6_draw sc1 ar1 hs1).1) (zX6_bendNow ((fX6_draw sc1 ar1 hs1).2.1) ((fX6_draw sc1 ar1 hs1).2.2.1) ((fX6_draw sc1 ar1 hs1).2.2.2))))] F dX6_days_97 (jL_of E (show 4 < 10 by decide)) rfl rfl ?_
                  refine J_iinc (v := y5 + 1) (q := 4) (pc' := 102) [1, 2, 3, 4, 0, 5, 6, 7, 8] [(0, .ref (g 0)), (1, .int x1), (3, .int x3), (4, .int (zX6_goes ((fX6_draw sc1 ar1 hs1).2.1) ((fX6_draw sc1 ar1 hs1).2.2.1) ((fX6_draw sc1 ar1 hs1).2.2.2) y4 ((fX6_draw sc1 ar1 hs1).1) (zX6_bendNow ((fX6_draw sc1 ar1 hs1).2.1) ((fX6_draw sc1 ar1 hs1).2.2.1) ((fX6_draw sc1 ar1 hs1).2.2.2)))), (5, .int (y5 + 1)), (6, .int y6), (7, .int (nI i)), (8, .int ((fX6_draw sc1 ar1 hs1).1)), (9, .int (zX6_goes ((fX6_draw sc1 ar1 hs1).2.1) ((fX6_draw sc1 ar1 hs1).2.2.1) ((fX6_draw sc1 ar1 hs1).2.2.2) y4 ((fX6_draw sc1 ar1 hs1).1) (zX6_bendNow ((fX6_draw sc1 ar1 hs1).2.1) ((fX6_draw sc1 ar1 hs1).2.2.1) ((fX6_draw sc1 ar1 hs1).2.2.2))))] F dX6_days_99 rfl rfl (jL_of E (show 5 < 10 by decide)) rfl rfl ?_
                  refine J_iload (pc' := 104) (q := 5) F dX6_days_102 rfl rfl ?_
                  refine J_aload_n (pc' := 105) (q := 0) F dX6_days_104 rfl rfl ?_
                  refine J_iload (pc' := 107) (q := 7) F dX6_days_105 rfl rfl ?_
                  refine J_goRie (wc := (wM cI cZ g ((fX6_draw sc1 ar1 hs1).2.1) ((fX6_draw sc1 ar1 hs1).2.2.1) ((fX6_draw sc1 ar1 hs1).2.2.2))) (av := [.ref (g 0), .int ((fX6_draw sc1 ar1 hs1).1)]) (rest := [.int y6]) (v := zX6_lasts ((fX6_draw sc1 ar1 hs1).2.1) ((fX6_draw sc1 ar1 hs1).2.2.1) ((fX6_draw sc1 ar1 hs1).2.2.2) ((fX6_draw sc1 ar1 hs1).1)) (pc' := 110) F E (fun _ h => h) (fun H locs hI hp => jrun_V (As := [.int ((fX6_draw sc1 ar1 hs1).1)]) 0 F E (c_X6_lasts l D cI cZ z g ((fX6_draw sc1 ar1 hs1).2.1) ((fX6_draw sc1 ar1 hs1).2.2.1) ((fX6_draw sc1 ar1 hs1).2.2.2) ((fX6_draw sc1 ar1 hs1).1) (draw_vp _ _ _)) kw_782 kw_784 kp_17 rfl kw_785 kw_7 oX6_lasts ⟨⟨rfl, rfl⟩, ⟨Nat.le_of_ble_eq_true rfl, Nat.le_of_ble_eq_true rfl⟩, Nat.zero_le _, Nat.zero_le _⟩ rfl rfl (Nat.le_of_ble_eq_true rfl) dX6_days_107 rfl rfl (jI_P E hI) hp) rfl ?_
                  refine J_iadd (pc' := 111) F dX6_days_110 rfl ?_
                  refine J_istore (pc' := 113) [1, 2, 3, 4, 5, 0, 6, 7, 8] [(0, .ref (g 0)), (1, .int x1), (3, .int x3), (4, .int (zX6_goes ((fX6_draw sc1 ar1 hs1).2.1) ((fX6_draw sc1 ar1 hs1).2.2.1) ((fX6_draw sc1 ar1 hs1).2.2.2) y4 ((fX6_draw sc1 ar1 hs1).1) (zX6_bendNow ((fX6_draw sc1 ar1 hs1).2.1) ((fX6_draw sc1 ar1 hs1).2.2.1) ((fX6_draw sc1 ar1 hs1).2.2.2)))), (5, .int (y5 + 1)), (6, .int (y6 + (zX6_lasts ((fX6_draw sc1 ar1 hs1).2.1) ((fX6_draw sc1 ar1 hs1).2.2.1) ((fX6_draw sc1 ar1 hs1).2.2.2) ((fX6_draw sc1 ar1 hs1).1)))), (7, .int (nI i)), (8, .int ((fX6_draw sc1 ar1 hs1).1)), (9, .int (zX6_goes ((fX6_draw sc1 ar1 hs1).2.1) ((fX6_draw sc1 ar1 hs1).2.2.1) ((fX6_draw sc1 ar1 hs1).2.2.2) y4 ((fX6_draw sc1 ar1 hs1).1) (zX6_bendNow ((fX6_draw sc1 ar1 hs1).2.1) ((fX6_draw sc1 ar1 hs1).2.2.1) ((fX6_draw sc1 ar1 hs1).2.2.2))))] F dX6_days_111 (jL_of E (show 6 < 10 by decide)) rfl rfl ?_
                  refine J_iinc (v := nI (i + 1)) (q := 6) (pc' := 116) [1, 2, 3, 4, 5, 6, 0, 7, 8] [(0, .ref (g 0)), (1, .int x1), (3, .int x3), (4, .int (zX6_goes ((fX6_draw sc1 ar1 hs1).2.1) ((fX6_draw sc1 ar1 hs1).2.2.1) ((fX6_draw sc1 ar1 hs1).2.2.2) y4 ((fX6_draw sc1 ar1 hs1).1) (zX6_bendNow ((fX6_draw sc1 ar1 hs1).2.1) ((fX6_draw sc1 ar1 hs1).2.2.1) ((fX6_draw sc1 ar1 hs1).2.2.2)))), (5, .int (y5 + 1)), (6, .int (y6 + (zX6_lasts ((fX6_draw sc1 ar1 hs1).2.1) ((fX6_draw sc1 ar1 hs1).2.2.1) ((fX6_draw sc1 ar1 hs1).2.2.2) ((fX6_draw sc1 ar1 hs1).1)))), (7, .int (nI (i + 1))), (8, .int ((fX6_draw sc1 ar1 hs1).1)), (9, .int (zX6_goes ((fX6_draw sc1 ar1 hs1).2.1) ((fX6_draw sc1 ar1 hs1).2.2.1) ((fX6_draw sc1 ar1 hs1).2.2.2) y4 ((fX6_draw sc1 ar1 hs1).1) (zX6_bendNow ((fX6_draw sc1 ar1 hs1).2.1) ((fX6_draw sc1 ar1 hs1).2.2.1) ((fX6_draw sc1 ar1 hs1).2.2.2))))] F dX6_days_113 rfl (nI_inc i) (jL_of E (show 7 < 10 by decide)) rfl rfl ?_
                  refine J_goto (tgt := 61) F dX6_days_116 (by decide) ?_
                  refine J_lv [0, 1, 2, 3, 4, 5, 6] (lv' := [(0, .ref (g 0)), (1, .int x1), (3, .int x3), (4, .int (zX6_goes ((fX6_draw sc1 ar1 hs1).2.1) ((fX6_draw sc1 ar1 hs1).2.2.1) ((fX6_draw sc1 ar1 hs1).2.2.2) y4 ((fX6_draw sc1 ar1 hs1).1) (zX6_bendNow ((fX6_draw sc1 ar1 hs1).2.1) ((fX6_draw sc1 ar1 hs1).2.2.1) ((fX6_draw sc1 ar1 hs1).2.2.2)))), (5, .int (y5 + 1)), (6, .int (y6 + (zX6_lasts ((fX6_draw sc1 ar1 hs1).2.1) ((fX6_draw sc1 ar1 hs1).2.2.1) ((fX6_draw sc1 ar1 hs1).2.2.2) ((fX6_draw sc1 ar1 hs1).1)))), (7, .int (nI (i + 1)))]) rfl ?_
                  exact ih (i + 1) (zX6_goes ((fX6_draw sc1 ar1 hs1).2.1) ((fX6_draw sc1 ar1 hs1).2.2.1) ((fX6_draw sc1 ar1 hs1).2.2.2) y4 ((fX6_draw sc1 ar1 hs1).1) (zX6_bendNow ((fX6_draw sc1 ar1 hs1).2.1) ((fX6_draw sc1 ar1 hs1).2.2.1) ((fX6_draw sc1 ar1 hs1).2.2.2))) (y5 + 1) (y6 + (zX6_lasts ((fX6_draw sc1 ar1 hs1).2.1) ((fX6_draw sc1 ar1 hs1).2.2.1) ((fX6_draw sc1 ar1 hs1).2.2.2) ((fX6_draw sc1 ar1 hs1).1))) ((fX6_draw sc1 ar1 hs1).2.1) ((fX6_draw sc1 ar1 hs1).2.2.1) ((fX6_draw sc1 ar1 hs1).2.2.2) (by omega) (by omega) (by show _ = fX6_days sc ar hs x1 x2 x3; rw [← heq, fX6_days_61, if_neg c64, if_neg c92])
          refine J_lv [0, 1, 3, 4, 5, 6, 7] (lv' := [(0, .ref (g 0)), (1, .int x1), (3, .int x3), (4, .int (sc 5)), (5, .int 0), (6, .int 0), (7, .int (nI 0))]) rfl ?_
          exact L61 (90 + 1) 0 (sc 5) 0 0 (upd sc 23 x2) ar hs (Nat.zero_le _) (Nat.lt_succ_self _) (by unfold fX6_days; rw [if_neg c9, if_neg c13, if_neg c25, if_neg c35])
        · refine J_bipush (pc' := 40) (v := (-103)) F dX6_days_38 (by decide) rfl ?_
          exact J_iretW (sc, ar, hs) F hR dX6_days_40 rfl rfl (by show _ = fX6_days sc ar hs x1 x2 x3; unfold fX6_days; rw [if_neg c9, if_neg c13, if_neg c25, if_pos c35])
      · refine J_bipush (pc' := 30) (v := (-102)) F dX6_days_28 (by decide) rfl ?_
        exact J_iretW (sc, ar, hs) F hR dX6_days_30 rfl rfl (by show _ = fX6_days sc ar hs x1 x2 x3; unfold fX6_days; rw [if_neg c9, if_neg c13, if_pos c25])
def fX6_isBetter (sc : Nat → Int32) (ar : Nat → Nat → Int32) (hs : Int64) (x1 : Int32) (x2 : Int32) (x3 : Int32) : Int32 × uM := if x1 = (sc 5) then (if ((ar 2) ((x2 : Int32).toNatClampNeg)) = (-1) then (1, (sc, (va_up (va_up ar 2 (upd (ar 2) ((x2 : Int32).toNatClampNeg) (((ar 2) ((x1 : Int32).toNatClampNeg)) + (zX6_lasts sc ar hs x3)))) 3 (upd (ar 3) ((x2 : Int32).toNatClampNeg) x3)), hs)) else (if (((ar 2) ((x1 : Int32).toNatClampNeg)) + (zX6_lasts sc ar hs x3)) < ((ar 2) ((x2 : Int32).toNatClampNeg)) then (1, (sc, (va_up (va_up ar 2 (upd (ar 2) ((x2 : Int32).toNatClampNeg) (((ar 2) ((x1 : Int32).toNatClampNeg)) + (zX6_lasts sc ar hs x3)))) 3 (upd (ar 3) ((x2 : Int32).toNatClampNeg) x3)), hs)) else (if (((ar 2) ((x1 : Int32).toNatClampNeg)) + (zX6_lasts sc ar hs x3)) = ((ar 2) ((x2 : Int32).toNatClampNeg)) then (if ((ar 3) ((x2 : Int32).toNatClampNeg)) ≤ x3 then (0, (sc, ar, hs)) else (1, (sc, (va_up (va_up ar 2 (upd (ar 2) ((x2 : Int32).toNatClampNeg) (((ar 2) ((x1 : Int32).toNatClampNeg)) + (zX6_lasts sc ar hs x3)))) 3 (upd (ar 3) ((x2 : Int32).toNatClampNeg) x3)), hs))) else (0, (sc, ar, hs))))) else (if ((ar 2) ((x2 : Int32).toNatClampNeg)) = (-1) then (1, (sc, (va_up (va_up ar 2 (upd (ar 2) ((x2 : Int32).toNatClampNeg) (((ar 2) ((x1 : Int32).toNatClampNeg)) + (zX6_lasts sc ar hs x3)))) 3 (upd (ar 3) ((x2 : Int32).toNatClampNeg) ((ar 3) ((x1 : Int32).toNatClampNeg)))), hs)) else (if (((ar 2) ((x1 : Int32).toNatClampNeg)) + (zX6_lasts sc ar hs x3)) < ((ar 2) ((x2 : Int32).toNatClampNeg)) then (1, (sc, (va_up (va_up ar 2 (upd (ar 2) ((x2 : Int32).toNatClampNeg) (((ar 2) ((x1 : Int32).toNatClampNeg)) + (zX6_lasts sc ar hs x3)))) 3 (upd (ar 3) ((x2 : Int32).toNatClampNeg) ((ar 3) ((x1 : Int32).toNatClampNeg)))), hs)) else (if (((ar 2) ((x1 : Int32).toNatClampNeg)) + (zX6_lasts sc ar hs x3)) = ((ar 2) ((x2 : Int32).toNatClampNeg)) then (if ((ar 3) ((x2 : Int32).toNatClampNeg)) ≤ ((ar 3) ((x1 : Int32).toNatClampNeg)) then (0, (sc, ar, hs)) else (1, (sc, (va_up (va_up ar 2 (upd (ar 2) ((x2 : Int32).toNatClampNeg) (((ar 2) ((x1 : Int32).toNatClampNeg)) + (zX6_lasts sc ar hs x3)))) 3 (upd (ar 3) ((x2 : Int32).toNatClampNeg) ((ar 3) ((x1 : Int32).toNatClampNeg)))), hs))) else (0, (sc, ar, hs)))))
abbrev rm_X6_isBetter : Room := { frames := 2, cells := 0, slots := 0, locals := 43 }
set_option maxHeartbeats 4000000 in
set_option maxRecDepth 100000 in
theorem c_X6_isBetter (l : Launch) (D : va_G) (cI cZ : ClassId) (z : Nat → Nat) (g : Nat → Nat) (sc : Nat → Int32) (ar : Nat → Nat → Int32) (hs : Int64) (x1 : Int32) (x2 : Int32) (x3 : Int32) (h1 : vp_in x1 4096) (h2 : vp_in x2 4096) (ha : vp_in x3 42) : cWi l yX6_isBetter ww_X6_isBetter rm_X6_isBetter D cI cZ z (fM cI cZ g) (wM cI cZ g sc ar hs) [.ref (g 0), .int x1, .int x2, .int x3] (fun r u => (r, u) = fX6_isBetter sc ar hs x1 x2 x3) := by
  refine cWi.of (cc := cX6_isBetter) (maxL := 7) (rt := .boolean) (by decide) rfl (Nat.le_of_ble_eq_true rfl) (fun X F E hA hR => ?_)
  refine J_lv [0, 1, 2, 3] (lv' := [(0, .ref (g 0)), (1, .int x1), (2, .int x2), (3, .int x3)]) rfl ?_
  refine J_aload_n (pc' := 1) (q := 0) F dX6_isBetter_0 rfl rfl ?_
  refine M_get_0_11 (pc' := 4) F dX6_isBetter_1 kw_590 rfl ?_
  refine J_iload_n (pc' := 5) (q := 1) F dX6_isBetter_4 rfl rfl ?_
  refine M_ld_2 (f := ar 2) (q := (x1 : Int32).toNatClampNeg) (pc' := 6) F dX6_isBetter_5 rfl rfl h1 rfl ?_
  refine J_aload_n (pc' := 7) (q := 0) F dX6_isBetter_6 rfl rfl ?_
  refine J_iload_n (pc' := 8) (q := 3) F dX6_isBetter_7 rfl rfl ?_
  refine J_goRie (wc := (wM cI cZ g sc ar hs)) (av := [.ref (g 0), .int x3]) (rest := [.int ((ar 2) ((x1 : Int32).toNatClampNeg))]) (v := zX6_lasts sc ar hs x3) (pc' := 11) F E (fun _ h => h) (fun H locs hI hp => jrun_V (As := [.int x3]) 0 F E (c_X6_lasts l D cI cZ z g sc ar hs x3 ha) kw_782 kw_784 kp_17 rfl kw_785 kw_7 oX6_lasts ⟨⟨rfl, rfl⟩, ⟨Nat.le_of_ble_eq_true rfl, Nat.le_of_ble_eq_true rfl⟩, Nat.zero_le _, Nat.zero_le _⟩ rfl rfl (Nat.le_of_ble_eq_true rfl) dX6_isBetter_8 rfl rfl (jI_P E hI) hp) rfl ?_
  refine J_iadd (pc' := 12) F dX6_isBetter_11 rfl ?_
  refine J_istore (pc' := 14) [1, 2, 3, 4, 0] [(0, .ref (g 0)), (1, .int x1), (2, .int x2), (3, .int x3), (4, .int (((ar 2) ((x1 : Int32).toNatClampNeg)) + (zX6_lasts sc ar hs x3)))] F dX6_isBetter_12 (jL_of E (show 4 < 7 by decide)) rfl rfl ?_
  refine J_iload_n (pc' := 15) (q := 1) F dX6_isBetter_14 rfl rfl ?_
  refine J_aload_n (pc' := 16) (q := 0) F dX6_isBetter_15 rfl rfl ?_
  refine M_get_0_5 (v := sc 5) (pc' := 19) F dX6_isBetter_16 kw_584 rfl rfl ?_
  refine J_icmp_ne (tgt := 26) (pc' := 22) F dX6_isBetter_19 (by decide) rfl (fun c19 => ?_) (fun c19 => ?_)
  · refine J_aload_n (pc' := 27) (q := 0) F dX6_isBetter_26 rfl rfl ?_
    refine M_get_0_12 (pc' := 30) F dX6_isBetter_27 kw_591 rfl ?_
    refine J_iload_n (pc' := 31) (q := 1) F dX6_isBetter_30 rfl rfl ?_
    refine M_ld_3 (f := ar 3) (q := (x1 : Int32).toNatClampNeg) (pc' := 32) F dX6_isBetter_31 rfl rfl h1 rfl ?_
    refine J_istore (pc' := 34) [1, 2, 3, 4, 5, 0] [(0, .ref (g 0)), (1, .int x1), (2, .int x2), (3, .int x3), (4, .int (((ar 2) ((x1 : Int32).toNatClampNeg)) + (zX6_lasts sc ar hs x3))), (5, .int ((ar 3) ((x1 : Int32).toNatClampNeg)))] F dX6_isBetter_32 (jL_of E (show 5 < 7 by decide)) rfl rfl ?_
    refine J_aload_n (pc' := 35) (q := 0) F dX6_isBetter_34 rfl rfl ?_
    refine M_get_0_11 (pc' := 38) F dX6_isBetter_35 kw_590 rfl ?_
    refine J_iload_n (pc' := 39) (q := 2) F dX6_isBetter_38 rfl rfl ?_
    refine M_ld_2 (f := ar 2) (q := (x2 : Int32).toNatClampNeg) (pc' := 40) F dX6_isBetter_39 rfl rfl h2 rfl ?_
    refine J_iconst (pc' := 41) (v := (-1)) F dX6_isBetter_40 (by decide) rfl ?_
    refine J_icmp_eq (tgt := 77) (pc' := 44) F dX6_isBetter_41 (by decide) rfl (fun c41 => ?_) (fun c41 => ?_)
    · refine J_iconst (pc' := 78) (v := 1) F dX6_isBetter_77 (by decide) rfl ?_
      refine J_goto (tgt := 82) F dX6_isBetter_78 (by decide) ?_
      refine J_istore (pc' := 84) [1, 2, 3, 4, 5, 6, 0] [(0, .ref (g 0)), (1, .int x1), (2, .int x2), (3, .int x3), (4, .int (((ar 2) ((x1 : Int32).toNatClampNeg)) + (zX6_lasts sc ar hs x3))), (5, .int ((ar 3) ((x1 : Int32).toNatClampNeg))), (6, .int 1)] F dX6_isBetter_82 (jL_of E (show 6 < 7 by decide)) rfl rfl ?_
      refine J_iload (pc' := 86) (q := 6) F dX6_isBetter_84 rfl rfl ?_
      refine J_if_eq (tgt := 105) (pc' := 89) F dX6_isBetter_86 (by decide) rfl (fun c9 => absurd c9 (by decide)) (fun _ => ?_)
      refine J_aload_n (pc' := 90) (q := 0) F dX6_isBetter_89 rfl rfl ?_
      refine M_get_0_11 (pc' := 93) F dX6_isBetter_90 kw_590 rfl ?_
      refine J_iload_n (pc' := 94) (q := 2) F dX6_isBetter_93 rfl rfl ?_
      refine J_iload (pc' := 96) (q := 4) F dX6_isBetter_94 rfl rfl ?_
      refine M_st_2 (f := ar 2) (q := (x2 : Int32).toNatClampNeg) (pc' := 97) F dX6_isBetter_96 rfl rfl h2 rfl ?_
      refine J_aload_n (pc' := 98) (q := 0) F dX6_isBetter_97 rfl rfl ?_
      refine M_get_0_12 (pc' := 101) F dX6_isBetter_98 kw_591 rfl ?_
      refine J_iload_n (pc' := 102) (q := 2) F dX6_isBetter_101 rfl rfl ?_
      refine J_iload (pc' := 104) (q := 5) F dX6_isBetter_102 rfl rfl ?_
      refine M_st_3 (f := ar 3) (q := (x2 : Int32).toNatClampNeg) (pc' := 105) F dX6_isBetter_104 rfl rfl h2 rfl ?_
      refine J_iload (pc' := 107) (q := 6) F dX6_isBetter_105 rfl rfl ?_
      exact J_iretW (sc, (va_up (va_up ar 2 (upd (ar 2) ((x2 : Int32).toNatClampNeg) (((ar 2) ((x1 : Int32).toNatClampNeg)) + (zX6_lasts sc ar hs x3)))) 3 (upd (ar 3) ((x2 : Int32).toNatClampNeg) ((ar 3) ((x1 : Int32).toNatClampNeg)))), hs) F hR dX6_isBetter_107 rfl rfl (by show _ = fX6_isBetter sc ar hs x1 x2 x3; unfold fX6_isBetter; rw [if_neg c19, if_pos c41])
    · refine J_iload (pc' := 46) (q := 4) F dX6_isBetter_44 rfl rfl ?_
      refine J_aload_n (pc' := 47) (q := 0) F dX6_isBetter_46 rfl rfl ?_
      refine M_get_0_11 (pc' := 50) F dX6_isBetter_47 kw_590 rfl ?_
      refine J_iload_n (pc' := 51) (q := 2) F dX6_isBetter_50 rfl rfl ?_
      refine M_ld_2 (f := ar 2) (q := (x2 : Int32).toNatClampNeg) (pc' := 52) F dX6_isBetter_51 rfl rfl h2 rfl ?_
      refine J_icmp_lt (tgt := 77) (pc' := 55) F dX6_isBetter_52 (by decide) rfl (fun c52 => ?_) (fun c52 => ?_)
      · refine J_iconst (pc' := 78) (v := 1) F dX6_isBetter_77 (by decide) rfl ?_
        refine J_goto (tgt := 82) F dX6_isBetter_78 (by decide) ?_
        refine J_istore (pc' := 84) [1, 2, 3, 4, 5, 6, 0] [(0, .ref (g 0)), (1, .int x1), (2, .int x2), (3, .int x3), (4, .int (((ar 2) ((x1 : Int32).toNatClampNeg)) + (zX6_lasts sc ar hs x3))), (5, .int ((ar 3) ((x1 : Int32).toNatClampNeg))), (6, .int 1)] F dX6_isBetter_82 (jL_of E (show 6 < 7 by decide)) rfl rfl ?_
        refine J_iload (pc' := 86) (q := 6) F dX6_isBetter_84 rfl rfl ?_
        refine J_if_eq (tgt := 105) (pc' := 89) F dX6_isBetter_86 (by decide) rfl (fun c9 => absurd c9 (by decide)) (fun _ => ?_)
        refine J_aload_n (pc' := 90) (q := 0) F dX6_isBetter_89 rfl rfl ?_
        refine M_get_0_11 (pc' := 93) F dX6_isBetter_90 kw_590 rfl ?_
        refine J_iload_n (pc' := 94) (q := 2) F dX6_isBetter_93 rfl rfl ?_
        refine J_iload (pc' := 96) (q := 4) F dX6_isBetter_94 rfl rfl ?_
        refine M_st_2 (f := ar 2) (q := (x2 : Int32).toNatClampNeg) (pc' := 97) F dX6_isBetter_96 rfl rfl h2 rfl ?_
        refine J_aload_n (pc' := 98) (q := 0) F dX6_isBetter_97 rfl rfl ?_
        refine M_get_0_12 (pc' := 101) F dX6_isBetter_98 kw_591 rfl ?_
        refine J_iload_n (pc' := 102) (q := 2) F dX6_isBetter_101 rfl rfl ?_
        refine J_iload (pc' := 104) (q := 5) F dX6_isBetter_102 rfl rfl ?_
        refine M_st_3 (f := ar 3) (q := (x2 : Int32).toNatClampNeg) (pc' := 105) F dX6_isBetter_104 rfl rfl h2 rfl ?_
        refine J_iload (pc' := 107) (q := 6) F dX6_isBetter_105 rfl rfl ?_
        exact J_iretW (sc, (va_up (va_up ar 2 (upd (ar 2) ((x2 : Int32).toNatClampNeg) (((ar 2) ((x1 : Int32).toNatClampNeg)) + (zX6_lasts sc ar hs x3)))) 3 (upd (ar 3) ((x2 : Int32).toNatClampNeg) ((ar 3) ((x1 : Int32).toNatClampNeg)))), hs) F hR dX6_isBetter_107 rfl rfl (by show _ = fX6_isBetter sc ar hs x1 x2 x3; unfold fX6_isBetter; rw [if_neg c19, if_neg c41, if_pos c52])
      · refine J_iload (pc' := 57) (q := 4) F dX6_isBetter_55 rfl rfl ?_
        refine J_aload_n (pc' := 58) (q := 0) F dX6_isBetter_57 rfl rfl ?_
        refine M_get_0_11 (pc' := 61) F dX6_isBetter_58 kw_590 rfl ?_
        refine J_iload_n (pc' := 62) (q := 2) F dX6_isBetter_61 rfl rfl ?_
        refine M_ld_2 (f := ar 2) (q := (x2 : Int32).toNatClampNeg) (pc' := 63) F dX6_isBetter_62 rfl rfl h2 rfl ?_
        refine J_icmp_ne (tgt := 81) (pc' := 66) F dX6_isBetter_63 (by decide) rfl (fun c63 => ?_) (fun c63 => ?_)
        · refine J_iconst (pc' := 82) (v := 0) F dX6_isBetter_81 (by decide) rfl ?_
          refine J_istore (pc' := 84) [1, 2, 3, 4, 5, 6, 0] [(0, .ref (g 0)), (1, .int x1), (2, .int x2), (3, .int x3), (4, .int (((ar 2) ((x1 : Int32).toNatClampNeg)) + (zX6_lasts sc ar hs x3))), (5, .int ((ar 3) ((x1 : Int32).toNatClampNeg))), (6, .int 0)] F dX6_isBetter_82 (jL_of E (show 6 < 7 by decide)) rfl rfl ?_
          refine J_iload (pc' := 86) (q := 6) F dX6_isBetter_84 rfl rfl ?_
          refine J_if_eq (tgt := 105) (pc' := 89) F dX6_isBetter_86 (by decide) rfl (fun _ => ?_) (fun c9 => absurd (by decide) c9)
          refine J_iload (pc' := 107) (q := 6) F dX6_isBetter_105 rfl rfl ?_
          exact J_iretW (sc, ar, hs) F hR dX6_isBetter_107 rfl rfl (by show _ = fX6_isBetter sc ar hs x1 x2 x3; unfold fX6_isBetter; rw [if_neg c19, if_neg c41, if_neg c52, if_neg c63])
        · refine J_iload (pc' := 68) (q := 5) F dX6_isBetter_66 rfl rfl ?_
          refine J_aload_n (pc' := 69) (q := 0) F dX6_isBetter_68 rfl rfl ?_
          refine M_get_0_12 (pc' := 72) F dX6_isBetter_69 kw_591 rfl ?_
          refine J_iload_n (pc' := 73) (q := 2) F dX6_isBetter_72 rfl rfl ?_
          refine M_ld_3 (f := ar 3) (q := (x2 : Int32).toNatClampNeg) (pc' := 74) F dX6_isBetter_73 rfl rfl h2 rfl ?_
          refine J_icmp_ge (tgt := 81) (pc' := 77) F dX6_isBetter_74 (by decide) rfl (fun c74 => ?_) (fun c74 => ?_)
          · refine J_iconst (pc' := 82) (v := 0) F dX6_isBetter_81 (by decide) rfl ?_
            refine J_istore (pc' := 84) [1, 2, 3, 4, 5, 6, 0] [(0, .ref (g 0)), (1, .int x1), (2, .int x2), (3, .int x3), (4, .int (((ar 2) ((x1 : Int32).toNatClampNeg)) + (zX6_lasts sc ar hs x3))), (5, .int ((ar 3) ((x1 : Int32).toNatClampNeg))), (6, .int 0)] F dX6_isBetter_82 (jL_of E (show 6 < 7 by decide)) rfl rfl ?_
            refine J_iload (pc' := 86) (q := 6) F dX6_isBetter_84 rfl rfl ?_
            refine J_if_eq (tgt := 105) (pc' := 89) F dX6_isBetter_86 (by decide) rfl (fun _ => ?_) (fun c9 => absurd (by decide) c9)
            refine J_iload (pc' := 107) (q := 6) F dX6_isBetter_105 rfl rfl ?_
            exact J_iretW (sc, ar, hs) F hR dX6_isBetter_107 rfl rfl (by show _ = fX6_isBetter sc ar hs x1 x2 x3; unfold fX6_isBetter; rw [if_neg c19, if_neg c41, if_neg c52, if_pos c63, if_pos c74])
          · refine J_iconst (pc' := 78) (v := 1) F dX6_isBetter_77 (by decide) rfl ?_
            refine J_goto (tgt := 82) F dX6_isBetter_78 (by decide) ?_
            refine J_istore (pc' := 84) [1, 2, 3, 4, 5, 6, 0] [(0, .ref (g 0)), (1, .int x1), (2, .int x2), (3, .int x3), (4, .int (((ar 2) ((x1 : Int32).toNatClampNeg)) + (zX6_lasts sc ar hs x3))), (5, .int ((ar 3) ((x1 : Int32).toNatClampNeg))), (6, .int 1)] F dX6_isBetter_82 (jL_of E (show 6 < 7 by decide)) rfl rfl ?_
            refine J_iload (pc' := 86) (q := 6) F dX6_isBetter_84 rfl rfl ?_
            refine J_if_eq (tgt := 105) (pc' := 89) F dX6_isBetter_86 (by decide) rfl (fun c9 => absurd c9 (by decide)) (fun _ => ?_)
            refine J_aload_n (pc' := 90) (q := 0) F dX6_isBetter_89 rfl rfl ?_
            refine M_get_0_11 (pc' := 93) F dX6_isBetter_90 kw_590 rfl ?_
            refine J_iload_n (pc' := 94) (q := 2) F dX6_isBetter_93 rfl rfl ?_
            refine J_iload (pc' := 96) (q := 4) F dX6_isBetter_94 rfl rfl ?_
            refine M_st_2 (f := ar 2) (q := (x2 : Int32).toNatClampNeg) (pc' := 97) F dX6_isBetter_96 rfl rfl h2 rfl ?_
            refine J_aload_n (pc' := 98) (q := 0) F dX6_isBetter_97 rfl rfl ?_
            refine M_get_0_12 (pc' := 101) F dX6_isBetter_98 kw_591 rfl ?_
            refine J_iload_n (pc' := 102) (q := 2) F dX6_isBetter_101 rfl rfl ?_
            refine J_iload (pc' := 104) (q := 5) F dX6_isBetter_102 rfl rfl ?_
            refine M_st_3 (f := ar 3) (q := (x2 : Int32).toNatClampNeg) (pc' := 105) F dX6_isBetter_104 rfl rfl h2 rfl ?_
            refine J_iload (pc' := 107) (q := 6) F dX6_isBetter_105 rfl rfl ?_
            exact J_iretW (sc, (va_up (va_up ar 2 (upd (ar 2) ((x2 : Int32).toNatClampNeg) (((ar 2) ((x1 : Int32).toNatClampNeg)) + (zX6_lasts sc ar hs x3)))) 3 (upd (ar 3) ((x2 : Int32).toNatClampNeg) ((ar 3) ((x1 : Int32).toNatClampNeg)))), hs) F hR dX6_isBetter_107 rfl rfl (by show _ = fX6_isBetter sc ar hs x1 x2 x3; unfold fX6_isBetter; rw [if_neg c19, if_neg c41, if_neg c52, if_pos c63, if_neg c74])
  · refine J_iload_n (pc' := 23) (q := 3) F dX6_isBetter_22 rfl rfl ?_
    refine J_goto (tgt := 32) F dX6_isBetter_23 (by decide) ?_
    refine J_istore (pc' := 34) [1, 2, 3, 4, 5, 0] [(0, .ref (g 0)), (1, .int x1), (2, .int x2), (3, .int x3), (4, .int (((ar 2) ((x1 : Int32).toNatClampNeg)) + (zX6_lasts sc ar hs x3))), (5, .int x3)] F dX6_isBetter_32 (jL_of E (show 5 < 7 by decide)) rfl rfl ?_
    refine J_aload_n (pc' := 35) (q := 0) F dX6_isBetter_34 rfl rfl ?_
    refine M_get_0_11 (pc' := 38) F dX6_isBetter_35 kw_590 rfl ?_
    refine J_iload_n (pc' := 39) (q := 2) F dX6_isBetter_38 rfl rfl ?_
    refine M_ld_2 (f := ar 2) (q := (x2 : Int32).toNatClampNeg) (pc' := 40) F dX6_isBetter_39 rfl rfl h2 rfl ?_
    refine J_iconst (pc' := 41) (v := (-1)) F dX6_isBetter_40 (by decide) rfl ?_
    refine J_icmp_eq (tgt := 77) (pc' := 44) F dX6_isBetter_41 (by decide) rfl (fun c41_2 => ?_) (fun c41_2 => ?_)
    · refine J_iconst (pc' := 78) (v := 1) F dX6_isBetter_77 (by decide) rfl ?_
      refine J_goto (tgt := 82) F dX6_isBetter_78 (by decide) ?_
      refine J_istore (pc' := 84) [1, 2, 3, 4, 5, 6, 0] [(0, .ref (g 0)), (1, .int x1), (2, .int x2), (3, .int x3), (4, .int (((ar 2) ((x1 : Int32).toNatClampNeg)) + (zX6_lasts sc ar hs x3))), (5, .int x3), (6, .int 1)] F dX6_isBetter_82 (jL_of E (show 6 < 7 by decide)) rfl rfl ?_
      refine J_iload (pc' := 86) (q := 6) F dX6_isBetter_84 rfl rfl ?_
      refine J_if_eq (tgt := 105) (pc' := 89) F dX6_isBetter_86 (by decide) rfl (fun c9 => absurd c9 (by decide)) (fun _ => ?_)
      refine J_aload_n (pc' := 90) (q := 0) F dX6_isBetter_89 rfl rfl ?_
      refine M_get_0_11 (pc' := 93) F dX6_isBetter_90 kw_590 rfl ?_
      refine J_iload_n (pc' := 94) (q := 2) F dX6_isBetter_93 rfl rfl ?_
      refine J_iload (pc' := 96) (q := 4) F dX6_isBetter_94 rfl rfl ?_
      refine M_st_2 (f := ar 2) (q := (x2 : Int32).toNatClampNeg) (pc' := 97) F dX6_isBetter_96 rfl rfl h2 rfl ?_
      refine J_aload_n (pc' := 98) (q := 0) F dX6_isBetter_97 rfl rfl ?_
      refine M_get_0_12 (pc' := 101) F dX6_isBetter_98 kw_591 rfl ?_
      refine J_iload_n (pc' := 102) (q := 2) F dX6_isBetter_101 rfl rfl ?_
      refine J_iload (pc' := 104) (q := 5) F dX6_isBetter_102 rfl rfl ?_
      refine M_st_3 (f := ar 3) (q := (x2 : Int32).toNatClampNeg) (pc' := 105) F dX6_isBetter_104 rfl rfl h2 rfl ?_
      refine J_iload (pc' := 107) (q := 6) F dX6_isBetter_105 rfl rfl ?_
      exact J_iretW (sc, (va_up (va_up ar 2 (upd (ar 2) ((x2 : Int32).toNatClampNeg) (((ar 2) ((x1 : Int32).toNatClampNeg)) + (zX6_lasts sc ar hs x3)))) 3 (upd (ar 3) ((x2 : Int32).toNatClampNeg) x3)), hs) F hR dX6_isBetter_107 rfl rfl (by show _ = fX6_isBetter sc ar hs x1 x2 x3; unfold fX6_isBetter; rw [if_pos c19, if_pos c41_2])
    · refine J_iload (pc' := 46) (q := 4) F dX6_isBetter_44 rfl rfl ?_
      refine J_aload_n (pc' := 47) (q := 0) F dX6_isBetter_46 rfl rfl ?_
      refine M_get_0_11 (pc' := 50) F dX6_isBetter_47 kw_590 rfl ?_
      refine J_iload_n (pc' := 51) (q := 2) F dX6_isBetter_50 rfl rfl ?_
      refine M_ld_2 (f := ar 2) (q := (x2 : Int32).toNatClampNeg) (pc' := 52) F dX6_isBetter_51 rfl rfl h2 rfl ?_
      refine J_icmp_lt (tgt := 77) (pc' := 55) F dX6_isBetter_52 (by decide) rfl (fun c52_2 => ?_) (fun c52_2 => ?_)
      · refine J_iconst (pc' := 78) (v := 1) F dX6_isBetter_77 (by decide) rfl ?_
        refine J_goto (tgt := 82) F dX6_isBetter_78 (by decide) ?_
        refine J_istore (pc' := 84) [1, 2, 3, 4, 5, 6, 0] [(0, .ref (g 0)), (1, .int x1), (2, .int x2), (3, .int x3), (4, .int (((ar 2) ((x1 : Int32).toNatClampNeg)) + (zX6_lasts sc ar hs x3))), (5, .int x3), (6, .int 1)] F dX6_isBetter_82 (jL_of E (show 6 < 7 by decide)) rfl rfl ?_
        refine J_iload (pc' := 86) (q := 6) F dX6_isBetter_84 rfl rfl ?_
        refine J_if_eq (tgt := 105) (pc' := 89) F dX6_isBetter_86 (by decide) rfl (fun c9 => absurd c9 (by decide)) (fun _ => ?_)
        refine J_aload_n (pc' := 90) (q := 0) F dX6_isBetter_89 rfl rfl ?_
        refine M_get_0_11 (pc' := 93) F dX6_isBetter_90 kw_590 rfl ?_
        refine J_iload_n (pc' := 94) (q := 2) F dX6_isBetter_93 rfl rfl ?_
        refine J_iload (pc' := 96) (q := 4) F dX6_isBetter_94 rfl rfl ?_
        refine M_st_2 (f := ar 2) (q := (x2 : Int32).toNatClampNeg) (pc' := 97) F dX6_isBetter_96 rfl rfl h2 rfl ?_
        refine J_aload_n (pc' := 98) (q := 0) F dX6_isBetter_97 rfl rfl ?_
        refine M_get_0_12 (pc' := 101) F dX6_isBetter_98 kw_591 rfl ?_
        refine J_iload_n (pc' := 102) (q := 2) F dX6_isBetter_101 rfl rfl ?_
        refine J_iload (pc' := 104) (q := 5) F dX6_isBetter_102 rfl rfl ?_
        refine M_st_3 (f := ar 3) (q := (x2 : Int32).toNatClampNeg) (pc' := 105) F dX6_isBetter_104 rfl rfl h2 rfl ?_
        refine J_iload (pc' := 107) (q := 6) F dX6_isBetter_105 rfl rfl ?_
        exact J_iretW (sc, (va_up (va_up ar 2 (upd (ar 2) ((x2 : Int32).toNatClampNeg) (((ar 2) ((x1 : Int32).toNatClampNeg)) + (zX6_lasts sc ar hs x3)))) 3 (upd (ar 3) ((x2 : Int32).toNatClampNeg) x3)), hs) F hR dX6_isBetter_107 rfl rfl (by show _ = fX6_isBetter sc ar hs x1 x2 x3; unfold fX6_isBetter; rw [if_pos c19, if_neg c41_2, if_pos c52_2])
      · refine J_iload (pc' := 57) (q := 4) F dX6_isBetter_55 rfl rfl ?_
        refine J_aload_n (pc' := 58) (q := 0) F dX6_isBetter_57 rfl rfl ?_
        refine M_get_0_11 (pc' := 61) F dX6_isBetter_58 kw_590 rfl ?_
        refine J_iload_n (pc' := 62) (q := 2) F dX6_isBetter_61 rfl rfl ?_
        refine M_ld_2 (f := ar 2) (q := (x2 : Int32).toNatClampNeg) (pc' := 63) F dX6_isBetter_62 rfl rfl h2 rfl ?_
        refine J_icmp_ne (tgt := 81) (pc' := 66) F dX6_isBetter_63 (by decide) rfl (fun c63_2 => ?_) (fun c63_2 => ?_)
        · refine J_iconst (pc' := 82) (v := 0) F dX6_isBetter_81 (by decide) rfl ?_
          refine J_istore (pc' := 84) [1, 2, 3, 4, 5, 6, 0] [(0, .ref (g 0)), (1, .int x1), (2, .int x2), (3, .int x3), (4, .int (((ar 2) ((x1 : Int32).toNatClampNeg)) + (zX6_lasts sc ar hs x3))), (5, .int x3), (6, .int 0)] F dX6_isBetter_82 (jL_of E (show 6 < 7 by decide)) rfl rfl ?_
          refine J_iload (pc' := 86) (q := 6) F dX6_isBetter_84 rfl rfl ?_
          refine J_if_eq (tgt := 105) (pc' := 89) F dX6_isBetter_86 (by decide) rfl (fun _ => ?_) (fun c9 => absurd (by decide) c9)
          refine J_iload (pc' := 107) (q := 6) F dX6_isBetter_105 rfl rfl ?_
          exact J_iretW (sc, ar, hs) F hR dX6_isBetter_107 rfl rfl (by show _ = fX6_isBetter sc ar hs x1 x2 x3; unfold fX6_isBetter; rw [if_pos c19, if_neg c41_2, if_neg c52_2, if_neg c63_2])
        · refine J_iload (pc' := 68) (q := 5) F dX6_isBetter_66 rfl rfl ?_
          refine J_aload_n (pc' := 69) (q := 0) F dX6_isBetter_68 rfl rfl ?_
          refine M_get_0_12 (pc' := 72) F dX6_isBetter_69 kw_591 rfl ?_
          refine J_iload_n (pc' := 73) (q := 2) F dX6_isBetter_72 rfl rfl ?_
          refine M_ld_3 (f := ar 3) (q := (x2 : Int32).toNatClampNeg) (pc' := 74) F dX6_isBetter_73 rfl rfl h2 rfl ?_
          refine J_icmp_ge (tgt := 81) (pc' := 77) F dX6_isBetter_74 (by decide) rfl (fun c74_2 => ?_) (fun c74_2 => ?_)
          · refine J_iconst (pc' := 82) (v := 0) F dX6_isBetter_81 (by decide) rfl ?_
            refine J_istore (pc' := 84) [1, 2, 3, 4, 5, 6, 0] [(0, .ref (g 0)), (1, .int x1), (2, .int x2), (3, .int x3), (4, .int (((ar 2) ((x1 : Int32).toNatClampNeg)) + (zX6_lasts sc ar hs x3))), (5, .int x3), (6, .int 0)] F dX6_isBetter_82 (jL_of E (show 6 < 7 by decide)) rfl rfl ?_
            refine J_iload (pc' := 86) (q := 6) F dX6_isBetter_84 rfl rfl ?_
            refine J_if_eq (tgt := 105) (pc' := 89) F dX6_isBetter_86 (by decide) rfl (fun _ => ?_) (fun c9 => absurd (by decide) c9)
            refine J_iload (pc' := 107) (q := 6) F dX6_isBetter_105 rfl rfl ?_
            exact J_iretW (sc, ar, hs) F hR dX6_isBetter_107 rfl rfl (by show _ = fX6_isBetter sc ar hs x1 x2 x3; unfold fX6_isBetter; rw [if_pos c19, if_neg c41_2, if_neg c52_2, if_pos c63_2, if_pos c74_2])
          · refine J_iconst (pc' := 78) (v := 1) F dX6_isBetter_77 (by decide) rfl ?_
            refine J_goto (tgt := 82) F dX6_isBetter_78 (by decide) ?_
            refine J_istore (pc' := 84) [1, 2, 3, 4, 5, 6, 0] [(0, .ref (g 0)), (1, .int x1), (2, .int x2), (3, .int x3), (4, .int (((ar 2) ((x1 : Int32).toNatClampNeg)) + (zX6_lasts sc ar hs x3))), (5, .int x3), (6, .int 1)] F dX6_isBetter_82 (jL_of E (show 6 < 7 by decide)) rfl rfl ?_
            refine J_iload (pc' := 86) (q := 6) F dX6_isBetter_84 rfl rfl ?_
            refine J_if_eq (tgt := 105) (pc' := 89) F dX6_isBetter_86 (by decide) rfl (fun c9 => absurd c9 (by decide)) (fun _ => ?_)
            refine J_aload_n (pc' := 90) (q := 0) F dX6_isBetter_89 rfl rfl ?_
            refine M_get_0_11 (pc' := 93) F dX6_isBetter_90 kw_590 rfl ?_
            refine J_iload_n (pc' := 94) (q := 2) F dX6_isBetter_93 rfl rfl ?_
            refine J_iload (pc' := 96) (q := 4) F dX6_isBetter_94 rfl rfl ?_
            refine M_st_2 (f := ar 2) (q := (x2 : Int32).toNatClampNeg) (pc' := 97) F dX6_isBetter_96 rfl rfl h2 rfl ?_
            refine J_aload_n (pc' := 98) (q := 0) F dX6_isBetter_97 rfl rfl ?_
            refine M_get_0_12 (pc' := 101) F dX6_isBetter_98 kw_591 rfl ?_
            refine J_iload_n (pc' := 102) (q := 2) F dX6_isBetter_101 rfl rfl ?_
            refine J_iload (pc' := 104) (q := 5) F dX6_isBetter_102 rfl rfl ?_
            refine M_st_3 (f := ar 3) (q := (x2 : Int32).toNatClampNeg) (pc' := 105) F dX6_isBetter_104 rfl rfl h2 rfl ?_
            refine J_iload (pc' := 107) (q := 6) F dX6_isBetter_105 rfl rfl ?_
            exact J_iretW (sc, (va_up (va_up ar 2 (upd (ar 2) ((x2 : Int32).toNatClampNeg) (((ar 2) ((x1 : Int32).toNatClampNeg)) + (zX6_lasts sc ar hs x3)))) 3 (upd (ar 3) ((x2 : Int32).toNatClampNeg) x3)), hs) F hR dX6_isBetter_107 rfl rfl (by show _ = fX6_isBetter sc ar hs x1 x2 x3; unfold fX6_isBetter; rw [if_pos c19, if_neg c41_2, if_neg c52_2, if_pos c63_2, if_neg c74_2])
def zX6_mostOf_5 (sc : Nat → Int32) (ar : Nat → Nat → Int32) (hs : Int64)  : Nat → Nat → Int32 → Int32
  | 0, _, _ => 0
  | n + 1, i, y1 => if (4096 : Int32) ≤ (nI i) then (zX6_tonsOf (sc 5)) - y1 else (if ((ar 2) i) = (-1) then zX6_mostOf_5 sc ar hs n (i + 1) y1 else (if y1 ≤ (zX6_tonsOf (nI i)) then zX6_mostOf_5 sc ar hs n (i + 1) y1 else zX6_mostOf_5 sc ar hs n (i + 1) (zX6_tonsOf (nI i))))
def zX6_mostOf (sc : Nat → Int32) (ar : Nat → Nat → Int32) (hs : Int64) : Int32 := zX6_mostOf_5 sc ar hs (4096 + 1) 0 18
abbrev rm_X6_mostOf : Room := { frames := 2, cells := 0, slots := 0, locals := 43 }
set_option maxHeartbeats 4000000 in
set_option maxRecDepth 100000 in
theorem c_X6_mostOf (l : Launch) (D : va_G) (cI cZ : ClassId) (z : Nat → Nat) (g : Nat → Nat) (sc : Nat → Int32) (ar : Nat → Nat → Int32) (hs : Int64)   : cRi l yX6_mostOf ww_X6_mostOf rm_X6_mostOf D cI cZ z (wM cI cZ g sc ar hs) [.ref (g 0)] (fun r => r = zX6_mostOf sc ar hs) := by
  refine cRi.of (cc := cX6_mostOf) (maxL := 3) (rt := .int) (by decide) rfl (Nat.le_of_ble_eq_true rfl) (fun X F E hR => ?_)
  refine J_lv [0] (lv' := [(0, .ref (g 0))]) rfl ?_
  refine J_bipush (pc' := 2) (v := 18) F dX6_mostOf_0 (by decide) rfl ?_
  refine J_istore_n (pc' := 3) [1, 0] [(0, .ref (g 0)), (1, .int 18)] F dX6_mostOf_2 rfl (jL_of E (show 1 < 3 by decide)) rfl rfl ?_
  refine J_iconst (pc' := 4) (v := 0) F dX6_mostOf_3 (by decide) rfl ?_
  refine J_istore_n (pc' := 5) [1, 2, 0] [(0, .ref (g 0)), (1, .int 18), (2, .int 0)] F dX6_mostOf_4 rfl (jL_of E (show 2 < 3 by decide)) rfl rfl ?_
  have L5 : ∀ (n i : Nat) (y1 : Int32) , i ≤ 4096 → 4096 - i < n → zX6_mostOf_5 sc ar hs n i y1 = zX6_mostOf sc ar hs → J X false 0 0 5 [(0, .ref (g 0)), (1, .int y1), (2, .int (nI i))] [] (wM cI cZ g sc ar hs) := by
    intro n
    induction n with
    | zero => intro i _ _ hm; exact absurd hm (Nat.not_lt_zero _)
    | succ n ih =>
      intro i y1 hi hm heq
      refine J_iload_n (pc' := 6) (q := 2) F dX6_mostOf_5 rfl rfl ?_
      refine J_sipush (pc' := 9) (v := 4096) F dX6_mostOf_6 (by decide) rfl ?_
      refine J_icmp_ge (tgt := 45) (pc' := 12) F dX6_mostOf_9 (by decide) rfl (fun c9 => ?_) (fun c9 => ?_)
      · refine J_aload_n (pc' := 46) (q := 0) F dX6_mostOf_45 rfl rfl ?_
        refine M_get_0_5 (v := sc 5) (pc' := 49) F dX6_mostOf_46 kw_584 rfl rfl ?_
        refine J_goRie (wc := []) (av := [.int (sc 5)]) (rest := []) (v := zX6_tonsOf (sc 5)) (pc' := 52) F E (fun _ _ => jP_nil _ _) (fun H locs hI hp => jrun_S F E (c_X6_tonsOf l D cI cZ z (sc 5)) kw_709 kw_710 rfl kw_711 kw_7 oX6_tonsOf ⟨⟨rfl, rfl⟩, ⟨Nat.le_of_ble_eq_true rfl, Nat.le_of_ble_eq_true rfl⟩, Nat.zero_le _, Nat.zero_le _⟩ rfl (Nat.le_of_ble_eq_true rfl) dX6_mostOf_49 hp) rfl ?_
        refine J_iload_n (pc' := 53) (q := 1) F dX6_mostOf_52 rfl rfl ?_
        refine J_isub (pc' := 54) F dX6_mostOf_53 rfl ?_
        exact J_iretR F hR dX6_mostOf_54 rfl (by show _ = zX6_mostOf sc ar hs; rw [← heq, zX6_mostOf_5, if_pos c9])
      · have hlt : i < 4096 := jin_lt (by decide) hi c9
        refine J_aload_n (pc' := 13) (q := 0) F dX6_mostOf_12 rfl rfl ?_
        refine M_get_0_11 (pc' := 16) F dX6_mostOf_13 kw_590 rfl ?_
        refine J_iload_n (pc' := 17) (q := 2) F dX6_mostOf_16 rfl rfl ?_
        refine M_ld_2 (f := ar 2) (q := i) (pc' := 18) F dX6_mostOf_17 rfl (nI_clamp (by omega)) (vp_in_nI hlt (by decide)) rfl ?_
        refine J_iconst (pc' := 19) (v := (-1)) F dX6_mostOf_18 (by decide) rfl ?_
        refine J_icmp_eq (tgt := 37) (pc' := 22) F dX6_mostOf_19 (by decide) rfl (fun c19 => ?_) (fun c19 => ?_)
        · refine J_iload_n (pc' := 38) (q := 1) F dX6_mostOf_37 rfl rfl ?_
          refine J_istore_n (pc' := 39) [1, 0, 2] [(0, .ref (g 0)), (1, .int y1), (2, .int (nI i))] F dX6_mostOf_38 rfl (jL_of E (show 1 < 3 by decide)) rfl rfl ?_
          refine J_iinc (v := nI (i + 1)) (q := 2) (pc' := 42) [1, 2, 0] [(0, .ref (g 0)), (1, .int y1), (2, .int (nI (i + 1)))] F dX6_mostOf_39 rfl (nI_inc i) (jL_of E (show 2 < 3 by decide)) rfl rfl ?_
          refine J_goto (tgt := 5) F dX6_mostOf_42 (by decide) ?_
          refine J_lv [0, 1, 2] (lv' := [(0, .ref (g 0)), (1, .int y1), (2, .int (nI (i + 1)))]) rfl ?_
          exact ih (i + 1) y1 (by omega) (by omega) (by show _ = zX6_mostOf sc ar hs; rw [← heq, zX6_mostOf_5, if_neg c9, if_pos c19])
        · refine J_iload_n (pc' := 23) (q := 2) F dX6_mostOf_22 rfl rfl ?_
          refine J_goRie (wc := []) (av := [.int (nI i)]) (rest := []) (v := zX6_tonsOf (nI i)) (pc' := 26) F E (fun _ _ => jP_nil _ _) (fun H locs hI hp => jrun_S F E (c_X6_tonsOf l D cI cZ z (nI i)) kw_709 kw_710 rfl kw_711 kw_7 oX6_tonsOf ⟨⟨rfl, rfl⟩, ⟨Nat.le_of_ble_eq_true rfl, Nat.le_of_ble_eq_true rfl⟩, Nat.zero_le _, Nat.zero_le _⟩ rfl (Nat.le_of_ble_eq_true rfl) dX6_mostOf_23 hp) rfl ?_
          refine J_iload_n (pc' := 27) (q := 1) F dX6_mostOf_26 rfl rfl ?_
          refine J_icmp_ge (tgt := 37) (pc' := 30) F dX6_mostOf_27 (by decide) rfl (fun c27 => ?_) (fun c27 => ?_)
          · refine J_iload_n (pc' := 38) (q := 1) F dX6_mostOf_37 rfl rfl ?_
            refine J_istore_n (pc' := 39) [1, 0, 2] [(0, .ref (g 0)), (1, .int y1), (2, .int (nI i))] F dX6_mostOf_38 rfl (jL_of E (show 1 < 3 by decide)) rfl rfl ?_
            refine J_iinc (v := nI (i + 1)) (q := 2) (pc' := 42) [1, 2, 0] [(0, .ref (g 0)), (1, .int y1), (2, .int (nI (i + 1)))] F dX6_mostOf_39 rfl (nI_inc i) (jL_of E (show 2 < 3 by decide)) rfl rfl ?_
            refine J_goto (tgt := 5) F dX6_mostOf_42 (by decide) ?_
            refine J_lv [0, 1, 2] (lv' := [(0, .ref (g 0)), (1, .int y1), (2, .int (nI (i + 1)))]) rfl ?_
            exact ih (i + 1) y1 (by omega) (by omega) (by show _ = zX6_mostOf sc ar hs; rw [← heq, zX6_mostOf_5, if_neg c9, if_neg c19, if_pos c27])
          · refine J_iload_n (pc' := 31) (q := 2) F dX6_mostOf_30 rfl rfl ?_
            refine J_goRie (wc := []) (av := [.int (nI i)]) (rest := []) (v := zX6_tonsOf (nI i)) (pc' := 34) F E (fun _ _ => jP_nil _ _) (fun H locs hI hp => jrun_S F E (c_X6_tonsOf l D cI cZ z (nI i)) kw_709 kw_710 rfl kw_711 kw_7 oX6_tonsOf ⟨⟨rfl, rfl⟩, ⟨Nat.le_of_ble_eq_true rfl, Nat.le_of_ble_eq_true rfl⟩, Nat.zero_le _, Nat.zero_le _⟩ rfl (Nat.le_of_ble_eq_true rfl) dX6_mostOf_31 hp) rfl ?_
            refine J_goto (tgt := 38) F dX6_mostOf_34 (by decide) ?_
            refine J_istore_n (pc' := 39) [1, 0, 2] [(0, .ref (g 0)), (1, .int (zX6_tonsOf (nI i))), (2, .int (nI i))] F dX6_mostOf_38 rfl (jL_of E (show 1 < 3 by decide)) rfl rfl ?_
            refine J_iinc (v := nI (i + 1)) (q := 2) (pc' := 42) [1, 2, 0] [(0, .ref (g 0)), (1, .int (zX6_tonsOf (nI i))), (2, .int (nI (i + 1)))] F dX6_mostOf_39 rfl (nI_inc i) (jL_of E (show 2 < 3 by decide)) rfl rfl ?_
            refine J_goto (tgt := 5) F dX6_mostOf_42 (by decide) ?_
            refine J_lv [0, 1, 2] (lv' := [(0, .ref (g 0)), (1, .int (zX6_tonsOf (nI i))), (2, .int (nI (i + 1)))]) rfl ?_
            exact ih (i + 1) (zX6_tonsOf (nI i)) (by omega) (by omega) (by show _ = zX6_mostOf sc ar hs; rw [← heq, zX6_mostOf_5, if_neg c9, if_neg c19, if_neg c27])
  refine J_lv [0, 1, 2] (lv' := [(0, .ref (g 0)), (1, .int 18), (2, .int (nI 0))]) rfl ?_
  exact L5 (4096 + 1) 0 18 (Nat.zero_le _) (Nat.lt_succ_self _) rfl
def zX6_manyOf_4 (sc : Nat → Int32) (ar : Nat → Nat → Int32) (hs : Int64)  : Nat → Nat → Int32 → Int32
  | 0, _, _ => 0
  | n + 1, i, y1 => if (4096 : Int32) ≤ (nI i) then y1 else (if ((ar 2) i) = (-1) then zX6_manyOf_4 sc ar hs n (i + 1) (y1 + 0) else zX6_manyOf_4 sc ar hs n (i + 1) (y1 + 1))
def zX6_manyOf (sc : Nat → Int32) (ar : Nat → Nat → Int32) (hs : Int64) : Int32 := zX6_manyOf_4 sc ar hs (4096 + 1) 0 0
abbrev rm_X6_manyOf : Room := { frames := 0, cells := 0, slots := 0, locals := 0 }
set_option maxHeartbeats 4000000 in
set_option maxRecDepth 100000 in
theorem c_X6_manyOf (l : Launch) (D : va_G) (cI cZ : ClassId) (z : Nat → Nat) (g : Nat → Nat) (sc : Nat → Int32) (ar : Nat → Nat → Int32) (hs : Int64)   : cRi l yX6_manyOf ww_X6_manyOf rm_X6_manyOf D cI cZ z (wM cI cZ g sc ar hs) [.ref (g 0)] (fun r => r = zX6_manyOf sc ar hs) := by
  refine cRi.of (cc := cX6_manyOf) (maxL := 3) (rt := .int) (by decide) rfl (Nat.le_of_ble_eq_true rfl) (fun X F E hR => ?_)
  refine J_lv [0] (lv' := [(0, .ref (g 0))]) rfl ?_
  refine J_iconst (pc' := 1) (v := 0) F dX6_manyOf_0 (by decide) rfl ?_
  refine J_istore_n (pc' := 2) [1, 0] [(0, .ref (g 0)), (1, .int 0)] F dX6_manyOf_1 rfl (jL_of E (show 1 < 3 by decide)) rfl rfl ?_
  refine J_iconst (pc' := 3) (v := 0) F dX6_manyOf_2 (by decide) rfl ?_
  refine J_istore_n (pc' := 4) [1, 2, 0] [(0, .ref (g 0)), (1, .int 0), (2, .int 0)] F dX6_manyOf_3 rfl (jL_of E (show 2 < 3 by decide)) rfl rfl ?_
  have L4 : ∀ (n i : Nat) (y1 : Int32) , i ≤ 4096 → 4096 - i < n → zX6_manyOf_4 sc ar hs n i y1 = zX6_manyOf sc ar hs → J X false 0 0 4 [(0, .ref (g 0)), (1, .int y1), (2, .int (nI i))] [] (wM cI cZ g sc ar hs) := by
    intro n
    induction n with
    | zero => intro i _ _ hm; exact absurd hm (Nat.not_lt_zero _)
    | succ n ih =>
      intro i y1 hi hm heq
      refine J_iload_n (pc' := 5) (q := 2) F dX6_manyOf_4 rfl rfl ?_
      refine J_sipush (pc' := 8) (v := 4096) F dX6_manyOf_5 (by decide) rfl ?_
      refine J_icmp_ge (tgt := 35) (pc' := 11) F dX6_manyOf_8 (by decide) rfl (fun c8 => ?_) (fun c8 => ?_)
      · refine J_iload_n (pc' := 36) (q := 1) F dX6_manyOf_35 rfl rfl ?_
        exact J_iretR F hR dX6_manyOf_36 rfl (by show _ = zX6_manyOf sc ar hs; rw [← heq, zX6_manyOf_4, if_pos c8])
      · have hlt : i < 4096 := jin_lt (by decide) hi c8
        refine J_iload_n (pc' := 12) (q := 1) F dX6_manyOf_11 rfl rfl ?_
        refine J_aload_n (pc' := 13) (q := 0) F dX6_manyOf_12 rfl rfl ?_
        refine M_get_0_11 (pc' := 16) F dX6_manyOf_13 kw_590 rfl ?_
        refine J_iload_n (pc' := 17) (q := 2) F dX6_manyOf_16 rfl rfl ?_
        refine M_ld_2 (f := ar 2) (q := i) (pc' := 18) F dX6_manyOf_17 rfl (nI_clamp (by omega)) (vp_in_nI hlt (by decide)) rfl ?_
        refine J_iconst (pc' := 19) (v := (-1)) F dX6_manyOf_18 (by decide) rfl ?_
        refine J_icmp_ne (tgt := 26) (pc' := 22) F dX6_manyOf_19 (by decide) rfl (fun c19 => ?_) (fun c19 => ?_)
        · refine J_iconst (pc' := 27) (v := 1) F dX6_manyOf_26 (by decide) rfl ?_
          refine J_iadd (pc' := 28) F dX6_manyOf_27 rfl ?_
          refine J_istore_n (pc' := 29) [1, 0, 2] [(0, .ref (g 0)), (1, .int (y1 + 1)), (2, .int (nI i))] F dX6_manyOf_28 rfl (jL_of E (show 1 < 3 by decide)) rfl rfl ?_
          refine J_iinc (v := nI (i + 1)) (q := 2) (pc' := 32) [1, 2, 0] [(0, .ref (g 0)), (1, .int (y1 + 1)), (2, .int (nI (i + 1)))] F dX6_manyOf_29 rfl (nI_inc i) (jL_of E (show 2 < 3 by decide)) rfl rfl ?_
          refine J_goto (tgt := 4) F dX6_manyOf_32 (by decide) ?_
          refine J_lv [0, 1, 2] (lv' := [(0, .ref (g 0)), (1, .int (y1 + 1)), (2, .int (nI (i + 1)))]) rfl ?_
          exact ih (i + 1) (y1 + 1) (by omega) (by omega) (by show _ = zX6_manyOf sc ar hs; rw [← heq, zX6_manyOf_4, if_neg c8, if_neg c19])
        · refine J_iconst (pc' := 23) (v := 0) F dX6_manyOf_22 (by decide) rfl ?_
          refine J_goto (tgt := 27) F dX6_manyOf_23 (by decide) ?_
          refine J_iadd (pc' := 28) F dX6_manyOf_27 rfl ?_
          refine J_istore_n (pc' := 29) [1, 0, 2] [(0, .ref (g 0)), (1, .int (y1 + 0)), (2, .int (nI i))] F dX6_manyOf_28 rfl (jL_of E (show 1 < 3 by decide)) rfl rfl ?_
          refine J_iinc (v := nI (i + 1)) (q := 2) (pc' := 32) [1, 2, 0] [(0, .ref (g 0)), (1, .int (y1 + 0)), (2, .int (nI (i + 1)))] F dX6_manyOf_29 rfl (nI_inc i) (jL_of E (show 2 < 3 by decide)) rfl rfl ?_
          refine J_goto (tgt := 4) F dX6_manyOf_32 (by decide) ?_
          refine J_lv [0, 1, 2] (lv' := [(0, .ref (g 0)), (1, .int (y1 + 0)), (2, .int (nI (i + 1)))]) rfl ?_
          exact ih (i + 1) (y1 + 0) (by omega) (by omega) (by show _ = zX6_manyOf sc ar hs; rw [← heq, zX6_manyOf_4, if_neg c8, if_pos c19])
  refine J_lv [0, 1, 2] (lv' := [(0, .ref (g 0)), (1, .int 0), (2, .int (nI 0))]) rfl ?_
  exact L4 (4096 + 1) 0 0 (Nat.zero_le _) (Nat.lt_succ_self _) rfl
