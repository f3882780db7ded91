/-! the reference: what needs no search, as functions -/
theorem zin_ok {a b c : Int64} (h : ¬ zX6_in a b c = 0) : b ≤ a ∧ a ≤ c := by
  unfold zX6_in lg_cmp at h
  simp only [gt_iff_lt] at h
  have e1 : (1 : Int32) < 0 ↔ False := by decide
  have e2 : (0 : Int32) < 0 ↔ False := by decide
  have e3 : (-1 : Int32) < 0 ↔ True := by decide
  have e4 : (0 : Int32) < 1 ↔ True := by decide
  have e5 : (0 : Int32) < (-1) ↔ False := by decide
  rw [fa_le64, fa_le64]
  by_cases h1 : b < a
  · rw [if_pos h1] at h
    by_cases h2 : c < a
    · rw [if_pos h2] at h; simp [e1, e4] at h
    · rw [fa_lt64] at h1 h2; omega
  · rw [if_neg h1] at h
    by_cases h3 : a = b
    · subst h3
      by_cases h2 : c < a
      · rw [if_pos h2] at h; simp [e2, e4] at h
      · rw [fa_lt64] at h2; omega
    · rw [if_neg h3] at h; simp [e3] at h
theorem zin_iff (a b c : Int64) : zX6_in a b c = if b ≤ a ∧ a ≤ c then 1 else 0 := by
  by_cases h : zX6_in a b c = 0
  · rw [h]
    by_cases h2 : b ≤ a ∧ a ≤ c
    · exfalso
      unfold zX6_in lg_cmp at h
      simp only [gt_iff_lt] at h
      obtain ⟨h3, h4⟩ := h2
      rw [fa_le64] at h3 h4
      have n1 : ¬ c < a := by rw [fa_lt64]; omega
      rw [if_neg n1] at h
      by_cases h1 : b < a
      · rw [if_pos h1] at h
        by_cases h5 : a = c
        · rw [if_pos h5] at h; revert h; decide
        · rw [if_neg h5] at h; revert h; decide
      · have e : a = b := by rw [fa_eq64]; rw [fa_lt64] at h1; omega
        rw [if_neg h1, if_pos e] at h
        by_cases h5 : a = c
        · rw [if_pos h5] at h; revert h; decide
        · rw [if_neg h5] at h; revert h; decide
    · rw [if_neg h2]
  · rw [if_pos (zin_ok h)]
    exact (zX6_in01 a b c).resolve_left h
theorem zin32 (x : Int32) (lo hi : Nat) (hh : hi < 2 ^ 31) (hl : lo < 2 ^ 31) : zX6_in x.toInt64 (lN lo) (lN hi) = if (lo : Int) ≤ x.toInt ∧ x.toInt ≤ hi then 1 else 0 := by
  rw [zin_iff]
  have e : x.toInt64.toInt = x.toInt := by simp
  simp only [fa_le64, e, lN_toInt hl, lN_toInt hh]
theorem zin_vp {x : Int32} (h : ¬ zX6_in x.toInt64 0 2 = 0) : vp_in x 3 := by
  have h1 := zin32 x 0 2 (by decide) (by decide)
  rw [vp_in_iff]
  by_cases h2 : ((0 : Nat) : Int) ≤ x.toInt ∧ x.toInt ≤ ((2 : Nat) : Int)
  · omega
  · rw [if_neg h2] at h1; exact absurd h1 h
theorem lasts_a {x : Int32} (ha : vp_in x 42) (c : ¬ (6 : Int32) ≤ x) : vp_in (x / 2) 3 := by
  obtain ⟨j, hj, rfl⟩ := vp_in_of ha (by decide)
  have h6 : j < 6 := by
    rcases Nat.lt_or_ge j 6 with h | h
    · exact h
    · exact absurd ((nI_leI (a := 6) (b := j) (by decide) (by omega)).mpr h) c
  rw [show (2 : Int32) = nI 2 from rfl, pk_div (by omega) (by decide) (by decide)]
  exact vp_in_nI (by omega) (by decide)
theorem lasts_b {x : Int32} (ha : vp_in x 42) (c : (6 : Int32) ≤ x) : vp_in ((x / 6 - 1) / 2) 3 := by
  obtain ⟨j, hj, rfl⟩ := vp_in_of ha (by decide)
  have h6 : 6 ≤ j := (nI_leI (a := 6) (b := j) (by decide) (by omega)).mp c
  rw [show (6 : Int32) = nI 6 from rfl, pk_div (by omega) (by decide) (by decide), show (1 : Int32) = nI 1 from rfl, pk_sub (by omega), show (2 : Int32) = nI 2 from rfl, pk_div (by omega) (by decide) (by decide)]
  exact vp_in_nI (by omega) (by decide)
theorem cnt_in {x : Int32} {N : Nat} (hN : N < 2 ^ 31) (h : ∃ k, k ≤ N ∧ x = nI k) (c : ¬ x = nI N) : vp_in x N := by
  obtain ⟨k, hk, rfl⟩ := h
  have : k < N := by
    rcases Nat.lt_or_ge k N with h | h
    · exact h
    · have e : k = N := by omega
      subst e; exact absurd rfl c
  exact vp_in_nI this hN
theorem cnt_lt {x : Int32} {N i : Nat} (hN : N < 2 ^ 31) (h : ∃ k, k ≤ N ∧ x = nI k) (hi : i ≤ N) (c : ¬ x ≤ nI i) : i < N := by
  obtain ⟨k, hk, rfl⟩ := h
  rcases Nat.lt_or_ge i N with h | h
  · exact h
  · exact absurd (nI_le (by omega) (by omega)) c

def zX6_bendNow (sc : Nat → Int32) (ar : Nat → Nat → Int32) (hs : Int64) : Int32 := if (sc 8) = 1 then (sc 3) / 2 else sc 3
abbrev rm_X6_bendNow : Room := { frames := 0, cells := 0, slots := 0, locals := 0 }
set_option maxHeartbeats 4000000 in
set_option maxRecDepth 100000 in
theorem c_X6_bendNow (l : Launch) (D : va_G) (cI cZ : ClassId) (z : Nat → Nat) (g : Nat → Nat) (sc : Nat → Int32) (ar : Nat → Nat → Int32) (hs : Int64)   : cRi l yX6_bendNow ww_X6_bendNow rm_X6_bendNow D cI cZ z (wM cI cZ g sc ar hs) [.ref (g 0)] (fun r => r = zX6_bendNow sc ar hs) := by
  refine cRi.of (cc := cX6_bendNow) (maxL := 1) (rt := .int) (by decide) rfl (Nat.le_of_ble_eq_true rfl) (fun X F E hR => ?_)
  refine J_lv [0] (lv' := [(0, .ref (g 0))]) rfl ?_
  refine J_aload_n (pc' := 1) (q := 0) F dX6_bendNow_0 rfl rfl ?_
  refine M_get_0_8 (v := sc 8) (pc' := 4) F dX6_bendNow_1 kw_587 rfl rfl ?_
  refine J_iconst (pc' := 5) (v := 1) F dX6_bendNow_4 (by decide) rfl ?_
  refine J_icmp_ne (tgt := 17) (pc' := 8) F dX6_bendNow_5 (by decide) rfl (fun c5 => ?_) (fun c5 => ?_)
  · refine J_aload_n (pc' := 18) (q := 0) F dX6_bendNow_17 rfl rfl ?_
    refine M_get_0_3 (v := sc 3) (pc' := 21) F dX6_bendNow_18 kw_582 rfl rfl ?_
    exact J_iretR F hR dX6_bendNow_21 rfl (by show _ = zX6_bendNow sc ar hs; unfold zX6_bendNow; rw [if_neg c5])
  · refine J_aload_n (pc' := 9) (q := 0) F dX6_bendNow_8 rfl rfl ?_
    refine M_get_0_3 (v := sc 3) (pc' := 12) F dX6_bendNow_9 kw_582 rfl rfl ?_
    refine J_iconst (pc' := 13) (v := 2) F dX6_bendNow_12 (by decide) rfl ?_
    refine J_idiv (pc' := 14) F dX6_bendNow_13 (by decide) rfl ?_
    refine J_goto (tgt := 21) F dX6_bendNow_14 (by decide) ?_
    exact J_iretR F hR dX6_bendNow_21 rfl (by show _ = zX6_bendNow sc ar hs; unfold zX6_bendNow; rw [if_pos c5])
def zX6_takingOf (sc : Nat → Int32) (ar : Nat → Nat → Int32) (hs : Int64) (x1 : Int32) : Int32 := if ((ar 1) ((x1 : Int32).toNatClampNeg)) = 1 then 1 else (if ((ar 1) ((x1 : Int32).toNatClampNeg)) = 2 then 3 else (if ((ar 1) ((x1 : Int32).toNatClampNeg)) = 4 then 4 else 2))
abbrev rm_X6_takingOf : Room := { frames := 0, cells := 0, slots := 0, locals := 0 }
set_option maxHeartbeats 4000000 in
set_option maxRecDepth 100000 in
theorem c_X6_takingOf (l : Launch) (D : va_G) (cI cZ : ClassId) (z : Nat → Nat) (g : Nat → Nat) (sc : Nat → Int32) (ar : Nat → Nat → Int32) (hs : Int64) (x1 : Int32) (hb : vp_in x1 3) : cRi l yX6_takingOf ww_X6_takingOf rm_X6_takingOf D cI cZ z (wM cI cZ g sc ar hs) [.ref (g 0), .int x1] (fun r => r = zX6_takingOf sc ar hs x1) := by
  refine cRi.of (cc := cX6_takingOf) (maxL := 3) (rt := .int) (by decide) rfl (Nat.le_of_ble_eq_true rfl) (fun X F E hR => ?_)
  refine J_lv [0, 1] (lv' := [(0, .ref (g 0)), (1, .int x1)]) rfl ?_
  refine J_aload_n (pc' := 1) (q := 0) F dX6_takingOf_0 rfl rfl ?_
  refine M_get_0_10 (pc' := 4) F dX6_takingOf_1 kw_589 rfl ?_
  refine J_iload_n (pc' := 5) (q := 1) F dX6_takingOf_4 rfl rfl ?_
  refine M_ld_1 (f := ar 1) (q := (x1 : Int32).toNatClampNeg) (pc' := 6) F dX6_takingOf_5 rfl rfl hb rfl ?_
  refine J_istore_n (pc' := 7) [1, 2, 0] [(0, .ref (g 0)), (1, .int x1), (2, .int ((ar 1) ((x1 : Int32).toNatClampNeg)))] F dX6_takingOf_6 rfl (jL_of E (show 2 < 3 by decide)) rfl rfl ?_
  refine J_iload_n (pc' := 8) (q := 2) F dX6_takingOf_7 rfl rfl ?_
  refine J_iconst (pc' := 9) (v := 1) F dX6_takingOf_8 (by decide) rfl ?_
  refine J_icmp_ne (tgt := 16) (pc' := 12) F dX6_takingOf_9 (by decide) rfl (fun c9 => ?_) (fun c9 => ?_)
  · refine J_iload_n (pc' := 17) (q := 2) F dX6_takingOf_16 rfl rfl ?_
    refine J_iconst (pc' := 18) (v := 2) F dX6_takingOf_17 (by decide) rfl ?_
    refine J_icmp_ne (tgt := 25) (pc' := 21) F dX6_takingOf_18 (by decide) rfl (fun c18 => ?_) (fun c18 => ?_)
    · refine J_iload_n (pc' := 26) (q := 2) F dX6_takingOf_25 rfl rfl ?_
      refine J_iconst (pc' := 27) (v := 4) F dX6_takingOf_26 (by decide) rfl ?_
      refine J_icmp_ne (tgt := 34) (pc' := 30) F dX6_takingOf_27 (by decide) rfl (fun c27 => ?_) (fun c27 => ?_)
      · refine J_iconst (pc' := 35) (v := 2) F dX6_takingOf_34 (by decide) rfl ?_
        exact J_iretR F hR dX6_takingOf_35 rfl (by show _ = zX6_takingOf sc ar hs x1; unfold zX6_takingOf; rw [if_neg c9, if_neg c18, if_neg c27])
      · refine J_iconst (pc' := 31) (v := 4) F dX6_takingOf_30 (by decide) rfl ?_
        refine J_goto (tgt := 35) F dX6_takingOf_31 (by decide) ?_
        exact J_iretR F hR dX6_takingOf_35 rfl (by show _ = zX6_takingOf sc ar hs x1; unfold zX6_takingOf; rw [if_neg c9, if_neg c18, if_pos c27])
    · refine J_iconst (pc' := 22) (v := 3) F dX6_takingOf_21 (by decide) rfl ?_
      refine J_goto (tgt := 35) F dX6_takingOf_22 (by decide) ?_
      exact J_iretR F hR dX6_takingOf_35 rfl (by show _ = zX6_takingOf sc ar hs x1; unfold zX6_takingOf; rw [if_neg c9, if_pos c18])
  · refine J_iconst (pc' := 13) (v := 1) F dX6_takingOf_12 (by decide) rfl ?_
    refine J_goto (tgt := 35) F dX6_takingOf_13 (by decide) ?_
    exact J_iretR F hR dX6_takingOf_35 rfl (by show _ = zX6_takingOf sc ar hs x1; unfold zX6_takingOf; rw [if_pos c9])
def zX6_carryingOf (sc : Nat → Int32) (ar : Nat → Nat → Int32) (hs : Int64) (x1 : Int32) : Int32 := if ((ar 1) ((x1 : Int32).toNatClampNeg)) = 4 then 3 else 2
abbrev rm_X6_carryingOf : Room := { frames := 0, cells := 0, slots := 0, locals := 0 }
set_option maxHeartbeats 4000000 in
set_option maxRecDepth 100000 in
theorem c_X6_carryingOf (l : Launch) (D : va_G) (cI cZ : ClassId) (z : Nat → Nat) (g : Nat → Nat) (sc : Nat → Int32) (ar : Nat → Nat → Int32) (hs : Int64) (x1 : Int32) (hb : vp_in x1 3) : cRi l yX6_carryingOf ww_X6_carryingOf rm_X6_carryingOf D cI cZ z (wM cI cZ g sc ar hs) [.ref (g 0), .int x1] (fun r => r = zX6_carryingOf sc ar hs x1) := by
  refine cRi.of (cc := cX6_carryingOf) (maxL := 2) (rt := .int) (by decide) rfl (Nat.le_of_ble_eq_true rfl) (fun X F E hR => ?_)
  refine J_lv [0, 1] (lv' := [(0, .ref (g 0)), (1, .int x1)]) rfl ?_
  refine J_aload_n (pc' := 1) (q := 0) F dX6_carryingOf_0 rfl rfl ?_
  refine M_get_0_10 (pc' := 4) F dX6_carryingOf_1 kw_589 rfl ?_
  refine J_iload_n (pc' := 5) (q := 1) F dX6_carryingOf_4 rfl rfl ?_
  refine M_ld_1 (f := ar 1) (q := (x1 : Int32).toNatClampNeg) (pc' := 6) F dX6_carryingOf_5 rfl rfl hb rfl ?_
  refine J_iconst (pc' := 7) (v := 4) F dX6_carryingOf_6 (by decide) rfl ?_
  refine J_icmp_ne (tgt := 14) (pc' := 10) F dX6_carryingOf_7 (by decide) rfl (fun c7 => ?_) (fun c7 => ?_)
  · refine J_iconst (pc' := 15) (v := 2) F dX6_carryingOf_14 (by decide) rfl ?_
    exact J_iretR F hR dX6_carryingOf_15 rfl (by show _ = zX6_carryingOf sc ar hs x1; unfold zX6_carryingOf; rw [if_neg c7])
  · refine J_iconst (pc' := 11) (v := 3) F dX6_carryingOf_10 (by decide) rfl ?_
    refine J_goto (tgt := 15) F dX6_carryingOf_11 (by decide) ?_
    exact J_iretR F hR dX6_carryingOf_15 rfl (by show _ = zX6_carryingOf sc ar hs x1; unfold zX6_carryingOf; rw [if_pos c7])
def zX6_bay (sc : Nat → Int32) (ar : Nat → Nat → Int32) (hs : Int64) (x1 : Int32) (x2 : Int32) : Int32 := if (sc 2) = 0 then (-101) else (if (zX6_in ((x1 : Int32).toInt64) 0 2) = 0 then (-101) else (if x2 = 0 then (ar 1) ((x1 : Int32).toNatClampNeg) else (if x2 = 1 then zX6_at (sc 5) (((2 * x1) + x2) - 1) else (if x2 = 2 then zX6_at (sc 5) (((2 * x1) + x2) - 1) else (if x2 = 3 then zX6_takingOf sc ar hs x1 else (if x2 = 4 then zX6_carryingOf sc ar hs x1 else (-102)))))))
abbrev rm_X6_bay : Room := { frames := 1, cells := 0, slots := 0, locals := 25 }
set_option maxHeartbeats 4000000 in
set_option maxRecDepth 100000 in
theorem c_X6_bay (l : Launch) (D : va_G) (cI cZ : ClassId) (z : Nat → Nat) (g : Nat → Nat) (sc : Nat → Int32) (ar : Nat → Nat → Int32) (hs : Int64) (x1 : Int32) (x2 : Int32)  : cRi l yX6_bay ww_X6_bay rm_X6_bay D cI cZ z (wM cI cZ g sc ar hs) [.ref (g 0), .int x1, .int x2] (fun r => r = zX6_bay sc ar hs x1 x2) := by
  refine cRi.of (cc := cX6_bay) (maxL := 3) (rt := .int) (by decide) rfl (Nat.le_of_ble_eq_true rfl) (fun X F E hR => ?_)
  refine J_lv [0, 1, 2] (lv' := [(0, .ref (g 0)), (1, .int x1), (2, .int x2)]) rfl ?_
  refine J_aload_n (pc' := 1) (q := 0) F dX6_bay_0 rfl rfl ?_
  refine M_get_0_2 (v := sc 2) (pc' := 4) F dX6_bay_1 kw_581 rfl rfl ?_
  refine J_if_eq (tgt := 19) (pc' := 7) F dX6_bay_4 (by decide) rfl (fun c4 => ?_) (fun c4 => ?_)
  · refine J_bipush (pc' := 21) (v := (-101)) F dX6_bay_19 (by decide) rfl ?_
    exact J_iretR F hR dX6_bay_21 rfl (by show _ = zX6_bay sc ar hs x1 x2; unfold zX6_bay; rw [if_pos c4])
  · refine J_iload_n (pc' := 8) (q := 1) F dX6_bay_7 rfl rfl ?_
    refine J_i2l (pc' := 9) (v := (x1 : Int32).toInt64) F dX6_bay_8 rfl rfl ?_
    refine J_lconst (pc' := 10) (v := 0) F dX6_bay_9 (by decide) rfl ?_
    refine J_ldc2 (pc' := 13) (v := 2) F dX6_bay_10 kw_719 rfl ?_
    refine J_goRie (wc := []) (av := [.long ((x1 : Int32).toInt64), .long 0, .long 2]) (rest := []) (v := zX6_in ((x1 : Int32).toInt64) 0 2) (pc' := 16) F E (fun _ _ => jP_nil _ _) (fun H locs hI hp => jrun_S F E (c_X6_in l D cI cZ z ((x1 : Int32).toInt64) 0 2) kw_682 kw_683 rfl kw_684 kw_7 oX6_in ⟨⟨rfl, rfl⟩, ⟨Nat.le_of_ble_eq_true rfl, Nat.le_of_ble_eq_true rfl⟩, Nat.zero_le _, Nat.zero_le _⟩ rfl (Nat.le_of_ble_eq_true rfl) dX6_bay_13 hp) rfl ?_
    refine J_if_ne (tgt := 22) (pc' := 19) F dX6_bay_16 (by decide) rfl (fun c16 => ?_) (fun c16 => ?_)
    · refine J_iload_n (pc' := 23) (q := 2) F dX6_bay_22 rfl rfl ?_
      by_cases c23_0 : x2 = 0
      · refine J_vali c23_0 ?_
        refine J_tsIn (tgt := 56) F dX6_bay_23 (by decide) (by decide) rfl (by decide) ?_
        refine J_aload_n (pc' := 57) (q := 0) F dX6_bay_56 rfl rfl ?_
        refine M_get_0_10 (pc' := 60) F dX6_bay_57 kw_589 rfl ?_
        refine J_iload_n (pc' := 61) (q := 1) F dX6_bay_60 rfl rfl ?_
        refine M_ld_1 (f := ar 1) (q := (x1 : Int32).toNatClampNeg) (pc' := 62) F dX6_bay_61 rfl rfl (zin_vp c16) rfl ?_
        exact J_iretR F hR dX6_bay_62 rfl (by show _ = zX6_bay sc ar hs x1 x2; unfold zX6_bay; rw [if_neg c4, if_neg c16, if_pos c23_0])
      by_cases c23_1 : x2 = 1
      · refine J_vali c23_1 ?_
        refine J_tsIn (tgt := 63) F dX6_bay_23 (by decide) (by decide) rfl (by decide) ?_
        refine J_aload_n (pc' := 64) (q := 0) F dX6_bay_63 rfl rfl ?_
        refine M_get_0_5 (v := sc 5) (pc' := 67) F dX6_bay_64 kw_584 rfl rfl ?_
        refine J_iconst (pc' := 68) (v := 2) F dX6_bay_67 (by decide) rfl ?_
        refine J_iload_n (pc' := 69) (q := 1) F dX6_bay_68 rfl rfl ?_
        refine J_imul (pc' := 70) F dX6_bay_69 rfl ?_
        refine J_iload_n (pc' := 71) (q := 2) F dX6_bay_70 rfl rfl ?_
        refine J_iadd (pc' := 72) F dX6_bay_71 rfl ?_
        refine J_iconst (pc' := 73) (v := 1) F dX6_bay_72 (by decide) rfl ?_
        refine J_isub (pc' := 74) F dX6_bay_73 rfl ?_
        refine J_goRie (wc := []) (av := [.int (sc 5), .int (((2 * x1) + x2) - 1)]) (rest := []) (v := zX6_at (sc 5) (((2 * x1) + x2) - 1)) (pc' := 77) F E (fun _ _ => jP_nil _ _) (fun H locs hI hp => jrun_S F E (c_X6_at l D cI cZ z (sc 5) (((2 * x1) + x2) - 1)) kw_712 kw_713 rfl kw_714 kw_7 oX6_at ⟨⟨rfl, rfl⟩, ⟨Nat.le_of_ble_eq_true rfl, Nat.le_of_ble_eq_true rfl⟩, Nat.zero_le _, Nat.zero_le _⟩ rfl (Nat.le_of_ble_eq_true rfl) dX6_bay_74 hp) rfl ?_
        exact J_iretR F hR dX6_bay_77 rfl (by show _ = zX6_bay sc ar hs x1 x2; unfold zX6_bay; rw [if_neg c4, if_neg c16, if_neg c23_0, if_pos c23_1])
      by_cases c23_2 : x2 = 2
      · refine J_vali c23_2 ?_
        refine J_tsIn (tgt := 63) F dX6_bay_23 (by decide) (by decide) rfl (by decide) ?_
        refine J_aload_n (pc' := 64) (q := 0) F dX6_bay_63 rfl rfl ?_
        refine M_get_0_5 (v := sc 5) (pc' := 67) F dX6_bay_64 kw_584 rfl rfl ?_
        refine J_iconst (pc' := 68) (v := 2) F dX6_bay_67 (by decide) rfl ?_
        refine J_iload_n (pc' := 69) (q := 1) F dX6_bay_68 rfl rfl ?_
        refine J_imul (pc' := 70) F dX6_bay_69 rfl ?_
        refine J_iload_n (pc' := 71) (q := 2) F dX6_bay_70 rfl rfl ?_
        refine J_iadd (pc' := 72) F dX6_bay_71 rfl ?_
        refine J_iconst (pc' := 73) (v := 1) F dX6_bay_72 (by decide) rfl ?_
        refine J_isub (pc' := 74) F dX6_bay_73 rfl ?_
        refine J_goRie (wc := []) (av := [.int (sc 5), .int (((2 * x1) + x2) - 1)]) (rest := []) (v := zX6_at (sc 5) (((2 * x1) + x2) - 1)) (pc' := 77) F E (fun _ _ => jP_nil _ _) (fun H locs hI hp => jrun_S F E (c_X6_at l D cI cZ z (sc 5) (((2 * x1) + x2) - 1)) kw_712 kw_713 rfl kw_714 kw_7 oX6_at ⟨⟨rfl, rfl⟩, ⟨Nat.le_of_ble_eq_true rfl, Nat.le_of_ble_eq_true rfl⟩, Nat.zero_le _, Nat.zero_le _⟩ rfl (Nat.le_of_ble_eq_true rfl) dX6_bay_74 hp) rfl ?_
        exact J_iretR F hR dX6_bay_77 rfl (by show _ = zX6_bay sc ar hs x1 x2; unfold zX6_bay; rw [if_neg c4, if_neg c16, if_neg c23_0, if_neg c23_1, if_pos c23_2])
      by_cases c23_3 : x2 = 3
      · refine J_vali c23_3 ?_
        refine J_tsIn (tgt := 78) F dX6_bay_23 (by decide) (by decide) rfl (by decide) ?_
        refine J_aload_n (pc' := 79) (q := 0) F dX6_bay_78 rfl rfl ?_
        refine J_iload_n (pc' := 80) (q := 1) F dX6_bay_79 rfl rfl ?_
        refine J_goRie (wc := (wM cI cZ g sc ar hs)) (av := [.ref (g 0), .int x1]) (rest := []) (v := zX6_takingOf sc ar hs x1) (pc' := 83) F E (fun _ h => h) (fun H locs hI hp => jrun_V (As := [.int x1]) 0 F E (c_X6_takingOf l D cI cZ z g sc ar hs x1 (zin_vp c16)) kw_720 kw_722 kp_10 rfl kw_723 kw_7 oX6_takingOf ⟨⟨rfl, rfl⟩, ⟨Nat.le_of_ble_eq_true rfl, Nat.le_of_ble_eq_true rfl⟩, Nat.zero_le _, Nat.zero_le _⟩ rfl rfl (Nat.le_of_ble_eq_true rfl) dX6_bay_80 rfl rfl (jI_P E hI) hp) rfl ?_
        exact J_iretR F hR dX6_bay_83 rfl (by show _ = zX6_bay sc ar hs x1 x2; unfold zX6_bay; rw [if_neg c4, if_neg c16, if_neg c23_0, if_neg c23_1, if_neg c23_2, if_pos c23_3])
      by_cases c23_4 : x2 = 4
      · refine J_vali c23_4 ?_
        refine J_tsIn (tgt := 84) F dX6_bay_23 (by decide) (by decide) rfl (by decide) ?_
        refine J_aload_n (pc' := 85) (q := 0) F dX6_bay_84 rfl rfl ?_
        refine J_iload_n (pc' := 86) (q := 1) F dX6_bay_85 rfl rfl ?_
        refine J_goRie (wc := (wM cI cZ g sc ar hs)) (av := [.ref (g 0), .int x1]) (rest := []) (v := zX6_carryingOf sc ar hs x1) (pc' := 89) F E (fun _ h => h) (fun H locs hI hp => jrun_V (As := [.int x1]) 0 F E (c_X6_carryingOf l D cI cZ z g sc ar hs x1 (zin_vp c16)) kw_724 kw_726 kp_11 rfl kw_727 kw_7 oX6_carryingOf ⟨⟨rfl, rfl⟩, ⟨Nat.le_of_ble_eq_true rfl, Nat.le_of_ble_eq_true rfl⟩, Nat.zero_le _, Nat.zero_le _⟩ rfl rfl (Nat.le_of_ble_eq_true rfl) dX6_bay_86 rfl rfl (jI_P E hI) hp) rfl ?_
        exact J_iretR F hR dX6_bay_89 rfl (by show _ = zX6_bay sc ar hs x1 x2; unfold zX6_bay; rw [if_neg c4, if_neg c16, if_neg c23_0, if_neg c23_1, if_neg c23_2, if_neg c23_3, if_pos c23_4])
      refine J_tsOut (tgt := 90) F dX6_bay_23 (jts_4 c23_0 c23_1 c23_2 c23_3 c23_4) (by decide) ?_
      refine J_bipush (pc' := 92) (v := (-102)) F dX6_bay_90 (by decide) rfl ?_
      exact J_iretR F hR dX6_bay_92 rfl (by show _ = zX6_bay sc ar hs x1 x2; unfold zX6_bay; rw [if_neg c4, if_neg c16, if_neg c23_0, if_neg c23_1, if_neg c23_2, if_neg c23_3, if_neg c23_4])
    · refine J_bipush (pc' := 21) (v := (-101)) F dX6_bay_19 (by decide) rfl ?_
      exact J_iretR F hR dX6_bay_21 rfl (by show _ = zX6_bay sc ar hs x1 x2; unfold zX6_bay; rw [if_neg c4, if_pos c16])
def zX6_as (sc : Nat → Int32) (ar : Nat → Nat → Int32) (hs : Int64) (x1 : Int32) (x2 : Int32) : Int32 := if (sc 2) = 0 then (-101) else (if (zX6_in ((x1 : Int32).toInt64) 0 2) = 0 then (-101) else (if (zX6_in ((x2 : Int32).toInt64) 0 4) = 0 then (-102) else (if x2 = 0 then x1 else (if x2 = ((ar 1) ((x1 : Int32).toNatClampNeg)) then x1 else (if x2 = 2 then (if ((ar 1) ((x1 : Int32).toNatClampNeg)) = 4 then x1 else (-1)) else (-1))))))
abbrev rm_X6_as : Room := { frames := 1, cells := 0, slots := 0, locals := 25 }
set_option maxHeartbeats 4000000 in
set_option maxRecDepth 100000 in
theorem c_X6_as (l : Launch) (D : va_G) (cI cZ : ClassId) (z : Nat → Nat) (g : Nat → Nat) (sc : Nat → Int32) (ar : Nat → Nat → Int32) (hs : Int64) (x1 : Int32) (x2 : Int32)  : cRi l yX6_as ww_X6_as rm_X6_as D cI cZ z (wM cI cZ g sc ar hs) [.ref (g 0), .int x1, .int x2] (fun r => r = zX6_as sc ar hs x1 x2) := by
  refine cRi.of (cc := cX6_as) (maxL := 4) (rt := .int) (by decide) rfl (Nat.le_of_ble_eq_true rfl) (fun X F E hR => ?_)
  refine J_lv [0, 1, 2] (lv' := [(0, .ref (g 0)), (1, .int x1), (2, .int x2)]) rfl ?_
  refine J_aload_n (pc' := 1) (q := 0) F dX6_as_0 rfl rfl ?_
  refine M_get_0_2 (v := sc 2) (pc' := 4) F dX6_as_1 kw_581 rfl rfl ?_
  refine J_if_eq (tgt := 19) (pc' := 7) F dX6_as_4 (by decide) rfl (fun c4 => ?_) (fun c4 => ?_)
  · refine J_bipush (pc' := 21) (v := (-101)) F dX6_as_19 (by decide) rfl ?_
    exact J_iretR F hR dX6_as_21 rfl (by show _ = zX6_as sc ar hs x1 x2; unfold zX6_as; rw [if_pos c4])
  · refine J_iload_n (pc' := 8) (q := 1) F dX6_as_7 rfl rfl ?_
    refine J_i2l (pc' := 9) (v := (x1 : Int32).toInt64) F dX6_as_8 rfl rfl ?_
    refine J_lconst (pc' := 10) (v := 0) F dX6_as_9 (by decide) rfl ?_
    refine J_ldc2 (pc' := 13) (v := 2) F dX6_as_10 kw_719 rfl ?_
    refine J_goRie (wc := []) (av := [.long ((x1 : Int32).toInt64), .long 0, .long 2]) (rest := []) (v := zX6_in ((x1 : Int32).toInt64) 0 2) (pc' := 16) F E (fun _ _ => jP_nil _ _) (fun H locs hI hp => jrun_S F E (c_X6_in l D cI cZ z ((x1 : Int32).toInt64) 0 2) kw_682 kw_683 rfl kw_684 kw_7 oX6_in ⟨⟨rfl, rfl⟩, ⟨Nat.le_of_ble_eq_true rfl, Nat.le_of_ble_eq_true rfl⟩, Nat.zero_le _, Nat.zero_le _⟩ rfl (Nat.le_of_ble_eq_true rfl) dX6_as_13 hp) rfl ?_
    refine J_if_ne (tgt := 22) (pc' := 19) F dX6_as_16 (by decide) rfl (fun c16 => ?_) (fun c16 => ?_)
    · refine J_iload_n (pc' := 23) (q := 2) F dX6_as_22 rfl rfl ?_
      refine J_i2l (pc' := 24) (v := (x2 : Int32).toInt64) F dX6_as_23 rfl rfl ?_
      refine J_lconst (pc' := 25) (v := 0) F dX6_as_24 (by decide) rfl ?_
      refine J_ldc2 (pc' := 28) (v := 4) F dX6_as_25 kw_732 rfl ?_
      refine J_goRie (wc := []) (av := [.long ((x2 : Int32).toInt64), .long 0, .long 4]) (rest := []) (v := zX6_in ((x2 : Int32).toInt64) 0 4) (pc' := 31) F E (fun _ _ => jP_nil _ _) (fun H locs hI hp => jrun_S F E (c_X6_in l D cI cZ z ((x2 : Int32).toInt64) 0 4) kw_682 kw_683 rfl kw_684 kw_7 oX6_in ⟨⟨rfl, rfl⟩, ⟨Nat.le_of_ble_eq_true rfl, Nat.le_of_ble_eq_true rfl⟩, Nat.zero_le _, Nat.zero_le _⟩ rfl (Nat.le_of_ble_eq_true rfl) dX6_as_28 hp) rfl ?_
      refine J_if_ne (tgt := 37) (pc' := 34) F dX6_as_31 (by decide) rfl (fun c31 => ?_) (fun c31 => ?_)
      · refine J_iload_n (pc' := 38) (q := 2) F dX6_as_37 rfl rfl ?_
        refine J_if_eq (tgt := 66) (pc' := 41) F dX6_as_38 (by decide) rfl (fun c38 => ?_) (fun c38 => ?_)
        · refine J_iconst (pc' := 67) (v := 1) F dX6_as_66 (by decide) rfl ?_
          refine J_goto (tgt := 71) F dX6_as_67 (by decide) ?_
          refine J_istore_n (pc' := 72) [1, 2, 3, 0] [(0, .ref (g 0)), (1, .int x1), (2, .int x2), (3, .int 1)] F dX6_as_71 rfl (jL_of E (show 3 < 4 by decide)) rfl rfl ?_
          refine J_iload_n (pc' := 73) (q := 3) F dX6_as_72 rfl rfl ?_
          refine J_if_eq (tgt := 80) (pc' := 76) F dX6_as_73 (by decide) rfl (fun c9 => absurd c9 (by decide)) (fun _ => ?_)
          refine J_iload_n (pc' := 77) (q := 1) F dX6_as_76 rfl rfl ?_
          refine J_goto (tgt := 81) F dX6_as_77 (by decide) ?_
          exact J_iretR F hR dX6_as_81 rfl (by show _ = zX6_as sc ar hs x1 x2; unfold zX6_as; rw [if_neg c4, if_neg c16, if_neg c31, if_pos c38])
        · refine J_iload_n (pc' := 42) (q := 2) F dX6_as_41 rfl rfl ?_
          refine J_aload_n (pc' := 43) (q := 0) F dX6_as_42 rfl rfl ?_
          refine M_get_0_10 (pc' := 46) F dX6_as_43 kw_589 rfl ?_
          refine J_iload_n (pc' := 47) (q := 1) F dX6_as_46 rfl rfl ?_
          refine M_ld_1 (f := ar 1) (q := (x1 : Int32).toNatClampNeg) (pc' := 48) F dX6_as_47 rfl rfl (zin_vp c16) rfl ?_
          refine J_icmp_eq (tgt := 66) (pc' := 51) F dX6_as_48 (by decide) rfl (fun c48 => ?_) (fun c48 => ?_)
          · refine J_iconst (pc' := 67) (v := 1) F dX6_as_66 (by decide) rfl ?_
            refine J_goto (tgt := 71) F dX6_as_67 (by decide) ?_
            refine J_istore_n (pc' := 72) [1, 2, 3, 0] [(0, .ref (g 0)), (1, .int x1), (2, .int x2), (3, .int 1)] F dX6_as_71 rfl (jL_of E (show 3 < 4 by decide)) rfl rfl ?_
            refine J_iload_n (pc' := 73) (q := 3) F dX6_as_72 rfl rfl ?_
            refine J_if_eq (tgt := 80) (pc' := 76) F dX6_as_73 (by decide) rfl (fun c9 => absurd c9 (by decide)) (fun _ => ?_)
            refine J_iload_n (pc' := 77) (q := 1) F dX6_as_76 rfl rfl ?_
            refine J_goto (tgt := 81) F dX6_as_77 (by decide) ?_
            exact J_iretR F hR dX6_as_81 rfl (by show _ = zX6_as sc ar hs x1 x2; unfold zX6_as; rw [if_neg c4, if_neg c16, if_neg c31, if_neg c38, if_pos c48])
          · refine J_iload_n (pc' := 52) (q := 2) F dX6_as_51 rfl rfl ?_
            refine J_iconst (pc' := 53) (v := 2) F dX6_as_52 (by decide) rfl ?_
            refine J_icmp_ne (tgt := 70) (pc' := 56) F dX6_as_53 (by decide) rfl (fun c53 => ?_) (fun c53 => ?_)
            · refine J_iconst (pc' := 71) (v := 0) F dX6_as_70 (by decide) rfl ?_
              refine J_istore_n (pc' := 72) [1, 2, 3, 0] [(0, .ref (g 0)), (1, .int x1), (2, .int x2), (3, .int 0)] F dX6_as_71 rfl (jL_of E (show 3 < 4 by decide)) rfl rfl ?_
              refine J_iload_n (pc' := 73) (q := 3) F dX6_as_72 rfl rfl ?_
              refine J_if_eq (tgt := 80) (pc' := 76) F dX6_as_73 (by decide) rfl (fun _ => ?_) (fun c9 => absurd (by decide) c9)
              refine J_iconst (pc' := 81) (v := (-1)) F dX6_as_80 (by decide) rfl ?_
              exact J_iretR F hR dX6_as_81 rfl (by show _ = zX6_as sc ar hs x1 x2; unfold zX6_as; rw [if_neg c4, if_neg c16, if_neg c31, if_neg c38, if_neg c48, if_neg c53])
            · refine J_aload_n (pc' := 57) (q := 0) F dX6_as_56 rfl rfl ?_
              refine M_get_0_10 (pc' := 60) F dX6_as_57 kw_589 rfl ?_
              refine J_iload_n (pc' := 61) (q := 1) F dX6_as_60 rfl rfl ?_
              refine M_ld_1 (f := ar 1) (q := (x1 : Int32).toNatClampNeg) (pc' := 62) F dX6_as_61 rfl rfl (zin_vp c16) rfl ?_
              refine J_iconst (pc' := 63) (v := 4) F dX6_as_62 (by decide) rfl ?_
              refine J_icmp_ne (tgt := 70) (pc' := 66) F dX6_as_63 (by decide) rfl (fun c63 => ?_) (fun c63 => ?_)
              · refine J_iconst (pc' := 71) (v := 0) F dX6_as_70 (by decide) rfl ?_
                refine J_istore_n (pc' := 72) [1, 2, 3, 0] [(0, .ref (g 0)), (1, .int x1), (2, .int x2), (3, .int 0)] F dX6_as_71 rfl (jL_of E (show 3 < 4 by decide)) rfl rfl ?_
                refine J_iload_n (pc' := 73) (q := 3) F dX6_as_72 rfl rfl ?_
                refine J_if_eq (tgt := 80) (pc' := 76) F dX6_as_73 (by decide) rfl (fun _ => ?_) (fun c9 => absurd (by decide) c9)
                refine J_iconst (pc' := 81) (v := (-1)) F dX6_as_80 (by decide) rfl ?_
                exact J_iretR F hR dX6_as_81 rfl (by show _ = zX6_as sc ar hs x1 x2; unfold zX6_as; rw [if_neg c4, if_neg c16, if_neg c31, if_neg c38, if_neg c48, if_pos c53, if_neg c63])
              · refine J_iconst (pc' := 67) (v := 1) F dX6_as_66 (by decide) rfl ?_
                refine J_goto (tgt := 71) F dX6_as_67 (by decide) ?_
                refine J_istore_n (pc' := 72) [1, 2, 3, 0] [(0, .ref (g 0)), (1, .int x1), (2, .int x2), (3, .int 1)] F dX6_as_71 rfl (jL_of E (show 3 < 4 by decide)) rfl rfl ?_
                refine J_iload_n (pc' := 73) (q := 3) F dX6_as_72 rfl rfl ?_
                refine J_if_eq (tgt := 80) (pc' := 76) F dX6_as_73 (by decide) rfl (fun c9 => absurd c9 (by decide)) (fun _ => ?_)
                refine J_iload_n (pc' := 77) (q := 1) F dX6_as_76 rfl rfl ?_
                refine J_goto (tgt := 81) F dX6_as_77 (by decide) ?_
                exact J_iretR F hR dX6_as_81 rfl (by show _ = zX6_as sc ar hs x1 x2; unfold zX6_as; rw [if_neg c4, if_neg c16, if_neg c31, if_neg c38, if_neg c48, if_pos c53, if_pos c63])
      · refine J_bipush (pc' := 36) (v := (-102)) F dX6_as_34 (by decide) rfl ?_
        exact J_iretR F hR dX6_as_36 rfl (by show _ = zX6_as sc ar hs x1 x2; unfold zX6_as; rw [if_neg c4, if_neg c16, if_pos c31])
    · refine J_bipush (pc' := 21) (v := (-101)) F dX6_as_19 (by decide) rfl ?_
      exact J_iretR F hR dX6_as_21 rfl (by show _ = zX6_as sc ar hs x1 x2; unfold zX6_as; rw [if_neg c4, if_pos c16])
def zX6_bears (sc : Nat → Int32) (ar : Nat → Nat → Int32) (hs : Int64) (x1 : Int32) (x2 : Int32) : Int32 := if x2 < (zX6_bentOf x1) then 0 else (if (sc 4) < (zX6_listingOf x1) then 0 else 1)
abbrev rm_X6_bears : Room := { frames := 2, cells := 0, slots := 0, locals := 41 }
set_option maxHeartbeats 4000000 in
set_option maxRecDepth 100000 in
theorem c_X6_bears (l : Launch) (D : va_G) (cI cZ : ClassId) (z : Nat → Nat) (g : Nat → Nat) (sc : Nat → Int32) (ar : Nat → Nat → Int32) (hs : Int64) (x1 : Int32) (x2 : Int32)  : cRi l yX6_bears ww_X6_bears rm_X6_bears D cI cZ z (wM cI cZ g sc ar hs) [.ref (g 0), .int x1, .int x2] (fun r => r = zX6_bears sc ar hs x1 x2) := by
  refine cRi.of (cc := cX6_bears) (maxL := 3) (rt := .boolean) (by decide) rfl (Nat.le_of_ble_eq_true rfl) (fun X F E hR => ?_)
  refine J_lv [0, 1, 2] (lv' := [(0, .ref (g 0)), (1, .int x1), (2, .int x2)]) rfl ?_
  refine J_iload_n (pc' := 1) (q := 1) F dX6_bears_0 rfl rfl ?_
  refine J_goRie (wc := []) (av := [.int x1]) (rest := []) (v := zX6_bentOf x1) (pc' := 4) F E (fun _ _ => jP_nil _ _) (fun H locs hI hp => jrun_S F E (c_X6_bentOf l D cI cZ z x1) kw_745 kw_746 rfl kw_747 kw_7 oX6_bentOf ⟨⟨rfl, rfl⟩, ⟨Nat.le_of_ble_eq_true rfl, Nat.le_of_ble_eq_true rfl⟩, Nat.zero_le _, Nat.zero_le _⟩ rfl (Nat.le_of_ble_eq_true rfl) dX6_bears_1 hp) rfl ?_
  refine J_iload_n (pc' := 5) (q := 2) F dX6_bears_4 rfl rfl ?_
  refine J_icmp_gt (tgt := 23) (pc' := 8) F dX6_bears_5 (by decide) rfl (fun c5 => ?_) (fun c5 => ?_)
  · refine J_iconst (pc' := 24) (v := 0) F dX6_bears_23 (by decide) rfl ?_
    exact J_iretR F hR dX6_bears_24 rfl (by show _ = zX6_bears sc ar hs x1 x2; unfold zX6_bears; rw [if_pos c5])
  · refine J_iload_n (pc' := 9) (q := 1) F dX6_bears_8 rfl rfl ?_
    refine J_goRie (wc := []) (av := [.int x1]) (rest := []) (v := zX6_listingOf x1) (pc' := 12) F E (fun _ _ => jP_nil _ _) (fun H locs hI hp => jrun_S F E (c_X6_listingOf l D cI cZ z x1) kw_751 kw_752 rfl kw_753 kw_7 oX6_listingOf ⟨⟨rfl, rfl⟩, ⟨Nat.le_of_ble_eq_true rfl, Nat.le_of_ble_eq_true rfl⟩, Nat.zero_le _, Nat.zero_le _⟩ rfl (Nat.le_of_ble_eq_true rfl) dX6_bears_9 hp) rfl ?_
    refine J_aload_n (pc' := 13) (q := 0) F dX6_bears_12 rfl rfl ?_
    refine M_get_0_4 (v := sc 4) (pc' := 16) F dX6_bears_13 kw_583 rfl rfl ?_
    refine J_icmp_gt (tgt := 23) (pc' := 19) F dX6_bears_16 (by decide) rfl (fun c16 => ?_) (fun c16 => ?_)
    · refine J_iconst (pc' := 24) (v := 0) F dX6_bears_23 (by decide) rfl ?_
      exact J_iretR F hR dX6_bears_24 rfl (by show _ = zX6_bears sc ar hs x1 x2; unfold zX6_bears; rw [if_neg c5, if_pos c16])
    · refine J_iconst (pc' := 20) (v := 1) F dX6_bears_19 (by decide) rfl ?_
      refine J_goto (tgt := 24) F dX6_bears_20 (by decide) ?_
      exact J_iretR F hR dX6_bears_24 rfl (by show _ = zX6_bears sc ar hs x1 x2; unfold zX6_bears; rw [if_neg c5, if_neg c16])
def zX6_hullOf (sc : Nat → Int32) (ar : Nat → Nat → Int32) (hs : Int64) (x1 : Int32) : Int32 := if x1 = 0 then zX6_bentOf (sc 5) else (if x1 = 1 then zX6_listingOf (sc 5) else (if x1 = 2 then (if (zX6_bears sc ar hs (sc 5) (zX6_bendNow sc ar hs)) = 0 then 0 else 1) else zX6_bendNow sc ar hs))
abbrev rm_X6_hullOf : Room := { frames := 3, cells := 0, slots := 0, locals := 63 }
set_option maxHeartbeats 4000000 in
set_option maxRecDepth 100000 in
theorem c_X6_hullOf (l : Launch) (D : va_G) (cI cZ : ClassId) (z : Nat → Nat) (g : Nat → Nat) (sc : Nat → Int32) (ar : Nat → Nat → Int32) (hs : Int64) (x1 : Int32)  : cRi l yX6_hullOf ww_X6_hullOf rm_X6_hullOf D cI cZ z (wM cI cZ g sc ar hs) [.ref (g 0), .int x1] (fun r => r = zX6_hullOf sc ar hs x1) := by
  refine cRi.of (cc := cX6_hullOf) (maxL := 2) (rt := .int) (by decide) rfl (Nat.le_of_ble_eq_true rfl) (fun X F E hR => ?_)
  refine J_lv [0, 1] (lv' := [(0, .ref (g 0)), (1, .int x1)]) rfl ?_
  refine J_iload_n (pc' := 1) (q := 1) F dX6_hullOf_0 rfl rfl ?_
  refine J_if_ne (tgt := 14) (pc' := 4) F dX6_hullOf_1 (by decide) rfl (fun c1 => ?_) (fun c1 => ?_)
  · refine J_iload_n (pc' := 15) (q := 1) F dX6_hullOf_14 rfl rfl ?_
    refine J_iconst (pc' := 16) (v := 1) F dX6_hullOf_15 (by decide) rfl ?_
    refine J_icmp_ne (tgt := 29) (pc' := 19) F dX6_hullOf_16 (by decide) rfl (fun c16 => ?_) (fun c16 => ?_)
    · refine J_iload_n (pc' := 30) (q := 1) F dX6_hullOf_29 rfl rfl ?_
      refine J_iconst (pc' := 31) (v := 2) F dX6_hullOf_30 (by decide) rfl ?_
      refine J_icmp_ne (tgt := 57) (pc' := 34) F dX6_hullOf_31 (by decide) rfl (fun c31 => ?_) (fun c31 => ?_)
      · refine J_aload_n (pc' := 58) (q := 0) F dX6_hullOf_57 rfl rfl ?_
        refine J_goRie (wc := (wM cI cZ g sc ar hs)) (av := [.ref (g 0)]) (rest := []) (v := zX6_bendNow sc ar hs) (pc' := 61) F E (fun _ h => h) (fun H locs hI hp => jrun_V (As := []) 0 F E (c_X6_bendNow l D cI cZ z g sc ar hs ) kw_754 kw_756 kp_13 rfl kw_757 kw_7 oX6_bendNow ⟨⟨rfl, rfl⟩, ⟨Nat.le_of_ble_eq_true rfl, Nat.le_of_ble_eq_true rfl⟩, Nat.zero_le _, Nat.zero_le _⟩ rfl rfl (Nat.le_of_ble_eq_true rfl) dX6_hullOf_58 rfl rfl (jI_P E hI) hp) rfl ?_
        exact J_iretR F hR dX6_hullOf_61 rfl (by show _ = zX6_hullOf sc ar hs x1; unfold zX6_hullOf; rw [if_neg c1, if_neg c16, if_neg c31])
      · refine J_aload_n (pc' := 35) (q := 0) F dX6_hullOf_34 rfl rfl ?_
        refine J_aload_n (pc' := 36) (q := 0) F dX6_hullOf_35 rfl rfl ?_
        refine M_get_0_5 (v := sc 5) (pc' := 39) F dX6_hullOf_36 kw_584 rfl rfl ?_
        refine J_aload_n (pc' := 40) (q := 0) F dX6_hullOf_39 rfl rfl ?_
        refine J_goRie (wc := (wM cI cZ g sc ar hs)) (av := [.ref (g 0)]) (rest := [.int (sc 5), .ref (g 0)]) (v := zX6_bendNow sc ar hs) (pc' := 43) F E (fun _ h => h) (fun H locs hI hp => jrun_V (As := []) 0 F E (c_X6_bendNow l D cI cZ z g sc ar hs ) kw_754 kw_756 kp_13 rfl kw_757 kw_7 oX6_bendNow ⟨⟨rfl, rfl⟩, ⟨Nat.le_of_ble_eq_true rfl, Nat.le_of_ble_eq_true rfl⟩, Nat.zero_le _, Nat.zero_le _⟩ rfl rfl (Nat.le_of_ble_eq_true rfl) dX6_hullOf_40 rfl rfl (jI_P E hI) hp) rfl ?_
        refine J_goRie (wc := (wM cI cZ g sc ar hs)) (av := [.ref (g 0), .int (sc 5), .int (zX6_bendNow sc ar hs)]) (rest := []) (v := zX6_bears sc ar hs (sc 5) (zX6_bendNow sc ar hs)) (pc' := 46) F E (fun _ h => h) (fun H locs hI hp => jrun_V (As := [.int (sc 5), .int (zX6_bendNow sc ar hs)]) 0 F E (c_X6_bears l D cI cZ z g sc ar hs (sc 5) (zX6_bendNow sc ar hs)) kw_758 kw_760 kp_14 rfl kw_761 kw_7 oX6_bears ⟨⟨rfl, rfl⟩, ⟨Nat.le_of_ble_eq_true rfl, Nat.le_of_ble_eq_true rfl⟩, Nat.zero_le _, Nat.zero_le _⟩ rfl rfl (Nat.le_of_ble_eq_true rfl) dX6_hullOf_43 rfl rfl (jI_P E hI) hp) rfl ?_
        refine J_if_eq (tgt := 53) (pc' := 49) F dX6_hullOf_46 (by decide) rfl (fun c46 => ?_) (fun c46 => ?_)
        · refine J_iconst (pc' := 54) (v := 0) F dX6_hullOf_53 (by decide) rfl ?_
          refine J_goto (tgt := 61) F dX6_hullOf_54 (by decide) ?_
          exact J_iretR F hR dX6_hullOf_61 rfl (by show _ = zX6_hullOf sc ar hs x1; unfold zX6_hullOf; rw [if_neg c1, if_neg c16, if_pos c31, if_pos c46])
        · refine J_iconst (pc' := 50) (v := 1) F dX6_hullOf_49 (by decide) rfl ?_
          refine J_goto (tgt := 61) F dX6_hullOf_50 (by decide) ?_
          exact J_iretR F hR dX6_hullOf_61 rfl (by show _ = zX6_hullOf sc ar hs x1; unfold zX6_hullOf; rw [if_neg c1, if_neg c16, if_pos c31, if_neg c46])
    · refine J_aload_n (pc' := 20) (q := 0) F dX6_hullOf_19 rfl rfl ?_
      refine M_get_0_5 (v := sc 5) (pc' := 23) F dX6_hullOf_20 kw_584 rfl rfl ?_
      refine J_goRie (wc := []) (av := [.int (sc 5)]) (rest := []) (v := zX6_listingOf (sc 5)) (pc' := 26) F E (fun _ _ => jP_nil _ _) (fun H locs hI hp => jrun_S F E (c_X6_listingOf l D cI cZ z (sc 5)) kw_751 kw_752 rfl kw_753 kw_7 oX6_listingOf ⟨⟨rfl, rfl⟩, ⟨Nat.le_of_ble_eq_true rfl, Nat.le_of_ble_eq_true rfl⟩, Nat.zero_le _, Nat.zero_le _⟩ rfl (Nat.le_of_ble_eq_true rfl) dX6_hullOf_23 hp) rfl ?_
      refine J_goto (tgt := 61) F dX6_hullOf_26 (by decide) ?_
      exact J_iretR F hR dX6_hullOf_61 rfl (by show _ = zX6_hullOf sc ar hs x1; unfold zX6_hullOf; rw [if_neg c1, if_pos c16])
  · refine J_aload_n (pc' := 5) (q := 0) F dX6_hullOf_4 rfl rfl ?_
    refine M_get_0_5 (v := sc 5) (pc' := 8) F dX6_hullOf_5 kw_584 rfl rfl ?_
    refine J_goRie (wc := []) (av := [.int (sc 5)]) (rest := []) (v := zX6_bentOf (sc 5)) (pc' := 11) F E (fun _ _ => jP_nil _ _) (fun H locs hI hp => jrun_S F E (c_X6_bentOf l D cI cZ z (sc 5)) kw_745 kw_746 rfl kw_747 kw_7 oX6_bentOf ⟨⟨rfl, rfl⟩, ⟨Nat.le_of_ble_eq_true rfl, Nat.le_of_ble_eq_true rfl⟩, Nat.zero_le _, Nat.zero_le _⟩ rfl (Nat.le_of_ble_eq_true rfl) dX6_hullOf_8 hp) rfl ?_
    refine J_goto (tgt := 61) F dX6_hullOf_11 (by decide) ?_
    exact J_iretR F hR dX6_hullOf_61 rfl (by show _ = zX6_hullOf sc ar hs x1; unfold zX6_hullOf; rw [if_pos c1])
def zX6_hull (sc : Nat → Int32) (ar : Nat → Nat → Int32) (hs : Int64) (x1 : Int32) : Int32 := if (zX6_in ((x1 : Int32).toInt64) 0 3) = 0 then (-102) else (if (sc 2) = 0 then (-103) else zX6_hullOf sc ar hs x1)
abbrev rm_X6_hull : Room := { frames := 4, cells := 0, slots := 0, locals := 84 }
set_option maxHeartbeats 4000000 in
set_option maxRecDepth 100000 in
theorem c_X6_hull (l : Launch) (D : va_G) (cI cZ : ClassId) (z : Nat → Nat) (g : Nat → Nat) (sc : Nat → Int32) (ar : Nat → Nat → Int32) (hs : Int64) (x1 : Int32)  : cRi l yX6_hull ww_X6_hull rm_X6_hull D cI cZ z (wM cI cZ g sc ar hs) [.ref (g 0), .int x1] (fun r => r = zX6_hull sc ar hs x1) := by
  refine cRi.of (cc := cX6_hull) (maxL := 2) (rt := .int) (by decide) rfl (Nat.le_of_ble_eq_true rfl) (fun X F E hR => ?_)
  refine J_lv [0, 1] (lv' := [(0, .ref (g 0)), (1, .int x1)]) rfl ?_
  refine J_iload_n (pc' := 1) (q := 1) F dX6_hull_0 rfl rfl ?_
  refine J_i2l (pc' := 2) (v := (x1 : Int32).toInt64) F dX6_hull_1 rfl rfl ?_
  refine J_lconst (pc' := 3) (v := 0) F dX6_hull_2 (by decide) rfl ?_
  refine J_ldc2 (pc' := 6) (v := 3) F dX6_hull_3 kw_704 rfl ?_
  refine J_goRie (wc := []) (av := [.long ((x1 : Int32).toInt64), .long 0, .long 3]) (rest := []) (v := zX6_in ((x1 : Int32).toInt64) 0 3) (pc' := 9) F E (fun _ _ => jP_nil _ _) (fun H locs hI hp => jrun_S F E (c_X6_in l D cI cZ z ((x1 : Int32).toInt64) 0 3) kw_682 kw_683 rfl kw_684 kw_7 oX6_in ⟨⟨rfl, rfl⟩, ⟨Nat.le_of_ble_eq_true rfl, Nat.le_of_ble_eq_true rfl⟩, Nat.zero_le _, Nat.zero_le _⟩ rfl (Nat.le_of_ble_eq_true rfl) dX6_hull_6 hp) rfl ?_
  refine J_if_ne (tgt := 15) (pc' := 12) F dX6_hull_9 (by decide) rfl (fun c9 => ?_) (fun c9 => ?_)
  · refine J_aload_n (pc' := 16) (q := 0) F dX6_hull_15 rfl rfl ?_
    refine M_get_0_2 (v := sc 2) (pc' := 19) F dX6_hull_16 kw_581 rfl rfl ?_
    refine J_if_eq (tgt := 30) (pc' := 22) F dX6_hull_19 (by decide) rfl (fun c19 => ?_) (fun c19 => ?_)
    · refine J_bipush (pc' := 32) (v := (-103)) F dX6_hull_30 (by decide) rfl ?_
      exact J_iretR F hR dX6_hull_32 rfl (by show _ = zX6_hull sc ar hs x1; unfold zX6_hull; rw [if_neg c9, if_pos c19])
    · refine J_aload_n (pc' := 23) (q := 0) F dX6_hull_22 rfl rfl ?_
      refine J_iload_n (pc' := 24) (q := 1) F dX6_hull_23 rfl rfl ?_
      refine J_goRie (wc := (wM cI cZ g sc ar hs)) (av := [.ref (g 0), .int x1]) (rest := []) (v := zX6_hullOf sc ar hs x1) (pc' := 27) F E (fun _ h => h) (fun H locs hI hp => jrun_V (As := [.int x1]) 0 F E (c_X6_hullOf l D cI cZ z g sc ar hs x1) kw_741 kw_743 kp_12 rfl kw_744 kw_7 oX6_hullOf ⟨⟨rfl, rfl⟩, ⟨Nat.le_of_ble_eq_true rfl, Nat.le_of_ble_eq_true rfl⟩, Nat.zero_le _, Nat.zero_le _⟩ rfl rfl (Nat.le_of_ble_eq_true rfl) dX6_hull_24 rfl rfl (jI_P E hI) hp) rfl ?_
      refine J_goto (tgt := 32) F dX6_hull_27 (by decide) ?_
      exact J_iretR F hR dX6_hull_32 rfl (by show _ = zX6_hull sc ar hs x1; unfold zX6_hull; rw [if_neg c9, if_neg c19])
  · refine J_bipush (pc' := 14) (v := (-102)) F dX6_hull_12 (by decide) rfl ?_
    exact J_iretR F hR dX6_hull_14 rfl (by show _ = zX6_hull sc ar hs x1; unfold zX6_hull; rw [if_pos c9])
def zX6_behind_88 (sc : Nat → Int32) (ar : Nat → Nat → Int32) (hs : Int64) (x1 : Int32) (x2 : Int32) : Nat → Nat → Int32 → Int32
  | 0, _, _ => 0
  | n + 1, i, y5 => if (3 : Int32) ≤ (nI i) then y5 else (if ((ar 1) i) = 3 then (if (zX6_unlike ((zX6_at y5 (2 * (nI i))) - (zX6_at y5 ((2 * (nI i)) + 1))) 0) ≤ 1 then zX6_behind_88 sc ar hs x1 x2 n (i + 1) y5 else (if ((zX6_at y5 (2 * (nI i))) - (zX6_at y5 ((2 * (nI i)) + 1))) ≤ 0 then zX6_behind_88 sc ar hs x1 x2 n (i + 1) (y5 + (-(((1 : Int32) <<< ((((4 * (nI i)) + 2) : Int32) &&& 31)) - ((1 : Int32) <<< (((4 * (nI i)) : Int32) &&& 31))))) else zX6_behind_88 sc ar hs x1 x2 n (i + 1) (y5 + (((1 : Int32) <<< ((((4 * (nI i)) + 2) : Int32) &&& 31)) - ((1 : Int32) <<< (((4 * (nI i)) : Int32) &&& 31)))))) else zX6_behind_88 sc ar hs x1 x2 n (i + 1) y5)
def zX6_behind (sc : Nat → Int32) (ar : Nat → Nat → Int32) (hs : Int64) (x1 : Int32) (x2 : Int32) : Int32 := if (6 : Int32) ≤ x2 then (if (zX6_at x1 ((x2 / 6) - 1)) = 0 then (-1) else (if (x2 - x2 / 6 * 6) = (-1) then zX6_behind_88 sc ar hs x1 x2 (3 + 1) 0 ((x1 - ((1 : Int32) <<< (((2 * ((x2 / 6) - 1)) : Int32) &&& 31))) + 0) else (if (zX6_at x1 (x2 - x2 / 6 * 6)) = 3 then (-1) else zX6_behind_88 sc ar hs x1 x2 (3 + 1) 0 ((x1 - ((1 : Int32) <<< (((2 * ((x2 / 6) - 1)) : Int32) &&& 31))) + ((1 : Int32) <<< (((2 * (x2 - x2 / 6 * 6)) : Int32) &&& 31)))))) else (if (zX6_at x1 x2) = 0 then (-1) else zX6_behind_88 sc ar hs x1 x2 (3 + 1) 0 ((x1 - ((1 : Int32) <<< (((2 * x2) : Int32) &&& 31))) + 0))
abbrev rm_X6_behind : Room := { frames := 1, cells := 0, slots := 0, locals := 21 }
set_option maxHeartbeats 4000000 in
set_option maxRecDepth 100000 in
theorem c_X6_behind (l : Launch) (D : va_G) (cI cZ : ClassId) (z : Nat → Nat) (g : Nat → Nat) (sc : Nat → Int32) (ar : Nat → Nat → Int32) (hs : Int64) (x1 : Int32) (x2 : Int32)  : cRi l yX6_behind ww_X6_behind rm_X6_behind D cI cZ z (wM cI cZ g sc ar hs) [.ref (g 0), .int x1, .int x2] (fun r => r = zX6_behind sc ar hs x1 x2) := by
  refine cRi.of (cc := cX6_behind) (maxL := 9) (rt := .int) (by decide) rfl (Nat.le_of_ble_eq_true rfl) (fun X F E hR => ?_)
  refine J_lv [0, 1, 2] (lv' := [(0, .ref (g 0)), (1, .int x1), (2, .int x2)]) rfl ?_
  have L88 : ∀ (n i : Nat) (y5 : Int32) , i ≤ 3 → 3 - i < n → zX6_behind_88 sc ar hs x1 x2 n i y5 = zX6_behind sc ar hs x1 x2 → J X false 0 0 88 [(0, .ref (g 0)), (5, .int y5), (6, .int (nI i))] [] (wM cI cZ g sc ar hs) := by
    intro n
    induction n with
    | zero => intro i _ _ hm; exact absurd hm (Nat.not_lt_zero _)
    | succ n ih =>
      intro i y5 hi hm heq
      refine J_iload (pc' := 90) (q := 2) F dX6_behind_88 rfl rfl ?_
      refine J_iconst (pc' := 91) (v := 3) F dX6_behind_90 (by decide) rfl ?_
      refine J_icmp_ge (tgt := 179) (pc' := 94) F dX6_behind_91 (by decide) rfl (fun c91 => ?_) (fun c91 => ?_)
      · refine J_iload (pc' := 181) (q := 1) F dX6_behind_179 rfl rfl ?_
        exact J_iretR F hR dX6_behind_181 rfl (by show _ = zX6_behind sc ar hs x1 x2; rw [← heq, zX6_behind_88, if_pos c91])
      · have hlt : i < 3 := jin_lt (by decide) hi c91
        refine J_iload (pc' := 96) (q := 1) F dX6_behind_94 rfl rfl ?_
        refine J_iconst (pc' := 97) (v := 2) F dX6_behind_96 (by decide) rfl ?_
        refine J_iload (pc' := 99) (q := 2) F dX6_behind_97 rfl rfl ?_
        refine J_imul (pc' := 100) F dX6_behind_99 rfl ?_
        refine J_goRie (wc := []) (av := [.int y5, .int (2 * (nI i))]) (rest := []) (v := zX6_at y5 (2 * (nI i))) (pc' := 103) F E (fun _ _ => jP_nil _ _) (fun H locs hI hp => jrun_S F E (c_X6_at l D cI cZ z y5 (2 * (nI i))) kw_712 kw_713 rfl kw_714 kw_7 oX6_at ⟨⟨rfl, rfl⟩, ⟨Nat.le_of_ble_eq_true rfl, Nat.le_of_ble_eq_true rfl⟩, Nat.zero_le _, Nat.zero_le _⟩ rfl (Nat.le_of_ble_eq_true rfl) dX6_behind_100 hp) rfl ?_
        refine J_iload (pc' := 105) (q := 1) F dX6_behind_103 rfl rfl ?_
        refine J_iconst (pc' := 106) (v := 2) F dX6_behind_105 (by decide) rfl ?_
        refine J_iload (pc' := 108) (q := 2) F dX6_behind_106 rfl rfl ?_
        refine J_imul (pc' := 109) F dX6_behind_108 rfl ?_
        refine J_iconst (pc' := 110) (v := 1) F dX6_behind_109 (by decide) rfl ?_
        refine J_iadd (pc' := 111) F dX6_behind_110 rfl ?_
        refine J_goRie (wc := []) (av := [.int y5, .int ((2 * (nI i)) + 1)]) (rest := [.int (zX6_at y5 (2 * (nI i)))]) (v := zX6_at y5 ((2 * (nI i)) + 1)) (pc' := 114) F E (fun _ _ => jP_nil _ _) (fun H locs hI hp => jrun_S F E (c_X6_at l D cI cZ z y5 ((2 * (nI i)) + 1)) kw_712 kw_713 rfl kw_714 kw_7 oX6_at ⟨⟨rfl, rfl⟩, ⟨Nat.le_of_ble_eq_true rfl, Nat.le_of_ble_eq_true rfl⟩, Nat.zero_le _, Nat.zero_le _⟩ rfl (Nat.le_of_ble_eq_true rfl) dX6_behind_111 hp) rfl ?_
        refine J_isub (pc' := 115) F dX6_behind_114 rfl ?_
        refine J_istore (pc' := 117) [1, 2, 3, 0] [(0, .ref (g 0)), (5, .int y5), (6, .int (nI i)), (7, .int ((zX6_at y5 (2 * (nI i))) - (zX6_at y5 ((2 * (nI i)) + 1))))] F dX6_behind_115 (jL_of E (show 7 < 9 by decide)) rfl rfl ?_
        refine J_iconst (pc' := 118) (v := 1) F dX6_behind_117 (by decide) rfl ?_
        refine J_iconst (pc' := 119) (v := 4) F dX6_behind_118 (by decide) rfl ?_
        refine J_iload (pc' := 121) (q := 2) F dX6_behind_119 rfl rfl ?_
        refine J_imul (pc' := 122) F dX6_behind_121 rfl ?_
        refine J_iconst (pc' := 123) (v := 2) F dX6_behind_122 (by decide) rfl ?_
        refine J_iadd (pc' := 124) F dX6_behind_123 rfl ?_
        refine J_ishl (pc' := 125) F dX6_behind_124 rfl ?_
        refine J_iconst (pc' := 126) (v := 1) F dX6_behind_125 (by decide) rfl ?_
        refine J_iconst (pc' := 127) (v := 4) F dX6_behind_126 (by decide) rfl ?_
        refine J_iload (pc' := 129) (q := 2) F dX6_behind_127 rfl rfl ?_
        refine J_imul (pc' := 130) F dX6_behind_129 rfl ?_
        refine J_ishl (pc' := 131) F dX6_behind_130 rfl ?_
        refine J_isub (pc' := 132) F dX6_behind_131 rfl ?_
        refine J_istore (pc' := 134) [1, 2, 3, 4, 0] [(0, .ref (g 0)), (5, .int y5), (6, .int (nI i)), (7, .int ((zX6_at y5 (2 * (nI i))) - (zX6_at y5 ((2 * (nI i)) + 1)))), (8, .int (((1 : Int32) <<< ((((4 * (nI i)) + 2) : Int32) &&& 31)) - ((1 : Int32) <<< (((4 * (nI i)) : Int32) &&& 31))))] F dX6_behind_132 (jL_of E (show 8 < 9 by decide)) rfl rfl ?_
        refine J_aload_n (pc' := 135) (q := 0) F dX6_behind_134 rfl rfl ?_
        refine M_get_0_10 (pc' := 138) F dX6_behind_135 kw_589 rfl ?_
        refine J_iload (pc' := 140) (q := 2) F dX6_behind_138 rfl rfl ?_
        refine M_ld_1 (f := ar 1) (q := i) (pc' := 141) F dX6_behind_140 rfl (nI_clamp (by omega)) (vp_in_nI hlt (by decide)) rfl ?_
        refine J_iconst (pc' := 142) (v := 3) F dX6_behind_141 (by decide) rfl ?_
        refine J_icmp_ne (tgt := 173) (pc' := 145) F dX6_behind_142 (by decide) rfl (fun c142 => ?_) (fun c142 => ?_)
        · refine J_iinc (v := nI (i + 1)) (q := 2) (pc' := 176) [1, 2, 0, 3, 4] [(0, .ref (g 0)), (5, .int y5), (6, .int (nI (i + 1))), (7, .int ((zX6_at y5 (2 * (nI i))) - (zX6_at y5 ((2 * (nI i)) + 1)))), (8, .int (((1 : Int32) <<< ((((4 * (nI i)) + 2) : Int32) &&& 31)) - ((1 : Int32) <<< (((4 * (nI i)) : Int32) &&& 31))))] F dX6_behind_173 rfl (nI_inc i) (jL_of E (show 6 < 9 by decide)) rfl rfl ?_
          refine J_goto (tgt := 88) F dX6_behind_176 (by decide) ?_
          refine J_lv [0, 1, 2] (lv' := [(0, .ref (g 0)), (5, .int y5), (6, .int (nI (i + 1)))]) rfl ?_
          exact ih (i + 1) y5 (by omega) (by omega) (by show _ = zX6_behind sc ar hs x1 x2; rw [← heq, zX6_behind_88, if_neg c91, if_neg c142])
        · refine J_iload (pc' := 147) (q := 3) F dX6_behind_145 rfl rfl ?_
          refine J_iconst (pc' := 148) (v := 0) F dX6_behind_147 (by decide) rfl ?_
          refine J_goRie (wc := []) (av := [.int ((zX6_at y5 (2 * (nI i))) - (zX6_at y5 ((2 * (nI i)) + 1))), .int 0]) (rest := []) (v := zX6_unlike ((zX6_at y5 (2 * (nI i))) - (zX6_at y5 ((2 * (nI i)) + 1))) 0) (pc' := 151) F E (fun _ _ => jP_nil _ _) (fun H locs hI hp => jrun_S F E (c_X6_unlike l D cI cZ z ((zX6_at y5 (2 * (nI i))) - (zX6_at y5 ((2 * (nI i)) + 1))) 0) kw_748 kw_749 rfl kw_750 kw_7 oX6_unlike ⟨⟨rfl, rfl⟩, ⟨Nat.le_of_ble_eq_true rfl, Nat.le_of_ble_eq_true rfl⟩, Nat.zero_le _, Nat.zero_le _⟩ rfl (Nat.le_of_ble_eq_true rfl) dX6_behind_148 hp) rfl ?_
          refine J_iconst (pc' := 152) (v := 1) F dX6_behind_151 (by decide) rfl ?_
          refine J_icmp_le (tgt := 173) (pc' := 155) F dX6_behind_152 (by decide) rfl (fun c152 => ?_) (fun c152 => ?_)
          · refine J_iinc (v := nI (i + 1)) (q := 2) (pc' := 176) [1, 2, 0, 3, 4] [(0, .ref (g 0)), (5, .int y5), (6, .int (nI (i + 1))), (7, .int ((zX6_at y5 (2 * (nI i))) - (zX6_at y5 ((2 * (nI i)) + 1)))), (8, .int (((1 : Int32) <<< ((((4 * (nI i)) + 2) : Int32) &&& 31)) - ((1 : Int32) <<< (((4 * (nI i)) : Int32) &&& 31))))] F dX6_behind_173 rfl (nI_inc i) (jL_of E (show 6 < 9 by decide)) rfl rfl ?_
            refine J_goto (tgt := 88) F dX6_behind_176 (by decide) ?_
            refine J_lv [0, 1, 2] (lv' := [(0, .ref (g 0)), (5, .int y5), (6, .int (nI (i + 1)))]) rfl ?_
            exact ih (i + 1) y5 (by omega) (by omega) (by show _ = zX6_behind sc ar hs x1 x2; rw [← heq, zX6_behind_88, if_neg c91, if_pos c142, if_pos c152])
          · refine J_iload (pc' := 157) (q := 1) F dX6_behind_155 rfl rfl ?_
            refine J_iload (pc' := 159) (q := 3) F dX6_behind_157 rfl rfl ?_
            refine J_if_le (tgt := 167) (pc' := 162) F dX6_behind_159 (by decide) rfl (fun c159 => ?_) (fun c159 => ?_)
            · refine J_iload (pc' := 169) (q := 4) F dX6_behind_167 rfl rfl ?_
              refine J_ineg (pc' := 170) F dX6_behind_169 rfl ?_
              refine J_iadd (pc' := 171) F dX6_behind_170 rfl ?_
              refine J_istore (pc' := 173) [1, 0, 2, 3, 4] [(0, .ref (g 0)), (5, .int (y5 + (-(((1 : Int32) <<< ((((4 * (nI i)) + 2) : Int32) &&& 31)) - ((1 : Int32) <<< (((4 * (nI i)) : Int32) &&& 31)))))), (6, .int (nI i)), (7, .int ((zX6_at y5 (2 * (nI i))) - (zX6_at y5 ((2 * (nI i)) + 1)))), (8, .int (((1 : Int32) <<< ((((4 * (nI i)) + 2) : Int32) &&& 31)) - ((1 : Int32) <<< (((4 * (nI i)) : Int32) &&& 31))))] F dX6_behind_171 (jL_of E (show 5 < 9 by decide)) rfl rfl ?_
              refine J_iinc (v := nI (i + 1)) (q := 2) (pc' := 176) [1, 2, 0, 3, 4] [(0, .ref (g 0)), (5, .int (y5 + (-(((1 : Int32) <<< ((((4 * (nI i)) + 2) : Int32) &&& 31)) - ((1 : Int32) <<< (((4 * (nI i)) : Int32) &&& 31)))))), (6, .int (nI (i + 1))), (7, .int ((zX6_at y5 (2 * (nI i))) - (zX6_at y5 ((2 * (nI i)) + 1)))), (8, .int (((1 : Int32) <<< ((((4 * (nI i)) + 2) : Int32) &&& 31)) - ((1 : Int32) <<< (((4 * (nI i)) : Int32) &&& 31))))] F dX6_behind_173 rfl (nI_inc i) (jL_of E (show 6 < 9 by decide)) rfl rfl ?_
              refine J_goto (tgt := 88) F dX6_behind_176 (by decide) ?_
              refine J_lv [0, 1, 2] (lv' := [(0, .ref (g 0)), (5, .int (y5 + (-(((1 : Int32) <<< ((((4 * (nI i)) + 2) : Int32) &&& 31)) - ((1 : Int32) <<< (((4 * (nI i)) : Int32) &&& 31)))))), (6, .int (nI (i + 1)))]) rfl ?_
              exact ih (i + 1) (y5 + (-(((1 : Int32) <<< ((((4 * (nI i)) + 2) : Int32) &&& 31)) - ((1 : Int32) <<< (((4 * (nI i)) : Int32) &&& 31))))) (by omega) (by omega) (by show _ = zX6_behind sc ar hs x1 x2; rw [← heq, zX6_behind_88, if_neg c91, if_pos c142, if_neg c152, if_pos c159])
            · refine J_iload (pc' := 164) (q := 4) F dX6_behind_162 rfl rfl ?_
              refine J_goto (tgt := 170) F dX6_behind_164 (by decide) ?_
              refine J_iadd (pc' := 171) F dX6_behind_170 rfl ?_
              refine J_istore (pc' := 173) [1, 0, 2, 3, 4] [(0, .ref (g 0)), (5, .int (y5 + (((1 : Int32) <<< ((((4 * (nI i)) + 2) : Int32) &&& 31)) - ((1 : Int32) <<< (((4 * (nI i)) : Int32) &&& 31))))), (6, .int (nI i)), (7, .int ((zX6_at y5 (2 * (nI i))) - (zX6_at y5 ((2 * (nI i)) + 1)))), (8, .int (((1 : Int32) <<< ((((4 * (nI i)) + 2) : Int32) &&& 31)) - ((1 : Int32) <<< (((4 * (nI i)) : Int32) &&& 31))))] F dX6_behind_171 (jL_of E (show 5 < 9 by decide)) rfl rfl ?_
              refine J_iinc (v := nI (i + 1)) (q := 2) (pc' := 176) [1, 2, 0, 3, 4] [(0, .ref (g 0)), (5, .int (y5 + (((1 : Int32) <<< ((((4 * (nI i)) + 2) : Int32) &&& 31)) - ((1 : Int32) <<< (((4 * (nI i)) : Int32) &&& 31))))), (6, .int (nI (i + 1))), (7, .int ((zX6_at y5 (2 * (nI i))) - (zX6_at y5 ((2 * (nI i)) + 1)))), (8, .int (((1 : Int32) <<< ((((4 * (nI i)) + 2) : Int32) &&& 31)) - ((1 : Int32) <<< (((4 * (nI i)) : Int32) &&& 31))))] F dX6_behind_173 rfl (nI_inc i) (jL_of E (show 6 < 9 by decide)) rfl rfl ?_
              refine J_goto (tgt := 88) F dX6_behind_176 (by decide) ?_
              refine J_lv [0, 1, 2] (lv' := [(0, .ref (g 0)), (5, .int (y5 + (((1 : Int32) <<< ((((4 * (nI i)) + 2) : Int32) &&& 31)) - ((1 : Int32) <<< (((4 * (nI i)) : Int32) &&& 31))))), (6, .int (nI (i + 1)))]) rfl ?_
              exact ih (i + 1) (y5 + (((1 : Int32) <<< ((((4 * (nI i)) + 2) : Int32) &&& 31)) - ((1 : Int32) <<< (((4 * (nI i)) : Int32) &&& 31)))) (by omega) (by omega) (by show _ = zX6_behind sc ar hs x1 x2; rw [← heq, zX6_behind_88, if_neg c91, if_pos c142, if_neg c152, if_neg c159])
  refine J_iload_n (pc' := 1) (q := 2) F dX6_behind_0 rfl rfl ?_
  refine J_bipush (pc' := 3) (v := 6) F dX6_behind_1 (by decide) rfl ?_
  refine J_icmp_ge (tgt := 10) (pc' := 6) F dX6_behind_3 (by decide) rfl (fun c3 => ?_) (fun c3 => ?_)
  · refine J_iload_n (pc' := 11) (q := 2) F dX6_behind_10 rfl rfl ?_
    refine J_bipush (pc' := 13) (v := 6) F dX6_behind_11 (by decide) rfl ?_
    refine J_idiv (pc' := 14) F dX6_behind_13 (by decide) rfl ?_
    refine J_iconst (pc' := 15) (v := 1) F dX6_behind_14 (by decide) rfl ?_
    refine J_isub (pc' := 16) F dX6_behind_15 rfl ?_
    refine J_istore_n (pc' := 17) [1, 2, 3, 0] [(0, .ref (g 0)), (1, .int x1), (2, .int x2), (3, .int ((x2 / 6) - 1))] F dX6_behind_16 rfl (jL_of E (show 3 < 9 by decide)) rfl rfl ?_
    refine J_iload_n (pc' := 18) (q := 2) F dX6_behind_17 rfl rfl ?_
    refine J_bipush (pc' := 20) (v := 6) F dX6_behind_18 (by decide) rfl ?_
    refine J_icmp_ge (tgt := 27) (pc' := 23) F dX6_behind_20 (by decide) rfl (fun _ => ?_) (fun c9 => absurd c3 c9)
    refine J_iload_n (pc' := 28) (q := 2) F dX6_behind_27 rfl rfl ?_
    refine J_bipush (pc' := 30) (v := 6) F dX6_behind_28 (by decide) rfl ?_
    refine J_irem (pc' := 31) F dX6_behind_30 (by decide) rfl ?_
    refine J_istore (pc' := 33) [1, 2, 3, 4, 0] [(0, .ref (g 0)), (1, .int x1), (2, .int x2), (3, .int ((x2 / 6) - 1)), (4, .int (x2 - x2 / 6 * 6))] F dX6_behind_31 (jL_of E (show 4 < 9 by decide)) rfl rfl ?_
    refine J_iload_n (pc' := 34) (q := 1) F dX6_behind_33 rfl rfl ?_
    refine J_iload_n (pc' := 35) (q := 3) F dX6_behind_34 rfl rfl ?_
    refine J_goRie (wc := []) (av := [.int x1, .int ((x2 / 6) - 1)]) (rest := []) (v := zX6_at x1 ((x2 / 6) - 1)) (pc' := 38) F E (fun _ _ => jP_nil _ _) (fun H locs hI hp => jrun_S F E (c_X6_at l D cI cZ z x1 ((x2 / 6) - 1)) kw_712 kw_713 rfl kw_714 kw_7 oX6_at ⟨⟨rfl, rfl⟩, ⟨Nat.le_of_ble_eq_true rfl, Nat.le_of_ble_eq_true rfl⟩, Nat.zero_le _, Nat.zero_le _⟩ rfl (Nat.le_of_ble_eq_true rfl) dX6_behind_35 hp) rfl ?_
    refine J_if_eq (tgt := 57) (pc' := 41) F dX6_behind_38 (by decide) rfl (fun c38 => ?_) (fun c38 => ?_)
    · refine J_iconst (pc' := 58) (v := (-1)) F dX6_behind_57 (by decide) rfl ?_
      exact J_iretR F hR dX6_behind_58 rfl (by show _ = zX6_behind sc ar hs x1 x2; unfold zX6_behind; rw [if_pos c3, if_pos c38])
    · refine J_iload (pc' := 43) (q := 4) F dX6_behind_41 rfl rfl ?_
      refine J_iconst (pc' := 44) (v := (-1)) F dX6_behind_43 (by decide) rfl ?_
      refine J_icmp_eq (tgt := 59) (pc' := 47) F dX6_behind_44 (by decide) rfl (fun c44 => ?_) (fun c44 => ?_)
      · refine J_iload_n (pc' := 60) (q := 1) F dX6_behind_59 rfl rfl ?_
        refine J_iconst (pc' := 61) (v := 1) F dX6_behind_60 (by decide) rfl ?_
        refine J_iconst (pc' := 62) (v := 2) F dX6_behind_61 (by decide) rfl ?_
        refine J_iload_n (pc' := 63) (q := 3) F dX6_behind_62 rfl rfl ?_
        refine J_imul (pc' := 64) F dX6_behind_63 rfl ?_
        refine J_ishl (pc' := 65) F dX6_behind_64 rfl ?_
        refine J_isub (pc' := 66) F dX6_behind_65 rfl ?_
        refine J_iload (pc' := 68) (q := 4) F dX6_behind_66 rfl rfl ?_
        refine J_iconst (pc' := 69) (v := (-1)) F dX6_behind_68 (by decide) rfl ?_
        refine J_icmp_ne (tgt := 76) (pc' := 72) F dX6_behind_69 (by decide) rfl (fun c9 => absurd c44 c9) (fun _ => ?_)
        refine J_iconst (pc' := 73) (v := 0) F dX6_behind_72 (by decide) rfl ?_
        refine J_goto (tgt := 82) F dX6_behind_73 (by decide) ?_
        refine J_iadd (pc' := 83) F dX6_behind_82 rfl ?_
        refine J_istore (pc' := 85) [1, 2, 3, 4, 5, 0] [(0, .ref (g 0)), (1, .int x1), (2, .int x2), (3, .int ((x2 / 6) - 1)), (4, .int (x2 - x2 / 6 * 6)), (5, .int ((x1 - ((1 : Int32) <<< (((2 * ((x2 / 6) - 1)) : Int32) &&& 31))) + 0))] F dX6_behind_83 (jL_of E (show 5 < 9 by decide)) rfl rfl ?_
        refine J_iconst (pc' := 86) (v := 0) F dX6_behind_85 (by decide) rfl ?_
        refine J_istore (pc' := 88) [1, 2, 3, 4, 5, 6, 0] [(0, .ref (g 0)), (1, .int x1), (2, .int x2), (3, .int ((x2 / 6) - 1)), (4, .int (x2 - x2 / 6 * 6)), (5, .int ((x1 - ((1 : Int32) <<< (((2 * ((x2 / 6) - 1)) : Int32) &&& 31))) + 0)), (6, .int 0)] F dX6_behind_86 (jL_of E (show 6 < 9 by decide)) rfl rfl ?_
        refine J_lv [0, 5, 6] (lv' := [(0, .ref (g 0)), (5, .int ((x1 - ((1 : Int32) <<< (((2 * ((x2 / 6) - 1)) : Int32) &&& 31))) + 0)), (6, .int (nI 0))]) rfl ?_
        exact L88 (3 + 1) 0 ((x1 - ((1 : Int32) <<< (((2 * ((x2 / 6) - 1)) : Int32) &&& 31))) + 0) (Nat.zero_le _) (Nat.lt_succ_self _) (by unfold zX6_behind; rw [if_pos c3, if_neg c38, if_pos c44])
      · refine J_iload_n (pc' := 48) (q := 1) F dX6_behind_47 rfl rfl ?_
        refine J_iload (pc' := 50) (q := 4) F dX6_behind_48 rfl rfl ?_
        refine J_goRie (wc := []) (av := [.int x1, .int (x2 - x2 / 6 * 6)]) (rest := []) (v := zX6_at x1 (x2 - x2 / 6 * 6)) (pc' := 53) F E (fun _ _ => jP_nil _ _) (fun H locs hI hp => jrun_S F E (c_X6_at l D cI cZ z x1 (x2 - x2 / 6 * 6)) kw_712 kw_713 rfl kw_714 kw_7 oX6_at ⟨⟨rfl, rfl⟩, ⟨Nat.le_of_ble_eq_true rfl, Nat.le_of_ble_eq_true rfl⟩, Nat.zero_le _, Nat.zero_le _⟩ rfl (Nat.le_of_ble_eq_true rfl) dX6_behind_50 hp) rfl ?_
        refine J_iconst (pc' := 54) (v := 3) F dX6_behind_53 (by decide) rfl ?_
        refine J_icmp_ne (tgt := 59) (pc' := 57) F dX6_behind_54 (by decide) rfl (fun c54 => ?_) (fun c54 => ?_)
        · refine J_iload_n (pc' := 60) (q := 1) F dX6_behind_59 rfl rfl ?_
          refine J_iconst (pc' := 61) (v := 1) F dX6_behind_60 (by decide) rfl ?_
          refine J_iconst (pc' := 62) (v := 2) F dX6_behind_61 (by decide) rfl ?_
          refine J_iload_n (pc' := 63) (q := 3) F dX6_behind_62 rfl rfl ?_
          refine J_imul (pc' := 64) F dX6_behind_63 rfl ?_
          refine J_ishl (pc' := 65) F dX6_behind_64 rfl ?_
          refine J_isub (pc' := 66) F dX6_behind_65 rfl ?_
          refine J_iload (pc' := 68) (q := 4) F dX6_behind_66 rfl rfl ?_
          refine J_iconst (pc' := 69) (v := (-1)) F dX6_behind_68 (by decide) rfl ?_
          refine J_icmp_ne (tgt := 76) (pc' := 72) F dX6_behind_69 (by decide) rfl (fun _ => ?_) (fun c9 => absurd c9 c44)
          refine J_iconst (pc' := 77) (v := 1) F dX6_behind_76 (by decide) rfl ?_
          refine J_iconst (pc' := 78) (v := 2) F dX6_behind_77 (by decide) rfl ?_
          refine J_iload (pc' := 80) (q := 4) F dX6_behind_78 rfl rfl ?_
          refine J_imul (pc' := 81) F dX6_behind_80 rfl ?_
          refine J_ishl (pc' := 82) F dX6_behind_81 rfl ?_
          refine J_iadd (pc' := 83) F dX6_behind_82 rfl ?_
          refine J_istore (pc' := 85) [1, 2, 3, 4, 5, 0] [(0, .ref (g 0)), (1, .int x1), (2, .int x2), (3, .int ((x2 / 6) - 1)), (4, .int (x2 - x2 / 6 * 6)), (5, .int ((x1 - ((1 : Int32) <<< (((2 * ((x2 / 6) - 1)) : Int32) &&& 31))) + ((1 : Int32) <<< (((2 * (x2 - x2 / 6 * 6)) : Int32) &&& 31))))] F dX6_behind_83 (jL_of E (show 5 < 9 by decide)) rfl rfl ?_
          refine J_iconst (pc' := 86) (v := 0) F dX6_behind_85 (by decide) rfl ?_
          refine J_istore (pc' := 88) [1, 2, 3, 4, 5, 6, 0] [(0, .ref (g 0)), (1, .int x1), (2, .int x2), (3, .int ((x2 / 6) - 1)), (4, .int (x2 - x2 / 6 * 6)), (5, .int ((x1 - ((1 : Int32) <<< (((2 * ((x2 / 6) - 1)) : Int32) &&& 31))) + ((1 : Int32) <<< (((2 * (x2 - x2 / 6 * 6)) : Int32) &&& 31)))), (6, .int 0)] F dX6_behind_86 (jL_of E (show 6 < 9 by decide)) rfl rfl ?_
          refine J_lv [0, 5, 6] (lv' := [(0, .ref (g 0)), (5, .int ((x1 - ((1 : Int32) <<< (((2 * ((x2 / 6) - 1)) : Int32) &&& 31))) + ((1 : Int32) <<< (((2 * (x2 - x2 / 6 * 6)) : Int32) &&& 31)))), (6, .int (nI 0))]) rfl ?_
          exact L88 (3 + 1) 0 ((x1 - ((1 : Int32) <<< (((2 * ((x2 / 6) - 1)) : Int32) &&& 31))) + ((1 : Int32) <<< (((2 * (x2 - x2 / 6 * 6)) : Int32) &&& 31))) (Nat.zero_le _) (Nat.lt_succ_self _) (by unfold zX6_behind; rw [if_pos c3, if_neg c38, if_neg c44, if_neg c54])
        · refine J_iconst (pc' := 58) (v := (-1)) F dX6_behind_57 (by decide) rfl ?_
          exact J_iretR F hR dX6_behind_58 rfl (by show _ = zX6_behind sc ar hs x1 x2; unfold zX6_behind; rw [if_pos c3, if_neg c38, if_neg c44, if_pos c54])
  · refine J_iload_n (pc' := 7) (q := 2) F dX6_behind_6 rfl rfl ?_
    refine J_goto (tgt := 16) F dX6_behind_7 (by decide) ?_
    refine J_istore_n (pc' := 17) [1, 2, 3, 0] [(0, .ref (g 0)), (1, .int x1), (2, .int x2), (3, .int x2)] F dX6_behind_16 rfl (jL_of E (show 3 < 9 by decide)) rfl rfl ?_
    refine J_iload_n (pc' := 18) (q := 2) F dX6_behind_17 rfl rfl ?_
    refine J_bipush (pc' := 20) (v := 6) F dX6_behind_18 (by decide) rfl ?_
    refine J_icmp_ge (tgt := 27) (pc' := 23) F dX6_behind_20 (by decide) rfl (fun c9 => absurd c9 c3) (fun _ => ?_)
    refine J_iconst (pc' := 24) (v := (-1)) F dX6_behind_23 (by decide) rfl ?_
    refine J_goto (tgt := 31) F dX6_behind_24 (by decide) ?_
    refine J_istore (pc' := 33) [1, 2, 3, 4, 0] [(0, .ref (g 0)), (1, .int x1), (2, .int x2), (3, .int x2), (4, .int (-1))] F dX6_behind_31 (jL_of E (show 4 < 9 by decide)) rfl rfl ?_
    refine J_iload_n (pc' := 34) (q := 1) F dX6_behind_33 rfl rfl ?_
    refine J_iload_n (pc' := 35) (q := 3) F dX6_behind_34 rfl rfl ?_
    refine J_goRie (wc := []) (av := [.int x1, .int x2]) (rest := []) (v := zX6_at x1 x2) (pc' := 38) F E (fun _ _ => jP_nil _ _) (fun H locs hI hp => jrun_S F E (c_X6_at l D cI cZ z x1 x2) kw_712 kw_713 rfl kw_714 kw_7 oX6_at ⟨⟨rfl, rfl⟩, ⟨Nat.le_of_ble_eq_true rfl, Nat.le_of_ble_eq_true rfl⟩, Nat.zero_le _, Nat.zero_le _⟩ rfl (Nat.le_of_ble_eq_true rfl) dX6_behind_35 hp) rfl ?_
    refine J_if_eq (tgt := 57) (pc' := 41) F dX6_behind_38 (by decide) rfl (fun c38_2 => ?_) (fun c38_2 => ?_)
    · refine J_iconst (pc' := 58) (v := (-1)) F dX6_behind_57 (by decide) rfl ?_
      exact J_iretR F hR dX6_behind_58 rfl (by show _ = zX6_behind sc ar hs x1 x2; unfold zX6_behind; rw [if_neg c3, if_pos c38_2])
    · refine J_iload (pc' := 43) (q := 4) F dX6_behind_41 rfl rfl ?_
      refine J_iconst (pc' := 44) (v := (-1)) F dX6_behind_43 (by decide) rfl ?_
      refine J_icmp_eq (tgt := 59) (pc' := 47) F dX6_behind_44 (by decide) rfl (fun _ => ?_) (fun c9 => absurd (by decide) c9)
      refine J_iload_n (pc' := 60) (q := 1) F dX6_behind_59 rfl rfl ?_
      refine J_iconst (pc' := 61) (v := 1) F dX6_behind_60 (by decide) rfl ?_
      refine J_iconst (pc' := 62) (v := 2) F dX6_behind_61 (by decide) rfl ?_
      refine J_iload_n (pc' := 63) (q := 3) F dX6_behind_62 rfl rfl ?_
      refine J_imul (pc' := 64) F dX6_behind_63 rfl ?_
      refine J_ishl (pc' := 65) F dX6_behind_64 rfl ?_
      refine J_isub (pc' := 66) F dX6_behind_65 rfl ?_
      refine J_iload (pc' := 68) (q := 4) F dX6_behind_66 rfl rfl ?_
      refine J_iconst (pc' := 69) (v := (-1)) F dX6_behind_68 (by decide) rfl ?_
      refine J_icmp_ne (tgt := 76) (pc' := 72) F dX6_behind_69 (by decide) rfl (fun c9 => absurd (by decide) c9) (fun _ => ?_)
      refine J_iconst (pc' := 73) (v := 0) F dX6_behind_72 (by decide) rfl ?_
      refine J_goto (tgt := 82) F dX6_behind_73 (by decide) ?_
      refine J_iadd (pc' := 83) F dX6_behind_82 rfl ?_
      refine J_istore (pc' := 85) [1, 2, 3, 4, 5, 0] [(0, .ref (g 0)), (1, .int x1), (2, .int x2), (3, .int x2), (4, .int (-1)), (5, .int ((x1 - ((1 : Int32) <<< (((2 * x2) : Int32) &&& 31))) + 0))] F dX6_behind_83 (jL_of E (show 5 < 9 by decide)) rfl rfl ?_
      refine J_iconst (pc' := 86) (v := 0) F dX6_behind_85 (by decide) rfl ?_
      refine J_istore (pc' := 88) [1, 2, 3, 4, 5, 6, 0] [(0, .ref (g 0)), (1, .int x1), (2, .int x2), (3, .int x2), (4, .int (-1)), (5, .int ((x1 - ((1 : Int32) <<< (((2 * x2) : Int32) &&& 31))) + 0)), (6, .int 0)] F dX6_behind_86 (jL_of E (show 6 < 9 by decide)) rfl rfl ?_
      refine J_lv [0, 5, 6] (lv' := [(0, .ref (g 0)), (5, .int ((x1 - ((1 : Int32) <<< (((2 * x2) : Int32) &&& 31))) + 0)), (6, .int (nI 0))]) rfl ?_
      exact L88 (3 + 1) 0 ((x1 - ((1 : Int32) <<< (((2 * x2) : Int32) &&& 31))) + 0) (Nat.zero_le _) (Nat.lt_succ_self _) (by unfold zX6_behind; rw [if_neg c3, if_neg c38_2])
def zX6_goes (sc : Nat → Int32) (ar : Nat → Nat → Int32) (hs : Int64) (x1 : Int32) (x2 : Int32) (x3 : Int32) : Int32 := if (zX6_isAct x2) = 0 then (-1) else (if (zX6_behind sc ar hs x1 x2) = (-1) then (-1) else (if (zX6_bears sc ar hs (zX6_behind sc ar hs x1 x2) x3) = 0 then (-1) else zX6_behind sc ar hs x1 x2))
abbrev rm_X6_goes : Room := { frames := 3, cells := 0, slots := 0, locals := 63 }
set_option maxHeartbeats 4000000 in
set_option maxRecDepth 100000 in
theorem c_X6_goes (l : Launch) (D : va_G) (cI cZ : ClassId) (z : Nat → Nat) (g : Nat → Nat) (sc : Nat → Int32) (ar : Nat → Nat → Int32) (hs : Int64) (x1 : Int32) (x2 : Int32) (x3 : Int32)  : cRi l yX6_goes ww_X6_goes rm_X6_goes D cI cZ z (wM cI cZ g sc ar hs) [.ref (g 0), .int x1, .int x2, .int x3] (fun r => r = zX6_goes sc ar hs x1 x2 x3) := by
  refine cRi.of (cc := cX6_goes) (maxL := 5) (rt := .int) (by decide) rfl (Nat.le_of_ble_eq_true rfl) (fun X F E hR => ?_)
  refine J_lv [0, 1, 2, 3] (lv' := [(0, .ref (g 0)), (1, .int x1), (2, .int x2), (3, .int x3)]) rfl ?_
  refine J_iload_n (pc' := 1) (q := 2) F dX6_goes_0 rfl rfl ?_
  refine J_goRie (wc := []) (av := [.int x2]) (rest := []) (v := zX6_isAct x2) (pc' := 4) F E (fun _ _ => jP_nil _ _) (fun H locs hI hp => jrun_S F E (c_X6_isAct l D cI cZ z x2) kw_766 kw_767 rfl kw_768 kw_7 oX6_isAct ⟨⟨rfl, rfl⟩, ⟨Nat.le_of_ble_eq_true rfl, Nat.le_of_ble_eq_true rfl⟩, Nat.zero_le _, Nat.zero_le _⟩ rfl (Nat.le_of_ble_eq_true rfl) dX6_goes_1 hp) rfl ?_
  refine J_if_eq (tgt := 16) (pc' := 7) F dX6_goes_4 (by decide) rfl (fun c4 => ?_) (fun c4 => ?_)
  · refine J_iconst (pc' := 17) (v := (-1)) F dX6_goes_16 (by decide) rfl ?_
    refine J_istore (pc' := 19) [1, 2, 3, 4, 0] [(0, .ref (g 0)), (1, .int x1), (2, .int x2), (3, .int x3), (4, .int (-1))] F dX6_goes_17 (jL_of E (show 4 < 5 by decide)) rfl rfl ?_
    refine J_iload (pc' := 21) (q := 4) F dX6_goes_19 rfl rfl ?_
    refine J_iconst (pc' := 22) (v := (-1)) F dX6_goes_21 (by decide) rfl ?_
    refine J_icmp_eq (tgt := 40) (pc' := 25) F dX6_goes_22 (by decide) rfl (fun _ => ?_) (fun c9 => absurd (by decide) c9)
    refine J_iconst (pc' := 41) (v := (-1)) F dX6_goes_40 (by decide) rfl ?_
    exact J_iretR F hR dX6_goes_41 rfl (by show _ = zX6_goes sc ar hs x1 x2 x3; unfold zX6_goes; rw [if_pos c4])
  · refine J_aload_n (pc' := 8) (q := 0) F dX6_goes_7 rfl rfl ?_
    refine J_iload_n (pc' := 9) (q := 1) F dX6_goes_8 rfl rfl ?_
    refine J_iload_n (pc' := 10) (q := 2) F dX6_goes_9 rfl rfl ?_
    refine J_goRie (wc := (wM cI cZ g sc ar hs)) (av := [.ref (g 0), .int x1, .int x2]) (rest := []) (v := zX6_behind sc ar hs x1 x2) (pc' := 13) F E (fun _ h => h) (fun H locs hI hp => jrun_V (As := [.int x1, .int x2]) 0 F E (c_X6_behind l D cI cZ z g sc ar hs x1 x2) kw_774 kw_776 kp_16 rfl kw_777 kw_7 oX6_behind ⟨⟨rfl, rfl⟩, ⟨Nat.le_of_ble_eq_true rfl, Nat.le_of_ble_eq_true rfl⟩, Nat.zero_le _, Nat.zero_le _⟩ rfl rfl (Nat.le_of_ble_eq_true rfl) dX6_goes_10 rfl rfl (jI_P E hI) hp) rfl ?_
    refine J_goto (tgt := 17) F dX6_goes_13 (by decide) ?_
    refine J_istore (pc' := 19) [1, 2, 3, 4, 0] [(0, .ref (g 0)), (1, .int x1), (2, .int x2), (3, .int x3), (4, .int (zX6_behind sc ar hs x1 x2))] F dX6_goes_17 (jL_of E (show 4 < 5 by decide)) rfl rfl ?_
    refine J_iload (pc' := 21) (q := 4) F dX6_goes_19 rfl rfl ?_
    refine J_iconst (pc' := 22) (v := (-1)) F dX6_goes_21 (by decide) rfl ?_
    refine J_icmp_eq (tgt := 40) (pc' := 25) F dX6_goes_22 (by decide) rfl (fun c22 => ?_) (fun c22 => ?_)
    · refine J_iconst (pc' := 41) (v := (-1)) F dX6_goes_40 (by decide) rfl ?_
      exact J_iretR F hR dX6_goes_41 rfl (by show _ = zX6_goes sc ar hs x1 x2 x3; unfold zX6_goes; rw [if_neg c4, if_pos c22])
    · refine J_aload_n (pc' := 26) (q := 0) F dX6_goes_25 rfl rfl ?_
      refine J_iload (pc' := 28) (q := 4) F dX6_goes_26 rfl rfl ?_
      refine J_iload_n (pc' := 29) (q := 3) F dX6_goes_28 rfl rfl ?_
      refine J_goRie (wc := (wM cI cZ g sc ar hs)) (av := [.ref (g 0), .int (zX6_behind sc ar hs x1 x2), .int x3]) (rest := []) (v := zX6_bears sc ar hs (zX6_behind sc ar hs x1 x2) x3) (pc' := 32) F E (fun _ h => h) (fun H locs hI hp => jrun_V (As := [.int (zX6_behind sc ar hs x1 x2), .int x3]) 0 F E (c_X6_bears l D cI cZ z g sc ar hs (zX6_behind sc ar hs x1 x2) x3) kw_758 kw_760 kp_14 rfl kw_761 kw_7 oX6_bears ⟨⟨rfl, rfl⟩, ⟨Nat.le_of_ble_eq_true rfl, Nat.le_of_ble_eq_true rfl⟩, Nat.zero_le _, Nat.zero_le _⟩ rfl rfl (Nat.le_of_ble_eq_true rfl) dX6_goes_29 rfl rfl (jI_P E hI) hp) rfl ?_
      refine J_if_eq (tgt := 40) (pc' := 35) F dX6_goes_32 (by decide) rfl (fun c32 => ?_) (fun c32 => ?_)
      · refine J_iconst (pc' := 41) (v := (-1)) F dX6_goes_40 (by decide) rfl ?_
        exact J_iretR F hR dX6_goes_41 rfl (by show _ = zX6_goes sc ar hs x1 x2 x3; unfold zX6_goes; rw [if_neg c4, if_neg c22, if_pos c32])
      · refine J_iload (pc' := 37) (q := 4) F dX6_goes_35 rfl rfl ?_
        refine J_goto (tgt := 41) F dX6_goes_37 (by decide) ?_
        exact J_iretR F hR dX6_goes_41 rfl (by show _ = zX6_goes sc ar hs x1 x2 x3; unfold zX6_goes; rw [if_neg c4, if_neg c22, if_neg c32])
def zX6_lasts (sc : Nat → Int32) (ar : Nat → Nat → Int32) (hs : Int64) (x1 : Int32) : Int32 := if (6 : Int32) ≤ x1 then zX6_carryingOf sc ar hs (((x1 / 6) - 1) / 2) else zX6_takingOf sc ar hs (x1 / 2)
abbrev rm_X6_lasts : Room := { frames := 1, cells := 0, slots := 0, locals := 22 }
set_option maxHeartbeats 4000000 in
set_option maxRecDepth 100000 in
theorem c_X6_lasts (l : Launch) (D : va_G) (cI cZ : ClassId) (z : Nat → Nat) (g : Nat → Nat) (sc : Nat → Int32) (ar : Nat → Nat → Int32) (hs : Int64) (x1 : Int32) (ha : vp_in x1 42) : cRi l yX6_lasts ww_X6_lasts rm_X6_lasts D cI cZ z (wM cI cZ g sc ar hs) [.ref (g 0), .int x1] (fun r => r = zX6_lasts sc ar hs x1) := by
  refine cRi.of (cc := cX6_lasts) (maxL := 2) (rt := .int) (by decide) rfl (Nat.le_of_ble_eq_true rfl) (fun X F E hR => ?_)
  refine J_lv [0, 1] (lv' := [(0, .ref (g 0)), (1, .int x1)]) rfl ?_
  refine J_iload_n (pc' := 1) (q := 1) F dX6_lasts_0 rfl rfl ?_
  refine J_bipush (pc' := 3) (v := 6) F dX6_lasts_1 (by decide) rfl ?_
  refine J_icmp_ge (tgt := 16) (pc' := 6) F dX6_lasts_3 (by decide) rfl (fun c3 => ?_) (fun c3 => ?_)
  · refine J_aload_n (pc' := 17) (q := 0) F dX6_lasts_16 rfl rfl ?_
    refine J_iload_n (pc' := 18) (q := 1) F dX6_lasts_17 rfl rfl ?_
    refine J_bipush (pc' := 20) (v := 6) F dX6_lasts_18 (by decide) rfl ?_
    refine J_idiv (pc' := 21) F dX6_lasts_20 (by decide) rfl ?_
    refine J_iconst (pc' := 22) (v := 1) F dX6_lasts_21 (by decide) rfl ?_
    refine J_isub (pc' := 23) F dX6_lasts_22 rfl ?_
    refine J_iconst (pc' := 24) (v := 2) F dX6_lasts_23 (by decide) rfl ?_
    refine J_idiv (pc' := 25) F dX6_lasts_24 (by decide) rfl ?_
    refine J_goRie (wc := (wM cI cZ g sc ar hs)) (av := [.ref (g 0), .int (((x1 / 6) - 1) / 2)]) (rest := []) (v := zX6_carryingOf sc ar hs (((x1 / 6) - 1) / 2)) (pc' := 28) F E (fun _ h => h) (fun H locs hI hp => jrun_V (As := [.int (((x1 / 6) - 1) / 2)]) 0 F E (c_X6_carryingOf l D cI cZ z g sc ar hs (((x1 / 6) - 1) / 2) (lasts_b ha c3)) kw_724 kw_726 kp_11 rfl kw_727 kw_7 oX6_carryingOf ⟨⟨rfl, rfl⟩, ⟨Nat.le_of_ble_eq_true rfl, Nat.le_of_ble_eq_true rfl⟩, Nat.zero_le _, Nat.zero_le _⟩ rfl rfl (Nat.le_of_ble_eq_true rfl) dX6_lasts_25 rfl rfl (jI_P E hI) hp) rfl ?_
    exact J_iretR F hR dX6_lasts_28 rfl (by show _ = zX6_lasts sc ar hs x1; unfold zX6_lasts; rw [if_pos c3])
  · refine J_aload_n (pc' := 7) (q := 0) F dX6_lasts_6 rfl rfl ?_
    refine J_iload_n (pc' := 8) (q := 1) F dX6_lasts_7 rfl rfl ?_
    refine J_iconst (pc' := 9) (v := 2) F dX6_lasts_8 (by decide) rfl ?_
    refine J_idiv (pc' := 10) F dX6_lasts_9 (by decide) rfl ?_
    refine J_goRie (wc := (wM cI cZ g sc ar hs)) (av := [.ref (g 0), .int (x1 / 2)]) (rest := []) (v := zX6_takingOf sc ar hs (x1 / 2)) (pc' := 13) F E (fun _ h => h) (fun H locs hI hp => jrun_V (As := [.int (x1 / 2)]) 0 F E (c_X6_takingOf l D cI cZ z g sc ar hs (x1 / 2) (lasts_a ha c3)) kw_720 kw_722 kp_10 rfl kw_723 kw_7 oX6_takingOf ⟨⟨rfl, rfl⟩, ⟨Nat.le_of_ble_eq_true rfl, Nat.le_of_ble_eq_true rfl⟩, Nat.zero_le _, Nat.zero_le _⟩ rfl rfl (Nat.le_of_ble_eq_true rfl) dX6_lasts_10 rfl rfl (jI_P E hI) hp) rfl ?_
    refine J_goto (tgt := 28) F dX6_lasts_13 (by decide) ?_
    exact J_iretR F hR dX6_lasts_28 rfl (by show _ = zX6_lasts sc ar hs x1; unfold zX6_lasts; rw [if_neg c3])
def zX6_may (sc : Nat → Int32) (ar : Nat → Nat → Int32) (hs : Int64) (x1 : Int32) : Int32 := if (sc 2) = 0 then (-101) else (if (zX6_isAct x1) = 0 then (-101) else (if (zX6_goes sc ar hs (sc 5) x1 (zX6_bendNow sc ar hs)) = (-1) then 0 else 1))
abbrev rm_X6_may : Room := { frames := 4, cells := 0, slots := 0, locals := 87 }
set_option maxHeartbeats 4000000 in
set_option maxRecDepth 100000 in
theorem c_X6_may (l : Launch) (D : va_G) (cI cZ : ClassId) (z : Nat → Nat) (g : Nat → Nat) (sc : Nat → Int32) (ar : Nat → Nat → Int32) (hs : Int64) (x1 : Int32)  : cRi l yX6_may ww_X6_may rm_X6_may D cI cZ z (wM cI cZ g sc ar hs) [.ref (g 0), .int x1] (fun r => r = zX6_may sc ar hs x1) := by
  refine cRi.of (cc := cX6_may) (maxL := 2) (rt := .int) (by decide) rfl (Nat.le_of_ble_eq_true rfl) (fun X F E hR => ?_)
  refine J_lv [0, 1] (lv' := [(0, .ref (g 0)), (1, .int x1)]) rfl ?_
  refine J_aload_n (pc' := 1) (q := 0) F dX6_may_0 rfl rfl ?_
  refine M_get_0_2 (v := sc 2) (pc' := 4) F dX6_may_1 kw_581 rfl rfl ?_
  refine J_if_eq (tgt := 14) (pc' := 7) F dX6_may_4 (by decide) rfl (fun c4 => ?_) (fun c4 => ?_)
  · refine J_bipush (pc' := 16) (v := (-101)) F dX6_may_14 (by decide) rfl ?_
    exact J_iretR F hR dX6_may_16 rfl (by show _ = zX6_may sc ar hs x1; unfold zX6_may; rw [if_pos c4])
  · refine J_iload_n (pc' := 8) (q := 1) F dX6_may_7 rfl rfl ?_
    refine J_goRie (wc := []) (av := [.int x1]) (rest := []) (v := zX6_isAct x1) (pc' := 11) F E (fun _ _ => jP_nil _ _) (fun H locs hI hp => jrun_S F E (c_X6_isAct l D cI cZ z x1) kw_766 kw_767 rfl kw_768 kw_7 oX6_isAct ⟨⟨rfl, rfl⟩, ⟨Nat.le_of_ble_eq_true rfl, Nat.le_of_ble_eq_true rfl⟩, Nat.zero_le _, Nat.zero_le _⟩ rfl (Nat.le_of_ble_eq_true rfl) dX6_may_8 hp) rfl ?_
    refine J_if_ne (tgt := 17) (pc' := 14) F dX6_may_11 (by decide) rfl (fun c11 => ?_) (fun c11 => ?_)
    · refine J_aload_n (pc' := 18) (q := 0) F dX6_may_17 rfl rfl ?_
      refine J_aload_n (pc' := 19) (q := 0) F dX6_may_18 rfl rfl ?_
      refine M_get_0_5 (v := sc 5) (pc' := 22) F dX6_may_19 kw_584 rfl rfl ?_
      refine J_iload_n (pc' := 23) (q := 1) F dX6_may_22 rfl rfl ?_
      refine J_aload_n (pc' := 24) (q := 0) F dX6_may_23 rfl rfl ?_
      refine J_goRie (wc := (wM cI cZ g sc ar hs)) (av := [.ref (g 0)]) (rest := [.int x1, .int (sc 5), .ref (g 0)]) (v := zX6_bendNow sc ar hs) (pc' := 27) F E (fun _ h => h) (fun H locs hI hp => jrun_V (As := []) 0 F E (c_X6_bendNow l D cI cZ z g sc ar hs ) kw_754 kw_756 kp_13 rfl kw_757 kw_7 oX6_bendNow ⟨⟨rfl, rfl⟩, ⟨Nat.le_of_ble_eq_true rfl, Nat.le_of_ble_eq_true rfl⟩, Nat.zero_le _, Nat.zero_le _⟩ rfl rfl (Nat.le_of_ble_eq_true rfl) dX6_may_24 rfl rfl (jI_P E hI) hp) rfl ?_
      refine J_goRie (wc := (wM cI cZ g sc ar hs)) (av := [.ref (g 0), .int (sc 5), .int x1, .int (zX6_bendNow sc ar hs)]) (rest := []) (v := zX6_goes sc ar hs (sc 5) x1 (zX6_bendNow sc ar hs)) (pc' := 30) F E (fun _ h => h) (fun H locs hI hp => jrun_V (As := [.int (sc 5), .int x1, .int (zX6_bendNow sc ar hs)]) 0 F E (c_X6_goes l D cI cZ z g sc ar hs (sc 5) x1 (zX6_bendNow sc ar hs)) kw_770 kw_772 kp_15 rfl kw_773 kw_7 oX6_goes ⟨⟨rfl, rfl⟩, ⟨Nat.le_of_ble_eq_true rfl, Nat.le_of_ble_eq_true rfl⟩, Nat.zero_le _, Nat.zero_le _⟩ rfl rfl (Nat.le_of_ble_eq_true rfl) dX6_may_27 rfl rfl (jI_P E hI) hp) rfl ?_
      refine J_iconst (pc' := 31) (v := (-1)) F dX6_may_30 (by decide) rfl ?_
      refine J_icmp_ne (tgt := 38) (pc' := 34) F dX6_may_31 (by decide) rfl (fun c31 => ?_) (fun c31 => ?_)
      · refine J_iconst (pc' := 39) (v := 1) F dX6_may_38 (by decide) rfl ?_
        exact J_iretR F hR dX6_may_39 rfl (by show _ = zX6_may sc ar hs x1; unfold zX6_may; rw [if_neg c4, if_neg c11, if_neg c31])
      · refine J_iconst (pc' := 35) (v := 0) F dX6_may_34 (by decide) rfl ?_
        refine J_goto (tgt := 39) F dX6_may_35 (by decide) ?_
        exact J_iretR F hR dX6_may_39 rfl (by show _ = zX6_may sc ar hs x1; unfold zX6_may; rw [if_neg c4, if_neg c11, if_pos c31])
    · refine J_bipush (pc' := 16) (v := (-101)) F dX6_may_14 (by decide) rfl ?_
      exact J_iretR F hR dX6_may_16 rfl (by show _ = zX6_may sc ar hs x1; unfold zX6_may; rw [if_neg c4, if_pos c11])
def zX6_countOf (sc : Nat → Int32) (ar : Nat → Nat → Int32) (hs : Int64) (x1 : Int32) : Int32 := if x1 = 0 then sc 3 else (if x1 = 1 then sc 4 else (if x1 = 2 then zX6_tonsOf (sc 5) else (if x1 = 3 then sc 6 else (if x1 = 4 then sc 7 else (if x1 = 5 then sc 8 else (if x1 = 6 then sc 16 else (if x1 = 7 then sc 1 else (if x1 = 8 then sc 9 else (if x1 = 9 then sc 15 else (-102))))))))))
abbrev rm_X6_countOf : Room := { frames := 2, cells := 0, slots := 0, locals := 43 }
set_option maxHeartbeats 4000000 in
set_option maxRecDepth 100000 in
theorem c_X6_countOf (l : Launch) (D : va_G) (cI cZ : ClassId) (z : Nat → Nat) (g : Nat → Nat) (sc : Nat → Int32) (ar : Nat → Nat → Int32) (hs : Int64) (x1 : Int32)  : cRi l yX6_countOf ww_X6_countOf rm_X6_countOf D cI cZ z (wM cI cZ g sc ar hs) [.ref (g 0), .int x1] (fun r => r = zX6_countOf sc ar hs x1) := by
  refine cRi.of (cc := cX6_countOf) (maxL := 2) (rt := .int) (by decide) rfl (Nat.le_of_ble_eq_true rfl) (fun X F E hR => ?_)
  refine J_lv [0, 1] (lv' := [(0, .ref (g 0)), (1, .int x1)]) rfl ?_
  refine J_iload_n (pc' := 1) (q := 1) F dX6_countOf_0 rfl rfl ?_
  by_cases c1_0 : x1 = 0
  · refine J_vali c1_0 ?_
    refine J_tsIn (tgt := 56) F dX6_countOf_1 (by decide) (by decide) rfl (by decide) ?_
    refine J_aload_n (pc' := 57) (q := 0) F dX6_countOf_56 rfl rfl ?_
    refine M_get_0_3 (v := sc 3) (pc' := 60) F dX6_countOf_57 kw_582 rfl rfl ?_
    exact J_iretR F hR dX6_countOf_60 rfl (by show _ = zX6_countOf sc ar hs x1; unfold zX6_countOf; rw [if_pos c1_0])
  by_cases c1_1 : x1 = 1
  · refine J_vali c1_1 ?_
    refine J_tsIn (tgt := 61) F dX6_countOf_1 (by decide) (by decide) rfl (by decide) ?_
    refine J_aload_n (pc' := 62) (q := 0) F dX6_countOf_61 rfl rfl ?_
    refine M_get_0_4 (v := sc 4) (pc' := 65) F dX6_countOf_62 kw_583 rfl rfl ?_
    exact J_iretR F hR dX6_countOf_65 rfl (by show _ = zX6_countOf sc ar hs x1; unfold zX6_countOf; rw [if_neg c1_0, if_pos c1_1])
  by_cases c1_2 : x1 = 2
  · refine J_vali c1_2 ?_
    refine J_tsIn (tgt := 66) F dX6_countOf_1 (by decide) (by decide) rfl (by decide) ?_
    refine J_aload_n (pc' := 67) (q := 0) F dX6_countOf_66 rfl rfl ?_
    refine M_get_0_5 (v := sc 5) (pc' := 70) F dX6_countOf_67 kw_584 rfl rfl ?_
    refine J_goRie (wc := []) (av := [.int (sc 5)]) (rest := []) (v := zX6_tonsOf (sc 5)) (pc' := 73) F E (fun _ _ => jP_nil _ _) (fun H locs hI hp => jrun_S F E (c_X6_tonsOf l D cI cZ z (sc 5)) kw_709 kw_710 rfl kw_711 kw_7 oX6_tonsOf ⟨⟨rfl, rfl⟩, ⟨Nat.le_of_ble_eq_true rfl, Nat.le_of_ble_eq_true rfl⟩, Nat.zero_le _, Nat.zero_le _⟩ rfl (Nat.le_of_ble_eq_true rfl) dX6_countOf_70 hp) rfl ?_
    exact J_iretR F hR dX6_countOf_73 rfl (by show _ = zX6_countOf sc ar hs x1; unfold zX6_countOf; rw [if_neg c1_0, if_neg c1_1, if_pos c1_2])
  by_cases c1_3 : x1 = 3
  · refine J_vali c1_3 ?_
    refine J_tsIn (tgt := 74) F dX6_countOf_1 (by decide) (by decide) rfl (by decide) ?_
    refine J_aload_n (pc' := 75) (q := 0) F dX6_countOf_74 rfl rfl ?_
    refine M_get_0_6 (v := sc 6) (pc' := 78) F dX6_countOf_75 kw_585 rfl rfl ?_
    exact J_iretR F hR dX6_countOf_78 rfl (by show _ = zX6_countOf sc ar hs x1; unfold zX6_countOf; rw [if_neg c1_0, if_neg c1_1, if_neg c1_2, if_pos c1_3])
  by_cases c1_4 : x1 = 4
  · refine J_vali c1_4 ?_
    refine J_tsIn (tgt := 79) F dX6_countOf_1 (by decide) (by decide) rfl (by decide) ?_
    refine J_aload_n (pc' := 80) (q := 0) F dX6_countOf_79 rfl rfl ?_
    refine M_get_0_7 (v := sc 7) (pc' := 83) F dX6_countOf_80 kw_586 rfl rfl ?_
    exact J_iretR F hR dX6_countOf_83 rfl (by show _ = zX6_countOf sc ar hs x1; unfold zX6_countOf; rw [if_neg c1_0, if_neg c1_1, if_neg c1_2, if_neg c1_3, if_pos c1_4])
  by_cases c1_5 : x1 = 5
  · refine J_vali c1_5 ?_
    refine J_tsIn (tgt := 84) F dX6_countOf_1 (by decide) (by decide) rfl (by decide) ?_
    refine J_aload_n (pc' := 85) (q := 0) F dX6_countOf_84 rfl rfl ?_
    refine M_get_0_8 (v := sc 8) (pc' := 88) F dX6_countOf_85 kw_587 rfl rfl ?_
    exact J_iretR F hR dX6_countOf_88 rfl (by show _ = zX6_countOf sc ar hs x1; unfold zX6_countOf; rw [if_neg c1_0, if_neg c1_1, if_neg c1_2, if_neg c1_3, if_neg c1_4, if_pos c1_5])
  by_cases c1_6 : x1 = 6
  · refine J_vali c1_6 ?_
    refine J_tsIn (tgt := 89) F dX6_countOf_1 (by decide) (by decide) rfl (by decide) ?_
    refine J_aload_n (pc' := 90) (q := 0) F dX6_countOf_89 rfl rfl ?_
    refine M_get_0_16 (v := sc 16) (pc' := 93) F dX6_countOf_90 kw_595 rfl rfl ?_
    exact J_iretR F hR dX6_countOf_93 rfl (by show _ = zX6_countOf sc ar hs x1; unfold zX6_countOf; rw [if_neg c1_0, if_neg c1_1, if_neg c1_2, if_neg c1_3, if_neg c1_4, if_neg c1_5, if_pos c1_6])
  by_cases c1_7 : x1 = 7
  · refine J_vali c1_7 ?_
    refine J_tsIn (tgt := 94) F dX6_countOf_1 (by decide) (by decide) rfl (by decide) ?_
    refine J_aload_n (pc' := 95) (q := 0) F dX6_countOf_94 rfl rfl ?_
    refine M_get_0_1 (v := sc 1) (pc' := 98) F dX6_countOf_95 kw_580 rfl rfl ?_
    exact J_iretR F hR dX6_countOf_98 rfl (by show _ = zX6_countOf sc ar hs x1; unfold zX6_countOf; rw [if_neg c1_0, if_neg c1_1, if_neg c1_2, if_neg c1_3, if_neg c1_4, if_neg c1_5, if_neg c1_6, if_pos c1_7])
  by_cases c1_8 : x1 = 8
  · refine J_vali c1_8 ?_
    refine J_tsIn (tgt := 99) F dX6_countOf_1 (by decide) (by decide) rfl (by decide) ?_
    refine J_aload_n (pc' := 100) (q := 0) F dX6_countOf_99 rfl rfl ?_
    refine M_get_0_9 (v := sc 9) (pc' := 103) F dX6_countOf_100 kw_588 rfl rfl ?_
    exact J_iretR F hR dX6_countOf_103 rfl (by show _ = zX6_countOf sc ar hs x1; unfold zX6_countOf; rw [if_neg c1_0, if_neg c1_1, if_neg c1_2, if_neg c1_3, if_neg c1_4, if_neg c1_5, if_neg c1_6, if_neg c1_7, if_pos c1_8])
  by_cases c1_9 : x1 = 9
  · refine J_vali c1_9 ?_
    refine J_tsIn (tgt := 104) F dX6_countOf_1 (by decide) (by decide) rfl (by decide) ?_
    refine J_aload_n (pc' := 105) (q := 0) F dX6_countOf_104 rfl rfl ?_
    refine M_get_0_15 (v := sc 15) (pc' := 108) F dX6_countOf_105 kw_594 rfl rfl ?_
    exact J_iretR F hR dX6_countOf_108 rfl (by show _ = zX6_countOf sc ar hs x1; unfold zX6_countOf; rw [if_neg c1_0, if_neg c1_1, if_neg c1_2, if_neg c1_3, if_neg c1_4, if_neg c1_5, if_neg c1_6, if_neg c1_7, if_neg c1_8, if_pos c1_9])
  refine J_tsOut (tgt := 109) F dX6_countOf_1 (jts_9 c1_0 c1_1 c1_2 c1_3 c1_4 c1_5 c1_6 c1_7 c1_8 c1_9) (by decide) ?_
  refine J_bipush (pc' := 111) (v := (-102)) F dX6_countOf_109 (by decide) rfl ?_
  exact J_iretR F hR dX6_countOf_111 rfl (by show _ = zX6_countOf sc ar hs x1; unfold zX6_countOf; rw [if_neg c1_0, if_neg c1_1, if_neg c1_2, if_neg c1_3, if_neg c1_4, if_neg c1_5, if_neg c1_6, if_neg c1_7, if_neg c1_8, if_neg c1_9])
def zX6_count (sc : Nat → Int32) (ar : Nat → Nat → Int32) (hs : Int64) (x1 : Int32) : Int32 := zX6_countOf sc ar hs x1
abbrev rm_X6_count : Room := { frames := 3, cells := 0, slots := 0, locals := 64 }
set_option maxHeartbeats 4000000 in
set_option maxRecDepth 100000 in
theorem c_X6_count (l : Launch) (D : va_G) (cI cZ : ClassId) (z : Nat → Nat) (g : Nat → Nat) (sc : Nat → Int32) (ar : Nat → Nat → Int32) (hs : Int64) (x1 : Int32)  : cRi l yX6_count ww_X6_count rm_X6_count D cI cZ z (wM cI cZ g sc ar hs) [.ref (g 0), .int x1] (fun r => r = zX6_count sc ar hs x1) := by
  refine cRi.of (cc := cX6_count) (maxL := 2) (rt := .int) (by decide) rfl (Nat.le_of_ble_eq_true rfl) (fun X F E hR => ?_)
  refine J_lv [0, 1] (lv' := [(0, .ref (g 0)), (1, .int x1)]) rfl ?_
  refine J_aload_n (pc' := 1) (q := 0) F dX6_count_0 rfl rfl ?_
  refine J_iload_n (pc' := 2) (q := 1) F dX6_count_1 rfl rfl ?_
  refine J_goRie (wc := (wM cI cZ g sc ar hs)) (av := [.ref (g 0), .int x1]) (rest := []) (v := zX6_countOf sc ar hs x1) (pc' := 5) F E (fun _ h => h) (fun H locs hI hp => jrun_V (As := [.int x1]) 0 F E (c_X6_countOf l D cI cZ z g sc ar hs x1) kw_871 kw_873 kp_26 rfl kw_874 kw_7 oX6_countOf ⟨⟨rfl, rfl⟩, ⟨Nat.le_of_ble_eq_true rfl, Nat.le_of_ble_eq_true rfl⟩, Nat.zero_le _, Nat.zero_le _⟩ rfl rfl (Nat.le_of_ble_eq_true rfl) dX6_count_2 rfl rfl (jI_P E hI) hp) rfl ?_
  exact J_iretR F hR dX6_count_5 rfl rfl
def zX6_faultOf_2 (sc : Nat → Int32) (ar : Nat → Nat → Int32) (hs : Int64)  : Nat → Nat → Int32
  | 0, _ => 0
  | n + 1, i => if (sc 1) ≤ (nI i) then nI i else (if (zX6_isGood (nI i) ((ar 0) i)) = 0 then nI i else zX6_faultOf_2 sc ar hs n (i + 1) )
def zX6_faultOf (sc : Nat → Int32) (ar : Nat → Nat → Int32) (hs : Int64) : Int32 := zX6_faultOf_2 sc ar hs (16 + 1) 0 
abbrev rm_X6_faultOf : Room := { frames := 2, cells := 0, slots := 0, locals := 47 }
set_option maxHeartbeats 4000000 in
set_option maxRecDepth 100000 in
theorem c_X6_faultOf (l : Launch) (D : va_G) (cI cZ : ClassId) (z : Nat → Nat) (g : Nat → Nat) (sc : Nat → Int32) (ar : Nat → Nat → Int32) (hs : Int64)  (hpg : ∃ k, k ≤ 16 ∧ sc 1 = nI k) : cRi l yX6_faultOf ww_X6_faultOf rm_X6_faultOf D cI cZ z (wM cI cZ g sc ar hs) [.ref (g 0)] (fun r => r = zX6_faultOf sc ar hs) := by
  refine cRi.of (cc := cX6_faultOf) (maxL := 2) (rt := .int) (by decide) rfl (Nat.le_of_ble_eq_true rfl) (fun X F E hR => ?_)
  refine J_lv [0] (lv' := [(0, .ref (g 0))]) rfl ?_
  refine J_iconst (pc' := 1) (v := 0) F dX6_faultOf_0 (by decide) rfl ?_
  refine J_istore_n (pc' := 2) [1, 0] [(0, .ref (g 0)), (1, .int 0)] F dX6_faultOf_1 rfl (jL_of E (show 1 < 2 by decide)) rfl rfl ?_
  have L2 : ∀ (n i : Nat)  , i ≤ 16 → 16 - i < n → zX6_faultOf_2 sc ar hs n i  = zX6_faultOf sc ar hs → J X false 0 0 2 [(0, .ref (g 0)), (1, .int (nI i))] [] (wM cI cZ g sc ar hs) := by
    intro n
    induction n with
    | zero => intro i  _ hm; exact absurd hm (Nat.not_lt_zero _)
    | succ n ih =>
      intro i  hi hm heq
      refine J_iload_n (pc' := 3) (q := 1) F dX6_faultOf_2 rfl rfl ?_
      refine J_aload_n (pc' := 4) (q := 0) F dX6_faultOf_3 rfl rfl ?_
      refine M_get_0_1 (v := sc 1) (pc' := 7) F dX6_faultOf_4 kw_580 rfl rfl ?_
      refine J_icmp_ge (tgt := 29) (pc' := 10) F dX6_faultOf_7 (by decide) rfl (fun c7 => ?_) (fun c7 => ?_)
      · refine J_iload_n (pc' := 30) (q := 1) F dX6_faultOf_29 rfl rfl ?_
        exact J_iretR F hR dX6_faultOf_30 rfl (by show _ = zX6_faultOf sc ar hs; rw [← heq, zX6_faultOf_2, if_pos c7])
      · have hlt : i < 16 := cnt_lt (by decide) hpg hi c7
        refine J_iload_n (pc' := 11) (q := 1) F dX6_faultOf_10 rfl rfl ?_
        refine J_aload_n (pc' := 12) (q := 0) F dX6_faultOf_11 rfl rfl ?_
        refine M_get_0_0 (pc' := 15) F dX6_faultOf_12 kw_579 rfl ?_
        refine J_iload_n (pc' := 16) (q := 1) F dX6_faultOf_15 rfl rfl ?_
        refine M_ld_0 (f := ar 0) (q := i) (pc' := 17) F dX6_faultOf_16 rfl (nI_clamp (by omega)) (vp_in_nI hlt (by decide)) rfl ?_
        refine J_goRie (wc := []) (av := [.int (nI i), .int ((ar 0) i)]) (rest := []) (v := zX6_isGood (nI i) ((ar 0) i)) (pc' := 20) F E (fun _ _ => jP_nil _ _) (fun H locs hI hp => jrun_S F E (c_X6_isGood l D cI cZ z (nI i) ((ar 0) i)) kw_697 kw_698 rfl kw_699 kw_7 oX6_isGood ⟨⟨rfl, rfl⟩, ⟨Nat.le_of_ble_eq_true rfl, Nat.le_of_ble_eq_true rfl⟩, Nat.zero_le _, Nat.zero_le _⟩ rfl (Nat.le_of_ble_eq_true rfl) dX6_faultOf_17 hp) rfl ?_
        refine J_if_eq (tgt := 29) (pc' := 23) F dX6_faultOf_20 (by decide) rfl (fun c20 => ?_) (fun c20 => ?_)
        · refine J_iload_n (pc' := 30) (q := 1) F dX6_faultOf_29 rfl rfl ?_
          exact J_iretR F hR dX6_faultOf_30 rfl (by show _ = zX6_faultOf sc ar hs; rw [← heq, zX6_faultOf_2, if_neg c7, if_pos c20])
        · refine J_iinc (v := nI (i + 1)) (q := 1) (pc' := 26) [1, 0] [(0, .ref (g 0)), (1, .int (nI (i + 1)))] F dX6_faultOf_23 rfl (nI_inc i) (jL_of E (show 1 < 2 by decide)) rfl rfl ?_
          refine J_goto (tgt := 2) F dX6_faultOf_26 (by decide) ?_
          refine J_lv [0, 1] (lv' := [(0, .ref (g 0)), (1, .int (nI (i + 1)))]) rfl ?_
          exact ih (i + 1)  (by omega) (by omega) (by show _ = zX6_faultOf sc ar hs; rw [← heq, zX6_faultOf_2, if_neg c7, if_neg c20])
  refine J_lv [0, 1] (lv' := [(0, .ref (g 0)), (1, .int (nI 0))]) rfl ?_
  exact L2 (16 + 1) 0  (Nat.zero_le _) (Nat.lt_succ_self _) rfl
def zX6_fault (sc : Nat → Int32) (ar : Nat → Nat → Int32) (hs : Int64) : Int32 := zX6_faultOf sc ar hs
abbrev rm_X6_fault : Room := { frames := 3, cells := 0, slots := 0, locals := 68 }
set_option maxHeartbeats 4000000 in
set_option maxRecDepth 100000 in
theorem c_X6_fault (l : Launch) (D : va_G) (cI cZ : ClassId) (z : Nat → Nat) (g : Nat → Nat) (sc : Nat → Int32) (ar : Nat → Nat → Int32) (hs : Int64)  (hpg : ∃ k, k ≤ 16 ∧ sc 1 = nI k) : cRi l yX6_fault ww_X6_fault rm_X6_fault D cI cZ z (wM cI cZ g sc ar hs) [.ref (g 0)] (fun r => r = zX6_fault sc ar hs) := by
  refine cRi.of (cc := cX6_fault) (maxL := 1) (rt := .int) (by decide) rfl (Nat.le_of_ble_eq_true rfl) (fun X F E hR => ?_)
  refine J_lv [0] (lv' := [(0, .ref (g 0))]) rfl ?_
  refine J_aload_n (pc' := 1) (q := 0) F dX6_fault_0 rfl rfl ?_
  refine J_goRie (wc := (wM cI cZ g sc ar hs)) (av := [.ref (g 0)]) (rest := []) (v := zX6_faultOf sc ar hs) (pc' := 4) F E (fun _ h => h) (fun H locs hI hp => jrun_V (As := []) 0 F E (c_X6_faultOf l D cI cZ z g sc ar hs  hpg) kw_693 kw_695 kp_9 rfl kw_696 kw_7 oX6_faultOf ⟨⟨rfl, rfl⟩, ⟨Nat.le_of_ble_eq_true rfl, Nat.le_of_ble_eq_true rfl⟩, Nat.zero_le _, Nat.zero_le _⟩ rfl rfl (Nat.le_of_ble_eq_true rfl) dX6_fault_1 rfl rfl (jI_P E hI) hp) rfl ?_
  exact J_iretR F hR dX6_fault_4 rfl rfl
