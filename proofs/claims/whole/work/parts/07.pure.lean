/-! pure static methods, as functions of their numbers -/
def zX5_asNumber  (x0 : Int32) : Int32 := if x0 = 0 then 0 else 1
abbrev rm_X5_asNumber : Room := { frames := 0, cells := 0, slots := 0, locals := 0 }
set_option maxHeartbeats 4000000 in
set_option maxRecDepth 100000 in
theorem c_X5_asNumber (l : Launch) (D : va_G) (cI cZ : ClassId) (z : Nat → Nat) (x0 : Int32)  : cRi l yX5_asNumber ww_X5_asNumber rm_X5_asNumber D cI cZ z [] [.int x0] (fun r => r = zX5_asNumber x0) := by
  refine cRi.of (cc := cX5_asNumber) (maxL := 1) (rt := .int) (by decide) rfl (Nat.le_of_ble_eq_true rfl) (fun X F E hR => ?_)
  refine J_lv [0] (lv' := [(0, .int x0)]) rfl ?_
  refine J_iload_n (pc' := 1) (q := 0) F dX5_asNumber_0 rfl rfl ?_
  refine J_if_eq (tgt := 8) (pc' := 4) F dX5_asNumber_1 (by decide) rfl (fun c1 => ?_) (fun c1 => ?_)
  · refine J_iconst (pc' := 9) (v := 0) F dX5_asNumber_8 (by decide) rfl ?_
    exact J_iretR F hR dX5_asNumber_9 rfl (by show _ = zX5_asNumber x0; unfold zX5_asNumber; rw [if_pos c1])
  · refine J_iconst (pc' := 5) (v := 1) F dX5_asNumber_4 (by decide) rfl ?_
    refine J_goto (tgt := 9) F dX5_asNumber_5 (by decide) ?_
    exact J_iretR F hR dX5_asNumber_9 rfl (by show _ = zX5_asNumber x0; unfold zX5_asNumber; rw [if_neg c1])
def zX5_nextSeed  (x0 : Int32) : Int32 := ((((1103515245 * ((x0 : Int32).toInt64)) + 12345) - ((1103515245 * ((x0 : Int32).toInt64)) + 12345) / 2147483648 * 2147483648) : Int64).toInt32
abbrev rm_X5_nextSeed : Room := { frames := 0, cells := 0, slots := 0, locals := 0 }
set_option maxHeartbeats 4000000 in
set_option maxRecDepth 100000 in
theorem c_X5_nextSeed (l : Launch) (D : va_G) (cI cZ : ClassId) (z : Nat → Nat) (x0 : Int32)  : cRi l yX5_nextSeed ww_X5_nextSeed rm_X5_nextSeed D cI cZ z [] [.int x0] (fun r => r = zX5_nextSeed x0) := by
  refine cRi.of (cc := cX5_nextSeed) (maxL := 1) (rt := .int) (by decide) rfl (Nat.le_of_ble_eq_true rfl) (fun X F E hR => ?_)
  refine J_lv [0] (lv' := [(0, .int x0)]) rfl ?_
  refine J_ldc2 (pc' := 3) (v := 1103515245) F dX5_nextSeed_0 kw_530 rfl ?_
  refine J_iload_n (pc' := 4) (q := 0) F dX5_nextSeed_3 rfl rfl ?_
  refine J_i2l (pc' := 5) (v := (x0 : Int32).toInt64) F dX5_nextSeed_4 rfl rfl ?_
  refine J_lmul (pc' := 6) F dX5_nextSeed_5 rfl ?_
  refine J_ldc2 (pc' := 9) (v := 12345) F dX5_nextSeed_6 kw_531 rfl ?_
  refine J_ladd (pc' := 10) F dX5_nextSeed_9 rfl ?_
  refine J_ldc2 (pc' := 13) (v := 2147483648) F dX5_nextSeed_10 kw_532 rfl ?_
  refine J_lrem (pc' := 14) F dX5_nextSeed_13 (by decide) rfl ?_
  refine J_l2i (pc' := 15) (v := ((((1103515245 * ((x0 : Int32).toInt64)) + 12345) - ((1103515245 * ((x0 : Int32).toInt64)) + 12345) / 2147483648 * 2147483648) : Int64).toInt32) F dX5_nextSeed_14 rfl rfl ?_
  exact J_iretR F hR dX5_nextSeed_15 rfl rfl
def zX5_cellFrom  (x0 : Int32) : Int32 := if (6 : Int32) ≤ x0 then (x0 - 6) / 6 else x0
abbrev rm_X5_cellFrom : Room := { frames := 0, cells := 0, slots := 0, locals := 0 }
set_option maxHeartbeats 4000000 in
set_option maxRecDepth 100000 in
theorem c_X5_cellFrom (l : Launch) (D : va_G) (cI cZ : ClassId) (z : Nat → Nat) (x0 : Int32)  : cRi l yX5_cellFrom ww_X5_cellFrom rm_X5_cellFrom D cI cZ z [] [.int x0] (fun r => r = zX5_cellFrom x0) := by
  refine cRi.of (cc := cX5_cellFrom) (maxL := 1) (rt := .int) (by decide) rfl (Nat.le_of_ble_eq_true rfl) (fun X F E hR => ?_)
  refine J_lv [0] (lv' := [(0, .int x0)]) rfl ?_
  refine J_iload_n (pc' := 1) (q := 0) F dX5_cellFrom_0 rfl rfl ?_
  refine J_bipush (pc' := 3) (v := 6) F dX5_cellFrom_1 (by decide) rfl ?_
  refine J_icmp_ge (tgt := 10) (pc' := 6) F dX5_cellFrom_3 (by decide) rfl (fun c3 => ?_) (fun c3 => ?_)
  · refine J_iload_n (pc' := 11) (q := 0) F dX5_cellFrom_10 rfl rfl ?_
    refine J_bipush (pc' := 13) (v := 6) F dX5_cellFrom_11 (by decide) rfl ?_
    refine J_isub (pc' := 14) F dX5_cellFrom_13 rfl ?_
    refine J_bipush (pc' := 16) (v := 6) F dX5_cellFrom_14 (by decide) rfl ?_
    refine J_idiv (pc' := 17) F dX5_cellFrom_16 (by decide) rfl ?_
    exact J_iretR F hR dX5_cellFrom_17 rfl (by show _ = zX5_cellFrom x0; unfold zX5_cellFrom; rw [if_pos c3])
  · refine J_iload_n (pc' := 7) (q := 0) F dX5_cellFrom_6 rfl rfl ?_
    refine J_goto (tgt := 17) F dX5_cellFrom_7 (by decide) ?_
    exact J_iretR F hR dX5_cellFrom_17 rfl (by show _ = zX5_cellFrom x0; unfold zX5_cellFrom; rw [if_neg c3])
def zX5_cellInto  (x0 : Int32) : Int32 := if (6 : Int32) ≤ x0 then (x0 - 6) - (x0 - 6) / 6 * 6 else (-1)
abbrev rm_X5_cellInto : Room := { frames := 0, cells := 0, slots := 0, locals := 0 }
set_option maxHeartbeats 4000000 in
set_option maxRecDepth 100000 in
theorem c_X5_cellInto (l : Launch) (D : va_G) (cI cZ : ClassId) (z : Nat → Nat) (x0 : Int32)  : cRi l yX5_cellInto ww_X5_cellInto rm_X5_cellInto D cI cZ z [] [.int x0] (fun r => r = zX5_cellInto x0) := by
  refine cRi.of (cc := cX5_cellInto) (maxL := 1) (rt := .int) (by decide) rfl (Nat.le_of_ble_eq_true rfl) (fun X F E hR => ?_)
  refine J_lv [0] (lv' := [(0, .int x0)]) rfl ?_
  refine J_iload_n (pc' := 1) (q := 0) F dX5_cellInto_0 rfl rfl ?_
  refine J_bipush (pc' := 3) (v := 6) F dX5_cellInto_1 (by decide) rfl ?_
  refine J_icmp_ge (tgt := 10) (pc' := 6) F dX5_cellInto_3 (by decide) rfl (fun c3 => ?_) (fun c3 => ?_)
  · refine J_iload_n (pc' := 11) (q := 0) F dX5_cellInto_10 rfl rfl ?_
    refine J_bipush (pc' := 13) (v := 6) F dX5_cellInto_11 (by decide) rfl ?_
    refine J_isub (pc' := 14) F dX5_cellInto_13 rfl ?_
    refine J_bipush (pc' := 16) (v := 6) F dX5_cellInto_14 (by decide) rfl ?_
    refine J_irem (pc' := 17) F dX5_cellInto_16 (by decide) rfl ?_
    exact J_iretR F hR dX5_cellInto_17 rfl (by show _ = zX5_cellInto x0; unfold zX5_cellInto; rw [if_pos c3])
  · refine J_iconst (pc' := 7) (v := (-1)) F dX5_cellInto_6 (by decide) rfl ?_
    refine J_goto (tgt := 17) F dX5_cellInto_7 (by decide) ?_
    exact J_iretR F hR dX5_cellInto_17 rfl (by show _ = zX5_cellInto x0; unfold zX5_cellInto; rw [if_neg c3])
def zX5_isAct  (x0 : Int32) : Int32 := if x0 < 0 then 0 else (if x0 < 42 then (if (6 : Int32) ≤ x0 then (if ((zX5_cellFrom x0) - (zX5_cellFrom x0) / 2 * 2) = ((zX5_cellInto x0) - (zX5_cellInto x0) / 2 * 2) then (if (if 0 ≤ (((zX5_cellFrom x0) / 2) - ((zX5_cellInto x0) / 2)) then (((zX5_cellFrom x0) / 2) - ((zX5_cellInto x0) / 2)) else 0 - (((zX5_cellFrom x0) / 2) - ((zX5_cellInto x0) / 2))) = 1 then 1 else 0) else (if (if 0 ≤ (((zX5_cellFrom x0) / 2) - ((zX5_cellInto x0) / 2)) then (((zX5_cellFrom x0) / 2) - ((zX5_cellInto x0) / 2)) else 0 - (((zX5_cellFrom x0) / 2) - ((zX5_cellInto x0) / 2))) = 0 then 1 else 0)) else 1) else 0)
abbrev rm_X5_isAct : Room := { frames := 1, cells := 0, slots := 0, locals := 21 }
set_option maxHeartbeats 4000000 in
set_option maxRecDepth 100000 in
theorem c_X5_isAct (l : Launch) (D : va_G) (cI cZ : ClassId) (z : Nat → Nat) (x0 : Int32)  : cRi l yX5_isAct ww_X5_isAct rm_X5_isAct D cI cZ z [] [.int x0] (fun r => r = zX5_isAct x0) := by
  refine cRi.of (cc := cX5_isAct) (maxL := 5) (rt := .boolean) (by decide) rfl (Nat.le_of_ble_eq_true rfl) (fun X F E hR => ?_)
  refine J_lv [0] (lv' := [(0, .int x0)]) rfl ?_
  refine J_iload_n (pc' := 1) (q := 0) F dX5_isAct_0 rfl rfl ?_
  refine J_if_lt (tgt := 10) (pc' := 4) F dX5_isAct_1 (by decide) rfl (fun c1 => ?_) (fun c1 => ?_)
  · refine J_iconst (pc' := 11) (v := 0) F dX5_isAct_10 (by decide) rfl ?_
    exact J_iretR F hR dX5_isAct_11 rfl (by show _ = zX5_isAct x0; unfold zX5_isAct; rw [if_pos c1])
  · refine J_iload_n (pc' := 5) (q := 0) F dX5_isAct_4 rfl rfl ?_
    refine J_bipush (pc' := 7) (v := 42) F dX5_isAct_5 (by decide) rfl ?_
    refine J_icmp_lt (tgt := 12) (pc' := 10) F dX5_isAct_7 (by decide) rfl (fun c7 => ?_) (fun c7 => ?_)
    · refine J_iload_n (pc' := 13) (q := 0) F dX5_isAct_12 rfl rfl ?_
      refine J_bipush (pc' := 15) (v := 6) F dX5_isAct_13 (by decide) rfl ?_
      refine J_icmp_ge (tgt := 20) (pc' := 18) F dX5_isAct_15 (by decide) rfl (fun c15 => ?_) (fun c15 => ?_)
      · refine J_iload_n (pc' := 21) (q := 0) F dX5_isAct_20 rfl rfl ?_
        refine J_goRie (wc := []) (av := [.int x0]) (rest := []) (v := zX5_cellFrom x0) (pc' := 24) F E (fun _ _ => jP_nil _ _) (fun H locs hI hp => jrun_S F E (c_X5_cellFrom l D cI cZ z x0) kw_405 kw_406 rfl kw_407 kw_1 oX5_cellFrom ⟨⟨rfl, rfl⟩, ⟨Nat.le_of_ble_eq_true rfl, Nat.le_of_ble_eq_true rfl⟩, Nat.zero_le _, Nat.zero_le _⟩ rfl (Nat.le_of_ble_eq_true rfl) dX5_isAct_21 hp) rfl ?_
        refine J_istore_n (pc' := 25) [1, 0] [(0, .int x0), (1, .int (zX5_cellFrom x0))] F dX5_isAct_24 rfl (jL_of E (show 1 < 5 by decide)) rfl rfl ?_
        refine J_iload_n (pc' := 26) (q := 0) F dX5_isAct_25 rfl rfl ?_
        refine J_goRie (wc := []) (av := [.int x0]) (rest := []) (v := zX5_cellInto x0) (pc' := 29) F E (fun _ _ => jP_nil _ _) (fun H locs hI hp => jrun_S F E (c_X5_cellInto l D cI cZ z x0) kw_408 kw_409 rfl kw_410 kw_1 oX5_cellInto ⟨⟨rfl, rfl⟩, ⟨Nat.le_of_ble_eq_true rfl, Nat.le_of_ble_eq_true rfl⟩, Nat.zero_le _, Nat.zero_le _⟩ rfl (Nat.le_of_ble_eq_true rfl) dX5_isAct_26 hp) rfl ?_
        refine J_istore_n (pc' := 30) [1, 2, 0] [(0, .int x0), (1, .int (zX5_cellFrom x0)), (2, .int (zX5_cellInto x0))] F dX5_isAct_29 rfl (jL_of E (show 2 < 5 by decide)) rfl rfl ?_
        refine J_iload_n (pc' := 31) (q := 1) F dX5_isAct_30 rfl rfl ?_
        refine J_iconst (pc' := 32) (v := 2) F dX5_isAct_31 (by decide) rfl ?_
        refine J_idiv (pc' := 33) F dX5_isAct_32 (by decide) rfl ?_
        refine J_iload_n (pc' := 34) (q := 2) F dX5_isAct_33 rfl rfl ?_
        refine J_iconst (pc' := 35) (v := 2) F dX5_isAct_34 (by decide) rfl ?_
        refine J_idiv (pc' := 36) F dX5_isAct_35 (by decide) rfl ?_
        refine J_isub (pc' := 37) F dX5_isAct_36 rfl ?_
        refine J_mabs (pc' := 40) F E dX5_isAct_37 kw_411 kw_412 kw_12 kw_413 (Nat.le_of_ble_eq_true rfl) (Nat.le_of_ble_eq_true rfl) (Nat.zero_le _) (Nat.zero_le _) rfl ?_
        refine J_istore_n (pc' := 41) [1, 2, 3, 0] [(0, .int x0), (1, .int (zX5_cellFrom x0)), (2, .int (zX5_cellInto x0)), (3, .int (if 0 ≤ (((zX5_cellFrom x0) / 2) - ((zX5_cellInto x0) / 2)) then (((zX5_cellFrom x0) / 2) - ((zX5_cellInto x0) / 2)) else 0 - (((zX5_cellFrom x0) / 2) - ((zX5_cellInto x0) / 2))))] F dX5_isAct_40 rfl (jL_of E (show 3 < 5 by decide)) rfl rfl ?_
        refine J_iload_n (pc' := 42) (q := 1) F dX5_isAct_41 rfl rfl ?_
        refine J_iconst (pc' := 43) (v := 2) F dX5_isAct_42 (by decide) rfl ?_
        refine J_irem (pc' := 44) F dX5_isAct_43 (by decide) rfl ?_
        refine J_iload_n (pc' := 45) (q := 2) F dX5_isAct_44 rfl rfl ?_
        refine J_iconst (pc' := 46) (v := 2) F dX5_isAct_45 (by decide) rfl ?_
        refine J_irem (pc' := 47) F dX5_isAct_46 (by decide) rfl ?_
        refine J_icmp_ne (tgt := 54) (pc' := 50) F dX5_isAct_47 (by decide) rfl (fun c47 => ?_) (fun c47 => ?_)
        · refine J_iconst (pc' := 55) (v := 0) F dX5_isAct_54 (by decide) rfl ?_
          refine J_istore (pc' := 57) [1, 2, 3, 4, 0] [(0, .int x0), (1, .int (zX5_cellFrom x0)), (2, .int (zX5_cellInto x0)), (3, .int (if 0 ≤ (((zX5_cellFrom x0) / 2) - ((zX5_cellInto x0) / 2)) then (((zX5_cellFrom x0) / 2) - ((zX5_cellInto x0) / 2)) else 0 - (((zX5_cellFrom x0) / 2) - ((zX5_cellInto x0) / 2)))), (4, .int 0)] F dX5_isAct_55 (jL_of E (show 4 < 5 by decide)) rfl rfl ?_
          refine J_iload (pc' := 59) (q := 4) F dX5_isAct_57 rfl rfl ?_
          refine J_if_eq (tgt := 75) (pc' := 62) F dX5_isAct_59 (by decide) rfl (fun _ => ?_) (fun c9 => absurd (by decide) c9)
          refine J_iload_n (pc' := 76) (q := 3) F dX5_isAct_75 rfl rfl ?_
          refine J_if_ne (tgt := 83) (pc' := 79) F dX5_isAct_76 (by decide) rfl (fun c76 => ?_) (fun c76 => ?_)
          · refine J_iconst (pc' := 84) (v := 0) F dX5_isAct_83 (by decide) rfl ?_
            exact J_iretR F hR dX5_isAct_84 rfl (by show _ = zX5_isAct x0; unfold zX5_isAct; rw [if_neg c1, if_pos c7, if_pos c15, if_neg c47, if_neg c76])
          · refine J_iconst (pc' := 80) (v := 1) F dX5_isAct_79 (by decide) rfl ?_
            refine J_goto (tgt := 84) F dX5_isAct_80 (by decide) ?_
            exact J_iretR F hR dX5_isAct_84 rfl (by show _ = zX5_isAct x0; unfold zX5_isAct; rw [if_neg c1, if_pos c7, if_pos c15, if_neg c47, if_pos c76])
        · refine J_iconst (pc' := 51) (v := 1) F dX5_isAct_50 (by decide) rfl ?_
          refine J_goto (tgt := 55) F dX5_isAct_51 (by decide) ?_
          refine J_istore (pc' := 57) [1, 2, 3, 4, 0] [(0, .int x0), (1, .int (zX5_cellFrom x0)), (2, .int (zX5_cellInto x0)), (3, .int (if 0 ≤ (((zX5_cellFrom x0) / 2) - ((zX5_cellInto x0) / 2)) then (((zX5_cellFrom x0) / 2) - ((zX5_cellInto x0) / 2)) else 0 - (((zX5_cellFrom x0) / 2) - ((zX5_cellInto x0) / 2)))), (4, .int 1)] F dX5_isAct_55 (jL_of E (show 4 < 5 by decide)) rfl rfl ?_
          refine J_iload (pc' := 59) (q := 4) F dX5_isAct_57 rfl rfl ?_
          refine J_if_eq (tgt := 75) (pc' := 62) F dX5_isAct_59 (by decide) rfl (fun c9 => absurd c9 (by decide)) (fun _ => ?_)
          refine J_iload_n (pc' := 63) (q := 3) F dX5_isAct_62 rfl rfl ?_
          refine J_iconst (pc' := 64) (v := 1) F dX5_isAct_63 (by decide) rfl ?_
          refine J_icmp_ne (tgt := 71) (pc' := 67) F dX5_isAct_64 (by decide) rfl (fun c64 => ?_) (fun c64 => ?_)
          · refine J_iconst (pc' := 72) (v := 0) F dX5_isAct_71 (by decide) rfl ?_
            refine J_goto (tgt := 84) F dX5_isAct_72 (by decide) ?_
            exact J_iretR F hR dX5_isAct_84 rfl (by show _ = zX5_isAct x0; unfold zX5_isAct; rw [if_neg c1, if_pos c7, if_pos c15, if_pos c47, if_neg c64])
          · refine J_iconst (pc' := 68) (v := 1) F dX5_isAct_67 (by decide) rfl ?_
            refine J_goto (tgt := 84) F dX5_isAct_68 (by decide) ?_
            exact J_iretR F hR dX5_isAct_84 rfl (by show _ = zX5_isAct x0; unfold zX5_isAct; rw [if_neg c1, if_pos c7, if_pos c15, if_pos c47, if_pos c64])
      · refine J_iconst (pc' := 19) (v := 1) F dX5_isAct_18 (by decide) rfl ?_
        exact J_iretR F hR dX5_isAct_19 rfl (by show _ = zX5_isAct x0; unfold zX5_isAct; rw [if_neg c1, if_pos c7, if_neg c15])
    · refine J_iconst (pc' := 11) (v := 0) F dX5_isAct_10 (by decide) rfl ?_
      exact J_iretR F hR dX5_isAct_11 rfl (by show _ = zX5_isAct x0; unfold zX5_isAct; rw [if_neg c1, if_neg c7])
def zX5_tonsAt  (x0 : Int32) (x1 : Int32) : Int32 := ((x0 : Int32) >>> (((2 * x1) : Int32) &&& 31)) &&& 3
abbrev rm_X5_tonsAt : Room := { frames := 0, cells := 0, slots := 0, locals := 0 }
set_option maxHeartbeats 4000000 in
set_option maxRecDepth 100000 in
theorem c_X5_tonsAt (l : Launch) (D : va_G) (cI cZ : ClassId) (z : Nat → Nat) (x0 : Int32) (x1 : Int32)  : cRi l yX5_tonsAt ww_X5_tonsAt rm_X5_tonsAt D cI cZ z [] [.int x0, .int x1] (fun r => r = zX5_tonsAt x0 x1) := by
  refine cRi.of (cc := cX5_tonsAt) (maxL := 2) (rt := .int) (by decide) rfl (Nat.le_of_ble_eq_true rfl) (fun X F E hR => ?_)
  refine J_lv [0, 1] (lv' := [(0, .int x0), (1, .int x1)]) rfl ?_
  refine J_iload_n (pc' := 1) (q := 0) F dX5_tonsAt_0 rfl rfl ?_
  refine J_iconst (pc' := 2) (v := 2) F dX5_tonsAt_1 (by decide) rfl ?_
  refine J_iload_n (pc' := 3) (q := 1) F dX5_tonsAt_2 rfl rfl ?_
  refine J_imul (pc' := 4) F dX5_tonsAt_3 rfl ?_
  refine J_ishr (pc' := 5) F dX5_tonsAt_4 rfl ?_
  refine J_iconst (pc' := 6) (v := 3) F dX5_tonsAt_5 (by decide) rfl ?_
  refine J_iand (pc' := 7) F dX5_tonsAt_6 rfl ?_
  exact J_iretR F hR dX5_tonsAt_7 rfl rfl
def zX5_tonsOf  (x0 : Int32) : Int32 := (((((0 + (zX5_tonsAt x0 0)) + (zX5_tonsAt x0 1)) + (zX5_tonsAt x0 2)) + (zX5_tonsAt x0 3)) + (zX5_tonsAt x0 4)) + (zX5_tonsAt x0 5)
abbrev rm_X5_tonsOf : Room := { frames := 1, cells := 0, slots := 0, locals := 21 }
set_option maxHeartbeats 4000000 in
set_option maxRecDepth 100000 in
theorem c_X5_tonsOf (l : Launch) (D : va_G) (cI cZ : ClassId) (z : Nat → Nat) (x0 : Int32)  : cRi l yX5_tonsOf ww_X5_tonsOf rm_X5_tonsOf D cI cZ z [] [.int x0] (fun r => r = zX5_tonsOf x0) := by
  refine cRi.of (cc := cX5_tonsOf) (maxL := 3) (rt := .int) (by decide) rfl (Nat.le_of_ble_eq_true rfl) (fun X F E hR => ?_)
  refine J_lv [0] (lv' := [(0, .int x0)]) rfl ?_
  refine J_iconst (pc' := 1) (v := 0) F dX5_tonsOf_0 (by decide) rfl ?_
  refine J_istore_n (pc' := 2) [1, 0] [(0, .int x0), (1, .int 0)] F dX5_tonsOf_1 rfl (jL_of E (show 1 < 3 by decide)) rfl rfl ?_
  refine J_iconst (pc' := 3) (v := 0) F dX5_tonsOf_2 (by decide) rfl ?_
  refine J_istore_n (pc' := 4) [1, 2, 0] [(0, .int x0), (1, .int 0), (2, .int 0)] F dX5_tonsOf_3 rfl (jL_of E (show 2 < 3 by decide)) rfl rfl ?_
  refine J_iload_n (pc' := 5) (q := 2) F dX5_tonsOf_4 rfl rfl ?_
  refine J_bipush (pc' := 7) (v := 6) F dX5_tonsOf_5 (by decide) rfl ?_
  refine J_icmp_ge (tgt := 24) (pc' := 10) F dX5_tonsOf_7 (by decide) rfl (fun c9 => absurd c9 (by decide)) (fun _ => ?_)
  refine J_iload_n (pc' := 11) (q := 1) F dX5_tonsOf_10 rfl rfl ?_
  refine J_iload_n (pc' := 12) (q := 0) F dX5_tonsOf_11 rfl rfl ?_
  refine J_iload_n (pc' := 13) (q := 2) F dX5_tonsOf_12 rfl rfl ?_
  refine J_goRie (wc := []) (av := [.int x0, .int 0]) (rest := [.int 0]) (v := zX5_tonsAt x0 0) (pc' := 16) F E (fun _ _ => jP_nil _ _) (fun H locs hI hp => jrun_S F E (c_X5_tonsAt l D cI cZ z x0 0) kw_356 kw_357 rfl kw_358 kw_1 oX5_tonsAt ⟨⟨rfl, rfl⟩, ⟨Nat.le_of_ble_eq_true rfl, Nat.le_of_ble_eq_true rfl⟩, Nat.zero_le _, Nat.zero_le _⟩ rfl (Nat.le_of_ble_eq_true rfl) dX5_tonsOf_13 hp) rfl ?_
  refine J_iadd (pc' := 17) F dX5_tonsOf_16 rfl ?_
  refine J_istore_n (pc' := 18) [1, 0, 2] [(0, .int x0), (1, .int (0 + (zX5_tonsAt x0 0))), (2, .int 0)] F dX5_tonsOf_17 rfl (jL_of E (show 1 < 3 by decide)) rfl rfl ?_
  refine J_iinc (v := 1) (q := 2) (pc' := 21) [1, 2, 0] [(0, .int x0), (1, .int (0 + (zX5_tonsAt x0 0))), (2, .int 1)] F dX5_tonsOf_18 rfl (by decide) (jL_of E (show 2 < 3 by decide)) rfl rfl ?_
  refine J_goto (tgt := 4) F dX5_tonsOf_21 (by decide) ?_
  refine J_iload_n (pc' := 5) (q := 2) F dX5_tonsOf_4 rfl rfl ?_
  refine J_bipush (pc' := 7) (v := 6) F dX5_tonsOf_5 (by decide) rfl ?_
  refine J_icmp_ge (tgt := 24) (pc' := 10) F dX5_tonsOf_7 (by decide) rfl (fun c9 => absurd c9 (by decide)) (fun _ => ?_)
  refine J_iload_n (pc' := 11) (q := 1) F dX5_tonsOf_10 rfl rfl ?_
  refine J_iload_n (pc' := 12) (q := 0) F dX5_tonsOf_11 rfl rfl ?_
  refine J_iload_n (pc' := 13) (q := 2) F dX5_tonsOf_12 rfl rfl ?_
  refine J_goRie (wc := []) (av := [.int x0, .int 1]) (rest := [.int (0 + (zX5_tonsAt x0 0))]) (v := zX5_tonsAt x0 1) (pc' := 16) F E (fun _ _ => jP_nil _ _) (fun H locs hI hp => jrun_S F E (c_X5_tonsAt l D cI cZ z x0 1) kw_356 kw_357 rfl kw_358 kw_1 oX5_tonsAt ⟨⟨rfl, rfl⟩, ⟨Nat.le_of_ble_eq_true rfl, Nat.le_of_ble_eq_true rfl⟩, Nat.zero_le _, Nat.zero_le _⟩ rfl (Nat.le_of_ble_eq_true rfl) dX5_tonsOf_13 hp) rfl ?_
  refine J_iadd (pc' := 17) F dX5_tonsOf_16 rfl ?_
  refine J_istore_n (pc' := 18) [1, 0, 2] [(0, .int x0), (1, .int ((0 + (zX5_tonsAt x0 0)) + (zX5_tonsAt x0 1))), (2, .int 1)] F dX5_tonsOf_17 rfl (jL_of E (show 1 < 3 by decide)) rfl rfl ?_
  refine J_iinc (v := 2) (q := 2) (pc' := 21) [1, 2, 0] [(0, .int x0), (1, .int ((0 + (zX5_tonsAt x0 0)) + (zX5_tonsAt x0 1))), (2, .int 2)] F dX5_tonsOf_18 rfl (by decide) (jL_of E (show 2 < 3 by decide)) rfl rfl ?_
  refine J_goto (tgt := 4) F dX5_tonsOf_21 (by decide) ?_
  refine J_iload_n (pc' := 5) (q := 2) F dX5_tonsOf_4 rfl rfl ?_
  refine J_bipush (pc' := 7) (v := 6) F dX5_tonsOf_5 (by decide) rfl ?_
  refine J_icmp_ge (tgt := 24) (pc' := 10) F dX5_tonsOf_7 (by decide) rfl (fun c9 => absurd c9 (by decide)) (fun _ => ?_)
  refine J_iload_n (pc' := 11) (q := 1) F dX5_tonsOf_10 rfl rfl ?_
  refine J_iload_n (pc' := 12) (q := 0) F dX5_tonsOf_11 rfl rfl ?_
  refine J_iload_n (pc' := 13) (q := 2) F dX5_tonsOf_12 rfl rfl ?_
  refine J_goRie (wc := []) (av := [.int x0, .int 2]) (rest := [.int ((0 + (zX5_tonsAt x0 0)) + (zX5_tonsAt x0 1))]) (v := zX5_tonsAt x0 2) (pc' := 16) F E (fun _ _ => jP_nil _ _) (fun H locs hI hp => jrun_S F E (c_X5_tonsAt l D cI cZ z x0 2) kw_356 kw_357 rfl kw_358 kw_1 oX5_tonsAt ⟨⟨rfl, rfl⟩, ⟨Nat.le_of_ble_eq_true rfl, Nat.le_of_ble_eq_true rfl⟩, Nat.zero_le _, Nat.zero_le _⟩ rfl (Nat.le_of_ble_eq_true rfl) dX5_tonsOf_13 hp) rfl ?_
  refine J_iadd (pc' := 17) F dX5_tonsOf_16 rfl ?_
  refine J_istore_n (pc' := 18) [1, 0, 2] [(0, .int x0), (1, .int (((0 + (zX5_tonsAt x0 0)) + (zX5_tonsAt x0 1)) + (zX5_tonsAt x0 2))), (2, .int 2)] F dX5_tonsOf_17 rfl (jL_of E (show 1 < 3 by decide)) rfl rfl ?_
  refine J_iinc (v := 3) (q := 2) (pc' := 21) [1, 2, 0] [(0, .int x0), (1, .int (((0 + (zX5_tonsAt x0 0)) + (zX5_tonsAt x0 1)) + (zX5_tonsAt x0 2))), (2, .int 3)] F dX5_tonsOf_18 rfl (by decide) (jL_of E (show 2 < 3 by decide)) rfl rfl ?_
  refine J_goto (tgt := 4) F dX5_tonsOf_21 (by decide) ?_
  refine J_iload_n (pc' := 5) (q := 2) F dX5_tonsOf_4 rfl rfl ?_
  refine J_bipush (pc' := 7) (v := 6) F dX5_tonsOf_5 (by decide) rfl ?_
  refine J_icmp_ge (tgt := 24) (pc' := 10) F dX5_tonsOf_7 (by decide) rfl (fun c9 => absurd c9 (by decide)) (fun _ => ?_)
  refine J_iload_n (pc' := 11) (q := 1) F dX5_tonsOf_10 rfl rfl ?_
  refine J_iload_n (pc' := 12) (q := 0) F dX5_tonsOf_11 rfl rfl ?_
  refine J_iload_n (pc' := 13) (q := 2) F dX5_tonsOf_12 rfl rfl ?_
  refine J_goRie (wc := []) (av := [.int x0, .int 3]) (rest := [.int (((0 + (zX5_tonsAt x0 0)) + (zX5_tonsAt x0 1)) + (zX5_tonsAt x0 2))]) (v := zX5_tonsAt x0 3) (pc' := 16) F E (fun _ _ => jP_nil _ _) (fun H locs hI hp => jrun_S F E (c_X5_tonsAt l D cI cZ z x0 3) kw_356 kw_357 rfl kw_358 kw_1 oX5_tonsAt ⟨⟨rfl, rfl⟩, ⟨Nat.le_of_ble_eq_true rfl, Nat.le_of_ble_eq_true rfl⟩, Nat.zero_le _, Nat.zero_le _⟩ rfl (Nat.le_of_ble_eq_true rfl) dX5_tonsOf_13 hp) rfl ?_
  refine J_iadd (pc' := 17) F dX5_tonsOf_16 rfl ?_
  refine J_istore_n (pc' := 18) [1, 0, 2] [(0, .int x0), (1, .int ((((0 + (zX5_tonsAt x0 0)) + (zX5_tonsAt x0 1)) + (zX5_tonsAt x0 2)) + (zX5_tonsAt x0 3))), (2, .int 3)] F dX5_tonsOf_17 rfl (jL_of E (show 1 < 3 by decide)) rfl rfl ?_
  refine J_iinc (v := 4) (q := 2) (pc' := 21) [1, 2, 0] [(0, .int x0), (1, .int ((((0 + (zX5_tonsAt x0 0)) + (zX5_tonsAt x0 1)) + (zX5_tonsAt x0 2)) + (zX5_tonsAt x0 3))), (2, .int 4)] F dX5_tonsOf_18 rfl (by decide) (jL_of E (show 2 < 3 by decide)) rfl rfl ?_
  refine J_goto (tgt := 4) F dX5_tonsOf_21 (by decide) ?_
  refine J_iload_n (pc' := 5) (q := 2) F dX5_tonsOf_4 rfl rfl ?_
  refine J_bipush (pc' := 7) (v := 6) F dX5_tonsOf_5 (by decide) rfl ?_
  refine J_icmp_ge (tgt := 24) (pc' := 10) F dX5_tonsOf_7 (by decide) rfl (fun c9 => absurd c9 (by decide)) (fun _ => ?_)
  refine J_iload_n (pc' := 11) (q := 1) F dX5_tonsOf_10 rfl rfl ?_
  refine J_iload_n (pc' := 12) (q := 0) F dX5_tonsOf_11 rfl rfl ?_
  refine J_iload_n (pc' := 13) (q := 2) F dX5_tonsOf_12 rfl rfl ?_
  refine J_goRie (wc := []) (av := [.int x0, .int 4]) (rest := [.int ((((0 + (zX5_tonsAt x0 0)) + (zX5_tonsAt x0 1)) + (zX5_tonsAt x0 2)) + (zX5_tonsAt x0 3))]) (v := zX5_tonsAt x0 4) (pc' := 16) F E (fun _ _ => jP_nil _ _) (fun H locs hI hp => jrun_S F E (c_X5_tonsAt l D cI cZ z x0 4) kw_356 kw_357 rfl kw_358 kw_1 oX5_tonsAt ⟨⟨rfl, rfl⟩, ⟨Nat.le_of_ble_eq_true rfl, Nat.le_of_ble_eq_true rfl⟩, Nat.zero_le _, Nat.zero_le _⟩ rfl (Nat.le_of_ble_eq_true rfl) dX5_tonsOf_13 hp) rfl ?_
  refine J_iadd (pc' := 17) F dX5_tonsOf_16 rfl ?_
  refine J_istore_n (pc' := 18) [1, 0, 2] [(0, .int x0), (1, .int (((((0 + (zX5_tonsAt x0 0)) + (zX5_tonsAt x0 1)) + (zX5_tonsAt x0 2)) + (zX5_tonsAt x0 3)) + (zX5_tonsAt x0 4))), (2, .int 4)] F dX5_tonsOf_17 rfl (jL_of E (show 1 < 3 by decide)) rfl rfl ?_
  refine J_iinc (v := 5) (q := 2) (pc' := 21) [1, 2, 0] [(0, .int x0), (1, .int (((((0 + (zX5_tonsAt x0 0)) + (zX5_tonsAt x0 1)) + (zX5_tonsAt x0 2)) + (zX5_tonsAt x0 3)) + (zX5_tonsAt x0 4))), (2, .int 5)] F dX5_tonsOf_18 rfl (by decide) (jL_of E (show 2 < 3 by decide)) rfl rfl ?_
  refine J_goto (tgt := 4) F dX5_tonsOf_21 (by decide) ?_
  refine J_iload_n (pc' := 5) (q := 2) F dX5_tonsOf_4 rfl rfl ?_
  refine J_bipush (pc' := 7) (v := 6) F dX5_tonsOf_5 (by decide) rfl ?_
  refine J_icmp_ge (tgt := 24) (pc' := 10) F dX5_tonsOf_7 (by decide) rfl (fun c9 => absurd c9 (by decide)) (fun _ => ?_)
  refine J_iload_n (pc' := 11) (q := 1) F dX5_tonsOf_10 rfl rfl ?_
  refine J_iload_n (pc' := 12) (q := 0) F dX5_tonsOf_11 rfl rfl ?_
  refine J_iload_n (pc' := 13) (q := 2) F dX5_tonsOf_12 rfl rfl ?_
  refine J_goRie (wc := []) (av := [.int x0, .int 5]) (rest := [.int (((((0 + (zX5_tonsAt x0 0)) + (zX5_tonsAt x0 1)) + (zX5_tonsAt x0 2)) + (zX5_tonsAt x0 3)) + (zX5_tonsAt x0 4))]) (v := zX5_tonsAt x0 5) (pc' := 16) F E (fun _ _ => jP_nil _ _) (fun H locs hI hp => jrun_S F E (c_X5_tonsAt l D cI cZ z x0 5) kw_356 kw_357 rfl kw_358 kw_1 oX5_tonsAt ⟨⟨rfl, rfl⟩, ⟨Nat.le_of_ble_eq_true rfl, Nat.le_of_ble_eq_true rfl⟩, Nat.zero_le _, Nat.zero_le _⟩ rfl (Nat.le_of_ble_eq_true rfl) dX5_tonsOf_13 hp) rfl ?_
  refine J_iadd (pc' := 17) F dX5_tonsOf_16 rfl ?_
  refine J_istore_n (pc' := 18) [1, 0, 2] [(0, .int x0), (1, .int ((((((0 + (zX5_tonsAt x0 0)) + (zX5_tonsAt x0 1)) + (zX5_tonsAt x0 2)) + (zX5_tonsAt x0 3)) + (zX5_tonsAt x0 4)) + (zX5_tonsAt x0 5))), (2, .int 5)] F dX5_tonsOf_17 rfl (jL_of E (show 1 < 3 by decide)) rfl rfl ?_
  refine J_iinc (v := 6) (q := 2) (pc' := 21) [1, 2, 0] [(0, .int x0), (1, .int ((((((0 + (zX5_tonsAt x0 0)) + (zX5_tonsAt x0 1)) + (zX5_tonsAt x0 2)) + (zX5_tonsAt x0 3)) + (zX5_tonsAt x0 4)) + (zX5_tonsAt x0 5))), (2, .int 6)] F dX5_tonsOf_18 rfl (by decide) (jL_of E (show 2 < 3 by decide)) rfl rfl ?_
  refine J_goto (tgt := 4) F dX5_tonsOf_21 (by decide) ?_
  refine J_iload_n (pc' := 5) (q := 2) F dX5_tonsOf_4 rfl rfl ?_
  refine J_bipush (pc' := 7) (v := 6) F dX5_tonsOf_5 (by decide) rfl ?_
  refine J_icmp_ge (tgt := 24) (pc' := 10) F dX5_tonsOf_7 (by decide) rfl (fun _ => ?_) (fun c9 => absurd (by decide) c9)
  refine J_iload_n (pc' := 25) (q := 1) F dX5_tonsOf_24 rfl rfl ?_
  exact J_iretR F hR dX5_tonsOf_25 rfl rfl
def zX5_bentBy  (x0 : Int32) : Int32 := if (0 : Int32) ≤ (((((x0 &&& 3) + (((x0 : Int32) >>> ((2 : Int32) &&& 31)) &&& 3)) + (((x0 : Int32) >>> ((8 : Int32) &&& 31)) &&& 3)) + (((x0 : Int32) >>> ((10 : Int32) &&& 31)) &&& 3)) - (2 * ((((x0 : Int32) >>> ((4 : Int32) &&& 31)) &&& 3) + (((x0 : Int32) >>> ((6 : Int32) &&& 31)) &&& 3)))) then ((((x0 &&& 3) + (((x0 : Int32) >>> ((2 : Int32) &&& 31)) &&& 3)) + (((x0 : Int32) >>> ((8 : Int32) &&& 31)) &&& 3)) + (((x0 : Int32) >>> ((10 : Int32) &&& 31)) &&& 3)) - (2 * ((((x0 : Int32) >>> ((4 : Int32) &&& 31)) &&& 3) + (((x0 : Int32) >>> ((6 : Int32) &&& 31)) &&& 3))) else -(((((x0 &&& 3) + (((x0 : Int32) >>> ((2 : Int32) &&& 31)) &&& 3)) + (((x0 : Int32) >>> ((8 : Int32) &&& 31)) &&& 3)) + (((x0 : Int32) >>> ((10 : Int32) &&& 31)) &&& 3)) - (2 * ((((x0 : Int32) >>> ((4 : Int32) &&& 31)) &&& 3) + (((x0 : Int32) >>> ((6 : Int32) &&& 31)) &&& 3))))
abbrev rm_X5_bentBy : Room := { frames := 0, cells := 0, slots := 0, locals := 0 }
set_option maxHeartbeats 4000000 in
set_option maxRecDepth 100000 in
theorem c_X5_bentBy (l : Launch) (D : va_G) (cI cZ : ClassId) (z : Nat → Nat) (x0 : Int32)  : cRi l yX5_bentBy ww_X5_bentBy rm_X5_bentBy D cI cZ z [] [.int x0] (fun r => r = zX5_bentBy x0) := by
  refine cRi.of (cc := cX5_bentBy) (maxL := 4) (rt := .int) (by decide) rfl (Nat.le_of_ble_eq_true rfl) (fun X F E hR => ?_)
  refine J_lv [0] (lv' := [(0, .int x0)]) rfl ?_
  refine J_iload_n (pc' := 1) (q := 0) F dX5_bentBy_0 rfl rfl ?_
  refine J_iconst (pc' := 2) (v := 3) F dX5_bentBy_1 (by decide) rfl ?_
  refine J_iand (pc' := 3) F dX5_bentBy_2 rfl ?_
  refine J_iload_n (pc' := 4) (q := 0) F dX5_bentBy_3 rfl rfl ?_
  refine J_iconst (pc' := 5) (v := 2) F dX5_bentBy_4 (by decide) rfl ?_
  refine J_ishr (pc' := 6) F dX5_bentBy_5 rfl ?_
  refine J_iconst (pc' := 7) (v := 3) F dX5_bentBy_6 (by decide) rfl ?_
  refine J_iand (pc' := 8) F dX5_bentBy_7 rfl ?_
  refine J_iadd (pc' := 9) F dX5_bentBy_8 rfl ?_
  refine J_iload_n (pc' := 10) (q := 0) F dX5_bentBy_9 rfl rfl ?_
  refine J_bipush (pc' := 12) (v := 8) F dX5_bentBy_10 (by decide) rfl ?_
  refine J_ishr (pc' := 13) F dX5_bentBy_12 rfl ?_
  refine J_iconst (pc' := 14) (v := 3) F dX5_bentBy_13 (by decide) rfl ?_
  refine J_iand (pc' := 15) F dX5_bentBy_14 rfl ?_
  refine J_iadd (pc' := 16) F dX5_bentBy_15 rfl ?_
  refine J_iload_n (pc' := 17) (q := 0) F dX5_bentBy_16 rfl rfl ?_
  refine J_bipush (pc' := 19) (v := 10) F dX5_bentBy_17 (by decide) rfl ?_
  refine J_ishr (pc' := 20) F dX5_bentBy_19 rfl ?_
  refine J_iconst (pc' := 21) (v := 3) F dX5_bentBy_20 (by decide) rfl ?_
  refine J_iand (pc' := 22) F dX5_bentBy_21 rfl ?_
  refine J_iadd (pc' := 23) F dX5_bentBy_22 rfl ?_
  refine J_istore_n (pc' := 24) [1, 0] [(0, .int x0), (1, .int ((((x0 &&& 3) + (((x0 : Int32) >>> ((2 : Int32) &&& 31)) &&& 3)) + (((x0 : Int32) >>> ((8 : Int32) &&& 31)) &&& 3)) + (((x0 : Int32) >>> ((10 : Int32) &&& 31)) &&& 3)))] F dX5_bentBy_23 rfl (jL_of E (show 1 < 4 by decide)) rfl rfl ?_
  refine J_iload_n (pc' := 25) (q := 0) F dX5_bentBy_24 rfl rfl ?_
  refine J_iconst (pc' := 26) (v := 4) F dX5_bentBy_25 (by decide) rfl ?_
  refine J_ishr (pc' := 27) F dX5_bentBy_26 rfl ?_
  refine J_iconst (pc' := 28) (v := 3) F dX5_bentBy_27 (by decide) rfl ?_
  refine J_iand (pc' := 29) F dX5_bentBy_28 rfl ?_
  refine J_iload_n (pc' := 30) (q := 0) F dX5_bentBy_29 rfl rfl ?_
  refine J_bipush (pc' := 32) (v := 6) F dX5_bentBy_30 (by decide) rfl ?_
  refine J_ishr (pc' := 33) F dX5_bentBy_32 rfl ?_
  refine J_iconst (pc' := 34) (v := 3) F dX5_bentBy_33 (by decide) rfl ?_
  refine J_iand (pc' := 35) F dX5_bentBy_34 rfl ?_
  refine J_iadd (pc' := 36) F dX5_bentBy_35 rfl ?_
  refine J_istore_n (pc' := 37) [1, 2, 0] [(0, .int x0), (1, .int ((((x0 &&& 3) + (((x0 : Int32) >>> ((2 : Int32) &&& 31)) &&& 3)) + (((x0 : Int32) >>> ((8 : Int32) &&& 31)) &&& 3)) + (((x0 : Int32) >>> ((10 : Int32) &&& 31)) &&& 3))), (2, .int ((((x0 : Int32) >>> ((4 : Int32) &&& 31)) &&& 3) + (((x0 : Int32) >>> ((6 : Int32) &&& 31)) &&& 3)))] F dX5_bentBy_36 rfl (jL_of E (show 2 < 4 by decide)) rfl rfl ?_
  refine J_iload_n (pc' := 38) (q := 1) F dX5_bentBy_37 rfl rfl ?_
  refine J_iconst (pc' := 39) (v := 2) F dX5_bentBy_38 (by decide) rfl ?_
  refine J_iload_n (pc' := 40) (q := 2) F dX5_bentBy_39 rfl rfl ?_
  refine J_imul (pc' := 41) F dX5_bentBy_40 rfl ?_
  refine J_isub (pc' := 42) F dX5_bentBy_41 rfl ?_
  refine J_istore_n (pc' := 43) [1, 2, 3, 0] [(0, .int x0), (1, .int ((((x0 &&& 3) + (((x0 : Int32) >>> ((2 : Int32) &&& 31)) &&& 3)) + (((x0 : Int32) >>> ((8 : Int32) &&& 31)) &&& 3)) + (((x0 : Int32) >>> ((10 : Int32) &&& 31)) &&& 3))), (2, .int ((((x0 : Int32) >>> ((4 : Int32) &&& 31)) &&& 3) + (((x0 : Int32) >>> ((6 : Int32) &&& 31)) &&& 3))), (3, .int (((((x0 &&& 3) + (((x0 : Int32) >>> ((2 : Int32) &&& 31)) &&& 3)) + (((x0 : Int32) >>> ((8 : Int32) &&& 31)) &&& 3)) + (((x0 : Int32) >>> ((10 : Int32) &&& 31)) &&& 3)) - (2 * ((((x0 : Int32) >>> ((4 : Int32) &&& 31)) &&& 3) + (((x0 : Int32) >>> ((6 : Int32) &&& 31)) &&& 3)))))] F dX5_bentBy_42 rfl (jL_of E (show 3 < 4 by decide)) rfl rfl ?_
  refine J_iload_n (pc' := 44) (q := 3) F dX5_bentBy_43 rfl rfl ?_
  refine J_if_ge (tgt := 52) (pc' := 47) F dX5_bentBy_44 (by decide) rfl (fun c44 => ?_) (fun c44 => ?_)
  · refine J_iload_n (pc' := 53) (q := 3) F dX5_bentBy_52 rfl rfl ?_
    exact J_iretR F hR dX5_bentBy_53 rfl (by show _ = zX5_bentBy x0; unfold zX5_bentBy; rw [if_pos c44])
  · refine J_iload_n (pc' := 48) (q := 3) F dX5_bentBy_47 rfl rfl ?_
    refine J_ineg (pc' := 49) F dX5_bentBy_48 rfl ?_
    refine J_goto (tgt := 53) F dX5_bentBy_49 (by decide) ?_
    exact J_iretR F hR dX5_bentBy_53 rfl (by show _ = zX5_bentBy x0; unfold zX5_bentBy; rw [if_neg c44])
def zX5_listingBy  (x0 : Int32) : Int32 := if (((((x0 : Int32) >>> ((2 : Int32) &&& 31)) &&& 3) + (((x0 : Int32) >>> ((6 : Int32) &&& 31)) &&& 3)) + (((x0 : Int32) >>> ((10 : Int32) &&& 31)) &&& 3)) ≤ (((x0 &&& 3) + (((x0 : Int32) >>> ((4 : Int32) &&& 31)) &&& 3)) + (((x0 : Int32) >>> ((8 : Int32) &&& 31)) &&& 3)) then (((x0 &&& 3) + (((x0 : Int32) >>> ((4 : Int32) &&& 31)) &&& 3)) + (((x0 : Int32) >>> ((8 : Int32) &&& 31)) &&& 3)) - (((((x0 : Int32) >>> ((2 : Int32) &&& 31)) &&& 3) + (((x0 : Int32) >>> ((6 : Int32) &&& 31)) &&& 3)) + (((x0 : Int32) >>> ((10 : Int32) &&& 31)) &&& 3)) else (((((x0 : Int32) >>> ((2 : Int32) &&& 31)) &&& 3) + (((x0 : Int32) >>> ((6 : Int32) &&& 31)) &&& 3)) + (((x0 : Int32) >>> ((10 : Int32) &&& 31)) &&& 3)) - (((x0 &&& 3) + (((x0 : Int32) >>> ((4 : Int32) &&& 31)) &&& 3)) + (((x0 : Int32) >>> ((8 : Int32) &&& 31)) &&& 3))
abbrev rm_X5_listingBy : Room := { frames := 0, cells := 0, slots := 0, locals := 0 }
set_option maxHeartbeats 4000000 in
set_option maxRecDepth 100000 in
theorem c_X5_listingBy (l : Launch) (D : va_G) (cI cZ : ClassId) (z : Nat → Nat) (x0 : Int32)  : cRi l yX5_listingBy ww_X5_listingBy rm_X5_listingBy D cI cZ z [] [.int x0] (fun r => r = zX5_listingBy x0) := by
  refine cRi.of (cc := cX5_listingBy) (maxL := 3) (rt := .int) (by decide) rfl (Nat.le_of_ble_eq_true rfl) (fun X F E hR => ?_)
  refine J_lv [0] (lv' := [(0, .int x0)]) rfl ?_
  refine J_iload_n (pc' := 1) (q := 0) F dX5_listingBy_0 rfl rfl ?_
  refine J_iconst (pc' := 2) (v := 3) F dX5_listingBy_1 (by decide) rfl ?_
  refine J_iand (pc' := 3) F dX5_listingBy_2 rfl ?_
  refine J_iload_n (pc' := 4) (q := 0) F dX5_listingBy_3 rfl rfl ?_
  refine J_iconst (pc' := 5) (v := 4) F dX5_listingBy_4 (by decide) rfl ?_
  refine J_ishr (pc' := 6) F dX5_listingBy_5 rfl ?_
  refine J_iconst (pc' := 7) (v := 3) F dX5_listingBy_6 (by decide) rfl ?_
  refine J_iand (pc' := 8) F dX5_listingBy_7 rfl ?_
  refine J_iadd (pc' := 9) F dX5_listingBy_8 rfl ?_
  refine J_iload_n (pc' := 10) (q := 0) F dX5_listingBy_9 rfl rfl ?_
  refine J_bipush (pc' := 12) (v := 8) F dX5_listingBy_10 (by decide) rfl ?_
  refine J_ishr (pc' := 13) F dX5_listingBy_12 rfl ?_
  refine J_iconst (pc' := 14) (v := 3) F dX5_listingBy_13 (by decide) rfl ?_
  refine J_iand (pc' := 15) F dX5_listingBy_14 rfl ?_
  refine J_iadd (pc' := 16) F dX5_listingBy_15 rfl ?_
  refine J_istore_n (pc' := 17) [1, 0] [(0, .int x0), (1, .int (((x0 &&& 3) + (((x0 : Int32) >>> ((4 : Int32) &&& 31)) &&& 3)) + (((x0 : Int32) >>> ((8 : Int32) &&& 31)) &&& 3)))] F dX5_listingBy_16 rfl (jL_of E (show 1 < 3 by decide)) rfl rfl ?_
  refine J_iload_n (pc' := 18) (q := 0) F dX5_listingBy_17 rfl rfl ?_
  refine J_iconst (pc' := 19) (v := 2) F dX5_listingBy_18 (by decide) rfl ?_
  refine J_ishr (pc' := 20) F dX5_listingBy_19 rfl ?_
  refine J_iconst (pc' := 21) (v := 3) F dX5_listingBy_20 (by decide) rfl ?_
  refine J_iand (pc' := 22) F dX5_listingBy_21 rfl ?_
  refine J_iload_n (pc' := 23) (q := 0) F dX5_listingBy_22 rfl rfl ?_
  refine J_bipush (pc' := 25) (v := 6) F dX5_listingBy_23 (by decide) rfl ?_
  refine J_ishr (pc' := 26) F dX5_listingBy_25 rfl ?_
  refine J_iconst (pc' := 27) (v := 3) F dX5_listingBy_26 (by decide) rfl ?_
  refine J_iand (pc' := 28) F dX5_listingBy_27 rfl ?_
  refine J_iadd (pc' := 29) F dX5_listingBy_28 rfl ?_
  refine J_iload_n (pc' := 30) (q := 0) F dX5_listingBy_29 rfl rfl ?_
  refine J_bipush (pc' := 32) (v := 10) F dX5_listingBy_30 (by decide) rfl ?_
  refine J_ishr (pc' := 33) F dX5_listingBy_32 rfl ?_
  refine J_iconst (pc' := 34) (v := 3) F dX5_listingBy_33 (by decide) rfl ?_
  refine J_iand (pc' := 35) F dX5_listingBy_34 rfl ?_
  refine J_iadd (pc' := 36) F dX5_listingBy_35 rfl ?_
  refine J_istore_n (pc' := 37) [1, 2, 0] [(0, .int x0), (1, .int (((x0 &&& 3) + (((x0 : Int32) >>> ((4 : Int32) &&& 31)) &&& 3)) + (((x0 : Int32) >>> ((8 : Int32) &&& 31)) &&& 3))), (2, .int (((((x0 : Int32) >>> ((2 : Int32) &&& 31)) &&& 3) + (((x0 : Int32) >>> ((6 : Int32) &&& 31)) &&& 3)) + (((x0 : Int32) >>> ((10 : Int32) &&& 31)) &&& 3)))] F dX5_listingBy_36 rfl (jL_of E (show 2 < 3 by decide)) rfl rfl ?_
  refine J_iload_n (pc' := 38) (q := 1) F dX5_listingBy_37 rfl rfl ?_
  refine J_iload_n (pc' := 39) (q := 2) F dX5_listingBy_38 rfl rfl ?_
  refine J_icmp_ge (tgt := 48) (pc' := 42) F dX5_listingBy_39 (by decide) rfl (fun c39 => ?_) (fun c39 => ?_)
  · refine J_iload_n (pc' := 49) (q := 1) F dX5_listingBy_48 rfl rfl ?_
    refine J_iload_n (pc' := 50) (q := 2) F dX5_listingBy_49 rfl rfl ?_
    refine J_isub (pc' := 51) F dX5_listingBy_50 rfl ?_
    exact J_iretR F hR dX5_listingBy_51 rfl (by show _ = zX5_listingBy x0; unfold zX5_listingBy; rw [if_pos c39])
  · refine J_iload_n (pc' := 43) (q := 2) F dX5_listingBy_42 rfl rfl ?_
    refine J_iload_n (pc' := 44) (q := 1) F dX5_listingBy_43 rfl rfl ?_
    refine J_isub (pc' := 45) F dX5_listingBy_44 rfl ?_
    refine J_goto (tgt := 51) F dX5_listingBy_45 (by decide) ?_
    exact J_iretR F hR dX5_listingBy_51 rfl (by show _ = zX5_listingBy x0; unfold zX5_listingBy; rw [if_neg c39])
def zX6_in  (x0 : Int64) (x2 : Int64) (x4 : Int64) : Int32 := if (lg_cmp x0 x2) < 0 then 0 else (if (0 : Int32) < (lg_cmp x0 x4) then 0 else 1)
abbrev rm_X6_in : Room := { frames := 0, cells := 0, slots := 0, locals := 0 }
set_option maxHeartbeats 4000000 in
set_option maxRecDepth 100000 in
theorem c_X6_in (l : Launch) (D : va_G) (cI cZ : ClassId) (z : Nat → Nat) (x0 : Int64) (x2 : Int64) (x4 : Int64)  : cRi l yX6_in ww_X6_in rm_X6_in D cI cZ z [] [.long x0, .long x2, .long x4] (fun r => r = zX6_in x0 x2 x4) := by
  refine cRi.of (cc := cX6_in) (maxL := 6) (rt := .boolean) (by decide) rfl (Nat.le_of_ble_eq_true rfl) (fun X F E hR => ?_)
  refine J_lv [0, 1, 2] (lv' := [(0, .long x0), (2, .long x2), (4, .long x4)]) rfl ?_
  refine J_lload_n (pc' := 1) (q := 0) F dX6_in_0 rfl rfl ?_
  refine J_lload_n (pc' := 2) (q := 1) F dX6_in_1 rfl rfl ?_
  refine J_lcmp (pc' := 3) F dX6_in_2 rfl ?_
  refine J_if_lt (tgt := 17) (pc' := 6) F dX6_in_3 (by decide) rfl (fun c3 => ?_) (fun c3 => ?_)
  · refine J_iconst (pc' := 18) (v := 0) F dX6_in_17 (by decide) rfl ?_
    exact J_iretR F hR dX6_in_18 rfl (by show _ = zX6_in x0 x2 x4; unfold zX6_in; rw [if_pos c3])
  · refine J_lload_n (pc' := 7) (q := 0) F dX6_in_6 rfl rfl ?_
    refine J_lload (pc' := 9) (q := 2) F dX6_in_7 rfl rfl ?_
    refine J_lcmp (pc' := 10) F dX6_in_9 rfl ?_
    refine J_if_gt (tgt := 17) (pc' := 13) F dX6_in_10 (by decide) rfl (fun c10 => ?_) (fun c10 => ?_)
    · refine J_iconst (pc' := 18) (v := 0) F dX6_in_17 (by decide) rfl ?_
      exact J_iretR F hR dX6_in_18 rfl (by show _ = zX6_in x0 x2 x4; unfold zX6_in; rw [if_neg c3, if_pos c10])
    · refine J_iconst (pc' := 14) (v := 1) F dX6_in_13 (by decide) rfl ?_
      refine J_goto (tgt := 18) F dX6_in_14 (by decide) ?_
      exact J_iretR F hR dX6_in_18 rfl (by show _ = zX6_in x0 x2 x4; unfold zX6_in; rw [if_neg c3, if_neg c10])
def zX6_kindBy  (x0 : Int32) : Int32 := if x0 = 98 then 0 else (if x0 = 110 then 1 else (if x0 = 102 then 2 else (if x0 = 104 then 3 else (if x0 = 100 then 4 else (-1)))))
abbrev rm_X6_kindBy : Room := { frames := 0, cells := 0, slots := 0, locals := 0 }
set_option maxHeartbeats 4000000 in
set_option maxRecDepth 100000 in
theorem c_X6_kindBy (l : Launch) (D : va_G) (cI cZ : ClassId) (z : Nat → Nat) (x0 : Int32)  : cRi l yX6_kindBy ww_X6_kindBy rm_X6_kindBy D cI cZ z [] [.int x0] (fun r => r = zX6_kindBy x0) := by
  refine cRi.of (cc := cX6_kindBy) (maxL := 1) (rt := .int) (by decide) rfl (Nat.le_of_ble_eq_true rfl) (fun X F E hR => ?_)
  refine J_lv [0] (lv' := [(0, .int x0)]) rfl ?_
  refine J_iload_n (pc' := 1) (q := 0) F dX6_kindBy_0 rfl rfl ?_
  refine J_bipush (pc' := 3) (v := 98) F dX6_kindBy_1 (by decide) rfl ?_
  refine J_icmp_ne (tgt := 10) (pc' := 6) F dX6_kindBy_3 (by decide) rfl (fun c3 => ?_) (fun c3 => ?_)
  · refine J_iload_n (pc' := 11) (q := 0) F dX6_kindBy_10 rfl rfl ?_
    refine J_bipush (pc' := 13) (v := 110) F dX6_kindBy_11 (by decide) rfl ?_
    refine J_icmp_ne (tgt := 20) (pc' := 16) F dX6_kindBy_13 (by decide) rfl (fun c13 => ?_) (fun c13 => ?_)
    · refine J_iload_n (pc' := 21) (q := 0) F dX6_kindBy_20 rfl rfl ?_
      refine J_bipush (pc' := 23) (v := 102) F dX6_kindBy_21 (by decide) rfl ?_
      refine J_icmp_ne (tgt := 30) (pc' := 26) F dX6_kindBy_23 (by decide) rfl (fun c23 => ?_) (fun c23 => ?_)
      · refine J_iload_n (pc' := 31) (q := 0) F dX6_kindBy_30 rfl rfl ?_
        refine J_bipush (pc' := 33) (v := 104) F dX6_kindBy_31 (by decide) rfl ?_
        refine J_icmp_ne (tgt := 40) (pc' := 36) F dX6_kindBy_33 (by decide) rfl (fun c33 => ?_) (fun c33 => ?_)
        · refine J_iload_n (pc' := 41) (q := 0) F dX6_kindBy_40 rfl rfl ?_
          refine J_bipush (pc' := 43) (v := 100) F dX6_kindBy_41 (by decide) rfl ?_
          refine J_icmp_ne (tgt := 50) (pc' := 46) F dX6_kindBy_43 (by decide) rfl (fun c43 => ?_) (fun c43 => ?_)
          · refine J_iconst (pc' := 51) (v := (-1)) F dX6_kindBy_50 (by decide) rfl ?_
            exact J_iretR F hR dX6_kindBy_51 rfl (by show _ = zX6_kindBy x0; unfold zX6_kindBy; rw [if_neg c3, if_neg c13, if_neg c23, if_neg c33, if_neg c43])
          · refine J_iconst (pc' := 47) (v := 4) F dX6_kindBy_46 (by decide) rfl ?_
            refine J_goto (tgt := 51) F dX6_kindBy_47 (by decide) ?_
            exact J_iretR F hR dX6_kindBy_51 rfl (by show _ = zX6_kindBy x0; unfold zX6_kindBy; rw [if_neg c3, if_neg c13, if_neg c23, if_neg c33, if_pos c43])
        · refine J_iconst (pc' := 37) (v := 3) F dX6_kindBy_36 (by decide) rfl ?_
          refine J_goto (tgt := 51) F dX6_kindBy_37 (by decide) ?_
          exact J_iretR F hR dX6_kindBy_51 rfl (by show _ = zX6_kindBy x0; unfold zX6_kindBy; rw [if_neg c3, if_neg c13, if_neg c23, if_pos c33])
      · refine J_iconst (pc' := 27) (v := 2) F dX6_kindBy_26 (by decide) rfl ?_
        refine J_goto (tgt := 51) F dX6_kindBy_27 (by decide) ?_
        exact J_iretR F hR dX6_kindBy_51 rfl (by show _ = zX6_kindBy x0; unfold zX6_kindBy; rw [if_neg c3, if_neg c13, if_pos c23])
    · refine J_iconst (pc' := 17) (v := 1) F dX6_kindBy_16 (by decide) rfl ?_
      refine J_goto (tgt := 51) F dX6_kindBy_17 (by decide) ?_
      exact J_iretR F hR dX6_kindBy_51 rfl (by show _ = zX6_kindBy x0; unfold zX6_kindBy; rw [if_neg c3, if_pos c13])
  · refine J_iconst (pc' := 7) (v := 0) F dX6_kindBy_6 (by decide) rfl ?_
    refine J_goto (tgt := 51) F dX6_kindBy_7 (by decide) ?_
    exact J_iretR F hR dX6_kindBy_51 rfl (by show _ = zX6_kindBy x0; unfold zX6_kindBy; rw [if_pos c3])
theorem zX6_in01 (a b c : Int64) : zX6_in a b c = 0 ∨ zX6_in a b c = 1 := by
  unfold zX6_in
  split
  · exact Or.inl rfl
  · split
    · exact Or.inl rfl
    · exact Or.inr rfl
def zX6_isGood  (x0 : Int32) (x1 : Int32) : Int32 := if x0 ≤ 10 then (if (x0 - x0 / 4 * 4) = 0 then (if (zX6_kindBy x1) = (-1) then 0 else 1) else (if (x0 - x0 / 4 * 4) = 3 then (if x1 = 44 then 1 else 0) else zX6_in (((x1 - 48) : Int32).toInt64) 0 3)) else (if x0 = 11 then (if x1 = 59 then 1 else 0) else (if (14 : Int32) ≤ x0 then 0 else (if (zX6_in (((x1 - 48) : Int32).toInt64) 0 9) = 0 then 0 else 1)))
abbrev rm_X6_isGood : Room := { frames := 1, cells := 0, slots := 0, locals := 25 }
set_option maxHeartbeats 4000000 in
set_option maxRecDepth 100000 in
theorem c_X6_isGood (l : Launch) (D : va_G) (cI cZ : ClassId) (z : Nat → Nat) (x0 : Int32) (x1 : Int32)  : cRi l yX6_isGood ww_X6_isGood rm_X6_isGood D cI cZ z [] [.int x0, .int x1] (fun r => r = zX6_isGood x0 x1) := by
  refine cRi.of (cc := cX6_isGood) (maxL := 3) (rt := .boolean) (by decide) rfl (Nat.le_of_ble_eq_true rfl) (fun X F E hR => ?_)
  refine J_lv [0, 1] (lv' := [(0, .int x0), (1, .int x1)]) rfl ?_
  refine J_iload_n (pc' := 1) (q := 0) F dX6_isGood_0 rfl rfl ?_
  refine J_bipush (pc' := 3) (v := 10) F dX6_isGood_1 (by decide) rfl ?_
  refine J_icmp_le (tgt := 53) (pc' := 6) F dX6_isGood_3 (by decide) rfl (fun c3 => ?_) (fun c3 => ?_)
  · refine J_iload_n (pc' := 54) (q := 0) F dX6_isGood_53 rfl rfl ?_
    refine J_iconst (pc' := 55) (v := 4) F dX6_isGood_54 (by decide) rfl ?_
    refine J_irem (pc' := 56) F dX6_isGood_55 (by decide) rfl ?_
    refine J_istore_n (pc' := 57) [1, 2, 0] [(0, .int x0), (1, .int x1), (2, .int (x0 - x0 / 4 * 4))] F dX6_isGood_56 rfl (jL_of E (show 2 < 3 by decide)) rfl rfl ?_
    refine J_iload_n (pc' := 58) (q := 2) F dX6_isGood_57 rfl rfl ?_
    refine J_if_ne (tgt := 77) (pc' := 61) F dX6_isGood_58 (by decide) rfl (fun c58 => ?_) (fun c58 => ?_)
    · refine J_iload_n (pc' := 78) (q := 2) F dX6_isGood_77 rfl rfl ?_
      refine J_iconst (pc' := 79) (v := 3) F dX6_isGood_78 (by decide) rfl ?_
      refine J_icmp_ne (tgt := 96) (pc' := 82) F dX6_isGood_79 (by decide) rfl (fun c79 => ?_) (fun c79 => ?_)
      · refine J_iload_n (pc' := 97) (q := 1) F dX6_isGood_96 rfl rfl ?_
        refine J_bipush (pc' := 99) (v := 48) F dX6_isGood_97 (by decide) rfl ?_
        refine J_isub (pc' := 100) F dX6_isGood_99 rfl ?_
        refine J_i2l (pc' := 101) (v := ((x1 - 48) : Int32).toInt64) F dX6_isGood_100 rfl rfl ?_
        refine J_lconst (pc' := 102) (v := 0) F dX6_isGood_101 (by decide) rfl ?_
        refine J_ldc2 (pc' := 105) (v := 3) F dX6_isGood_102 kw_704 rfl ?_
        refine J_goRie (wc := []) (av := [.long (((x1 - 48) : Int32).toInt64), .long 0, .long 3]) (rest := []) (v := zX6_in (((x1 - 48) : Int32).toInt64) 0 3) (pc' := 108) F E (fun _ _ => jP_nil _ _) (fun H locs hI hp => jrun_S F E (c_X6_in l D cI cZ z (((x1 - 48) : Int32).toInt64) 0 3) kw_682 kw_683 rfl kw_684 kw_7 oX6_in ⟨⟨rfl, rfl⟩, ⟨Nat.le_of_ble_eq_true rfl, Nat.le_of_ble_eq_true rfl⟩, Nat.zero_le _, Nat.zero_le _⟩ rfl (Nat.le_of_ble_eq_true rfl) dX6_isGood_105 hp) rfl ?_
        exact J_iretR F hR dX6_isGood_108 (jzb (zX6_in01 _ _ _)) (by show _ = zX6_isGood x0 x1; unfold zX6_isGood; rw [if_pos c3, if_neg c58, if_neg c79])
      · refine J_iload_n (pc' := 83) (q := 1) F dX6_isGood_82 rfl rfl ?_
        refine J_bipush (pc' := 85) (v := 44) F dX6_isGood_83 (by decide) rfl ?_
        refine J_icmp_ne (tgt := 92) (pc' := 88) F dX6_isGood_85 (by decide) rfl (fun c85 => ?_) (fun c85 => ?_)
        · refine J_iconst (pc' := 93) (v := 0) F dX6_isGood_92 (by decide) rfl ?_
          refine J_goto (tgt := 108) F dX6_isGood_93 (by decide) ?_
          exact J_iretR F hR dX6_isGood_108 rfl (by show _ = zX6_isGood x0 x1; unfold zX6_isGood; rw [if_pos c3, if_neg c58, if_pos c79, if_neg c85])
        · refine J_iconst (pc' := 89) (v := 1) F dX6_isGood_88 (by decide) rfl ?_
          refine J_goto (tgt := 108) F dX6_isGood_89 (by decide) ?_
          exact J_iretR F hR dX6_isGood_108 rfl (by show _ = zX6_isGood x0 x1; unfold zX6_isGood; rw [if_pos c3, if_neg c58, if_pos c79, if_pos c85])
    · refine J_iload_n (pc' := 62) (q := 1) F dX6_isGood_61 rfl rfl ?_
      refine J_goRie (wc := []) (av := [.int x1]) (rest := []) (v := zX6_kindBy x1) (pc' := 65) F E (fun _ _ => jP_nil _ _) (fun H locs hI hp => jrun_S F E (c_X6_kindBy l D cI cZ z x1) kw_701 kw_702 rfl kw_703 kw_7 oX6_kindBy ⟨⟨rfl, rfl⟩, ⟨Nat.le_of_ble_eq_true rfl, Nat.le_of_ble_eq_true rfl⟩, Nat.zero_le _, Nat.zero_le _⟩ rfl (Nat.le_of_ble_eq_true rfl) dX6_isGood_62 hp) rfl ?_
      refine J_iconst (pc' := 66) (v := (-1)) F dX6_isGood_65 (by decide) rfl ?_
      refine J_icmp_eq (tgt := 73) (pc' := 69) F dX6_isGood_66 (by decide) rfl (fun c66 => ?_) (fun c66 => ?_)
      · refine J_iconst (pc' := 74) (v := 0) F dX6_isGood_73 (by decide) rfl ?_
        refine J_goto (tgt := 108) F dX6_isGood_74 (by decide) ?_
        exact J_iretR F hR dX6_isGood_108 rfl (by show _ = zX6_isGood x0 x1; unfold zX6_isGood; rw [if_pos c3, if_pos c58, if_pos c66])
      · refine J_iconst (pc' := 70) (v := 1) F dX6_isGood_69 (by decide) rfl ?_
        refine J_goto (tgt := 108) F dX6_isGood_70 (by decide) ?_
        exact J_iretR F hR dX6_isGood_108 rfl (by show _ = zX6_isGood x0 x1; unfold zX6_isGood; rw [if_pos c3, if_pos c58, if_neg c66])
  · refine J_iload_n (pc' := 7) (q := 0) F dX6_isGood_6 rfl rfl ?_
    refine J_bipush (pc' := 9) (v := 11) F dX6_isGood_7 (by decide) rfl ?_
    refine J_icmp_ne (tgt := 26) (pc' := 12) F dX6_isGood_9 (by decide) rfl (fun c9 => ?_) (fun c9 => ?_)
    · refine J_iload_n (pc' := 27) (q := 0) F dX6_isGood_26 rfl rfl ?_
      refine J_bipush (pc' := 29) (v := 14) F dX6_isGood_27 (by decide) rfl ?_
      refine J_icmp_ge (tgt := 51) (pc' := 32) F dX6_isGood_29 (by decide) rfl (fun c29 => ?_) (fun c29 => ?_)
      · refine J_iconst (pc' := 52) (v := 0) F dX6_isGood_51 (by decide) rfl ?_
        exact J_iretR F hR dX6_isGood_52 rfl (by show _ = zX6_isGood x0 x1; unfold zX6_isGood; rw [if_neg c3, if_neg c9, if_pos c29])
      · refine J_iload_n (pc' := 33) (q := 1) F dX6_isGood_32 rfl rfl ?_
        refine J_bipush (pc' := 35) (v := 48) F dX6_isGood_33 (by decide) rfl ?_
        refine J_isub (pc' := 36) F dX6_isGood_35 rfl ?_
        refine J_i2l (pc' := 37) (v := ((x1 - 48) : Int32).toInt64) F dX6_isGood_36 rfl rfl ?_
        refine J_lconst (pc' := 38) (v := 0) F dX6_isGood_37 (by decide) rfl ?_
        refine J_ldc2 (pc' := 41) (v := 9) F dX6_isGood_38 kw_700 rfl ?_
        refine J_goRie (wc := []) (av := [.long (((x1 - 48) : Int32).toInt64), .long 0, .long 9]) (rest := []) (v := zX6_in (((x1 - 48) : Int32).toInt64) 0 9) (pc' := 44) F E (fun _ _ => jP_nil _ _) (fun H locs hI hp => jrun_S F E (c_X6_in l D cI cZ z (((x1 - 48) : Int32).toInt64) 0 9) kw_682 kw_683 rfl kw_684 kw_7 oX6_in ⟨⟨rfl, rfl⟩, ⟨Nat.le_of_ble_eq_true rfl, Nat.le_of_ble_eq_true rfl⟩, Nat.zero_le _, Nat.zero_le _⟩ rfl (Nat.le_of_ble_eq_true rfl) dX6_isGood_41 hp) rfl ?_
        refine J_if_eq (tgt := 51) (pc' := 47) F dX6_isGood_44 (by decide) rfl (fun c44 => ?_) (fun c44 => ?_)
        · refine J_iconst (pc' := 52) (v := 0) F dX6_isGood_51 (by decide) rfl ?_
          exact J_iretR F hR dX6_isGood_52 rfl (by show _ = zX6_isGood x0 x1; unfold zX6_isGood; rw [if_neg c3, if_neg c9, if_neg c29, if_pos c44])
        · refine J_iconst (pc' := 48) (v := 1) F dX6_isGood_47 (by decide) rfl ?_
          refine J_goto (tgt := 52) F dX6_isGood_48 (by decide) ?_
          exact J_iretR F hR dX6_isGood_52 rfl (by show _ = zX6_isGood x0 x1; unfold zX6_isGood; rw [if_neg c3, if_neg c9, if_neg c29, if_neg c44])
    · refine J_iload_n (pc' := 13) (q := 1) F dX6_isGood_12 rfl rfl ?_
      refine J_bipush (pc' := 15) (v := 59) F dX6_isGood_13 (by decide) rfl ?_
      refine J_icmp_ne (tgt := 22) (pc' := 18) F dX6_isGood_15 (by decide) rfl (fun c15 => ?_) (fun c15 => ?_)
      · refine J_iconst (pc' := 23) (v := 0) F dX6_isGood_22 (by decide) rfl ?_
        refine J_goto (tgt := 52) F dX6_isGood_23 (by decide) ?_
        exact J_iretR F hR dX6_isGood_52 rfl (by show _ = zX6_isGood x0 x1; unfold zX6_isGood; rw [if_neg c3, if_pos c9, if_neg c15])
      · refine J_iconst (pc' := 19) (v := 1) F dX6_isGood_18 (by decide) rfl ?_
        refine J_goto (tgt := 52) F dX6_isGood_19 (by decide) ?_
        exact J_iretR F hR dX6_isGood_52 rfl (by show _ = zX6_isGood x0 x1; unfold zX6_isGood; rw [if_neg c3, if_pos c9, if_pos c15])
def zX6_at  (x0 : Int32) (x1 : Int32) : Int32 := ((x0 : Int32) >>> (((2 * x1) : Int32) &&& 31)) &&& 3
abbrev rm_X6_at : Room := { frames := 0, cells := 0, slots := 0, locals := 0 }
set_option maxHeartbeats 4000000 in
set_option maxRecDepth 100000 in
theorem c_X6_at (l : Launch) (D : va_G) (cI cZ : ClassId) (z : Nat → Nat) (x0 : Int32) (x1 : Int32)  : cRi l yX6_at ww_X6_at rm_X6_at D cI cZ z [] [.int x0, .int x1] (fun r => r = zX6_at x0 x1) := by
  refine cRi.of (cc := cX6_at) (maxL := 2) (rt := .int) (by decide) rfl (Nat.le_of_ble_eq_true rfl) (fun X F E hR => ?_)
  refine J_lv [0, 1] (lv' := [(0, .int x0), (1, .int x1)]) rfl ?_
  refine J_iload_n (pc' := 1) (q := 0) F dX6_at_0 rfl rfl ?_
  refine J_iconst (pc' := 2) (v := 2) F dX6_at_1 (by decide) rfl ?_
  refine J_iload_n (pc' := 3) (q := 1) F dX6_at_2 rfl rfl ?_
  refine J_imul (pc' := 4) F dX6_at_3 rfl ?_
  refine J_ishr (pc' := 5) F dX6_at_4 rfl ?_
  refine J_iconst (pc' := 6) (v := 3) F dX6_at_5 (by decide) rfl ?_
  refine J_iand (pc' := 7) F dX6_at_6 rfl ?_
  exact J_iretR F hR dX6_at_7 rfl rfl
def zX6_tonsOf  (x0 : Int32) : Int32 := (((((0 + (zX6_at x0 0)) + (zX6_at x0 1)) + (zX6_at x0 2)) + (zX6_at x0 3)) + (zX6_at x0 4)) + (zX6_at x0 5)
abbrev rm_X6_tonsOf : Room := { frames := 1, cells := 0, slots := 0, locals := 21 }
set_option maxHeartbeats 4000000 in
set_option maxRecDepth 100000 in
theorem c_X6_tonsOf (l : Launch) (D : va_G) (cI cZ : ClassId) (z : Nat → Nat) (x0 : Int32)  : cRi l yX6_tonsOf ww_X6_tonsOf rm_X6_tonsOf D cI cZ z [] [.int x0] (fun r => r = zX6_tonsOf x0) := by
  refine cRi.of (cc := cX6_tonsOf) (maxL := 3) (rt := .int) (by decide) rfl (Nat.le_of_ble_eq_true rfl) (fun X F E hR => ?_)
  refine J_lv [0] (lv' := [(0, .int x0)]) rfl ?_
  refine J_iconst (pc' := 1) (v := 0) F dX6_tonsOf_0 (by decide) rfl ?_
  refine J_istore_n (pc' := 2) [1, 0] [(0, .int x0), (1, .int 0)] F dX6_tonsOf_1 rfl (jL_of E (show 1 < 3 by decide)) rfl rfl ?_
  refine J_iconst (pc' := 3) (v := 0) F dX6_tonsOf_2 (by decide) rfl ?_
  refine J_istore_n (pc' := 4) [1, 2, 0] [(0, .int x0), (1, .int 0), (2, .int 0)] F dX6_tonsOf_3 rfl (jL_of E (show 2 < 3 by decide)) rfl rfl ?_
  refine J_iload_n (pc' := 5) (q := 2) F dX6_tonsOf_4 rfl rfl ?_
  refine J_bipush (pc' := 7) (v := 6) F dX6_tonsOf_5 (by decide) rfl ?_
  refine J_icmp_ge (tgt := 24) (pc' := 10) F dX6_tonsOf_7 (by decide) rfl (fun c9 => absurd c9 (by decide)) (fun _ => ?_)
  refine J_iload_n (pc' := 11) (q := 1) F dX6_tonsOf_10 rfl rfl ?_
  refine J_iload_n (pc' := 12) (q := 0) F dX6_tonsOf_11 rfl rfl ?_
  refine J_iload_n (pc' := 13) (q := 2) F dX6_tonsOf_12 rfl rfl ?_
  refine J_goRie (wc := []) (av := [.int x0, .int 0]) (rest := [.int 0]) (v := zX6_at x0 0) (pc' := 16) F E (fun _ _ => jP_nil _ _) (fun H locs hI hp => jrun_S F E (c_X6_at l D cI cZ z x0 0) kw_712 kw_713 rfl kw_714 kw_7 oX6_at ⟨⟨rfl, rfl⟩, ⟨Nat.le_of_ble_eq_true rfl, Nat.le_of_ble_eq_true rfl⟩, Nat.zero_le _, Nat.zero_le _⟩ rfl (Nat.le_of_ble_eq_true rfl) dX6_tonsOf_13 hp) rfl ?_
  refine J_iadd (pc' := 17) F dX6_tonsOf_16 rfl ?_
  refine J_istore_n (pc' := 18) [1, 0, 2] [(0, .int x0), (1, .int (0 + (zX6_at x0 0))), (2, .int 0)] F dX6_tonsOf_17 rfl (jL_of E (show 1 < 3 by decide)) rfl rfl ?_
  refine J_iinc (v := 1) (q := 2) (pc' := 21) [1, 2, 0] [(0, .int x0), (1, .int (0 + (zX6_at x0 0))), (2, .int 1)] F dX6_tonsOf_18 rfl (by decide) (jL_of E (show 2 < 3 by decide)) rfl rfl ?_
  refine J_goto (tgt := 4) F dX6_tonsOf_21 (by decide) ?_
  refine J_iload_n (pc' := 5) (q := 2) F dX6_tonsOf_4 rfl rfl ?_
  refine J_bipush (pc' := 7) (v := 6) F dX6_tonsOf_5 (by decide) rfl ?_
  refine J_icmp_ge (tgt := 24) (pc' := 10) F dX6_tonsOf_7 (by decide) rfl (fun c9 => absurd c9 (by decide)) (fun _ => ?_)
  refine J_iload_n (pc' := 11) (q := 1) F dX6_tonsOf_10 rfl rfl ?_
  refine J_iload_n (pc' := 12) (q := 0) F dX6_tonsOf_11 rfl rfl ?_
  refine J_iload_n (pc' := 13) (q := 2) F dX6_tonsOf_12 rfl rfl ?_
  refine J_goRie (wc := []) (av := [.int x0, .int 1]) (rest := [.int (0 + (zX6_at x0 0))]) (v := zX6_at x0 1) (pc' := 16) F E (fun _ _ => jP_nil _ _) (fun H locs hI hp => jrun_S F E (c_X6_at l D cI cZ z x0 1) kw_712 kw_713 rfl kw_714 kw_7 oX6_at ⟨⟨rfl, rfl⟩, ⟨Nat.le_of_ble_eq_true rfl, Nat.le_of_ble_eq_true rfl⟩, Nat.zero_le _, Nat.zero_le _⟩ rfl (Nat.le_of_ble_eq_true rfl) dX6_tonsOf_13 hp) rfl ?_
  refine J_iadd (pc' := 17) F dX6_tonsOf_16 rfl ?_
  refine J_istore_n (pc' := 18) [1, 0, 2] [(0, .int x0), (1, .int ((0 + (zX6_at x0 0)) + (zX6_at x0 1))), (2, .int 1)] F dX6_tonsOf_17 rfl (jL_of E (show 1 < 3 by decide)) rfl rfl ?_
  refine J_iinc (v := 2) (q := 2) (pc' := 21) [1, 2, 0] [(0, .int x0), (1, .int ((0 + (zX6_at x0 0)) + (zX6_at x0 1))), (2, .int 2)] F dX6_tonsOf_18 rfl (by decide) (jL_of E (show 2 < 3 by decide)) rfl rfl ?_
  refine J_goto (tgt := 4) F dX6_tonsOf_21 (by decide) ?_
  refine J_iload_n (pc' := 5) (q := 2) F dX6_tonsOf_4 rfl rfl ?_
  refine J_bipush (pc' := 7) (v := 6) F dX6_tonsOf_5 (by decide) rfl ?_
  refine J_icmp_ge (tgt := 24) (pc' := 10) F dX6_tonsOf_7 (by decide) rfl (fun c9 => absurd c9 (by decide)) (fun _ => ?_)
  refine J_iload_n (pc' := 11) (q := 1) F dX6_tonsOf_10 rfl rfl ?_
  refine J_iload_n (pc' := 12) (q := 0) F dX6_tonsOf_11 rfl rfl ?_
  refine J_iload_n (pc' := 13) (q := 2) F dX6_tonsOf_12 rfl rfl ?_
  refine J_goRie (wc := []) (av := [.int x0, .int 2]) (rest := [.int ((0 + (zX6_at x0 0)) + (zX6_at x0 1))]) (v := zX6_at x0 2) (pc' := 16) F E (fun _ _ => jP_nil _ _) (fun H locs hI hp => jrun_S F E (c_X6_at l D cI cZ z x0 2) kw_712 kw_713 rfl kw_714 kw_7 oX6_at ⟨⟨rfl, rfl⟩, ⟨Nat.le_of_ble_eq_true rfl, Nat.le_of_ble_eq_true rfl⟩, Nat.zero_le _, Nat.zero_le _⟩ rfl (Nat.le_of_ble_eq_true rfl) dX6_tonsOf_13 hp) rfl ?_
  refine J_iadd (pc' := 17) F dX6_tonsOf_16 rfl ?_
  refine J_istore_n (pc' := 18) [1, 0, 2] [(0, .int x0), (1, .int (((0 + (zX6_at x0 0)) + (zX6_at x0 1)) + (zX6_at x0 2))), (2, .int 2)] F dX6_tonsOf_17 rfl (jL_of E (show 1 < 3 by decide)) rfl rfl ?_
  refine J_iinc (v := 3) (q := 2) (pc' := 21) [1, 2, 0] [(0, .int x0), (1, .int (((0 + (zX6_at x0 0)) + (zX6_at x0 1)) + (zX6_at x0 2))), (2, .int 3)] F dX6_tonsOf_18 rfl (by decide) (jL_of E (show 2 < 3 by decide)) rfl rfl ?_
  refine J_goto (tgt := 4) F dX6_tonsOf_21 (by decide) ?_
  refine J_iload_n (pc' := 5) (q := 2) F dX6_tonsOf_4 rfl rfl ?_
  refine J_bipush (pc' := 7) (v := 6) F dX6_tonsOf_5 (by decide) rfl ?_
  refine J_icmp_ge (tgt := 24) (pc' := 10) F dX6_tonsOf_7 (by decide) rfl (fun c9 => absurd c9 (by decide)) (fun _ => ?_)
  refine J_iload_n (pc' := 11) (q := 1) F dX6_tonsOf_10 rfl rfl ?_
  refine J_iload_n (pc' := 12) (q := 0) F dX6_tonsOf_11 rfl rfl ?_
  refine J_iload_n (pc' := 13) (q := 2) F dX6_tonsOf_12 rfl rfl ?_
  refine J_goRie (wc := []) (av := [.int x0, .int 3]) (rest := [.int (((0 + (zX6_at x0 0)) + (zX6_at x0 1)) + (zX6_at x0 2))]) (v := zX6_at x0 3) (pc' := 16) F E (fun _ _ => jP_nil _ _) (fun H locs hI hp => jrun_S F E (c_X6_at l D cI cZ z x0 3) kw_712 kw_713 rfl kw_714 kw_7 oX6_at ⟨⟨rfl, rfl⟩, ⟨Nat.le_of_ble_eq_true rfl, Nat.le_of_ble_eq_true rfl⟩, Nat.zero_le _, Nat.zero_le _⟩ rfl (Nat.le_of_ble_eq_true rfl) dX6_tonsOf_13 hp) rfl ?_
  refine J_iadd (pc' := 17) F dX6_tonsOf_16 rfl ?_
  refine J_istore_n (pc' := 18) [1, 0, 2] [(0, .int x0), (1, .int ((((0 + (zX6_at x0 0)) + (zX6_at x0 1)) + (zX6_at x0 2)) + (zX6_at x0 3))), (2, .int 3)] F dX6_tonsOf_17 rfl (jL_of E (show 1 < 3 by decide)) rfl rfl ?_
  refine J_iinc (v := 4) (q := 2) (pc' := 21) [1, 2, 0] [(0, .int x0), (1, .int ((((0 + (zX6_at x0 0)) + (zX6_at x0 1)) + (zX6_at x0 2)) + (zX6_at x0 3))), (2, .int 4)] F dX6_tonsOf_18 rfl (by decide) (jL_of E (show 2 < 3 by decide)) rfl rfl ?_
  refine J_goto (tgt := 4) F dX6_tonsOf_21 (by decide) ?_
  refine J_iload_n (pc' := 5) (q := 2) F dX6_tonsOf_4 rfl rfl ?_
  refine J_bipush (pc' := 7) (v := 6) F dX6_tonsOf_5 (by decide) rfl ?_
  refine J_icmp_ge (tgt := 24) (pc' := 10) F dX6_tonsOf_7 (by decide) rfl (fun c9 => absurd c9 (by decide)) (fun _ => ?_)
  refine J_iload_n (pc' := 11) (q := 1) F dX6_tonsOf_10 rfl rfl ?_
  refine J_iload_n (pc' := 12) (q := 0) F dX6_tonsOf_11 rfl rfl ?_
  refine J_iload_n (pc' := 13) (q := 2) F dX6_tonsOf_12 rfl rfl ?_
  refine J_goRie (wc := []) (av := [.int x0, .int 4]) (rest := [.int ((((0 + (zX6_at x0 0)) + (zX6_at x0 1)) + (zX6_at x0 2)) + (zX6_at x0 3))]) (v := zX6_at x0 4) (pc' := 16) F E (fun _ _ => jP_nil _ _) (fun H locs hI hp => jrun_S F E (c_X6_at l D cI cZ z x0 4) kw_712 kw_713 rfl kw_714 kw_7 oX6_at ⟨⟨rfl, rfl⟩, ⟨Nat.le_of_ble_eq_true rfl, Nat.le_of_ble_eq_true rfl⟩, Nat.zero_le _, Nat.zero_le _⟩ rfl (Nat.le_of_ble_eq_true rfl) dX6_tonsOf_13 hp) rfl ?_
  refine J_iadd (pc' := 17) F dX6_tonsOf_16 rfl ?_
  refine J_istore_n (pc' := 18) [1, 0, 2] [(0, .int x0), (1, .int (((((0 + (zX6_at x0 0)) + (zX6_at x0 1)) + (zX6_at x0 2)) + (zX6_at x0 3)) + (zX6_at x0 4))), (2, .int 4)] F dX6_tonsOf_17 rfl (jL_of E (show 1 < 3 by decide)) rfl rfl ?_
  refine J_iinc (v := 5) (q := 2) (pc' := 21) [1, 2, 0] [(0, .int x0), (1, .int (((((0 + (zX6_at x0 0)) + (zX6_at x0 1)) + (zX6_at x0 2)) + (zX6_at x0 3)) + (zX6_at x0 4))), (2, .int 5)] F dX6_tonsOf_18 rfl (by decide) (jL_of E (show 2 < 3 by decide)) rfl rfl ?_
  refine J_goto (tgt := 4) F dX6_tonsOf_21 (by decide) ?_
  refine J_iload_n (pc' := 5) (q := 2) F dX6_tonsOf_4 rfl rfl ?_
  refine J_bipush (pc' := 7) (v := 6) F dX6_tonsOf_5 (by decide) rfl ?_
  refine J_icmp_ge (tgt := 24) (pc' := 10) F dX6_tonsOf_7 (by decide) rfl (fun c9 => absurd c9 (by decide)) (fun _ => ?_)
  refine J_iload_n (pc' := 11) (q := 1) F dX6_tonsOf_10 rfl rfl ?_
  refine J_iload_n (pc' := 12) (q := 0) F dX6_tonsOf_11 rfl rfl ?_
  refine J_iload_n (pc' := 13) (q := 2) F dX6_tonsOf_12 rfl rfl ?_
  refine J_goRie (wc := []) (av := [.int x0, .int 5]) (rest := [.int (((((0 + (zX6_at x0 0)) + (zX6_at x0 1)) + (zX6_at x0 2)) + (zX6_at x0 3)) + (zX6_at x0 4))]) (v := zX6_at x0 5) (pc' := 16) F E (fun _ _ => jP_nil _ _) (fun H locs hI hp => jrun_S F E (c_X6_at l D cI cZ z x0 5) kw_712 kw_713 rfl kw_714 kw_7 oX6_at ⟨⟨rfl, rfl⟩, ⟨Nat.le_of_ble_eq_true rfl, Nat.le_of_ble_eq_true rfl⟩, Nat.zero_le _, Nat.zero_le _⟩ rfl (Nat.le_of_ble_eq_true rfl) dX6_tonsOf_13 hp) rfl ?_
  refine J_iadd (pc' := 17) F dX6_tonsOf_16 rfl ?_
  refine J_istore_n (pc' := 18) [1, 0, 2] [(0, .int x0), (1, .int ((((((0 + (zX6_at x0 0)) + (zX6_at x0 1)) + (zX6_at x0 2)) + (zX6_at x0 3)) + (zX6_at x0 4)) + (zX6_at x0 5))), (2, .int 5)] F dX6_tonsOf_17 rfl (jL_of E (show 1 < 3 by decide)) rfl rfl ?_
  refine J_iinc (v := 6) (q := 2) (pc' := 21) [1, 2, 0] [(0, .int x0), (1, .int ((((((0 + (zX6_at x0 0)) + (zX6_at x0 1)) + (zX6_at x0 2)) + (zX6_at x0 3)) + (zX6_at x0 4)) + (zX6_at x0 5))), (2, .int 6)] F dX6_tonsOf_18 rfl (by decide) (jL_of E (show 2 < 3 by decide)) rfl rfl ?_
  refine J_goto (tgt := 4) F dX6_tonsOf_21 (by decide) ?_
  refine J_iload_n (pc' := 5) (q := 2) F dX6_tonsOf_4 rfl rfl ?_
  refine J_bipush (pc' := 7) (v := 6) F dX6_tonsOf_5 (by decide) rfl ?_
  refine J_icmp_ge (tgt := 24) (pc' := 10) F dX6_tonsOf_7 (by decide) rfl (fun _ => ?_) (fun c9 => absurd (by decide) c9)
  refine J_iload_n (pc' := 25) (q := 1) F dX6_tonsOf_24 rfl rfl ?_
  exact J_iretR F hR dX6_tonsOf_25 rfl rfl
def zX6_unlike  (x0 : Int32) (x1 : Int32) : Int32 := if x0 ≤ x1 then x1 - x0 else x0 - x1
abbrev rm_X6_unlike : Room := { frames := 0, cells := 0, slots := 0, locals := 0 }
set_option maxHeartbeats 4000000 in
set_option maxRecDepth 100000 in
theorem c_X6_unlike (l : Launch) (D : va_G) (cI cZ : ClassId) (z : Nat → Nat) (x0 : Int32) (x1 : Int32)  : cRi l yX6_unlike ww_X6_unlike rm_X6_unlike D cI cZ z [] [.int x0, .int x1] (fun r => r = zX6_unlike x0 x1) := by
  refine cRi.of (cc := cX6_unlike) (maxL := 2) (rt := .int) (by decide) rfl (Nat.le_of_ble_eq_true rfl) (fun X F E hR => ?_)
  refine J_lv [0, 1] (lv' := [(0, .int x0), (1, .int x1)]) rfl ?_
  refine J_iload_n (pc' := 1) (q := 0) F dX6_unlike_0 rfl rfl ?_
  refine J_iload_n (pc' := 2) (q := 1) F dX6_unlike_1 rfl rfl ?_
  refine J_icmp_le (tgt := 11) (pc' := 5) F dX6_unlike_2 (by decide) rfl (fun c2 => ?_) (fun c2 => ?_)
  · refine J_iload_n (pc' := 12) (q := 1) F dX6_unlike_11 rfl rfl ?_
    refine J_iload_n (pc' := 13) (q := 0) F dX6_unlike_12 rfl rfl ?_
    refine J_isub (pc' := 14) F dX6_unlike_13 rfl ?_
    exact J_iretR F hR dX6_unlike_14 rfl (by show _ = zX6_unlike x0 x1; unfold zX6_unlike; rw [if_pos c2])
  · refine J_iload_n (pc' := 6) (q := 0) F dX6_unlike_5 rfl rfl ?_
    refine J_iload_n (pc' := 7) (q := 1) F dX6_unlike_6 rfl rfl ?_
    refine J_isub (pc' := 8) F dX6_unlike_7 rfl ?_
    refine J_goto (tgt := 14) F dX6_unlike_8 (by decide) ?_
    exact J_iretR F hR dX6_unlike_14 rfl (by show _ = zX6_unlike x0 x1; unfold zX6_unlike; rw [if_neg c2])
def zX6_bentOf  (x0 : Int32) : Int32 := zX6_unlike ((((zX6_at x0 0) + (zX6_at x0 1)) + (zX6_at x0 4)) + (zX6_at x0 5)) (2 * ((zX6_at x0 2) + (zX6_at x0 3)))
abbrev rm_X6_bentOf : Room := { frames := 1, cells := 0, slots := 0, locals := 21 }
set_option maxHeartbeats 4000000 in
set_option maxRecDepth 100000 in
theorem c_X6_bentOf (l : Launch) (D : va_G) (cI cZ : ClassId) (z : Nat → Nat) (x0 : Int32)  : cRi l yX6_bentOf ww_X6_bentOf rm_X6_bentOf D cI cZ z [] [.int x0] (fun r => r = zX6_bentOf x0) := by
  refine cRi.of (cc := cX6_bentOf) (maxL := 1) (rt := .int) (by decide) rfl (Nat.le_of_ble_eq_true rfl) (fun X F E hR => ?_)
  refine J_lv [0] (lv' := [(0, .int x0)]) rfl ?_
  refine J_iload_n (pc' := 1) (q := 0) F dX6_bentOf_0 rfl rfl ?_
  refine J_iconst (pc' := 2) (v := 0) F dX6_bentOf_1 (by decide) rfl ?_
  refine J_goRie (wc := []) (av := [.int x0, .int 0]) (rest := []) (v := zX6_at x0 0) (pc' := 5) F E (fun _ _ => jP_nil _ _) (fun H locs hI hp => jrun_S F E (c_X6_at l D cI cZ z x0 0) kw_712 kw_713 rfl kw_714 kw_7 oX6_at ⟨⟨rfl, rfl⟩, ⟨Nat.le_of_ble_eq_true rfl, Nat.le_of_ble_eq_true rfl⟩, Nat.zero_le _, Nat.zero_le _⟩ rfl (Nat.le_of_ble_eq_true rfl) dX6_bentOf_2 hp) rfl ?_
  refine J_iload_n (pc' := 6) (q := 0) F dX6_bentOf_5 rfl rfl ?_
  refine J_iconst (pc' := 7) (v := 1) F dX6_bentOf_6 (by decide) rfl ?_
  refine J_goRie (wc := []) (av := [.int x0, .int 1]) (rest := [.int (zX6_at x0 0)]) (v := zX6_at x0 1) (pc' := 10) F E (fun _ _ => jP_nil _ _) (fun H locs hI hp => jrun_S F E (c_X6_at l D cI cZ z x0 1) kw_712 kw_713 rfl kw_714 kw_7 oX6_at ⟨⟨rfl, rfl⟩, ⟨Nat.le_of_ble_eq_true rfl, Nat.le_of_ble_eq_true rfl⟩, Nat.zero_le _, Nat.zero_le _⟩ rfl (Nat.le_of_ble_eq_true rfl) dX6_bentOf_7 hp) rfl ?_
  refine J_iadd (pc' := 11) F dX6_bentOf_10 rfl ?_
  refine J_iload_n (pc' := 12) (q := 0) F dX6_bentOf_11 rfl rfl ?_
  refine J_iconst (pc' := 13) (v := 4) F dX6_bentOf_12 (by decide) rfl ?_
  refine J_goRie (wc := []) (av := [.int x0, .int 4]) (rest := [.int ((zX6_at x0 0) + (zX6_at x0 1))]) (v := zX6_at x0 4) (pc' := 16) F E (fun _ _ => jP_nil _ _) (fun H locs hI hp => jrun_S F E (c_X6_at l D cI cZ z x0 4) kw_712 kw_713 rfl kw_714 kw_7 oX6_at ⟨⟨rfl, rfl⟩, ⟨Nat.le_of_ble_eq_true rfl, Nat.le_of_ble_eq_true rfl⟩, Nat.zero_le _, Nat.zero_le _⟩ rfl (Nat.le_of_ble_eq_true rfl) dX6_bentOf_13 hp) rfl ?_
  refine J_iadd (pc' := 17) F dX6_bentOf_16 rfl ?_
  refine J_iload_n (pc' := 18) (q := 0) F dX6_bentOf_17 rfl rfl ?_
  refine J_iconst (pc' := 19) (v := 5) F dX6_bentOf_18 (by decide) rfl ?_
  refine J_goRie (wc := []) (av := [.int x0, .int 5]) (rest := [.int (((zX6_at x0 0) + (zX6_at x0 1)) + (zX6_at x0 4))]) (v := zX6_at x0 5) (pc' := 22) F E (fun _ _ => jP_nil _ _) (fun H locs hI hp => jrun_S F E (c_X6_at l D cI cZ z x0 5) kw_712 kw_713 rfl kw_714 kw_7 oX6_at ⟨⟨rfl, rfl⟩, ⟨Nat.le_of_ble_eq_true rfl, Nat.le_of_ble_eq_true rfl⟩, Nat.zero_le _, Nat.zero_le _⟩ rfl (Nat.le_of_ble_eq_true rfl) dX6_bentOf_19 hp) rfl ?_
  refine J_iadd (pc' := 23) F dX6_bentOf_22 rfl ?_
  refine J_iconst (pc' := 24) (v := 2) F dX6_bentOf_23 (by decide) rfl ?_
  refine J_iload_n (pc' := 25) (q := 0) F dX6_bentOf_24 rfl rfl ?_
  refine J_iconst (pc' := 26) (v := 2) F dX6_bentOf_25 (by decide) rfl ?_
  refine J_goRie (wc := []) (av := [.int x0, .int 2]) (rest := [.int 2, .int ((((zX6_at x0 0) + (zX6_at x0 1)) + (zX6_at x0 4)) + (zX6_at x0 5))]) (v := zX6_at x0 2) (pc' := 29) F E (fun _ _ => jP_nil _ _) (fun H locs hI hp => jrun_S F E (c_X6_at l D cI cZ z x0 2) kw_712 kw_713 rfl kw_714 kw_7 oX6_at ⟨⟨rfl, rfl⟩, ⟨Nat.le_of_ble_eq_true rfl, Nat.le_of_ble_eq_true rfl⟩, Nat.zero_le _, Nat.zero_le _⟩ rfl (Nat.le_of_ble_eq_true rfl) dX6_bentOf_26 hp) rfl ?_
  refine J_iload_n (pc' := 30) (q := 0) F dX6_bentOf_29 rfl rfl ?_
  refine J_iconst (pc' := 31) (v := 3) F dX6_bentOf_30 (by decide) rfl ?_
  refine J_goRie (wc := []) (av := [.int x0, .int 3]) (rest := [.int (zX6_at x0 2), .int 2, .int ((((zX6_at x0 0) + (zX6_at x0 1)) + (zX6_at x0 4)) + (zX6_at x0 5))]) (v := zX6_at x0 3) (pc' := 34) F E (fun _ _ => jP_nil _ _) (fun H locs hI hp => jrun_S F E (c_X6_at l D cI cZ z x0 3) kw_712 kw_713 rfl kw_714 kw_7 oX6_at ⟨⟨rfl, rfl⟩, ⟨Nat.le_of_ble_eq_true rfl, Nat.le_of_ble_eq_true rfl⟩, Nat.zero_le _, Nat.zero_le _⟩ rfl (Nat.le_of_ble_eq_true rfl) dX6_bentOf_31 hp) rfl ?_
  refine J_iadd (pc' := 35) F dX6_bentOf_34 rfl ?_
  refine J_imul (pc' := 36) F dX6_bentOf_35 rfl ?_
  refine J_goRie (wc := []) (av := [.int ((((zX6_at x0 0) + (zX6_at x0 1)) + (zX6_at x0 4)) + (zX6_at x0 5)), .int (2 * ((zX6_at x0 2) + (zX6_at x0 3)))]) (rest := []) (v := zX6_unlike ((((zX6_at x0 0) + (zX6_at x0 1)) + (zX6_at x0 4)) + (zX6_at x0 5)) (2 * ((zX6_at x0 2) + (zX6_at x0 3)))) (pc' := 39) F E (fun _ _ => jP_nil _ _) (fun H locs hI hp => jrun_S F E (c_X6_unlike l D cI cZ z ((((zX6_at x0 0) + (zX6_at x0 1)) + (zX6_at x0 4)) + (zX6_at x0 5)) (2 * ((zX6_at x0 2) + (zX6_at x0 3)))) kw_748 kw_749 rfl kw_750 kw_7 oX6_unlike ⟨⟨rfl, rfl⟩, ⟨Nat.le_of_ble_eq_true rfl, Nat.le_of_ble_eq_true rfl⟩, Nat.zero_le _, Nat.zero_le _⟩ rfl (Nat.le_of_ble_eq_true rfl) dX6_bentOf_36 hp) rfl ?_
  exact J_iretR F hR dX6_bentOf_39 rfl rfl
def zX6_listingOf  (x0 : Int32) : Int32 := zX6_unlike (((zX6_at x0 0) + (zX6_at x0 2)) + (zX6_at x0 4)) (((zX6_at x0 1) + (zX6_at x0 3)) + (zX6_at x0 5))
abbrev rm_X6_listingOf : Room := { frames := 1, cells := 0, slots := 0, locals := 21 }
set_option maxHeartbeats 4000000 in
set_option maxRecDepth 100000 in
theorem c_X6_listingOf (l : Launch) (D : va_G) (cI cZ : ClassId) (z : Nat → Nat) (x0 : Int32)  : cRi l yX6_listingOf ww_X6_listingOf rm_X6_listingOf D cI cZ z [] [.int x0] (fun r => r = zX6_listingOf x0) := by
  refine cRi.of (cc := cX6_listingOf) (maxL := 1) (rt := .int) (by decide) rfl (Nat.le_of_ble_eq_true rfl) (fun X F E hR => ?_)
  refine J_lv [0] (lv' := [(0, .int x0)]) rfl ?_
  refine J_iload_n (pc' := 1) (q := 0) F dX6_listingOf_0 rfl rfl ?_
  refine J_iconst (pc' := 2) (v := 0) F dX6_listingOf_1 (by decide) rfl ?_
  refine J_goRie (wc := []) (av := [.int x0, .int 0]) (rest := []) (v := zX6_at x0 0) (pc' := 5) F E (fun _ _ => jP_nil _ _) (fun H locs hI hp => jrun_S F E (c_X6_at l D cI cZ z x0 0) kw_712 kw_713 rfl kw_714 kw_7 oX6_at ⟨⟨rfl, rfl⟩, ⟨Nat.le_of_ble_eq_true rfl, Nat.le_of_ble_eq_true rfl⟩, Nat.zero_le _, Nat.zero_le _⟩ rfl (Nat.le_of_ble_eq_true rfl) dX6_listingOf_2 hp) rfl ?_
  refine J_iload_n (pc' := 6) (q := 0) F dX6_listingOf_5 rfl rfl ?_
  refine J_iconst (pc' := 7) (v := 2) F dX6_listingOf_6 (by decide) rfl ?_
  refine J_goRie (wc := []) (av := [.int x0, .int 2]) (rest := [.int (zX6_at x0 0)]) (v := zX6_at x0 2) (pc' := 10) F E (fun _ _ => jP_nil _ _) (fun H locs hI hp => jrun_S F E (c_X6_at l D cI cZ z x0 2) kw_712 kw_713 rfl kw_714 kw_7 oX6_at ⟨⟨rfl, rfl⟩, ⟨Nat.le_of_ble_eq_true rfl, Nat.le_of_ble_eq_true rfl⟩, Nat.zero_le _, Nat.zero_le _⟩ rfl (Nat.le_of_ble_eq_true rfl) dX6_listingOf_7 hp) rfl ?_
  refine J_iadd (pc' := 11) F dX6_listingOf_10 rfl ?_
  refine J_iload_n (pc' := 12) (q := 0) F dX6_listingOf_11 rfl rfl ?_
  refine J_iconst (pc' := 13) (v := 4) F dX6_listingOf_12 (by decide) rfl ?_
  refine J_goRie (wc := []) (av := [.int x0, .int 4]) (rest := [.int ((zX6_at x0 0) + (zX6_at x0 2))]) (v := zX6_at x0 4) (pc' := 16) F E (fun _ _ => jP_nil _ _) (fun H locs hI hp => jrun_S F E (c_X6_at l D cI cZ z x0 4) kw_712 kw_713 rfl kw_714 kw_7 oX6_at ⟨⟨rfl, rfl⟩, ⟨Nat.le_of_ble_eq_true rfl, Nat.le_of_ble_eq_true rfl⟩, Nat.zero_le _, Nat.zero_le _⟩ rfl (Nat.le_of_ble_eq_true rfl) dX6_listingOf_13 hp) rfl ?_
  refine J_iadd (pc' := 17) F dX6_listingOf_16 rfl ?_
  refine J_iload_n (pc' := 18) (q := 0) F dX6_listingOf_17 rfl rfl ?_
  refine J_iconst (pc' := 19) (v := 1) F dX6_listingOf_18 (by decide) rfl ?_
  refine J_goRie (wc := []) (av := [.int x0, .int 1]) (rest := [.int (((zX6_at x0 0) + (zX6_at x0 2)) + (zX6_at x0 4))]) (v := zX6_at x0 1) (pc' := 22) F E (fun _ _ => jP_nil _ _) (fun H locs hI hp => jrun_S F E (c_X6_at l D cI cZ z x0 1) kw_712 kw_713 rfl kw_714 kw_7 oX6_at ⟨⟨rfl, rfl⟩, ⟨Nat.le_of_ble_eq_true rfl, Nat.le_of_ble_eq_true rfl⟩, Nat.zero_le _, Nat.zero_le _⟩ rfl (Nat.le_of_ble_eq_true rfl) dX6_listingOf_19 hp) rfl ?_
  refine J_iload_n (pc' := 23) (q := 0) F dX6_listingOf_22 rfl rfl ?_
  refine J_iconst (pc' := 24) (v := 3) F dX6_listingOf_23 (by decide) rfl ?_
  refine J_goRie (wc := []) (av := [.int x0, .int 3]) (rest := [.int (zX6_at x0 1), .int (((zX6_at x0 0) + (zX6_at x0 2)) + (zX6_at x0 4))]) (v := zX6_at x0 3) (pc' := 27) F E (fun _ _ => jP_nil _ _) (fun H locs hI hp => jrun_S F E (c_X6_at l D cI cZ z x0 3) kw_712 kw_713 rfl kw_714 kw_7 oX6_at ⟨⟨rfl, rfl⟩, ⟨Nat.le_of_ble_eq_true rfl, Nat.le_of_ble_eq_true rfl⟩, Nat.zero_le _, Nat.zero_le _⟩ rfl (Nat.le_of_ble_eq_true rfl) dX6_listingOf_24 hp) rfl ?_
  refine J_iadd (pc' := 28) F dX6_listingOf_27 rfl ?_
  refine J_iload_n (pc' := 29) (q := 0) F dX6_listingOf_28 rfl rfl ?_
  refine J_iconst (pc' := 30) (v := 5) F dX6_listingOf_29 (by decide) rfl ?_
  refine J_goRie (wc := []) (av := [.int x0, .int 5]) (rest := [.int ((zX6_at x0 1) + (zX6_at x0 3)), .int (((zX6_at x0 0) + (zX6_at x0 2)) + (zX6_at x0 4))]) (v := zX6_at x0 5) (pc' := 33) F E (fun _ _ => jP_nil _ _) (fun H locs hI hp => jrun_S F E (c_X6_at l D cI cZ z x0 5) kw_712 kw_713 rfl kw_714 kw_7 oX6_at ⟨⟨rfl, rfl⟩, ⟨Nat.le_of_ble_eq_true rfl, Nat.le_of_ble_eq_true rfl⟩, Nat.zero_le _, Nat.zero_le _⟩ rfl (Nat.le_of_ble_eq_true rfl) dX6_listingOf_30 hp) rfl ?_
  refine J_iadd (pc' := 34) F dX6_listingOf_33 rfl ?_
  refine J_goRie (wc := []) (av := [.int (((zX6_at x0 0) + (zX6_at x0 2)) + (zX6_at x0 4)), .int (((zX6_at x0 1) + (zX6_at x0 3)) + (zX6_at x0 5))]) (rest := []) (v := zX6_unlike (((zX6_at x0 0) + (zX6_at x0 2)) + (zX6_at x0 4)) (((zX6_at x0 1) + (zX6_at x0 3)) + (zX6_at x0 5))) (pc' := 37) F E (fun _ _ => jP_nil _ _) (fun H locs hI hp => jrun_S F E (c_X6_unlike l D cI cZ z (((zX6_at x0 0) + (zX6_at x0 2)) + (zX6_at x0 4)) (((zX6_at x0 1) + (zX6_at x0 3)) + (zX6_at x0 5))) kw_748 kw_749 rfl kw_750 kw_7 oX6_unlike ⟨⟨rfl, rfl⟩, ⟨Nat.le_of_ble_eq_true rfl, Nat.le_of_ble_eq_true rfl⟩, Nat.zero_le _, Nat.zero_le _⟩ rfl (Nat.le_of_ble_eq_true rfl) dX6_listingOf_34 hp) rfl ?_
  exact J_iretR F hR dX6_listingOf_37 rfl rfl
def zX6_isAct  (x0 : Int32) : Int32 := if (zX6_in ((x0 : Int32).toInt64) 0 41) = 0 then 0 else (if x0 < 6 then 1 else (if (((x0 / 6) - 1) / 2) = ((x0 - x0 / 6 * 6) / 2) then (if ((x0 / 6) - 1) = (x0 - x0 / 6 * 6) then (if (zX6_unlike ((x0 / 6) - 1) (x0 - x0 / 6 * 6)) = 2 then 1 else 0) else 1) else (if (zX6_unlike ((x0 / 6) - 1) (x0 - x0 / 6 * 6)) = 2 then 1 else 0)))
abbrev rm_X6_isAct : Room := { frames := 1, cells := 0, slots := 0, locals := 25 }
set_option maxHeartbeats 4000000 in
set_option maxRecDepth 100000 in
theorem c_X6_isAct (l : Launch) (D : va_G) (cI cZ : ClassId) (z : Nat → Nat) (x0 : Int32)  : cRi l yX6_isAct ww_X6_isAct rm_X6_isAct D cI cZ z [] [.int x0] (fun r => r = zX6_isAct x0) := by
  refine cRi.of (cc := cX6_isAct) (maxL := 3) (rt := .boolean) (by decide) rfl (Nat.le_of_ble_eq_true rfl) (fun X F E hR => ?_)
  refine J_lv [0] (lv' := [(0, .int x0)]) rfl ?_
  refine J_iload_n (pc' := 1) (q := 0) F dX6_isAct_0 rfl rfl ?_
  refine J_i2l (pc' := 2) (v := (x0 : Int32).toInt64) F dX6_isAct_1 rfl rfl ?_
  refine J_lconst (pc' := 3) (v := 0) F dX6_isAct_2 (by decide) rfl ?_
  refine J_ldc2 (pc' := 6) (v := 41) F dX6_isAct_3 kw_769 rfl ?_
  refine J_goRie (wc := []) (av := [.long ((x0 : Int32).toInt64), .long 0, .long 41]) (rest := []) (v := zX6_in ((x0 : Int32).toInt64) 0 41) (pc' := 9) F E (fun _ _ => jP_nil _ _) (fun H locs hI hp => jrun_S F E (c_X6_in l D cI cZ z ((x0 : Int32).toInt64) 0 41) kw_682 kw_683 rfl kw_684 kw_7 oX6_in ⟨⟨rfl, rfl⟩, ⟨Nat.le_of_ble_eq_true rfl, Nat.le_of_ble_eq_true rfl⟩, Nat.zero_le _, Nat.zero_le _⟩ rfl (Nat.le_of_ble_eq_true rfl) dX6_isAct_6 hp) rfl ?_
  refine J_if_ne (tgt := 14) (pc' := 12) F dX6_isAct_9 (by decide) rfl (fun c9 => ?_) (fun c9 => ?_)
  · refine J_iload_n (pc' := 15) (q := 0) F dX6_isAct_14 rfl rfl ?_
    refine J_bipush (pc' := 17) (v := 6) F dX6_isAct_15 (by decide) rfl ?_
    refine J_idiv (pc' := 18) F dX6_isAct_17 (by decide) rfl ?_
    refine J_iconst (pc' := 19) (v := 1) F dX6_isAct_18 (by decide) rfl ?_
    refine J_isub (pc' := 20) F dX6_isAct_19 rfl ?_
    refine J_istore_n (pc' := 21) [1, 0] [(0, .int x0), (1, .int ((x0 / 6) - 1))] F dX6_isAct_20 rfl (jL_of E (show 1 < 3 by decide)) rfl rfl ?_
    refine J_iload_n (pc' := 22) (q := 0) F dX6_isAct_21 rfl rfl ?_
    refine J_bipush (pc' := 24) (v := 6) F dX6_isAct_22 (by decide) rfl ?_
    refine J_irem (pc' := 25) F dX6_isAct_24 (by decide) rfl ?_
    refine J_istore_n (pc' := 26) [1, 2, 0] [(0, .int x0), (1, .int ((x0 / 6) - 1)), (2, .int (x0 - x0 / 6 * 6))] F dX6_isAct_25 rfl (jL_of E (show 2 < 3 by decide)) rfl rfl ?_
    refine J_iload_n (pc' := 27) (q := 0) F dX6_isAct_26 rfl rfl ?_
    refine J_bipush (pc' := 29) (v := 6) F dX6_isAct_27 (by decide) rfl ?_
    refine J_icmp_lt (tgt := 55) (pc' := 32) F dX6_isAct_29 (by decide) rfl (fun c29 => ?_) (fun c29 => ?_)
    · refine J_iconst (pc' := 56) (v := 1) F dX6_isAct_55 (by decide) rfl ?_
      refine J_goto (tgt := 60) F dX6_isAct_56 (by decide) ?_
      exact J_iretR F hR dX6_isAct_60 rfl (by show _ = zX6_isAct x0; unfold zX6_isAct; rw [if_neg c9, if_pos c29])
    · refine J_iload_n (pc' := 33) (q := 1) F dX6_isAct_32 rfl rfl ?_
      refine J_iconst (pc' := 34) (v := 2) F dX6_isAct_33 (by decide) rfl ?_
      refine J_idiv (pc' := 35) F dX6_isAct_34 (by decide) rfl ?_
      refine J_iload_n (pc' := 36) (q := 2) F dX6_isAct_35 rfl rfl ?_
      refine J_iconst (pc' := 37) (v := 2) F dX6_isAct_36 (by decide) rfl ?_
      refine J_idiv (pc' := 38) F dX6_isAct_37 (by decide) rfl ?_
      refine J_icmp_ne (tgt := 46) (pc' := 41) F dX6_isAct_38 (by decide) rfl (fun c38 => ?_) (fun c38 => ?_)
      · refine J_iload_n (pc' := 47) (q := 1) F dX6_isAct_46 rfl rfl ?_
        refine J_iload_n (pc' := 48) (q := 2) F dX6_isAct_47 rfl rfl ?_
        refine J_goRie (wc := []) (av := [.int ((x0 / 6) - 1), .int (x0 - x0 / 6 * 6)]) (rest := []) (v := zX6_unlike ((x0 / 6) - 1) (x0 - x0 / 6 * 6)) (pc' := 51) F E (fun _ _ => jP_nil _ _) (fun H locs hI hp => jrun_S F E (c_X6_unlike l D cI cZ z ((x0 / 6) - 1) (x0 - x0 / 6 * 6)) kw_748 kw_749 rfl kw_750 kw_7 oX6_unlike ⟨⟨rfl, rfl⟩, ⟨Nat.le_of_ble_eq_true rfl, Nat.le_of_ble_eq_true rfl⟩, Nat.zero_le _, Nat.zero_le _⟩ rfl (Nat.le_of_ble_eq_true rfl) dX6_isAct_48 hp) rfl ?_
        refine J_iconst (pc' := 52) (v := 2) F dX6_isAct_51 (by decide) rfl ?_
        refine J_icmp_ne (tgt := 59) (pc' := 55) F dX6_isAct_52 (by decide) rfl (fun c52 => ?_) (fun c52 => ?_)
        · refine J_iconst (pc' := 60) (v := 0) F dX6_isAct_59 (by decide) rfl ?_
          exact J_iretR F hR dX6_isAct_60 rfl (by show _ = zX6_isAct x0; unfold zX6_isAct; rw [if_neg c9, if_neg c29, if_neg c38, if_neg c52])
        · refine J_iconst (pc' := 56) (v := 1) F dX6_isAct_55 (by decide) rfl ?_
          refine J_goto (tgt := 60) F dX6_isAct_56 (by decide) ?_
          exact J_iretR F hR dX6_isAct_60 rfl (by show _ = zX6_isAct x0; unfold zX6_isAct; rw [if_neg c9, if_neg c29, if_neg c38, if_pos c52])
      · refine J_iload_n (pc' := 42) (q := 1) F dX6_isAct_41 rfl rfl ?_
        refine J_iload_n (pc' := 43) (q := 2) F dX6_isAct_42 rfl rfl ?_
        refine J_icmp_ne (tgt := 55) (pc' := 46) F dX6_isAct_43 (by decide) rfl (fun c43 => ?_) (fun c43 => ?_)
        · refine J_iconst (pc' := 56) (v := 1) F dX6_isAct_55 (by decide) rfl ?_
          refine J_goto (tgt := 60) F dX6_isAct_56 (by decide) ?_
          exact J_iretR F hR dX6_isAct_60 rfl (by show _ = zX6_isAct x0; unfold zX6_isAct; rw [if_neg c9, if_neg c29, if_pos c38, if_neg c43])
        · refine J_iload_n (pc' := 47) (q := 1) F dX6_isAct_46 rfl rfl ?_
          refine J_iload_n (pc' := 48) (q := 2) F dX6_isAct_47 rfl rfl ?_
          refine J_goRie (wc := []) (av := [.int ((x0 / 6) - 1), .int (x0 - x0 / 6 * 6)]) (rest := []) (v := zX6_unlike ((x0 / 6) - 1) (x0 - x0 / 6 * 6)) (pc' := 51) F E (fun _ _ => jP_nil _ _) (fun H locs hI hp => jrun_S F E (c_X6_unlike l D cI cZ z ((x0 / 6) - 1) (x0 - x0 / 6 * 6)) kw_748 kw_749 rfl kw_750 kw_7 oX6_unlike ⟨⟨rfl, rfl⟩, ⟨Nat.le_of_ble_eq_true rfl, Nat.le_of_ble_eq_true rfl⟩, Nat.zero_le _, Nat.zero_le _⟩ rfl (Nat.le_of_ble_eq_true rfl) dX6_isAct_48 hp) rfl ?_
          refine J_iconst (pc' := 52) (v := 2) F dX6_isAct_51 (by decide) rfl ?_
          refine J_icmp_ne (tgt := 59) (pc' := 55) F dX6_isAct_52 (by decide) rfl (fun c52_2 => ?_) (fun c52_2 => ?_)
          · refine J_iconst (pc' := 60) (v := 0) F dX6_isAct_59 (by decide) rfl ?_
            exact J_iretR F hR dX6_isAct_60 rfl (by show _ = zX6_isAct x0; unfold zX6_isAct; rw [if_neg c9, if_neg c29, if_pos c38, if_pos c43, if_neg c52_2])
          · refine J_iconst (pc' := 56) (v := 1) F dX6_isAct_55 (by decide) rfl ?_
            refine J_goto (tgt := 60) F dX6_isAct_56 (by decide) ?_
            exact J_iretR F hR dX6_isAct_60 rfl (by show _ = zX6_isAct x0; unfold zX6_isAct; rw [if_neg c9, if_neg c29, if_pos c38, if_pos c43, if_pos c52_2])
  · refine J_iconst (pc' := 13) (v := 0) F dX6_isAct_12 (by decide) rfl ?_
    exact J_iretR F hR dX6_isAct_13 rfl (by show _ = zX6_isAct x0; unfold zX6_isAct; rw [if_pos c9])
