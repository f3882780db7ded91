/-! the class: what reads alone, as functions -/
def zX5_isOfForm  (x0 : Int32) (x1 : Int32) : Int32 := if x0 < 0 then 0 else (if x0 < 14 then (if (zJ0_charAt_5068e x0) = 107 then (if (zJ0_indexOf_0f7a4 (((x1 : Int32).toUInt32 % 65536).toInt32)) < 0 then 0 else 1) else (if (zJ0_charAt_5068e x0) < 48 then (if x1 = (zJ0_charAt_5068e x0) then 1 else 0) else (if (57 : Int32) < (zJ0_charAt_5068e x0) then (if x1 = (zJ0_charAt_5068e x0) then 1 else 0) else (if x1 < 48 then 0 else (if (zJ0_charAt_5068e x0) < x1 then 0 else 1))))) else 0)
abbrev rm_X5_isOfForm : Room := { frames := 4, cells := 0, slots := 0, locals := 91 }
set_option maxHeartbeats 4000000 in
set_option maxRecDepth 100000 in
theorem c_X5_isOfForm (l : Launch) (D : va_G) (cI cZ : ClassId) (z : Nat → Nat) (x0 : Int32) (x1 : Int32)  : cRi l yX5_isOfForm ww_X5_isOfForm rm_X5_isOfForm D cI cZ z [] [.int x0, .int x1] (fun r => r = zX5_isOfForm x0 x1) := by
  refine cRi.of (cc := cX5_isOfForm) (maxL := 3) (rt := .boolean) (by decide) rfl (Nat.le_of_ble_eq_true rfl) (fun X F E hR => ?_)
  refine J_lv [0, 1] (lv' := [(0, .int x0), (1, .int x1)]) rfl ?_
  refine J_iload_n (pc' := 1) (q := 0) F dX5_isOfForm_0 rfl rfl ?_
  refine J_if_lt (tgt := 13) (pc' := 4) F dX5_isOfForm_1 (by decide) rfl (fun c1 => ?_) (fun c1 => ?_)
  · refine J_iconst (pc' := 14) (v := 0) F dX5_isOfForm_13 (by decide) rfl ?_
    exact J_iretR F hR dX5_isOfForm_14 rfl (by show _ = zX5_isOfForm x0 x1; unfold zX5_isOfForm; rw [if_pos c1])
  · refine J_iload_n (pc' := 5) (q := 0) F dX5_isOfForm_4 rfl rfl ?_
    refine J_ldcS (pc' := 7) F dX5_isOfForm_5 (fun _ _ _ h => h.2.2.2.2.2.2.2.2.1) rfl ?_
    refine J_goRie (wc := []) (av := [.ref (z 3)]) (rest := [.int x0]) (v := 14) (pc' := 10) F E (fun _ _ => jP_nil _ _) (fun H locs hI hp => jrun_VS (i := 0) (As := []) F E (c_J0_length_3 l D cI cZ z ) kw_215 kw_216 kw_217 rfl kw_218 kw_8 oJ0_length_8abf5 ⟨⟨rfl, rfl⟩, ⟨Nat.le_of_ble_eq_true rfl, Nat.le_of_ble_eq_true rfl⟩, Nat.zero_le _, Nat.zero_le _⟩ (by decide) rfl rfl (Nat.le_of_ble_eq_true rfl) dX5_isOfForm_7 hI hp) rfl ?_
    refine J_icmp_lt (tgt := 15) (pc' := 13) F dX5_isOfForm_10 (by decide) rfl (fun c10 => ?_) (fun c10 => ?_)
    · refine J_ldcS (pc' := 17) F dX5_isOfForm_15 (fun _ _ _ h => h.2.2.2.2.2.2.2.2.1) rfl ?_
      refine J_iload_n (pc' := 18) (q := 0) F dX5_isOfForm_17 rfl rfl ?_
      refine J_goRie (wc := []) (av := [.ref (z 3), .int x0]) (rest := []) (v := zJ0_charAt_5068e x0) (pc' := 21) F E (fun _ _ => jP_nil _ _) (fun H locs hI hp => jrun_VS (i := 0) (As := [.int x0]) F E (c_J0_charAt_5068e l D cI cZ z x0 c1 c10) kw_225 kw_226 kw_227 rfl kw_228 kw_8 oJ0_charAt_5068e ⟨⟨rfl, rfl⟩, ⟨Nat.le_of_ble_eq_true rfl, Nat.le_of_ble_eq_true rfl⟩, Nat.zero_le _, Nat.zero_le _⟩ (by decide) rfl rfl (Nat.le_of_ble_eq_true rfl) dX5_isOfForm_18 hI hp) rfl ?_
      refine J_istore_n (pc' := 22) [1, 2, 0] [(0, .int x0), (1, .int x1), (2, .int (zJ0_charAt_5068e x0))] F dX5_isOfForm_21 rfl (jL_of E (show 2 < 3 by decide)) rfl rfl ?_
      refine J_iload_n (pc' := 23) (q := 2) F dX5_isOfForm_22 rfl rfl ?_
      refine J_bipush (pc' := 25) (v := 107) F dX5_isOfForm_23 (by decide) rfl ?_
      refine J_icmp_ne (tgt := 44) (pc' := 28) F dX5_isOfForm_25 (by decide) rfl (fun c25 => ?_) (fun c25 => ?_)
      · refine J_iload_n (pc' := 45) (q := 2) F dX5_isOfForm_44 rfl rfl ?_
        refine J_bipush (pc' := 47) (v := 48) F dX5_isOfForm_45 (by decide) rfl ?_
        refine J_icmp_lt (tgt := 73) (pc' := 50) F dX5_isOfForm_47 (by decide) rfl (fun c47 => ?_) (fun c47 => ?_)
        · refine J_iload_n (pc' := 74) (q := 1) F dX5_isOfForm_73 rfl rfl ?_
          refine J_iload_n (pc' := 75) (q := 2) F dX5_isOfForm_74 rfl rfl ?_
          refine J_icmp_ne (tgt := 82) (pc' := 78) F dX5_isOfForm_75 (by decide) rfl (fun c75 => ?_) (fun c75 => ?_)
          · refine J_iconst (pc' := 83) (v := 0) F dX5_isOfForm_82 (by decide) rfl ?_
            exact J_iretR F hR dX5_isOfForm_83 rfl (by show _ = zX5_isOfForm x0 x1; unfold zX5_isOfForm; rw [if_neg c1, if_pos c10, if_neg c25, if_pos c47, if_neg c75])
          · refine J_iconst (pc' := 79) (v := 1) F dX5_isOfForm_78 (by decide) rfl ?_
            refine J_goto (tgt := 83) F dX5_isOfForm_79 (by decide) ?_
            exact J_iretR F hR dX5_isOfForm_83 rfl (by show _ = zX5_isOfForm x0 x1; unfold zX5_isOfForm; rw [if_neg c1, if_pos c10, if_neg c25, if_pos c47, if_pos c75])
        · refine J_iload_n (pc' := 51) (q := 2) F dX5_isOfForm_50 rfl rfl ?_
          refine J_bipush (pc' := 53) (v := 57) F dX5_isOfForm_51 (by decide) rfl ?_
          refine J_icmp_gt (tgt := 73) (pc' := 56) F dX5_isOfForm_53 (by decide) rfl (fun c53 => ?_) (fun c53 => ?_)
          · refine J_iload_n (pc' := 74) (q := 1) F dX5_isOfForm_73 rfl rfl ?_
            refine J_iload_n (pc' := 75) (q := 2) F dX5_isOfForm_74 rfl rfl ?_
            refine J_icmp_ne (tgt := 82) (pc' := 78) F dX5_isOfForm_75 (by decide) rfl (fun c75_2 => ?_) (fun c75_2 => ?_)
            · refine J_iconst (pc' := 83) (v := 0) F dX5_isOfForm_82 (by decide) rfl ?_
              exact J_iretR F hR dX5_isOfForm_83 rfl (by show _ = zX5_isOfForm x0 x1; unfold zX5_isOfForm; rw [if_neg c1, if_pos c10, if_neg c25, if_neg c47, if_pos c53, if_neg c75_2])
            · refine J_iconst (pc' := 79) (v := 1) F dX5_isOfForm_78 (by decide) rfl ?_
              refine J_goto (tgt := 83) F dX5_isOfForm_79 (by decide) ?_
              exact J_iretR F hR dX5_isOfForm_83 rfl (by show _ = zX5_isOfForm x0 x1; unfold zX5_isOfForm; rw [if_neg c1, if_pos c10, if_neg c25, if_neg c47, if_pos c53, if_pos c75_2])
          · refine J_iload_n (pc' := 57) (q := 1) F dX5_isOfForm_56 rfl rfl ?_
            refine J_bipush (pc' := 59) (v := 48) F dX5_isOfForm_57 (by decide) rfl ?_
            refine J_icmp_lt (tgt := 71) (pc' := 62) F dX5_isOfForm_59 (by decide) rfl (fun c59 => ?_) (fun c59 => ?_)
            · refine J_iconst (pc' := 72) (v := 0) F dX5_isOfForm_71 (by decide) rfl ?_
              exact J_iretR F hR dX5_isOfForm_72 rfl (by show _ = zX5_isOfForm x0 x1; unfold zX5_isOfForm; rw [if_neg c1, if_pos c10, if_neg c25, if_neg c47, if_neg c53, if_pos c59])
            · refine J_iload_n (pc' := 63) (q := 1) F dX5_isOfForm_62 rfl rfl ?_
              refine J_iload_n (pc' := 64) (q := 2) F dX5_isOfForm_63 rfl rfl ?_
              refine J_icmp_gt (tgt := 71) (pc' := 67) F dX5_isOfForm_64 (by decide) rfl (fun c64 => ?_) (fun c64 => ?_)
              · refine J_iconst (pc' := 72) (v := 0) F dX5_isOfForm_71 (by decide) rfl ?_
                exact J_iretR F hR dX5_isOfForm_72 rfl (by show _ = zX5_isOfForm x0 x1; unfold zX5_isOfForm; rw [if_neg c1, if_pos c10, if_neg c25, if_neg c47, if_neg c53, if_neg c59, if_pos c64])
              · refine J_iconst (pc' := 68) (v := 1) F dX5_isOfForm_67 (by decide) rfl ?_
                refine J_goto (tgt := 72) F dX5_isOfForm_68 (by decide) ?_
                exact J_iretR F hR dX5_isOfForm_72 rfl (by show _ = zX5_isOfForm x0 x1; unfold zX5_isOfForm; rw [if_neg c1, if_pos c10, if_neg c25, if_neg c47, if_neg c53, if_neg c59, if_neg c64])
      · refine J_ldcS (pc' := 30) F dX5_isOfForm_28 (fun _ _ _ h => h.2.2.2.2.2.2.2.2.2.1) rfl ?_
        refine J_iload_n (pc' := 31) (q := 1) F dX5_isOfForm_30 rfl rfl ?_
        refine J_i2c (pc' := 32) (v := ((x1 : Int32).toUInt32 % 65536).toInt32) F dX5_isOfForm_31 rfl rfl ?_
        refine J_goRie (wc := []) (av := [.ref (z 4), .int (((x1 : Int32).toUInt32 % 65536).toInt32)]) (rest := []) (v := zJ0_indexOf_0f7a4 (((x1 : Int32).toUInt32 % 65536).toInt32)) (pc' := 35) F E (fun _ _ => jP_nil _ _) (fun H locs hI hp => jrun_VS (i := 1) (As := [.int (((x1 : Int32).toUInt32 % 65536).toInt32)]) F E (c_J0_indexOf_0f7a4 l D cI cZ z (((x1 : Int32).toUInt32 % 65536).toInt32)) kw_264 kw_265 kw_266 rfl kw_267 kw_8 oJ0_indexOf_0f7a4 ⟨⟨rfl, rfl⟩, ⟨Nat.le_of_ble_eq_true rfl, Nat.le_of_ble_eq_true rfl⟩, Nat.zero_le _, Nat.zero_le _⟩ (by decide) rfl rfl (Nat.le_of_ble_eq_true rfl) dX5_isOfForm_32 hI hp) rfl ?_
        refine J_if_lt (tgt := 42) (pc' := 38) F dX5_isOfForm_35 (by decide) rfl (fun c35 => ?_) (fun c35 => ?_)
        · refine J_iconst (pc' := 43) (v := 0) F dX5_isOfForm_42 (by decide) rfl ?_
          exact J_iretR F hR dX5_isOfForm_43 rfl (by show _ = zX5_isOfForm x0 x1; unfold zX5_isOfForm; rw [if_neg c1, if_pos c10, if_pos c25, if_pos c35])
        · refine J_iconst (pc' := 39) (v := 1) F dX5_isOfForm_38 (by decide) rfl ?_
          refine J_goto (tgt := 43) F dX5_isOfForm_39 (by decide) ?_
          exact J_iretR F hR dX5_isOfForm_43 rfl (by show _ = zX5_isOfForm x0 x1; unfold zX5_isOfForm; rw [if_neg c1, if_pos c10, if_pos c25, if_neg c35])
    · refine J_iconst (pc' := 14) (v := 0) F dX5_isOfForm_13 (by decide) rfl ?_
      exact J_iretR F hR dX5_isOfForm_14 rfl (by show _ = zX5_isOfForm x0 x1; unfold zX5_isOfForm; rw [if_neg c1, if_neg c10])
def zX5_digitAt (sc : Nat → Int32) (ar : Nat → Nat → Int32) (x1 : Int32) : Int32 := (zAt 16 (ar 0) x1) - 48
abbrev rm_X5_digitAt : Room := { frames := 1, cells := 0, slots := 0, locals := 21 }
set_option maxHeartbeats 4000000 in
set_option maxRecDepth 100000 in
theorem c_X5_digitAt (l : Launch) (D : va_G) (cI cZ : ClassId) (z : Nat → Nat) (g : Nat → Nat) (sc : Nat → Int32) (ar : Nat → Nat → Int32) (x1 : Int32)  : cRi l yX5_digitAt ww_X5_digitAt rm_X5_digitAt D cI cZ z (wC cI g sc ar) [.ref (g 0), .int x1] (fun r => r = zX5_digitAt sc ar x1) := by
  refine cRi.of (cc := cX5_digitAt) (maxL := 2) (rt := .int) (by decide) rfl (Nat.le_of_ble_eq_true rfl) (fun X F E hR => ?_)
  refine J_lv [0, 1] (lv' := [(0, .ref (g 0)), (1, .int x1)]) rfl ?_
  refine J_aload_n (pc' := 1) (q := 0) F dX5_digitAt_0 rfl rfl ?_
  refine C_get_0_0 (pc' := 4) F dX5_digitAt_1 kw_162 rfl ?_
  refine J_iload_n (pc' := 5) (q := 1) F dX5_digitAt_4 rfl rfl ?_
  refine J_goRie (wc := [((g 1), .inl (cI, 16, .inl (ar 0)))]) (av := [.ref (g 1), .int x1]) (rest := []) (v := zAt 16 (ar 0) x1) (pc' := 8) F E (fun _ h => h.sub [1] rfl) (fun H locs hI hp => jrun_S F E (c_X5_at l D cI cZ z (g 1) 16 (ar 0) (by decide) x1) kw_337 kw_338 rfl kw_339 kw_1 oX5_at ⟨⟨rfl, rfl⟩, ⟨Nat.le_of_ble_eq_true rfl, Nat.le_of_ble_eq_true rfl⟩, Nat.zero_le _, Nat.zero_le _⟩ rfl (Nat.le_of_ble_eq_true rfl) dX5_digitAt_5 hp) rfl ?_
  refine J_bipush (pc' := 10) (v := 48) F dX5_digitAt_8 (by decide) rfl ?_
  refine J_isub (pc' := 11) F dX5_digitAt_10 rfl ?_
  exact J_iretR F hR dX5_digitAt_11 rfl rfl
def zX5_isBay (sc : Nat → Int32) (ar : Nat → Nat → Int32) (x1 : Int32) : Int32 := if (sc 1) = 0 then 0 else (if x1 < 0 then 0 else (if (3 : Int32) ≤ x1 then 0 else 1))
abbrev rm_X5_isBay : Room := { frames := 0, cells := 0, slots := 0, locals := 0 }
set_option maxHeartbeats 4000000 in
set_option maxRecDepth 100000 in
theorem c_X5_isBay (l : Launch) (D : va_G) (cI cZ : ClassId) (z : Nat → Nat) (g : Nat → Nat) (sc : Nat → Int32) (ar : Nat → Nat → Int32) (x1 : Int32)  : cRi l yX5_isBay ww_X5_isBay rm_X5_isBay D cI cZ z (wC cI g sc ar) [.ref (g 0), .int x1] (fun r => r = zX5_isBay sc ar x1) := by
  refine cRi.of (cc := cX5_isBay) (maxL := 2) (rt := .boolean) (by decide) rfl (Nat.le_of_ble_eq_true rfl) (fun X F E hR => ?_)
  refine J_lv [0, 1] (lv' := [(0, .ref (g 0)), (1, .int x1)]) rfl ?_
  refine J_aload_n (pc' := 1) (q := 0) F dX5_isBay_0 rfl rfl ?_
  refine C_get_0_3 (v := sc 1) (pc' := 4) F dX5_isBay_1 kw_165 rfl rfl ?_
  refine J_if_eq (tgt := 20) (pc' := 7) F dX5_isBay_4 (by decide) rfl (fun c4 => ?_) (fun c4 => ?_)
  · refine J_iconst (pc' := 21) (v := 0) F dX5_isBay_20 (by decide) rfl ?_
    exact J_iretR F hR dX5_isBay_21 rfl (by show _ = zX5_isBay sc ar x1; unfold zX5_isBay; rw [if_pos c4])
  · refine J_iload_n (pc' := 8) (q := 1) F dX5_isBay_7 rfl rfl ?_
    refine J_if_lt (tgt := 20) (pc' := 11) F dX5_isBay_8 (by decide) rfl (fun c8 => ?_) (fun c8 => ?_)
    · refine J_iconst (pc' := 21) (v := 0) F dX5_isBay_20 (by decide) rfl ?_
      exact J_iretR F hR dX5_isBay_21 rfl (by show _ = zX5_isBay sc ar x1; unfold zX5_isBay; rw [if_neg c4, if_pos c8])
    · refine J_iload_n (pc' := 12) (q := 1) F dX5_isBay_11 rfl rfl ?_
      refine J_iconst (pc' := 13) (v := 3) F dX5_isBay_12 (by decide) rfl ?_
      refine J_icmp_ge (tgt := 20) (pc' := 16) F dX5_isBay_13 (by decide) rfl (fun c13 => ?_) (fun c13 => ?_)
      · refine J_iconst (pc' := 21) (v := 0) F dX5_isBay_20 (by decide) rfl ?_
        exact J_iretR F hR dX5_isBay_21 rfl (by show _ = zX5_isBay sc ar x1; unfold zX5_isBay; rw [if_neg c4, if_neg c8, if_pos c13])
      · refine J_iconst (pc' := 17) (v := 1) F dX5_isBay_16 (by decide) rfl ?_
        refine J_goto (tgt := 21) F dX5_isBay_17 (by decide) ?_
        exact J_iretR F hR dX5_isBay_21 rfl (by show _ = zX5_isBay sc ar x1; unfold zX5_isBay; rw [if_neg c4, if_neg c8, if_neg c13])
def zX5_bendNow (sc : Nat → Int32) (ar : Nat → Nat → Int32) : Int32 := if (sc 8) = 0 then sc 5 else (sc 5) / 2
abbrev rm_X5_bendNow : Room := { frames := 0, cells := 0, slots := 0, locals := 0 }
set_option maxHeartbeats 4000000 in
set_option maxRecDepth 100000 in
theorem c_X5_bendNow (l : Launch) (D : va_G) (cI cZ : ClassId) (z : Nat → Nat) (g : Nat → Nat) (sc : Nat → Int32) (ar : Nat → Nat → Int32)   : cRi l yX5_bendNow ww_X5_bendNow rm_X5_bendNow D cI cZ z (wC cI g sc ar) [.ref (g 0)] (fun r => r = zX5_bendNow sc ar) := by
  refine cRi.of (cc := cX5_bendNow) (maxL := 1) (rt := .int) (by decide) rfl (Nat.le_of_ble_eq_true rfl) (fun X F E hR => ?_)
  refine J_lv [0] (lv' := [(0, .ref (g 0))]) rfl ?_
  refine J_aload_n (pc' := 1) (q := 0) F dX5_bendNow_0 rfl rfl ?_
  refine C_get_0_4 (pc' := 4) F dX5_bendNow_1 kw_166 rfl ?_
  refine C_get_6_1 (v := sc 8) (pc' := 7) F dX5_bendNow_4 kw_62 rfl rfl ?_
  refine J_if_eq (tgt := 22) (pc' := 10) F dX5_bendNow_7 (by decide) rfl (fun c7 => ?_) (fun c7 => ?_)
  · refine J_aload_n (pc' := 23) (q := 0) F dX5_bendNow_22 rfl rfl ?_
    refine C_get_0_2 (pc' := 26) F dX5_bendNow_23 kw_164 rfl ?_
    refine C_get_2_3 (v := sc 5) (pc' := 29) F dX5_bendNow_26 kw_36 rfl rfl ?_
    exact J_iretR F hR dX5_bendNow_29 rfl (by show _ = zX5_bendNow sc ar; unfold zX5_bendNow; rw [if_pos c7])
  · refine J_aload_n (pc' := 11) (q := 0) F dX5_bendNow_10 rfl rfl ?_
    refine C_get_0_2 (pc' := 14) F dX5_bendNow_11 kw_164 rfl ?_
    refine C_get_2_3 (v := sc 5) (pc' := 17) F dX5_bendNow_14 kw_36 rfl rfl ?_
    refine J_iconst (pc' := 18) (v := 2) F dX5_bendNow_17 (by decide) rfl ?_
    refine J_idiv (pc' := 19) F dX5_bendNow_18 (by decide) rfl ?_
    refine J_goto (tgt := 29) F dX5_bendNow_19 (by decide) ?_
    exact J_iretR F hR dX5_bendNow_29 rfl (by show _ = zX5_bendNow sc ar; unfold zX5_bendNow; rw [if_neg c7])
def zX2_bears (sc : Nat → Int32) (ar : Nat → Nat → Int32) (x1 : Int32) (x2 : Int32) : Int32 := if x2 < (zX5_bentBy x1) then 0 else (if (sc 6) < (zX5_listingBy x1) then 0 else 1)
abbrev rm_X2_bears : Room := { frames := 1, cells := 0, slots := 0, locals := 23 }
set_option maxHeartbeats 4000000 in
set_option maxRecDepth 100000 in
theorem c_X2_bears (l : Launch) (D : va_G) (cI cZ : ClassId) (z : Nat → Nat) (g : Nat → Nat) (sc : Nat → Int32) (ar : Nat → Nat → Int32) (x1 : Int32) (x2 : Int32)  : cRi l yX2_bears ww_X2_bears rm_X2_bears D cI cZ z (wC cI g sc ar) [.ref (g 2), .int x1, .int x2] (fun r => r = zX2_bears sc ar x1 x2) := by
  refine cRi.of (cc := cX2_bears) (maxL := 3) (rt := .boolean) (by decide) rfl (Nat.le_of_ble_eq_true rfl) (fun X F E hR => ?_)
  refine J_lv [0, 1, 2] (lv' := [(0, .ref (g 2)), (1, .int x1), (2, .int x2)]) rfl ?_
  refine J_iload_n (pc' := 1) (q := 1) F dX2_bears_0 rfl rfl ?_
  refine J_goRie (wc := []) (av := [.int x1]) (rest := []) (v := zX5_bentBy x1) (pc' := 4) F E (fun _ _ => jP_nil _ _) (fun H locs hI hp => jrun_SN F E (c_X5_bentBy l D cI cZ z x1) kw_383 (by decide +kernel) rfl kw_384 kw_1 oX5_bentBy ⟨⟨rfl, rfl⟩, ⟨Nat.le_of_ble_eq_true rfl, Nat.le_of_ble_eq_true rfl⟩, Nat.zero_le _, Nat.zero_le _⟩ rfl (Nat.le_of_ble_eq_true rfl) dX2_bears_1 hp) rfl ?_
  refine J_iload_n (pc' := 5) (q := 2) F dX2_bears_4 rfl rfl ?_
  refine J_icmp_gt (tgt := 23) (pc' := 8) F dX2_bears_5 (by decide) rfl (fun c5 => ?_) (fun c5 => ?_)
  · refine J_iconst (pc' := 24) (v := 0) F dX2_bears_23 (by decide) rfl ?_
    exact J_iretR F hR dX2_bears_24 rfl (by show _ = zX2_bears sc ar x1 x2; unfold zX2_bears; rw [if_pos c5])
  · refine J_iload_n (pc' := 9) (q := 1) F dX2_bears_8 rfl rfl ?_
    refine J_goRie (wc := []) (av := [.int x1]) (rest := []) (v := zX5_listingBy x1) (pc' := 12) F E (fun _ _ => jP_nil _ _) (fun H locs hI hp => jrun_SN F E (c_X5_listingBy l D cI cZ z x1) kw_386 (by decide +kernel) rfl kw_387 kw_1 oX5_listingBy ⟨⟨rfl, rfl⟩, ⟨Nat.le_of_ble_eq_true rfl, Nat.le_of_ble_eq_true rfl⟩, Nat.zero_le _, Nat.zero_le _⟩ rfl (Nat.le_of_ble_eq_true rfl) dX2_bears_9 hp) rfl ?_
    refine J_aload_n (pc' := 13) (q := 0) F dX2_bears_12 rfl rfl ?_
    refine C_get_2_4 (v := sc 6) (pc' := 16) F dX2_bears_13 kw_37 rfl rfl ?_
    refine J_icmp_gt (tgt := 23) (pc' := 19) F dX2_bears_16 (by decide) rfl (fun c16 => ?_) (fun c16 => ?_)
    · refine J_iconst (pc' := 24) (v := 0) F dX2_bears_23 (by decide) rfl ?_
      exact J_iretR F hR dX2_bears_24 rfl (by show _ = zX2_bears sc ar x1 x2; unfold zX2_bears; rw [if_neg c5, if_pos c16])
    · refine J_iconst (pc' := 20) (v := 1) F dX2_bears_19 (by decide) rfl ?_
      refine J_goto (tgt := 24) F dX2_bears_20 (by decide) ?_
      exact J_iretR F hR dX2_bears_24 rfl (by show _ = zX2_bears sc ar x1 x2; unfold zX2_bears; rw [if_neg c5, if_neg c16])
def zX2_minutesOf (sc : Nat → Int32) (ar : Nat → Nat → Int32) (x1 : Int32) : Int32 := if (6 : Int32) ≤ x1 then zAt 3 (ar 3) ((zX5_cellFrom x1) / 2) else zAt 3 (ar 2) ((zX5_cellFrom x1) / 2)
abbrev rm_X2_minutesOf : Room := { frames := 1, cells := 0, slots := 0, locals := 21 }
set_option maxHeartbeats 4000000 in
set_option maxRecDepth 100000 in
theorem c_X2_minutesOf (l : Launch) (D : va_G) (cI cZ : ClassId) (z : Nat → Nat) (g : Nat → Nat) (sc : Nat → Int32) (ar : Nat → Nat → Int32) (x1 : Int32)  : cRi l yX2_minutesOf ww_X2_minutesOf rm_X2_minutesOf D cI cZ z (wC cI g sc ar) [.ref (g 2), .int x1] (fun r => r = zX2_minutesOf sc ar x1) := by
  refine cRi.of (cc := cX2_minutesOf) (maxL := 2) (rt := .int) (by decide) rfl (Nat.le_of_ble_eq_true rfl) (fun X F E hR => ?_)
  refine J_lv [0, 1] (lv' := [(0, .ref (g 2)), (1, .int x1)]) rfl ?_
  refine J_iload_n (pc' := 1) (q := 1) F dX2_minutesOf_0 rfl rfl ?_
  refine J_bipush (pc' := 3) (v := 6) F dX2_minutesOf_1 (by decide) rfl ?_
  refine J_icmp_ge (tgt := 13) (pc' := 6) F dX2_minutesOf_3 (by decide) rfl (fun c3 => ?_) (fun c3 => ?_)
  · refine J_aload_n (pc' := 14) (q := 0) F dX2_minutesOf_13 rfl rfl ?_
    refine C_get_2_2 (pc' := 17) F dX2_minutesOf_14 kw_33 rfl ?_
    refine J_iload_n (pc' := 18) (q := 1) F dX2_minutesOf_17 rfl rfl ?_
    refine J_goRie (wc := []) (av := [.int x1]) (rest := [.ref (g 5)]) (v := zX5_cellFrom x1) (pc' := 21) F E (fun _ _ => jP_nil _ _) (fun H locs hI hp => jrun_SN F E (c_X5_cellFrom l D cI cZ z x1) kw_406 (by decide +kernel) rfl kw_407 kw_1 oX5_cellFrom ⟨⟨rfl, rfl⟩, ⟨Nat.le_of_ble_eq_true rfl, Nat.le_of_ble_eq_true rfl⟩, Nat.zero_le _, Nat.zero_le _⟩ rfl (Nat.le_of_ble_eq_true rfl) dX2_minutesOf_18 hp) rfl ?_
    refine J_iconst (pc' := 22) (v := 2) F dX2_minutesOf_21 (by decide) rfl ?_
    refine J_idiv (pc' := 23) F dX2_minutesOf_22 (by decide) rfl ?_
    refine J_goRie (wc := [((g 5), .inl (cI, 3, .inl (ar 3)))]) (av := [.ref (g 5), .int ((zX5_cellFrom x1) / 2)]) (rest := []) (v := zAt 3 (ar 3) ((zX5_cellFrom x1) / 2)) (pc' := 26) F E (fun _ h => h.sub [5] rfl) (fun H locs hI hp => jrun_SN F E (c_X5_at l D cI cZ z (g 5) 3 (ar 3) (by decide) ((zX5_cellFrom x1) / 2)) kw_338 (by decide +kernel) rfl kw_339 kw_1 oX5_at ⟨⟨rfl, rfl⟩, ⟨Nat.le_of_ble_eq_true rfl, Nat.le_of_ble_eq_true rfl⟩, Nat.zero_le _, Nat.zero_le _⟩ rfl (Nat.le_of_ble_eq_true rfl) dX2_minutesOf_23 hp) rfl ?_
    exact J_iretR F hR dX2_minutesOf_26 rfl (by show _ = zX2_minutesOf sc ar x1; unfold zX2_minutesOf; rw [if_pos c3])
  · refine J_aload_n (pc' := 7) (q := 0) F dX2_minutesOf_6 rfl rfl ?_
    refine C_get_2_1 (pc' := 10) F dX2_minutesOf_7 kw_31 rfl ?_
    refine J_goto (tgt := 17) F dX2_minutesOf_10 (by decide) ?_
    refine J_iload_n (pc' := 18) (q := 1) F dX2_minutesOf_17 rfl rfl ?_
    refine J_goRie (wc := []) (av := [.int x1]) (rest := [.ref (g 4)]) (v := zX5_cellFrom x1) (pc' := 21) F E (fun _ _ => jP_nil _ _) (fun H locs hI hp => jrun_SN F E (c_X5_cellFrom l D cI cZ z x1) kw_406 (by decide +kernel) rfl kw_407 kw_1 oX5_cellFrom ⟨⟨rfl, rfl⟩, ⟨Nat.le_of_ble_eq_true rfl, Nat.le_of_ble_eq_true rfl⟩, Nat.zero_le _, Nat.zero_le _⟩ rfl (Nat.le_of_ble_eq_true rfl) dX2_minutesOf_18 hp) rfl ?_
    refine J_iconst (pc' := 22) (v := 2) F dX2_minutesOf_21 (by decide) rfl ?_
    refine J_idiv (pc' := 23) F dX2_minutesOf_22 (by decide) rfl ?_
    refine J_goRie (wc := [((g 4), .inl (cI, 3, .inl (ar 2)))]) (av := [.ref (g 4), .int ((zX5_cellFrom x1) / 2)]) (rest := []) (v := zAt 3 (ar 2) ((zX5_cellFrom x1) / 2)) (pc' := 26) F E (fun _ h => h.sub [4] rfl) (fun H locs hI hp => jrun_SN F E (c_X5_at l D cI cZ z (g 4) 3 (ar 2) (by decide) ((zX5_cellFrom x1) / 2)) kw_338 (by decide +kernel) rfl kw_339 kw_1 oX5_at ⟨⟨rfl, rfl⟩, ⟨Nat.le_of_ble_eq_true rfl, Nat.le_of_ble_eq_true rfl⟩, Nat.zero_le _, Nat.zero_le _⟩ rfl (Nat.le_of_ble_eq_true rfl) dX2_minutesOf_23 hp) rfl ?_
    exact J_iretR F hR dX2_minutesOf_26 rfl (by show _ = zX2_minutesOf sc ar x1; unfold zX2_minutesOf; rw [if_neg c3])
def zX2_slid_4 (sc : Nat → Int32) (ar : Nat → Nat → Int32) (x1 : Int32) : Nat → Nat → Int32 → Int32
  | 0, _, _ => 0
  | n + 1, i, y2 => if (3 : Int32) ≤ (nI i) then y2 else (if ((ar 1) i) = 3 then (if ((((x1 : Int32) >>> (((4 * (nI i)) : Int32) &&& 31)) &&& 3) - (((x1 : Int32) >>> ((((4 * (nI i)) + 2) : Int32) &&& 31)) &&& 3)) < 2 then (if ((-2) : Int32) < ((((x1 : Int32) >>> (((4 * (nI i)) : Int32) &&& 31)) &&& 3) - (((x1 : Int32) >>> ((((4 * (nI i)) + 2) : Int32) &&& 31)) &&& 3)) then zX2_slid_4 sc ar x1 n (i + 1) y2 else zX2_slid_4 sc ar x1 n (i + 1) (y2 + (((1 : Int32) <<< (((4 * (nI i)) : Int32) &&& 31)) - ((((1 : Int32) <<< (((4 * (nI i)) : Int32) &&& 31)) : Int32) <<< ((2 : Int32) &&& 31))))) else zX2_slid_4 sc ar x1 n (i + 1) (y2 + (((((1 : Int32) <<< (((4 * (nI i)) : Int32) &&& 31)) : Int32) <<< ((2 : Int32) &&& 31)) - ((1 : Int32) <<< (((4 * (nI i)) : Int32) &&& 31))))) else zX2_slid_4 sc ar x1 n (i + 1) y2)
def zX2_slid (sc : Nat → Int32) (ar : Nat → Nat → Int32) (x1 : Int32) : Int32 := zX2_slid_4 sc ar x1 (3 + 1) 0 x1
abbrev rm_X2_slid : Room := { frames := 0, cells := 0, slots := 0, locals := 0 }
set_option maxHeartbeats 4000000 in
set_option maxRecDepth 100000 in
theorem c_X2_slid (l : Launch) (D : va_G) (cI cZ : ClassId) (z : Nat → Nat) (g : Nat → Nat) (sc : Nat → Int32) (ar : Nat → Nat → Int32) (x1 : Int32)  : cRi l yX2_slid ww_X2_slid rm_X2_slid D cI cZ z (wC cI g sc ar) [.ref (g 2), .int x1] (fun r => r = zX2_slid sc ar x1) := by
  refine cRi.of (cc := cX2_slid) (maxL := 7) (rt := .int) (by decide) rfl (Nat.le_of_ble_eq_true rfl) (fun X F E hR => ?_)
  refine J_lv [0, 1] (lv' := [(0, .ref (g 2)), (1, .int x1)]) rfl ?_
  refine J_iload_n (pc' := 1) (q := 1) F dX2_slid_0 rfl rfl ?_
  refine J_istore_n (pc' := 2) [1, 2, 0] [(0, .ref (g 2)), (1, .int x1), (2, .int x1)] F dX2_slid_1 rfl (jL_of E (show 2 < 7 by decide)) rfl rfl ?_
  refine J_iconst (pc' := 3) (v := 0) F dX2_slid_2 (by decide) rfl ?_
  refine J_istore_n (pc' := 4) [1, 2, 3, 0] [(0, .ref (g 2)), (1, .int x1), (2, .int x1), (3, .int 0)] F dX2_slid_3 rfl (jL_of E (show 3 < 7 by decide)) rfl rfl ?_
  have L4 : ∀ (n i : Nat) (y2 : Int32) , i ≤ 3 → 3 - i < n → zX2_slid_4 sc ar x1 n i y2 = zX2_slid sc ar x1 → J X false 0 0 4 [(0, .ref (g 2)), (1, .int x1), (2, .int y2), (3, .int (nI i))] [] (wC cI g sc ar) := by
    intro n
    induction n with
    | zero => intro i _ _ hm; exact absurd hm (Nat.not_lt_zero _)
    | succ n ih =>
      intro i y2 hi hm heq
      refine J_iload_n (pc' := 5) (q := 3) F dX2_slid_4 rfl rfl ?_
      refine J_aload_n (pc' := 6) (q := 0) F dX2_slid_5 rfl rfl ?_
      refine C_get_2_0 (pc' := 9) F dX2_slid_6 kw_29 rfl ?_
      refine C_len_1 (pc' := 10) F dX2_slid_9 rfl ?_
      refine J_icmp_ge (tgt := 93) (pc' := 13) F dX2_slid_10 (by decide) rfl (fun c10 => ?_) (fun c10 => ?_)
      · refine J_iload_n (pc' := 94) (q := 2) F dX2_slid_93 rfl rfl ?_
        exact J_iretR F hR dX2_slid_94 rfl (by show _ = zX2_slid sc ar x1; rw [← heq, zX2_slid_4, if_pos c10])
      · have hlt : i < 3 := jin_lt (by decide) hi c10
        refine J_aload_n (pc' := 14) (q := 0) F dX2_slid_13 rfl rfl ?_
        refine C_get_2_0 (pc' := 17) F dX2_slid_14 kw_29 rfl ?_
        refine J_iload_n (pc' := 18) (q := 3) F dX2_slid_17 rfl rfl ?_
        refine C_ld_1 (f := ar 1) (q := i) (pc' := 19) F dX2_slid_18 rfl (nI_clamp (by omega)) (vp_in_nI hlt (by decide)) rfl ?_
        refine J_iconst (pc' := 20) (v := 3) F dX2_slid_19 (by decide) rfl ?_
        refine J_icmp_ne (tgt := 87) (pc' := 23) F dX2_slid_20 (by decide) rfl (fun c20 => ?_) (fun c20 => ?_)
        · refine J_iinc (v := nI (i + 1)) (q := 3) (pc' := 90) [1, 2, 3, 0] [(0, .ref (g 2)), (1, .int x1), (2, .int y2), (3, .int (nI (i + 1)))] F dX2_slid_87 rfl (nI_inc i) (jL_of E (show 3 < 7 by decide)) rfl rfl ?_
          refine J_goto (tgt := 4) F dX2_slid_90 (by decide) ?_
          refine J_lv [0, 1, 2, 3] (lv' := [(0, .ref (g 2)), (1, .int x1), (2, .int y2), (3, .int (nI (i + 1)))]) rfl ?_
          exact ih (i + 1) y2 (by omega) (by omega) (by show _ = zX2_slid sc ar x1; rw [← heq, zX2_slid_4, if_neg c10, if_neg c20])
        · refine J_iconst (pc' := 24) (v := 1) F dX2_slid_23 (by decide) rfl ?_
          refine J_iconst (pc' := 25) (v := 4) F dX2_slid_24 (by decide) rfl ?_
          refine J_iload_n (pc' := 26) (q := 3) F dX2_slid_25 rfl rfl ?_
          refine J_imul (pc' := 27) F dX2_slid_26 rfl ?_
          refine J_ishl (pc' := 28) F dX2_slid_27 rfl ?_
          refine J_istore (pc' := 30) [1, 2, 3, 4, 0] [(0, .ref (g 2)), (1, .int x1), (2, .int y2), (3, .int (nI i)), (4, .int ((1 : Int32) <<< (((4 * (nI i)) : Int32) &&& 31)))] F dX2_slid_28 (jL_of E (show 4 < 7 by decide)) rfl rfl ?_
          refine J_iload (pc' := 32) (q := 4) F dX2_slid_30 rfl rfl ?_
          refine J_iconst (pc' := 33) (v := 2) F dX2_slid_32 (by decide) rfl ?_
          refine J_ishl (pc' := 34) F dX2_slid_33 rfl ?_
          refine J_istore (pc' := 36) [1, 2, 3, 4, 5, 0] [(0, .ref (g 2)), (1, .int x1), (2, .int y2), (3, .int (nI i)), (4, .int ((1 : Int32) <<< (((4 * (nI i)) : Int32) &&& 31))), (5, .int ((((1 : Int32) <<< (((4 * (nI i)) : Int32) &&& 31)) : Int32) <<< ((2 : Int32) &&& 31)))] F dX2_slid_34 (jL_of E (show 5 < 7 by decide)) rfl rfl ?_
          refine J_iload_n (pc' := 37) (q := 1) F dX2_slid_36 rfl rfl ?_
          refine J_iconst (pc' := 38) (v := 4) F dX2_slid_37 (by decide) rfl ?_
          refine J_iload_n (pc' := 39) (q := 3) F dX2_slid_38 rfl rfl ?_
          refine J_imul (pc' := 40) F dX2_slid_39 rfl ?_
          refine J_ishr (pc' := 41) F dX2_slid_40 rfl ?_
          refine J_iconst (pc' := 42) (v := 3) F dX2_slid_41 (by decide) rfl ?_
          refine J_iand (pc' := 43) F dX2_slid_42 rfl ?_
          refine J_iload_n (pc' := 44) (q := 1) F dX2_slid_43 rfl rfl ?_
          refine J_iconst (pc' := 45) (v := 4) F dX2_slid_44 (by decide) rfl ?_
          refine J_iload_n (pc' := 46) (q := 3) F dX2_slid_45 rfl rfl ?_
          refine J_imul (pc' := 47) F dX2_slid_46 rfl ?_
          refine J_iconst (pc' := 48) (v := 2) F dX2_slid_47 (by decide) rfl ?_
          refine J_iadd (pc' := 49) F dX2_slid_48 rfl ?_
          refine J_ishr (pc' := 50) F dX2_slid_49 rfl ?_
          refine J_iconst (pc' := 51) (v := 3) F dX2_slid_50 (by decide) rfl ?_
          refine J_iand (pc' := 52) F dX2_slid_51 rfl ?_
          refine J_isub (pc' := 53) F dX2_slid_52 rfl ?_
          refine J_istore (pc' := 55) [1, 2, 3, 4, 5, 6, 0] [(0, .ref (g 2)), (1, .int x1), (2, .int y2), (3, .int (nI i)), (4, .int ((1 : Int32) <<< (((4 * (nI i)) : Int32) &&& 31))), (5, .int ((((1 : Int32) <<< (((4 * (nI i)) : Int32) &&& 31)) : Int32) <<< ((2 : Int32) &&& 31))), (6, .int ((((x1 : Int32) >>> (((4 * (nI i)) : Int32) &&& 31)) &&& 3) - (((x1 : Int32) >>> ((((4 * (nI i)) + 2) : Int32) &&& 31)) &&& 3)))] F dX2_slid_53 (jL_of E (show 6 < 7 by decide)) rfl rfl ?_
          refine J_iload (pc' := 57) (q := 6) F dX2_slid_55 rfl rfl ?_
          refine J_iconst (pc' := 58) (v := 2) F dX2_slid_57 (by decide) rfl ?_
          refine J_icmp_lt (tgt := 72) (pc' := 61) F dX2_slid_58 (by decide) rfl (fun c58 => ?_) (fun c58 => ?_)
          · refine J_iload (pc' := 74) (q := 6) F dX2_slid_72 rfl rfl ?_
            refine J_bipush (pc' := 76) (v := (-2)) F dX2_slid_74 (by decide) rfl ?_
            refine J_icmp_gt (tgt := 87) (pc' := 79) F dX2_slid_76 (by decide) rfl (fun c76 => ?_) (fun c76 => ?_)
            · refine J_iinc (v := nI (i + 1)) (q := 3) (pc' := 90) [1, 2, 3, 0, 4, 5, 6] [(0, .ref (g 2)), (1, .int x1), (2, .int y2), (3, .int (nI (i + 1))), (4, .int ((1 : Int32) <<< (((4 * (nI i)) : Int32) &&& 31))), (5, .int ((((1 : Int32) <<< (((4 * (nI i)) : Int32) &&& 31)) : Int32) <<< ((2 : Int32) &&& 31))), (6, .int ((((x1 : Int32) >>> (((4 * (nI i)) : Int32) &&& 31)) &&& 3) - (((x1 : Int32) >>> ((((4 * (nI i)) + 2) : Int32) &&& 31)) &&& 3)))] F dX2_slid_87 rfl (nI_inc i) (jL_of E (show 3 < 7 by decide)) rfl rfl ?_
              refine J_goto (tgt := 4) F dX2_slid_90 (by decide) ?_
              refine J_lv [0, 1, 2, 3] (lv' := [(0, .ref (g 2)), (1, .int x1), (2, .int y2), (3, .int (nI (i + 1)))]) rfl ?_
              exact ih (i + 1) y2 (by omega) (by omega) (by show _ = zX2_slid sc ar x1; rw [← heq, zX2_slid_4, if_neg c10, if_pos c20, if_pos c58, if_pos c76])
            · refine J_iload_n (pc' := 80) (q := 2) F dX2_slid_79 rfl rfl ?_
              refine J_iload (pc' := 82) (q := 4) F dX2_slid_80 rfl rfl ?_
              refine J_iload (pc' := 84) (q := 5) F dX2_slid_82 rfl rfl ?_
              refine J_isub (pc' := 85) F dX2_slid_84 rfl ?_
              refine J_iadd (pc' := 86) F dX2_slid_85 rfl ?_
              refine J_istore_n (pc' := 87) [1, 2, 0, 3, 4, 5, 6] [(0, .ref (g 2)), (1, .int x1), (2, .int (y2 + (((1 : Int32) <<< (((4 * (nI i)) : Int32) &&& 31)) - ((((1 : Int32) <<< (((4 * (nI i)) : Int32) &&& 31)) : Int32) <<< ((2 : Int32) &&& 31))))), (3, .int (nI i)), (4, .int ((1 : Int32) <<< (((4 * (nI i)) : Int32) &&& 31))), (5, .int ((((1 : Int32) <<< (((4 * (nI i)) : Int32) &&& 31)) : Int32) <<< ((2 : Int32) &&& 31))), (6, .int ((((x1 : Int32) >>> (((4 * (nI i)) : Int32) &&& 31)) &&& 3) - (((x1 : Int32) >>> ((((4 * (nI i)) + 2) : Int32) &&& 31)) &&& 3)))] F dX2_slid_86 rfl (jL_of E (show 2 < 7 by decide)) rfl rfl ?_
              refine J_iinc (v := nI (i + 1)) (q := 3) (pc' := 90) [1, 2, 3, 0, 4, 5, 6] [(0, .ref (g 2)), (1, .int x1), (2, .int (y2 + (((1 : Int32) <<< (((4 * (nI i)) : Int32) &&& 31)) - ((((1 : Int32) <<< (((4 * (nI i)) : Int32) &&& 31)) : Int32) <<< ((2 : Int32) &&& 31))))), (3, .int (nI (i + 1))), (4, .int ((1 : Int32) <<< (((4 * (nI i)) : Int32) &&& 31))), (5, .int ((((1 : Int32) <<< (((4 * (nI i)) : Int32) &&& 31)) : Int32) <<< ((2 : Int32) &&& 31))), (6, .int ((((x1 : Int32) >>> (((4 * (nI i)) : Int32) &&& 31)) &&& 3) - (((x1 : Int32) >>> ((((4 * (nI i)) + 2) : Int32) &&& 31)) &&& 3)))] F dX2_slid_87 rfl (nI_inc i) (jL_of E (show 3 < 7 by decide)) rfl rfl ?_
              refine J_goto (tgt := 4) F dX2_slid_90 (by decide) ?_
              refine J_lv [0, 1, 2, 3] (lv' := [(0, .ref (g 2)), (1, .int x1), (2, .int (y2 + (((1 : Int32) <<< (((4 * (nI i)) : Int32) &&& 31)) - ((((1 : Int32) <<< (((4 * (nI i)) : Int32) &&& 31)) : Int32) <<< ((2 : Int32) &&& 31))))), (3, .int (nI (i + 1)))]) rfl ?_
              exact ih (i + 1) (y2 + (((1 : Int32) <<< (((4 * (nI i)) : Int32) &&& 31)) - ((((1 : Int32) <<< (((4 * (nI i)) : Int32) &&& 31)) : Int32) <<< ((2 : Int32) &&& 31)))) (by omega) (by omega) (by show _ = zX2_slid sc ar x1; rw [← heq, zX2_slid_4, if_neg c10, if_pos c20, if_pos c58, if_neg c76])
          · refine J_iload_n (pc' := 62) (q := 2) F dX2_slid_61 rfl rfl ?_
            refine J_iload (pc' := 64) (q := 5) F dX2_slid_62 rfl rfl ?_
            refine J_iload (pc' := 66) (q := 4) F dX2_slid_64 rfl rfl ?_
            refine J_isub (pc' := 67) F dX2_slid_66 rfl ?_
            refine J_iadd (pc' := 68) F dX2_slid_67 rfl ?_
            refine J_istore_n (pc' := 69) [1, 2, 0, 3, 4, 5, 6] [(0, .ref (g 2)), (1, .int x1), (2, .int (y2 + (((((1 : Int32) <<< (((4 * (nI i)) : Int32) &&& 31)) : Int32) <<< ((2 : Int32) &&& 31)) - ((1 : Int32) <<< (((4 * (nI i)) : Int32) &&& 31))))), (3, .int (nI i)), (4, .int ((1 : Int32) <<< (((4 * (nI i)) : Int32) &&& 31))), (5, .int ((((1 : Int32) <<< (((4 * (nI i)) : Int32) &&& 31)) : Int32) <<< ((2 : Int32) &&& 31))), (6, .int ((((x1 : Int32) >>> (((4 * (nI i)) : Int32) &&& 31)) &&& 3) - (((x1 : Int32) >>> ((((4 * (nI i)) + 2) : Int32) &&& 31)) &&& 3)))] F dX2_slid_68 rfl (jL_of E (show 2 < 7 by decide)) rfl rfl ?_
            refine J_goto (tgt := 87) F dX2_slid_69 (by decide) ?_
            refine J_iinc (v := nI (i + 1)) (q := 3) (pc' := 90) [1, 2, 3, 0, 4, 5, 6] [(0, .ref (g 2)), (1, .int x1), (2, .int (y2 + (((((1 : Int32) <<< (((4 * (nI i)) : Int32) &&& 31)) : Int32) <<< ((2 : Int32) &&& 31)) - ((1 : Int32) <<< (((4 * (nI i)) : Int32) &&& 31))))), (3, .int (nI (i + 1))), (4, .int ((1 : Int32) <<< (((4 * (nI i)) : Int32) &&& 31))), (5, .int ((((1 : Int32) <<< (((4 * (nI i)) : Int32) &&& 31)) : Int32) <<< ((2 : Int32) &&& 31))), (6, .int ((((x1 : Int32) >>> (((4 * (nI i)) : Int32) &&& 31)) &&& 3) - (((x1 : Int32) >>> ((((4 * (nI i)) + 2) : Int32) &&& 31)) &&& 3)))] F dX2_slid_87 rfl (nI_inc i) (jL_of E (show 3 < 7 by decide)) rfl rfl ?_
            refine J_goto (tgt := 4) F dX2_slid_90 (by decide) ?_
            refine J_lv [0, 1, 2, 3] (lv' := [(0, .ref (g 2)), (1, .int x1), (2, .int (y2 + (((((1 : Int32) <<< (((4 * (nI i)) : Int32) &&& 31)) : Int32) <<< ((2 : Int32) &&& 31)) - ((1 : Int32) <<< (((4 * (nI i)) : Int32) &&& 31))))), (3, .int (nI (i + 1)))]) rfl ?_
            exact ih (i + 1) (y2 + (((((1 : Int32) <<< (((4 * (nI i)) : Int32) &&& 31)) : Int32) <<< ((2 : Int32) &&& 31)) - ((1 : Int32) <<< (((4 * (nI i)) : Int32) &&& 31)))) (by omega) (by omega) (by show _ = zX2_slid sc ar x1; rw [← heq, zX2_slid_4, if_neg c10, if_pos c20, if_neg c58])
  refine J_lv [0, 1, 2, 3] (lv' := [(0, .ref (g 2)), (1, .int x1), (2, .int x1), (3, .int (nI 0))]) rfl ?_
  exact L4 (3 + 1) 0 x1 (Nat.zero_le _) (Nat.lt_succ_self _) rfl
def zX2_moved (sc : Nat → Int32) (ar : Nat → Nat → Int32) (x1 : Int32) (x2 : Int32) : Int32 := if (((x1 : Int32) >>> (((2 * (zX5_cellFrom x2)) : Int32) &&& 31)) &&& 3) = 0 then (-1) else (if (zX5_cellInto x2) = (-1) then zX2_slid sc ar (x1 - ((1 : Int32) <<< (((2 * (zX5_cellFrom x2)) : Int32) &&& 31))) else (if (((x1 : Int32) >>> (((2 * (zX5_cellInto x2)) : Int32) &&& 31)) &&& 3) = 3 then (-1) else zX2_slid sc ar ((x1 - ((1 : Int32) <<< (((2 * (zX5_cellFrom x2)) : Int32) &&& 31))) + ((1 : Int32) <<< (((2 * (zX5_cellInto x2)) : Int32) &&& 31)))))
abbrev rm_X2_moved : Room := { frames := 1, cells := 0, slots := 0, locals := 26 }
set_option maxHeartbeats 4000000 in
set_option maxRecDepth 100000 in
theorem c_X2_moved (l : Launch) (D : va_G) (cI cZ : ClassId) (z : Nat → Nat) (g : Nat → Nat) (sc : Nat → Int32) (ar : Nat → Nat → Int32) (x1 : Int32) (x2 : Int32)  : cRi l yX2_moved ww_X2_moved rm_X2_moved D cI cZ z (wC cI g sc ar) [.ref (g 2), .int x1, .int x2] (fun r => r = zX2_moved sc ar x1 x2) := by
  refine cRi.of (cc := cX2_moved) (maxL := 6) (rt := .int) (by decide) rfl (Nat.le_of_ble_eq_true rfl) (fun X F E hR => ?_)
  refine J_lv [0, 1, 2] (lv' := [(0, .ref (g 2)), (1, .int x1), (2, .int x2)]) rfl ?_
  refine J_iload_n (pc' := 1) (q := 2) F dX2_moved_0 rfl rfl ?_
  refine J_goRie (wc := []) (av := [.int x2]) (rest := []) (v := zX5_cellFrom x2) (pc' := 4) F E (fun _ _ => jP_nil _ _) (fun H locs hI hp => jrun_SN F E (c_X5_cellFrom l D cI cZ z x2) kw_406 (by decide +kernel) rfl kw_407 kw_1 oX5_cellFrom ⟨⟨rfl, rfl⟩, ⟨Nat.le_of_ble_eq_true rfl, Nat.le_of_ble_eq_true rfl⟩, Nat.zero_le _, Nat.zero_le _⟩ rfl (Nat.le_of_ble_eq_true rfl) dX2_moved_1 hp) rfl ?_
  refine J_istore_n (pc' := 5) [1, 2, 3, 0] [(0, .ref (g 2)), (1, .int x1), (2, .int x2), (3, .int (zX5_cellFrom x2))] F dX2_moved_4 rfl (jL_of E (show 3 < 6 by decide)) rfl rfl ?_
  refine J_iload_n (pc' := 6) (q := 2) F dX2_moved_5 rfl rfl ?_
  refine J_goRie (wc := []) (av := [.int x2]) (rest := []) (v := zX5_cellInto x2) (pc' := 9) F E (fun _ _ => jP_nil _ _) (fun H locs hI hp => jrun_SN F E (c_X5_cellInto l D cI cZ z x2) kw_409 (by decide +kernel) rfl kw_410 kw_1 oX5_cellInto ⟨⟨rfl, rfl⟩, ⟨Nat.le_of_ble_eq_true rfl, Nat.le_of_ble_eq_true rfl⟩, Nat.zero_le _, Nat.zero_le _⟩ rfl (Nat.le_of_ble_eq_true rfl) dX2_moved_6 hp) rfl ?_
  refine J_istore (pc' := 11) [1, 2, 3, 4, 0] [(0, .ref (g 2)), (1, .int x1), (2, .int x2), (3, .int (zX5_cellFrom x2)), (4, .int (zX5_cellInto x2))] F dX2_moved_9 (jL_of E (show 4 < 6 by decide)) rfl rfl ?_
  refine J_iload_n (pc' := 12) (q := 1) F dX2_moved_11 rfl rfl ?_
  refine J_iconst (pc' := 13) (v := 2) F dX2_moved_12 (by decide) rfl ?_
  refine J_iload_n (pc' := 14) (q := 3) F dX2_moved_13 rfl rfl ?_
  refine J_imul (pc' := 15) F dX2_moved_14 rfl ?_
  refine J_ishr (pc' := 16) F dX2_moved_15 rfl ?_
  refine J_iconst (pc' := 17) (v := 3) F dX2_moved_16 (by decide) rfl ?_
  refine J_iand (pc' := 18) F dX2_moved_17 rfl ?_
  refine J_if_ne (tgt := 23) (pc' := 21) F dX2_moved_18 (by decide) rfl (fun c18 => ?_) (fun c18 => ?_)
  · refine J_iload_n (pc' := 24) (q := 1) F dX2_moved_23 rfl rfl ?_
    refine J_iconst (pc' := 25) (v := 1) F dX2_moved_24 (by decide) rfl ?_
    refine J_iconst (pc' := 26) (v := 2) F dX2_moved_25 (by decide) rfl ?_
    refine J_iload_n (pc' := 27) (q := 3) F dX2_moved_26 rfl rfl ?_
    refine J_imul (pc' := 28) F dX2_moved_27 rfl ?_
    refine J_ishl (pc' := 29) F dX2_moved_28 rfl ?_
    refine J_isub (pc' := 30) F dX2_moved_29 rfl ?_
    refine J_istore (pc' := 32) [1, 2, 3, 4, 5, 0] [(0, .ref (g 2)), (1, .int x1), (2, .int x2), (3, .int (zX5_cellFrom x2)), (4, .int (zX5_cellInto x2)), (5, .int (x1 - ((1 : Int32) <<< (((2 * (zX5_cellFrom x2)) : Int32) &&& 31))))] F dX2_moved_30 (jL_of E (show 5 < 6 by decide)) rfl rfl ?_
    refine J_iload (pc' := 34) (q := 4) F dX2_moved_32 rfl rfl ?_
    refine J_iconst (pc' := 35) (v := (-1)) F dX2_moved_34 (by decide) rfl ?_
    refine J_icmp_eq (tgt := 63) (pc' := 38) F dX2_moved_35 (by decide) rfl (fun c35 => ?_) (fun c35 => ?_)
    · refine J_aload_n (pc' := 64) (q := 0) F dX2_moved_63 rfl rfl ?_
      refine J_iload (pc' := 66) (q := 5) F dX2_moved_64 rfl rfl ?_
      refine J_goRie (wc := (wC cI g sc ar)) (av := [.ref (g 2), .int (x1 - ((1 : Int32) <<< (((2 * (zX5_cellFrom x2)) : Int32) &&& 31)))]) (rest := []) (v := zX2_slid sc ar (x1 - ((1 : Int32) <<< (((2 * (zX5_cellFrom x2)) : Int32) &&& 31)))) (pc' := 69) F E (fun _ h => h) (fun H locs hI hp => jrun_V (As := [.int (x1 - ((1 : Int32) <<< (((2 * (zX5_cellFrom x2)) : Int32) &&& 31)))]) 2 F E (c_X2_slid l D cI cZ z g sc ar (x1 - ((1 : Int32) <<< (((2 * (zX5_cellFrom x2)) : Int32) &&& 31)))) kw_424 kw_425 kw_426 rfl kw_427 kw_2 oX2_slid ⟨⟨rfl, rfl⟩, ⟨Nat.le_of_ble_eq_true rfl, Nat.le_of_ble_eq_true rfl⟩, Nat.zero_le _, Nat.zero_le _⟩ rfl rfl (Nat.le_of_ble_eq_true rfl) dX2_moved_66 rfl rfl (jI_P E hI) hp) rfl ?_
      exact J_iretR F hR dX2_moved_69 rfl (by show _ = zX2_moved sc ar x1 x2; unfold zX2_moved; rw [if_neg c18, if_pos c35])
    · refine J_iload_n (pc' := 39) (q := 1) F dX2_moved_38 rfl rfl ?_
      refine J_iconst (pc' := 40) (v := 2) F dX2_moved_39 (by decide) rfl ?_
      refine J_iload (pc' := 42) (q := 4) F dX2_moved_40 rfl rfl ?_
      refine J_imul (pc' := 43) F dX2_moved_42 rfl ?_
      refine J_ishr (pc' := 44) F dX2_moved_43 rfl ?_
      refine J_iconst (pc' := 45) (v := 3) F dX2_moved_44 (by decide) rfl ?_
      refine J_iand (pc' := 46) F dX2_moved_45 rfl ?_
      refine J_iconst (pc' := 47) (v := 3) F dX2_moved_46 (by decide) rfl ?_
      refine J_icmp_ne (tgt := 52) (pc' := 50) F dX2_moved_47 (by decide) rfl (fun c47 => ?_) (fun c47 => ?_)
      · refine J_iload (pc' := 54) (q := 5) F dX2_moved_52 rfl rfl ?_
        refine J_iconst (pc' := 55) (v := 1) F dX2_moved_54 (by decide) rfl ?_
        refine J_iconst (pc' := 56) (v := 2) F dX2_moved_55 (by decide) rfl ?_
        refine J_iload (pc' := 58) (q := 4) F dX2_moved_56 rfl rfl ?_
        refine J_imul (pc' := 59) F dX2_moved_58 rfl ?_
        refine J_ishl (pc' := 60) F dX2_moved_59 rfl ?_
        refine J_iadd (pc' := 61) F dX2_moved_60 rfl ?_
        refine J_istore (pc' := 63) [1, 2, 3, 4, 5, 0] [(0, .ref (g 2)), (1, .int x1), (2, .int x2), (3, .int (zX5_cellFrom x2)), (4, .int (zX5_cellInto x2)), (5, .int ((x1 - ((1 : Int32) <<< (((2 * (zX5_cellFrom x2)) : Int32) &&& 31))) + ((1 : Int32) <<< (((2 * (zX5_cellInto x2)) : Int32) &&& 31))))] F dX2_moved_61 (jL_of E (show 5 < 6 by decide)) rfl rfl ?_
        refine J_aload_n (pc' := 64) (q := 0) F dX2_moved_63 rfl rfl ?_
        refine J_iload (pc' := 66) (q := 5) F dX2_moved_64 rfl rfl ?_
        refine J_goRie (wc := (wC cI g sc ar)) (av := [.ref (g 2), .int ((x1 - ((1 : Int32) <<< (((2 * (zX5_cellFrom x2)) : Int32) &&& 31))) + ((1 : Int32) <<< (((2 * (zX5_cellInto x2)) : Int32) &&& 31)))]) (rest := []) (v := zX2_slid sc ar ((x1 - ((1 : Int32) <<< (((2 * (zX5_cellFrom x2)) : Int32) &&& 31))) + ((1 : Int32) <<< (((2 * (zX5_cellInto x2)) : Int32) &&& 31)))) (pc' := 69) F E (fun _ h => h) (fun H locs hI hp => jrun_V (As := [.int ((x1 - ((1 : Int32) <<< (((2 * (zX5_cellFrom x2)) : Int32) &&& 31))) + ((1 : Int32) <<< (((2 * (zX5_cellInto x2)) : Int32) &&& 31)))]) 2 F E (c_X2_slid l D cI cZ z g sc ar ((x1 - ((1 : Int32) <<< (((2 * (zX5_cellFrom x2)) : Int32) &&& 31))) + ((1 : Int32) <<< (((2 * (zX5_cellInto x2)) : Int32) &&& 31)))) kw_424 kw_425 kw_426 rfl kw_427 kw_2 oX2_slid ⟨⟨rfl, rfl⟩, ⟨Nat.le_of_ble_eq_true rfl, Nat.le_of_ble_eq_true rfl⟩, Nat.zero_le _, Nat.zero_le _⟩ rfl rfl (Nat.le_of_ble_eq_true rfl) dX2_moved_66 rfl rfl (jI_P E hI) hp) rfl ?_
        exact J_iretR F hR dX2_moved_69 rfl (by show _ = zX2_moved sc ar x1 x2; unfold zX2_moved; rw [if_neg c18, if_neg c35, if_neg c47])
      · refine J_iconst (pc' := 51) (v := (-1)) F dX2_moved_50 (by decide) rfl ?_
        exact J_iretR F hR dX2_moved_51 rfl (by show _ = zX2_moved sc ar x1 x2; unfold zX2_moved; rw [if_neg c18, if_neg c35, if_pos c47])
  · refine J_iconst (pc' := 22) (v := (-1)) F dX2_moved_21 (by decide) rfl ?_
    exact J_iretR F hR dX2_moved_22 rfl (by show _ = zX2_moved sc ar x1 x2; unfold zX2_moved; rw [if_pos c18])
def zX2_behind (sc : Nat → Int32) (ar : Nat → Nat → Int32) (x1 : Int32) (x2 : Int32) (x3 : Int32) : Int32 := if (zX2_moved sc ar x1 x2) = (-1) then (-1) else (if (zX2_bears sc ar (zX2_moved sc ar x1 x2) x3) = 0 then (-1) else zX2_moved sc ar x1 x2)
abbrev rm_X2_behind : Room := { frames := 2, cells := 0, slots := 0, locals := 51 }
set_option maxHeartbeats 4000000 in
set_option maxRecDepth 100000 in
theorem c_X2_behind (l : Launch) (D : va_G) (cI cZ : ClassId) (z : Nat → Nat) (g : Nat → Nat) (sc : Nat → Int32) (ar : Nat → Nat → Int32) (x1 : Int32) (x2 : Int32) (x3 : Int32)  : cRi l yX2_behind ww_X2_behind rm_X2_behind D cI cZ z (wC cI g sc ar) [.ref (g 2), .int x1, .int x2, .int x3] (fun r => r = zX2_behind sc ar x1 x2 x3) := by
  refine cRi.of (cc := cX2_behind) (maxL := 5) (rt := .int) (by decide) rfl (Nat.le_of_ble_eq_true rfl) (fun X F E hR => ?_)
  refine J_lv [0, 1, 2, 3] (lv' := [(0, .ref (g 2)), (1, .int x1), (2, .int x2), (3, .int x3)]) rfl ?_
  refine J_aload_n (pc' := 1) (q := 0) F dX2_behind_0 rfl rfl ?_
  refine J_iload_n (pc' := 2) (q := 1) F dX2_behind_1 rfl rfl ?_
  refine J_iload_n (pc' := 3) (q := 2) F dX2_behind_2 rfl rfl ?_
  refine J_goRie (wc := (wC cI g sc ar)) (av := [.ref (g 2), .int x1, .int x2]) (rest := []) (v := zX2_moved sc ar x1 x2) (pc' := 6) F E (fun _ h => h) (fun H locs hI hp => jrun_V (As := [.int x1, .int x2]) 2 F E (c_X2_moved l D cI cZ z g sc ar x1 x2) kw_418 kw_419 kw_420 rfl kw_421 kw_2 oX2_moved ⟨⟨rfl, rfl⟩, ⟨Nat.le_of_ble_eq_true rfl, Nat.le_of_ble_eq_true rfl⟩, Nat.zero_le _, Nat.zero_le _⟩ rfl rfl (Nat.le_of_ble_eq_true rfl) dX2_behind_3 rfl rfl (jI_P E hI) hp) rfl ?_
  refine J_istore (pc' := 8) [1, 2, 3, 4, 0] [(0, .ref (g 2)), (1, .int x1), (2, .int x2), (3, .int x3), (4, .int (zX2_moved sc ar x1 x2))] F dX2_behind_6 (jL_of E (show 4 < 5 by decide)) rfl rfl ?_
  refine J_iload (pc' := 10) (q := 4) F dX2_behind_8 rfl rfl ?_
  refine J_iconst (pc' := 11) (v := (-1)) F dX2_behind_10 (by decide) rfl ?_
  refine J_icmp_eq (tgt := 29) (pc' := 14) F dX2_behind_11 (by decide) rfl (fun c11 => ?_) (fun c11 => ?_)
  · refine J_iconst (pc' := 30) (v := (-1)) F dX2_behind_29 (by decide) rfl ?_
    exact J_iretR F hR dX2_behind_30 rfl (by show _ = zX2_behind sc ar x1 x2 x3; unfold zX2_behind; rw [if_pos c11])
  · refine J_aload_n (pc' := 15) (q := 0) F dX2_behind_14 rfl rfl ?_
    refine J_iload (pc' := 17) (q := 4) F dX2_behind_15 rfl rfl ?_
    refine J_iload_n (pc' := 18) (q := 3) F dX2_behind_17 rfl rfl ?_
    refine J_goRie (wc := (wC cI g sc ar)) (av := [.ref (g 2), .int (zX2_moved sc ar x1 x2), .int x3]) (rest := []) (v := zX2_bears sc ar (zX2_moved sc ar x1 x2) x3) (pc' := 21) F E (fun _ h => h) (fun H locs hI hp => jrun_V (As := [.int (zX2_moved sc ar x1 x2), .int x3]) 2 F E (c_X2_bears l D cI cZ z g sc ar (zX2_moved sc ar x1 x2) x3) kw_428 kw_393 kw_394 rfl kw_395 kw_2 oX2_bears ⟨⟨rfl, rfl⟩, ⟨Nat.le_of_ble_eq_true rfl, Nat.le_of_ble_eq_true rfl⟩, Nat.zero_le _, Nat.zero_le _⟩ rfl rfl (Nat.le_of_ble_eq_true rfl) dX2_behind_18 rfl rfl (jI_P E hI) hp) rfl ?_
    refine J_if_eq (tgt := 29) (pc' := 24) F dX2_behind_21 (by decide) rfl (fun c21 => ?_) (fun c21 => ?_)
    · refine J_iconst (pc' := 30) (v := (-1)) F dX2_behind_29 (by decide) rfl ?_
      exact J_iretR F hR dX2_behind_30 rfl (by show _ = zX2_behind sc ar x1 x2 x3; unfold zX2_behind; rw [if_neg c11, if_pos c21])
    · refine J_iload (pc' := 26) (q := 4) F dX2_behind_24 rfl rfl ?_
      refine J_goto (tgt := 30) F dX2_behind_26 (by decide) ?_
      exact J_iretR F hR dX2_behind_30 rfl (by show _ = zX2_behind sc ar x1 x2 x3; unfold zX2_behind; rw [if_neg c11, if_neg c21])
def zX5_bay (sc : Nat → Int32) (ar : Nat → Nat → Int32) (x1 : Int32) (x2 : Int32) : Int32 := if (zX5_isBay sc ar x1) = 0 then (-101) else (if x2 = 0 then zAt 3 (ar 1) x1 else (if x2 = 1 then zX5_tonsAt (sc 7) (2 * x1) else (if x2 = 2 then zX5_tonsAt (sc 7) ((2 * x1) + 1) else (if x2 = 3 then zAt 3 (ar 2) x1 else (if x2 = 4 then zAt 3 (ar 3) x1 else (-102))))))
abbrev rm_X5_bay : Room := { frames := 1, cells := 0, slots := 0, locals := 21 }
set_option maxHeartbeats 4000000 in
set_option maxRecDepth 100000 in
theorem c_X5_bay (l : Launch) (D : va_G) (cI cZ : ClassId) (z : Nat → Nat) (g : Nat → Nat) (sc : Nat → Int32) (ar : Nat → Nat → Int32) (x1 : Int32) (x2 : Int32)  : cRi l yX5_bay ww_X5_bay rm_X5_bay D cI cZ z (wC cI g sc ar) [.ref (g 0), .int x1, .int x2] (fun r => r = zX5_bay sc ar x1 x2) := by
  refine cRi.of (cc := cX5_bay) (maxL := 3) (rt := .int) (by decide) rfl (Nat.le_of_ble_eq_true rfl) (fun X F E hR => ?_)
  refine J_lv [0, 1, 2] (lv' := [(0, .ref (g 0)), (1, .int x1), (2, .int x2)]) rfl ?_
  refine J_aload_n (pc' := 1) (q := 0) F dX5_bay_0 rfl rfl ?_
  refine J_iload_n (pc' := 2) (q := 1) F dX5_bay_1 rfl rfl ?_
  refine J_goRie (wc := (wC cI g sc ar)) (av := [.ref (g 0), .int x1]) (rest := []) (v := zX5_isBay sc ar x1) (pc' := 5) F E (fun _ h => h) (fun H locs hI hp => jrun_V (As := [.int x1]) 0 F E (c_X5_isBay l D cI cZ z g sc ar x1) kw_363 kw_365 kp_2 rfl kw_366 kw_1 oX5_isBay ⟨⟨rfl, rfl⟩, ⟨Nat.le_of_ble_eq_true rfl, Nat.le_of_ble_eq_true rfl⟩, Nat.zero_le _, Nat.zero_le _⟩ rfl rfl (Nat.le_of_ble_eq_true rfl) dX5_bay_2 rfl rfl (jI_P E hI) hp) rfl ?_
  refine J_if_ne (tgt := 11) (pc' := 8) F dX5_bay_5 (by decide) rfl (fun c5 => ?_) (fun c5 => ?_)
  · refine J_iload_n (pc' := 12) (q := 2) F dX5_bay_11 rfl rfl ?_
    by_cases c12_0 : x2 = 0
    · refine J_vali c12_0 ?_
      refine J_tsIn (tgt := 48) F dX5_bay_12 (by decide) (by decide) rfl (by decide) ?_
      refine J_aload_n (pc' := 49) (q := 0) F dX5_bay_48 rfl rfl ?_
      refine C_get_0_2 (pc' := 52) F dX5_bay_49 kw_164 rfl ?_
      refine C_get_2_0 (pc' := 55) F dX5_bay_52 kw_30 rfl ?_
      refine J_iload_n (pc' := 56) (q := 1) F dX5_bay_55 rfl rfl ?_
      refine J_goRie (wc := [((g 3), .inl (cI, 3, .inl (ar 1)))]) (av := [.ref (g 3), .int x1]) (rest := []) (v := zAt 3 (ar 1) x1) (pc' := 59) F E (fun _ h => h.sub [3] rfl) (fun H locs hI hp => jrun_S F E (c_X5_at l D cI cZ z (g 3) 3 (ar 1) (by decide) x1) kw_337 kw_338 rfl kw_339 kw_1 oX5_at ⟨⟨rfl, rfl⟩, ⟨Nat.le_of_ble_eq_true rfl, Nat.le_of_ble_eq_true rfl⟩, Nat.zero_le _, Nat.zero_le _⟩ rfl (Nat.le_of_ble_eq_true rfl) dX5_bay_56 hp) rfl ?_
      exact J_iretR F hR dX5_bay_59 rfl (by show _ = zX5_bay sc ar x1 x2; unfold zX5_bay; rw [if_neg c5, if_pos c12_0])
    by_cases c12_1 : x2 = 1
    · refine J_vali c12_1 ?_
      refine J_tsIn (tgt := 60) F dX5_bay_12 (by decide) (by decide) rfl (by decide) ?_
      refine J_aload_n (pc' := 61) (q := 0) F dX5_bay_60 rfl rfl ?_
      refine C_get_0_4 (pc' := 64) F dX5_bay_61 kw_166 rfl ?_
      refine C_get_6_0 (v := sc 7) (pc' := 67) F dX5_bay_64 kw_60 rfl rfl ?_
      refine J_iconst (pc' := 68) (v := 2) F dX5_bay_67 (by decide) rfl ?_
      refine J_iload_n (pc' := 69) (q := 1) F dX5_bay_68 rfl rfl ?_
      refine J_imul (pc' := 70) F dX5_bay_69 rfl ?_
      refine J_goRie (wc := []) (av := [.int (sc 7), .int (2 * x1)]) (rest := []) (v := zX5_tonsAt (sc 7) (2 * x1)) (pc' := 73) F E (fun _ _ => jP_nil _ _) (fun H locs hI hp => jrun_S F E (c_X5_tonsAt l D cI cZ z (sc 7) (2 * x1)) kw_356 kw_357 rfl kw_358 kw_1 oX5_tonsAt ⟨⟨rfl, rfl⟩, ⟨Nat.le_of_ble_eq_true rfl, Nat.le_of_ble_eq_true rfl⟩, Nat.zero_le _, Nat.zero_le _⟩ rfl (Nat.le_of_ble_eq_true rfl) dX5_bay_70 hp) rfl ?_
      exact J_iretR F hR dX5_bay_73 rfl (by show _ = zX5_bay sc ar x1 x2; unfold zX5_bay; rw [if_neg c5, if_neg c12_0, if_pos c12_1])
    by_cases c12_2 : x2 = 2
    · refine J_vali c12_2 ?_
      refine J_tsIn (tgt := 74) F dX5_bay_12 (by decide) (by decide) rfl (by decide) ?_
      refine J_aload_n (pc' := 75) (q := 0) F dX5_bay_74 rfl rfl ?_
      refine C_get_0_4 (pc' := 78) F dX5_bay_75 kw_166 rfl ?_
      refine C_get_6_0 (v := sc 7) (pc' := 81) F dX5_bay_78 kw_60 rfl rfl ?_
      refine J_iconst (pc' := 82) (v := 2) F dX5_bay_81 (by decide) rfl ?_
      refine J_iload_n (pc' := 83) (q := 1) F dX5_bay_82 rfl rfl ?_
      refine J_imul (pc' := 84) F dX5_bay_83 rfl ?_
      refine J_iconst (pc' := 85) (v := 1) F dX5_bay_84 (by decide) rfl ?_
      refine J_iadd (pc' := 86) F dX5_bay_85 rfl ?_
      refine J_goRie (wc := []) (av := [.int (sc 7), .int ((2 * x1) + 1)]) (rest := []) (v := zX5_tonsAt (sc 7) ((2 * x1) + 1)) (pc' := 89) F E (fun _ _ => jP_nil _ _) (fun H locs hI hp => jrun_S F E (c_X5_tonsAt l D cI cZ z (sc 7) ((2 * x1) + 1)) kw_356 kw_357 rfl kw_358 kw_1 oX5_tonsAt ⟨⟨rfl, rfl⟩, ⟨Nat.le_of_ble_eq_true rfl, Nat.le_of_ble_eq_true rfl⟩, Nat.zero_le _, Nat.zero_le _⟩ rfl (Nat.le_of_ble_eq_true rfl) dX5_bay_86 hp) rfl ?_
      exact J_iretR F hR dX5_bay_89 rfl (by show _ = zX5_bay sc ar x1 x2; unfold zX5_bay; rw [if_neg c5, if_neg c12_0, if_neg c12_1, if_pos c12_2])
    by_cases c12_3 : x2 = 3
    · refine J_vali c12_3 ?_
      refine J_tsIn (tgt := 90) F dX5_bay_12 (by decide) (by decide) rfl (by decide) ?_
      refine J_aload_n (pc' := 91) (q := 0) F dX5_bay_90 rfl rfl ?_
      refine C_get_0_2 (pc' := 94) F dX5_bay_91 kw_164 rfl ?_
      refine C_get_2_1 (pc' := 97) F dX5_bay_94 kw_32 rfl ?_
      refine J_iload_n (pc' := 98) (q := 1) F dX5_bay_97 rfl rfl ?_
      refine J_goRie (wc := [((g 4), .inl (cI, 3, .inl (ar 2)))]) (av := [.ref (g 4), .int x1]) (rest := []) (v := zAt 3 (ar 2) x1) (pc' := 101) F E (fun _ h => h.sub [4] rfl) (fun H locs hI hp => jrun_S F E (c_X5_at l D cI cZ z (g 4) 3 (ar 2) (by decide) x1) kw_337 kw_338 rfl kw_339 kw_1 oX5_at ⟨⟨rfl, rfl⟩, ⟨Nat.le_of_ble_eq_true rfl, Nat.le_of_ble_eq_true rfl⟩, Nat.zero_le _, Nat.zero_le _⟩ rfl (Nat.le_of_ble_eq_true rfl) dX5_bay_98 hp) rfl ?_
      exact J_iretR F hR dX5_bay_101 rfl (by show _ = zX5_bay sc ar x1 x2; unfold zX5_bay; rw [if_neg c5, if_neg c12_0, if_neg c12_1, if_neg c12_2, if_pos c12_3])
    by_cases c12_4 : x2 = 4
    · refine J_vali c12_4 ?_
      refine J_tsIn (tgt := 102) F dX5_bay_12 (by decide) (by decide) rfl (by decide) ?_
      refine J_aload_n (pc' := 103) (q := 0) F dX5_bay_102 rfl rfl ?_
      refine C_get_0_2 (pc' := 106) F dX5_bay_103 kw_164 rfl ?_
      refine C_get_2_2 (pc' := 109) F dX5_bay_106 kw_34 rfl ?_
      refine J_iload_n (pc' := 110) (q := 1) F dX5_bay_109 rfl rfl ?_
      refine J_goRie (wc := [((g 5), .inl (cI, 3, .inl (ar 3)))]) (av := [.ref (g 5), .int x1]) (rest := []) (v := zAt 3 (ar 3) x1) (pc' := 113) F E (fun _ h => h.sub [5] rfl) (fun H locs hI hp => jrun_S F E (c_X5_at l D cI cZ z (g 5) 3 (ar 3) (by decide) x1) kw_337 kw_338 rfl kw_339 kw_1 oX5_at ⟨⟨rfl, rfl⟩, ⟨Nat.le_of_ble_eq_true rfl, Nat.le_of_ble_eq_true rfl⟩, Nat.zero_le _, Nat.zero_le _⟩ rfl (Nat.le_of_ble_eq_true rfl) dX5_bay_110 hp) rfl ?_
      exact J_iretR F hR dX5_bay_113 rfl (by show _ = zX5_bay sc ar x1 x2; unfold zX5_bay; rw [if_neg c5, if_neg c12_0, if_neg c12_1, if_neg c12_2, if_neg c12_3, if_pos c12_4])
    refine J_tsOut (tgt := 114) F dX5_bay_12 (jts_4 c12_0 c12_1 c12_2 c12_3 c12_4) (by decide) ?_
    refine J_bipush (pc' := 116) (v := (-102)) F dX5_bay_114 (by decide) rfl ?_
    exact J_iretR F hR dX5_bay_116 rfl (by show _ = zX5_bay sc ar x1 x2; unfold zX5_bay; rw [if_neg c5, if_neg c12_0, if_neg c12_1, if_neg c12_2, if_neg c12_3, if_neg c12_4])
  · refine J_bipush (pc' := 10) (v := (-101)) F dX5_bay_8 (by decide) rfl ?_
    exact J_iretR F hR dX5_bay_10 rfl (by show _ = zX5_bay sc ar x1 x2; unfold zX5_bay; rw [if_pos c5])
def zX5_as (sc : Nat → Int32) (ar : Nat → Nat → Int32) (x1 : Int32) (x2 : Int32) : Int32 := if (zX5_isBay sc ar x1) = 0 then (-101) else (if x2 < 0 then (-102) else (if x2 < 5 then (if x2 = 0 then x1 else (if x2 = (zAt 3 (ar 1) x1) then x1 else (if x2 = 2 then (if (zAt 3 (ar 1) x1) = 4 then x1 else (-1)) else (-1)))) else (-102)))
abbrev rm_X5_as : Room := { frames := 2, cells := 0, slots := 0, locals := 40 }
set_option maxHeartbeats 4000000 in
set_option maxRecDepth 100000 in
theorem c_X5_as (l : Launch) (D : va_G) (cI cZ : ClassId) (z : Nat → Nat) (g : Nat → Nat) (sc : Nat → Int32) (ar : Nat → Nat → Int32) (x1 : Int32) (x2 : Int32)  : cRi l yX5_as ww_X5_as rm_X5_as D cI cZ z (wC cI g sc ar) [.ref (g 0), .int x1, .int x2] (fun r => r = zX5_as sc ar x1 x2) := by
  refine cRi.of (cc := cX5_as) (maxL := 5) (rt := .int) (by decide) rfl (Nat.le_of_ble_eq_true rfl) (fun X F E hR => ?_)
  refine J_lv [0, 1, 2] (lv' := [(0, .ref (g 0)), (1, .int x1), (2, .int x2)]) rfl ?_
  refine J_aload_n (pc' := 1) (q := 0) F dX5_as_0 rfl rfl ?_
  refine J_iload_n (pc' := 2) (q := 1) F dX5_as_1 rfl rfl ?_
  refine J_goRie (wc := (wC cI g sc ar)) (av := [.ref (g 0), .int x1]) (rest := []) (v := zX5_isBay sc ar x1) (pc' := 5) F E (fun _ h => h) (fun H locs hI hp => jrun_V (As := [.int x1]) 0 F E (c_X5_isBay l D cI cZ z g sc ar x1) kw_363 kw_365 kp_2 rfl kw_366 kw_1 oX5_isBay ⟨⟨rfl, rfl⟩, ⟨Nat.le_of_ble_eq_true rfl, Nat.le_of_ble_eq_true rfl⟩, Nat.zero_le _, Nat.zero_le _⟩ rfl rfl (Nat.le_of_ble_eq_true rfl) dX5_as_2 rfl rfl (jI_P E hI) hp) rfl ?_
  refine J_if_ne (tgt := 11) (pc' := 8) F dX5_as_5 (by decide) rfl (fun c5 => ?_) (fun c5 => ?_)
  · refine J_iload_n (pc' := 12) (q := 2) F dX5_as_11 rfl rfl ?_
    refine J_if_lt (tgt := 24) (pc' := 15) F dX5_as_12 (by decide) rfl (fun c12 => ?_) (fun c12 => ?_)
    · refine J_bipush (pc' := 26) (v := (-102)) F dX5_as_24 (by decide) rfl ?_
      exact J_iretR F hR dX5_as_26 rfl (by show _ = zX5_as sc ar x1 x2; unfold zX5_as; rw [if_neg c5, if_pos c12])
    · refine J_iload_n (pc' := 16) (q := 2) F dX5_as_15 rfl rfl ?_
      refine J_ldcS (pc' := 18) F dX5_as_16 (fun _ _ _ h => h.2.2.2.2.2.2.2.2.2.1) rfl ?_
      refine J_goRie (wc := []) (av := [.ref (z 4)]) (rest := [.int x2]) (v := 5) (pc' := 21) F E (fun _ _ => jP_nil _ _) (fun H locs hI hp => jrun_VS (i := 1) (As := []) F E (c_J0_length_4 l D cI cZ z ) kw_215 kw_216 kw_217 rfl kw_218 kw_8 oJ0_length_8abf5 ⟨⟨rfl, rfl⟩, ⟨Nat.le_of_ble_eq_true rfl, Nat.le_of_ble_eq_true rfl⟩, Nat.zero_le _, Nat.zero_le _⟩ (by decide) rfl rfl (Nat.le_of_ble_eq_true rfl) dX5_as_18 hI hp) rfl ?_
      refine J_icmp_lt (tgt := 27) (pc' := 24) F dX5_as_21 (by decide) rfl (fun c21 => ?_) (fun c21 => ?_)
      · refine J_aload_n (pc' := 28) (q := 0) F dX5_as_27 rfl rfl ?_
        refine C_get_0_2 (pc' := 31) F dX5_as_28 kw_164 rfl ?_
        refine C_get_2_0 (pc' := 34) F dX5_as_31 kw_30 rfl ?_
        refine J_iload_n (pc' := 35) (q := 1) F dX5_as_34 rfl rfl ?_
        refine J_goRie (wc := [((g 3), .inl (cI, 3, .inl (ar 1)))]) (av := [.ref (g 3), .int x1]) (rest := []) (v := zAt 3 (ar 1) x1) (pc' := 38) F E (fun _ h => h.sub [3] rfl) (fun H locs hI hp => jrun_S F E (c_X5_at l D cI cZ z (g 3) 3 (ar 1) (by decide) x1) kw_337 kw_338 rfl kw_339 kw_1 oX5_at ⟨⟨rfl, rfl⟩, ⟨Nat.le_of_ble_eq_true rfl, Nat.le_of_ble_eq_true rfl⟩, Nat.zero_le _, Nat.zero_le _⟩ rfl (Nat.le_of_ble_eq_true rfl) dX5_as_35 hp) rfl ?_
        refine J_istore_n (pc' := 39) [1, 2, 3, 0] [(0, .ref (g 0)), (1, .int x1), (2, .int x2), (3, .int (zAt 3 (ar 1) x1))] F dX5_as_38 rfl (jL_of E (show 3 < 5 by decide)) rfl rfl ?_
        refine J_iload_n (pc' := 40) (q := 2) F dX5_as_39 rfl rfl ?_
        refine J_if_eq (tgt := 58) (pc' := 43) F dX5_as_40 (by decide) rfl (fun c40 => ?_) (fun c40 => ?_)
        · refine J_iconst (pc' := 59) (v := 1) F dX5_as_58 (by decide) rfl ?_
          refine J_goto (tgt := 63) F dX5_as_59 (by decide) ?_
          refine J_istore (pc' := 65) [1, 2, 3, 4, 0] [(0, .ref (g 0)), (1, .int x1), (2, .int x2), (3, .int (zAt 3 (ar 1) x1)), (4, .int 1)] F dX5_as_63 (jL_of E (show 4 < 5 by decide)) rfl rfl ?_
          refine J_iload (pc' := 67) (q := 4) F dX5_as_65 rfl rfl ?_
          refine J_if_eq (tgt := 74) (pc' := 70) F dX5_as_67 (by decide) rfl (fun c9 => absurd c9 (by decide)) (fun _ => ?_)
          refine J_iload_n (pc' := 71) (q := 1) F dX5_as_70 rfl rfl ?_
          refine J_goto (tgt := 75) F dX5_as_71 (by decide) ?_
          exact J_iretR F hR dX5_as_75 rfl (by show _ = zX5_as sc ar x1 x2; unfold zX5_as; rw [if_neg c5, if_neg c12, if_pos c21, if_pos c40])
        · refine J_iload_n (pc' := 44) (q := 2) F dX5_as_43 rfl rfl ?_
          refine J_iload_n (pc' := 45) (q := 3) F dX5_as_44 rfl rfl ?_
          refine J_icmp_eq (tgt := 58) (pc' := 48) F dX5_as_45 (by decide) rfl (fun c45 => ?_) (fun c45 => ?_)
          · refine J_iconst (pc' := 59) (v := 1) F dX5_as_58 (by decide) rfl ?_
            refine J_goto (tgt := 63) F dX5_as_59 (by decide) ?_
            refine J_istore (pc' := 65) [1, 2, 3, 4, 0] [(0, .ref (g 0)), (1, .int x1), (2, .int x2), (3, .int (zAt 3 (ar 1) x1)), (4, .int 1)] F dX5_as_63 (jL_of E (show 4 < 5 by decide)) rfl rfl ?_
            refine J_iload (pc' := 67) (q := 4) F dX5_as_65 rfl rfl ?_
            refine J_if_eq (tgt := 74) (pc' := 70) F dX5_as_67 (by decide) rfl (fun c9 => absurd c9 (by decide)) (fun _ => ?_)
            refine J_iload_n (pc' := 71) (q := 1) F dX5_as_70 rfl rfl ?_
            refine J_goto (tgt := 75) F dX5_as_71 (by decide) ?_
            exact J_iretR F hR dX5_as_75 rfl (by show _ = zX5_as sc ar x1 x2; unfold zX5_as; rw [if_neg c5, if_neg c12, if_pos c21, if_neg c40, if_pos c45])
          · refine J_iload_n (pc' := 49) (q := 2) F dX5_as_48 rfl rfl ?_
            refine J_iconst (pc' := 50) (v := 2) F dX5_as_49 (by decide) rfl ?_
            refine J_icmp_ne (tgt := 62) (pc' := 53) F dX5_as_50 (by decide) rfl (fun c50 => ?_) (fun c50 => ?_)
            · refine J_iconst (pc' := 63) (v := 0) F dX5_as_62 (by decide) rfl ?_
              refine J_istore (pc' := 65) [1, 2, 3, 4, 0] [(0, .ref (g 0)), (1, .int x1), (2, .int x2), (3, .int (zAt 3 (ar 1) x1)), (4, .int 0)] F dX5_as_63 (jL_of E (show 4 < 5 by decide)) rfl rfl ?_
              refine J_iload (pc' := 67) (q := 4) F dX5_as_65 rfl rfl ?_
              refine J_if_eq (tgt := 74) (pc' := 70) F dX5_as_67 (by decide) rfl (fun _ => ?_) (fun c9 => absurd (by decide) c9)
              refine J_iconst (pc' := 75) (v := (-1)) F dX5_as_74 (by decide) rfl ?_
              exact J_iretR F hR dX5_as_75 rfl (by show _ = zX5_as sc ar x1 x2; unfold zX5_as; rw [if_neg c5, if_neg c12, if_pos c21, if_neg c40, if_neg c45, if_neg c50])
            · refine J_iload_n (pc' := 54) (q := 3) F dX5_as_53 rfl rfl ?_
              refine J_iconst (pc' := 55) (v := 4) F dX5_as_54 (by decide) rfl ?_
              refine J_icmp_ne (tgt := 62) (pc' := 58) F dX5_as_55 (by decide) rfl (fun c55 => ?_) (fun c55 => ?_)
              · refine J_iconst (pc' := 63) (v := 0) F dX5_as_62 (by decide) rfl ?_
                refine J_istore (pc' := 65) [1, 2, 3, 4, 0] [(0, .ref (g 0)), (1, .int x1), (2, .int x2), (3, .int (zAt 3 (ar 1) x1)), (4, .int 0)] F dX5_as_63 (jL_of E (show 4 < 5 by decide)) rfl rfl ?_
                refine J_iload (pc' := 67) (q := 4) F dX5_as_65 rfl rfl ?_
                refine J_if_eq (tgt := 74) (pc' := 70) F dX5_as_67 (by decide) rfl (fun _ => ?_) (fun c9 => absurd (by decide) c9)
                refine J_iconst (pc' := 75) (v := (-1)) F dX5_as_74 (by decide) rfl ?_
                exact J_iretR F hR dX5_as_75 rfl (by show _ = zX5_as sc ar x1 x2; unfold zX5_as; rw [if_neg c5, if_neg c12, if_pos c21, if_neg c40, if_neg c45, if_pos c50, if_neg c55])
              · refine J_iconst (pc' := 59) (v := 1) F dX5_as_58 (by decide) rfl ?_
                refine J_goto (tgt := 63) F dX5_as_59 (by decide) ?_
                refine J_istore (pc' := 65) [1, 2, 3, 4, 0] [(0, .ref (g 0)), (1, .int x1), (2, .int x2), (3, .int (zAt 3 (ar 1) x1)), (4, .int 1)] F dX5_as_63 (jL_of E (show 4 < 5 by decide)) rfl rfl ?_
                refine J_iload (pc' := 67) (q := 4) F dX5_as_65 rfl rfl ?_
                refine J_if_eq (tgt := 74) (pc' := 70) F dX5_as_67 (by decide) rfl (fun c9 => absurd c9 (by decide)) (fun _ => ?_)
                refine J_iload_n (pc' := 71) (q := 1) F dX5_as_70 rfl rfl ?_
                refine J_goto (tgt := 75) F dX5_as_71 (by decide) ?_
                exact J_iretR F hR dX5_as_75 rfl (by show _ = zX5_as sc ar x1 x2; unfold zX5_as; rw [if_neg c5, if_neg c12, if_pos c21, if_neg c40, if_neg c45, if_pos c50, if_pos c55])
      · refine J_bipush (pc' := 26) (v := (-102)) F dX5_as_24 (by decide) rfl ?_
        exact J_iretR F hR dX5_as_26 rfl (by show _ = zX5_as sc ar x1 x2; unfold zX5_as; rw [if_neg c5, if_neg c12, if_neg c21])
  · refine J_bipush (pc' := 10) (v := (-101)) F dX5_as_8 (by decide) rfl ?_
    exact J_iretR F hR dX5_as_10 rfl (by show _ = zX5_as sc ar x1 x2; unfold zX5_as; rw [if_pos c5])
def zX5_hull (sc : Nat → Int32) (ar : Nat → Nat → Int32) (x1 : Int32) : Int32 := if x1 < 0 then (-102) else (if x1 ≤ 3 then (if (sc 1) = 0 then (-103) else (if x1 = 0 then zX5_bentBy (sc 7) else (if x1 = 1 then zX5_listingBy (sc 7) else (if x1 = 2 then zX5_asNumber (zX2_bears sc ar (sc 7) (zX5_bendNow sc ar)) else zX5_bendNow sc ar)))) else (-102))
abbrev rm_X5_hull : Room := { frames := 2, cells := 0, slots := 0, locals := 45 }
set_option maxHeartbeats 4000000 in
set_option maxRecDepth 100000 in
theorem c_X5_hull (l : Launch) (D : va_G) (cI cZ : ClassId) (z : Nat → Nat) (g : Nat → Nat) (sc : Nat → Int32) (ar : Nat → Nat → Int32) (x1 : Int32)  : cRi l yX5_hull ww_X5_hull rm_X5_hull D cI cZ z (wC cI g sc ar) [.ref (g 0), .int x1] (fun r => r = zX5_hull sc ar x1) := by
  refine cRi.of (cc := cX5_hull) (maxL := 2) (rt := .int) (by decide) rfl (Nat.le_of_ble_eq_true rfl) (fun X F E hR => ?_)
  refine J_lv [0, 1] (lv' := [(0, .ref (g 0)), (1, .int x1)]) rfl ?_
  refine J_iload_n (pc' := 1) (q := 1) F dX5_hull_0 rfl rfl ?_
  refine J_if_lt (tgt := 9) (pc' := 4) F dX5_hull_1 (by decide) rfl (fun c1 => ?_) (fun c1 => ?_)
  · refine J_bipush (pc' := 11) (v := (-102)) F dX5_hull_9 (by decide) rfl ?_
    exact J_iretR F hR dX5_hull_11 rfl (by show _ = zX5_hull sc ar x1; unfold zX5_hull; rw [if_pos c1])
  · refine J_iload_n (pc' := 5) (q := 1) F dX5_hull_4 rfl rfl ?_
    refine J_iconst (pc' := 6) (v := 3) F dX5_hull_5 (by decide) rfl ?_
    refine J_icmp_le (tgt := 12) (pc' := 9) F dX5_hull_6 (by decide) rfl (fun c6 => ?_) (fun c6 => ?_)
    · refine J_aload_n (pc' := 13) (q := 0) F dX5_hull_12 rfl rfl ?_
      refine C_get_0_3 (v := sc 1) (pc' := 16) F dX5_hull_13 kw_165 rfl rfl ?_
      refine J_if_ne (tgt := 22) (pc' := 19) F dX5_hull_16 (by decide) rfl (fun c16 => ?_) (fun c16 => ?_)
      · refine J_iload_n (pc' := 23) (q := 1) F dX5_hull_22 rfl rfl ?_
        by_cases c23_0 : x1 = 0
        · refine J_vali c23_0 ?_
          refine J_tsIn (tgt := 48) F dX5_hull_23 (by decide) (by decide) rfl (by decide) ?_
          refine J_aload_n (pc' := 49) (q := 0) F dX5_hull_48 rfl rfl ?_
          refine C_get_0_4 (pc' := 52) F dX5_hull_49 kw_166 rfl ?_
          refine C_get_6_0 (v := sc 7) (pc' := 55) F dX5_hull_52 kw_60 rfl rfl ?_
          refine J_goRie (wc := []) (av := [.int (sc 7)]) (rest := []) (v := zX5_bentBy (sc 7)) (pc' := 58) F E (fun _ _ => jP_nil _ _) (fun H locs hI hp => jrun_S F E (c_X5_bentBy l D cI cZ z (sc 7)) kw_382 kw_383 rfl kw_384 kw_1 oX5_bentBy ⟨⟨rfl, rfl⟩, ⟨Nat.le_of_ble_eq_true rfl, Nat.le_of_ble_eq_true rfl⟩, Nat.zero_le _, Nat.zero_le _⟩ rfl (Nat.le_of_ble_eq_true rfl) dX5_hull_55 hp) rfl ?_
          exact J_iretR F hR dX5_hull_58 rfl (by show _ = zX5_hull sc ar x1; unfold zX5_hull; rw [if_neg c1, if_pos c6, if_neg c16, if_pos c23_0])
        by_cases c23_1 : x1 = 1
        · refine J_vali c23_1 ?_
          refine J_tsIn (tgt := 59) F dX5_hull_23 (by decide) (by decide) rfl (by decide) ?_
          refine J_aload_n (pc' := 60) (q := 0) F dX5_hull_59 rfl rfl ?_
          refine C_get_0_4 (pc' := 63) F dX5_hull_60 kw_166 rfl ?_
          refine C_get_6_0 (v := sc 7) (pc' := 66) F dX5_hull_63 kw_60 rfl rfl ?_
          refine J_goRie (wc := []) (av := [.int (sc 7)]) (rest := []) (v := zX5_listingBy (sc 7)) (pc' := 69) F E (fun _ _ => jP_nil _ _) (fun H locs hI hp => jrun_S F E (c_X5_listingBy l D cI cZ z (sc 7)) kw_385 kw_386 rfl kw_387 kw_1 oX5_listingBy ⟨⟨rfl, rfl⟩, ⟨Nat.le_of_ble_eq_true rfl, Nat.le_of_ble_eq_true rfl⟩, Nat.zero_le _, Nat.zero_le _⟩ rfl (Nat.le_of_ble_eq_true rfl) dX5_hull_66 hp) rfl ?_
          exact J_iretR F hR dX5_hull_69 rfl (by show _ = zX5_hull sc ar x1; unfold zX5_hull; rw [if_neg c1, if_pos c6, if_neg c16, if_neg c23_0, if_pos c23_1])
        by_cases c23_2 : x1 = 2
        · refine J_vali c23_2 ?_
          refine J_tsIn (tgt := 70) F dX5_hull_23 (by decide) (by decide) rfl (by decide) ?_
          refine J_aload_n (pc' := 71) (q := 0) F dX5_hull_70 rfl rfl ?_
          refine C_get_0_2 (pc' := 74) F dX5_hull_71 kw_164 rfl ?_
          refine J_aload_n (pc' := 75) (q := 0) F dX5_hull_74 rfl rfl ?_
          refine C_get_0_4 (pc' := 78) F dX5_hull_75 kw_166 rfl ?_
          refine C_get_6_0 (v := sc 7) (pc' := 81) F dX5_hull_78 kw_60 rfl rfl ?_
          refine J_aload_n (pc' := 82) (q := 0) F dX5_hull_81 rfl rfl ?_
          refine J_goRie (wc := (wC cI g sc ar)) (av := [.ref (g 0)]) (rest := [.int (sc 7), .ref (g 2)]) (v := zX5_bendNow sc ar) (pc' := 85) F E (fun _ h => h) (fun H locs hI hp => jrun_V (As := []) 0 F E (c_X5_bendNow l D cI cZ z g sc ar ) kw_388 kw_390 kp_3 rfl kw_391 kw_1 oX5_bendNow ⟨⟨rfl, rfl⟩, ⟨Nat.le_of_ble_eq_true rfl, Nat.le_of_ble_eq_true rfl⟩, Nat.zero_le _, Nat.zero_le _⟩ rfl rfl (Nat.le_of_ble_eq_true rfl) dX5_hull_82 rfl rfl (jI_P E hI) hp) rfl ?_
          refine J_goRie (wc := (wC cI g sc ar)) (av := [.ref (g 2), .int (sc 7), .int (zX5_bendNow sc ar)]) (rest := []) (v := zX2_bears sc ar (sc 7) (zX5_bendNow sc ar)) (pc' := 88) F E (fun _ h => h) (fun H locs hI hp => jrun_V (As := [.int (sc 7), .int (zX5_bendNow sc ar)]) 2 F E (c_X2_bears l D cI cZ z g sc ar (sc 7) (zX5_bendNow sc ar)) kw_392 kw_393 kw_394 rfl kw_395 kw_2 oX2_bears ⟨⟨rfl, rfl⟩, ⟨Nat.le_of_ble_eq_true rfl, Nat.le_of_ble_eq_true rfl⟩, Nat.zero_le _, Nat.zero_le _⟩ rfl rfl (Nat.le_of_ble_eq_true rfl) dX5_hull_85 rfl rfl (jI_P E hI) hp) rfl ?_
          refine J_goRie (wc := []) (av := [.int (zX2_bears sc ar (sc 7) (zX5_bendNow sc ar))]) (rest := []) (v := zX5_asNumber (zX2_bears sc ar (sc 7) (zX5_bendNow sc ar))) (pc' := 91) F E (fun _ _ => jP_nil _ _) (fun H locs hI hp => jrun_S F E (c_X5_asNumber l D cI cZ z (zX2_bears sc ar (sc 7) (zX5_bendNow sc ar))) kw_375 kw_376 rfl kw_377 kw_1 oX5_asNumber ⟨⟨rfl, rfl⟩, ⟨Nat.le_of_ble_eq_true rfl, Nat.le_of_ble_eq_true rfl⟩, Nat.zero_le _, Nat.zero_le _⟩ rfl (Nat.le_of_ble_eq_true rfl) dX5_hull_88 hp) rfl ?_
          exact J_iretR F hR dX5_hull_91 rfl (by show _ = zX5_hull sc ar x1; unfold zX5_hull; rw [if_neg c1, if_pos c6, if_neg c16, if_neg c23_0, if_neg c23_1, if_pos c23_2])
        refine J_tsOut (tgt := 92) F dX5_hull_23 (jts_2 c23_0 c23_1 c23_2) (by decide) ?_
        refine J_aload_n (pc' := 93) (q := 0) F dX5_hull_92 rfl rfl ?_
        refine J_goRie (wc := (wC cI g sc ar)) (av := [.ref (g 0)]) (rest := []) (v := zX5_bendNow sc ar) (pc' := 96) F E (fun _ h => h) (fun H locs hI hp => jrun_V (As := []) 0 F E (c_X5_bendNow l D cI cZ z g sc ar ) kw_388 kw_390 kp_3 rfl kw_391 kw_1 oX5_bendNow ⟨⟨rfl, rfl⟩, ⟨Nat.le_of_ble_eq_true rfl, Nat.le_of_ble_eq_true rfl⟩, Nat.zero_le _, Nat.zero_le _⟩ rfl rfl (Nat.le_of_ble_eq_true rfl) dX5_hull_93 rfl rfl (jI_P E hI) hp) rfl ?_
        exact J_iretR F hR dX5_hull_96 rfl (by show _ = zX5_hull sc ar x1; unfold zX5_hull; rw [if_neg c1, if_pos c6, if_neg c16, if_neg c23_0, if_neg c23_1, if_neg c23_2])
      · refine J_bipush (pc' := 21) (v := (-103)) F dX5_hull_19 (by decide) rfl ?_
        exact J_iretR F hR dX5_hull_21 rfl (by show _ = zX5_hull sc ar x1; unfold zX5_hull; rw [if_neg c1, if_pos c6, if_pos c16])
    · refine J_bipush (pc' := 11) (v := (-102)) F dX5_hull_9 (by decide) rfl ?_
      exact J_iretR F hR dX5_hull_11 rfl (by show _ = zX5_hull sc ar x1; unfold zX5_hull; rw [if_neg c1, if_neg c6])
def zX5_may (sc : Nat → Int32) (ar : Nat → Nat → Int32) (x1 : Int32) : Int32 := if (sc 1) = 0 then (-101) else (if (zX5_isAct x1) = 0 then (-101) else (if (zX2_behind sc ar (sc 7) x1 (zX5_bendNow sc ar)) = (-1) then zX5_asNumber 0 else zX5_asNumber 1))
abbrev rm_X5_may : Room := { frames := 3, cells := 0, slots := 0, locals := 75 }
set_option maxHeartbeats 4000000 in
set_option maxRecDepth 100000 in
theorem c_X5_may (l : Launch) (D : va_G) (cI cZ : ClassId) (z : Nat → Nat) (g : Nat → Nat) (sc : Nat → Int32) (ar : Nat → Nat → Int32) (x1 : Int32)  : cRi l yX5_may ww_X5_may rm_X5_may D cI cZ z (wC cI g sc ar) [.ref (g 0), .int x1] (fun r => r = zX5_may sc ar x1) := by
  refine cRi.of (cc := cX5_may) (maxL := 2) (rt := .int) (by decide) rfl (Nat.le_of_ble_eq_true rfl) (fun X F E hR => ?_)
  refine J_lv [0, 1] (lv' := [(0, .ref (g 0)), (1, .int x1)]) rfl ?_
  refine J_aload_n (pc' := 1) (q := 0) F dX5_may_0 rfl rfl ?_
  refine C_get_0_3 (v := sc 1) (pc' := 4) F dX5_may_1 kw_165 rfl rfl ?_
  refine J_if_eq (tgt := 14) (pc' := 7) F dX5_may_4 (by decide) rfl (fun c4 => ?_) (fun c4 => ?_)
  · refine J_bipush (pc' := 16) (v := (-101)) F dX5_may_14 (by decide) rfl ?_
    exact J_iretR F hR dX5_may_16 rfl (by show _ = zX5_may sc ar x1; unfold zX5_may; rw [if_pos c4])
  · refine J_iload_n (pc' := 8) (q := 1) F dX5_may_7 rfl rfl ?_
    refine J_goRie (wc := []) (av := [.int x1]) (rest := []) (v := zX5_isAct x1) (pc' := 11) F E (fun _ _ => jP_nil _ _) (fun H locs hI hp => jrun_S F E (c_X5_isAct l D cI cZ z x1) kw_402 kw_403 rfl kw_404 kw_1 oX5_isAct ⟨⟨rfl, rfl⟩, ⟨Nat.le_of_ble_eq_true rfl, Nat.le_of_ble_eq_true rfl⟩, Nat.zero_le _, Nat.zero_le _⟩ rfl (Nat.le_of_ble_eq_true rfl) dX5_may_8 hp) rfl ?_
    refine J_if_ne (tgt := 17) (pc' := 14) F dX5_may_11 (by decide) rfl (fun c11 => ?_) (fun c11 => ?_)
    · refine J_aload_n (pc' := 18) (q := 0) F dX5_may_17 rfl rfl ?_
      refine C_get_0_2 (pc' := 21) F dX5_may_18 kw_164 rfl ?_
      refine J_aload_n (pc' := 22) (q := 0) F dX5_may_21 rfl rfl ?_
      refine C_get_0_4 (pc' := 25) F dX5_may_22 kw_166 rfl ?_
      refine C_get_6_0 (v := sc 7) (pc' := 28) F dX5_may_25 kw_60 rfl rfl ?_
      refine J_iload_n (pc' := 29) (q := 1) F dX5_may_28 rfl rfl ?_
      refine J_aload_n (pc' := 30) (q := 0) F dX5_may_29 rfl rfl ?_
      refine J_goRie (wc := (wC cI g sc ar)) (av := [.ref (g 0)]) (rest := [.int x1, .int (sc 7), .ref (g 2)]) (v := zX5_bendNow sc ar) (pc' := 33) F E (fun _ h => h) (fun H locs hI hp => jrun_V (As := []) 0 F E (c_X5_bendNow l D cI cZ z g sc ar ) kw_388 kw_390 kp_3 rfl kw_391 kw_1 oX5_bendNow ⟨⟨rfl, rfl⟩, ⟨Nat.le_of_ble_eq_true rfl, Nat.le_of_ble_eq_true rfl⟩, Nat.zero_le _, Nat.zero_le _⟩ rfl rfl (Nat.le_of_ble_eq_true rfl) dX5_may_30 rfl rfl (jI_P E hI) hp) rfl ?_
      refine J_goRie (wc := (wC cI g sc ar)) (av := [.ref (g 2), .int (sc 7), .int x1, .int (zX5_bendNow sc ar)]) (rest := []) (v := zX2_behind sc ar (sc 7) x1 (zX5_bendNow sc ar)) (pc' := 36) F E (fun _ h => h) (fun H locs hI hp => jrun_V (As := [.int (sc 7), .int x1, .int (zX5_bendNow sc ar)]) 2 F E (c_X2_behind l D cI cZ z g sc ar (sc 7) x1 (zX5_bendNow sc ar)) kw_414 kw_415 kw_416 rfl kw_417 kw_2 oX2_behind ⟨⟨rfl, rfl⟩, ⟨Nat.le_of_ble_eq_true rfl, Nat.le_of_ble_eq_true rfl⟩, Nat.zero_le _, Nat.zero_le _⟩ rfl rfl (Nat.le_of_ble_eq_true rfl) dX5_may_33 rfl rfl (jI_P E hI) hp) rfl ?_
      refine J_iconst (pc' := 37) (v := (-1)) F dX5_may_36 (by decide) rfl ?_
      refine J_icmp_eq (tgt := 44) (pc' := 40) F dX5_may_37 (by decide) rfl (fun c37 => ?_) (fun c37 => ?_)
      · refine J_iconst (pc' := 45) (v := 0) F dX5_may_44 (by decide) rfl ?_
        refine J_goRie (wc := []) (av := [.int 0]) (rest := []) (v := zX5_asNumber 0) (pc' := 48) F E (fun _ _ => jP_nil _ _) (fun H locs hI hp => jrun_S F E (c_X5_asNumber l D cI cZ z 0) kw_375 kw_376 rfl kw_377 kw_1 oX5_asNumber ⟨⟨rfl, rfl⟩, ⟨Nat.le_of_ble_eq_true rfl, Nat.le_of_ble_eq_true rfl⟩, Nat.zero_le _, Nat.zero_le _⟩ rfl (Nat.le_of_ble_eq_true rfl) dX5_may_45 hp) rfl ?_
        exact J_iretR F hR dX5_may_48 rfl (by show _ = zX5_may sc ar x1; unfold zX5_may; rw [if_neg c4, if_neg c11, if_pos c37])
      · refine J_iconst (pc' := 41) (v := 1) F dX5_may_40 (by decide) rfl ?_
        refine J_goto (tgt := 45) F dX5_may_41 (by decide) ?_
        refine J_goRie (wc := []) (av := [.int 1]) (rest := []) (v := zX5_asNumber 1) (pc' := 48) F E (fun _ _ => jP_nil _ _) (fun H locs hI hp => jrun_S F E (c_X5_asNumber l D cI cZ z 1) kw_375 kw_376 rfl kw_377 kw_1 oX5_asNumber ⟨⟨rfl, rfl⟩, ⟨Nat.le_of_ble_eq_true rfl, Nat.le_of_ble_eq_true rfl⟩, Nat.zero_le _, Nat.zero_le _⟩ rfl (Nat.le_of_ble_eq_true rfl) dX5_may_45 hp) rfl ?_
        exact J_iretR F hR dX5_may_48 rfl (by show _ = zX5_may sc ar x1; unfold zX5_may; rw [if_neg c4, if_neg c11, if_neg c37])
    · refine J_bipush (pc' := 16) (v := (-101)) F dX5_may_14 (by decide) rfl ?_
      exact J_iretR F hR dX5_may_16 rfl (by show _ = zX5_may sc ar x1; unfold zX5_may; rw [if_neg c4, if_pos c11])
def zX5_count (sc : Nat → Int32) (ar : Nat → Nat → Int32) (x1 : Int32) : Int32 := if x1 = 0 then sc 5 else (if x1 = 1 then sc 6 else (if x1 = 2 then zX5_tonsOf (sc 7) else (if x1 = 3 then sc 10 else (if x1 = 4 then sc 9 else (if x1 = 5 then zX5_asNumber (sc 8) else (if x1 = 6 then sc 11 else (if x1 = 7 then sc 0 else (if x1 = 8 then sc 3 else (if x1 = 9 then sc 4 else (-102))))))))))
abbrev rm_X5_count : Room := { frames := 2, cells := 0, slots := 0, locals := 43 }
set_option maxHeartbeats 4000000 in
set_option maxRecDepth 100000 in
theorem c_X5_count (l : Launch) (D : va_G) (cI cZ : ClassId) (z : Nat → Nat) (g : Nat → Nat) (sc : Nat → Int32) (ar : Nat → Nat → Int32) (x1 : Int32)  : cRi l yX5_count ww_X5_count rm_X5_count D cI cZ z (wC cI g sc ar) [.ref (g 0), .int x1] (fun r => r = zX5_count sc ar x1) := by
  refine cRi.of (cc := cX5_count) (maxL := 2) (rt := .int) (by decide) rfl (Nat.le_of_ble_eq_true rfl) (fun X F E hR => ?_)
  refine J_lv [0, 1] (lv' := [(0, .ref (g 0)), (1, .int x1)]) rfl ?_
  refine J_iload_n (pc' := 1) (q := 1) F dX5_count_0 rfl rfl ?_
  by_cases c1_0 : x1 = 0
  · refine J_vali c1_0 ?_
    refine J_tsIn (tgt := 56) F dX5_count_1 (by decide) (by decide) rfl (by decide) ?_
    refine J_aload_n (pc' := 57) (q := 0) F dX5_count_56 rfl rfl ?_
    refine C_get_0_2 (pc' := 60) F dX5_count_57 kw_164 rfl ?_
    refine C_get_2_3 (v := sc 5) (pc' := 63) F dX5_count_60 kw_36 rfl rfl ?_
    exact J_iretR F hR dX5_count_63 rfl (by show _ = zX5_count sc ar x1; unfold zX5_count; rw [if_pos c1_0])
  by_cases c1_1 : x1 = 1
  · refine J_vali c1_1 ?_
    refine J_tsIn (tgt := 64) F dX5_count_1 (by decide) (by decide) rfl (by decide) ?_
    refine J_aload_n (pc' := 65) (q := 0) F dX5_count_64 rfl rfl ?_
    refine C_get_0_2 (pc' := 68) F dX5_count_65 kw_164 rfl ?_
    refine C_get_2_4 (v := sc 6) (pc' := 71) F dX5_count_68 kw_39 rfl rfl ?_
    exact J_iretR F hR dX5_count_71 rfl (by show _ = zX5_count sc ar x1; unfold zX5_count; rw [if_neg c1_0, if_pos c1_1])
  by_cases c1_2 : x1 = 2
  · refine J_vali c1_2 ?_
    refine J_tsIn (tgt := 72) F dX5_count_1 (by decide) (by decide) rfl (by decide) ?_
    refine J_aload_n (pc' := 73) (q := 0) F dX5_count_72 rfl rfl ?_
    refine C_get_0_4 (pc' := 76) F dX5_count_73 kw_166 rfl ?_
    refine C_get_6_0 (v := sc 7) (pc' := 79) F dX5_count_76 kw_60 rfl rfl ?_
    refine J_goRie (wc := []) (av := [.int (sc 7)]) (rest := []) (v := zX5_tonsOf (sc 7)) (pc' := 82) F E (fun _ _ => jP_nil _ _) (fun H locs hI hp => jrun_S F E (c_X5_tonsOf l D cI cZ z (sc 7)) kw_353 kw_354 rfl kw_355 kw_1 oX5_tonsOf ⟨⟨rfl, rfl⟩, ⟨Nat.le_of_ble_eq_true rfl, Nat.le_of_ble_eq_true rfl⟩, Nat.zero_le _, Nat.zero_le _⟩ rfl (Nat.le_of_ble_eq_true rfl) dX5_count_79 hp) rfl ?_
    exact J_iretR F hR dX5_count_82 rfl (by show _ = zX5_count sc ar x1; unfold zX5_count; rw [if_neg c1_0, if_neg c1_1, if_pos c1_2])
  by_cases c1_3 : x1 = 3
  · refine J_vali c1_3 ?_
    refine J_tsIn (tgt := 83) F dX5_count_1 (by decide) (by decide) rfl (by decide) ?_
    refine J_aload_n (pc' := 84) (q := 0) F dX5_count_83 rfl rfl ?_
    refine C_get_0_4 (pc' := 87) F dX5_count_84 kw_166 rfl ?_
    refine C_get_6_3 (v := sc 10) (pc' := 90) F dX5_count_87 kw_66 rfl rfl ?_
    exact J_iretR F hR dX5_count_90 rfl (by show _ = zX5_count sc ar x1; unfold zX5_count; rw [if_neg c1_0, if_neg c1_1, if_neg c1_2, if_pos c1_3])
  by_cases c1_4 : x1 = 4
  · refine J_vali c1_4 ?_
    refine J_tsIn (tgt := 91) F dX5_count_1 (by decide) (by decide) rfl (by decide) ?_
    refine J_aload_n (pc' := 92) (q := 0) F dX5_count_91 rfl rfl ?_
    refine C_get_0_4 (pc' := 95) F dX5_count_92 kw_166 rfl ?_
    refine C_get_6_2 (v := sc 9) (pc' := 98) F dX5_count_95 kw_64 rfl rfl ?_
    exact J_iretR F hR dX5_count_98 rfl (by show _ = zX5_count sc ar x1; unfold zX5_count; rw [if_neg c1_0, if_neg c1_1, if_neg c1_2, if_neg c1_3, if_pos c1_4])
  by_cases c1_5 : x1 = 5
  · refine J_vali c1_5 ?_
    refine J_tsIn (tgt := 99) F dX5_count_1 (by decide) (by decide) rfl (by decide) ?_
    refine J_aload_n (pc' := 100) (q := 0) F dX5_count_99 rfl rfl ?_
    refine C_get_0_4 (pc' := 103) F dX5_count_100 kw_166 rfl ?_
    refine C_get_6_1 (v := sc 8) (pc' := 106) F dX5_count_103 kw_62 rfl rfl ?_
    refine J_goRie (wc := []) (av := [.int (sc 8)]) (rest := []) (v := zX5_asNumber (sc 8)) (pc' := 109) F E (fun _ _ => jP_nil _ _) (fun H locs hI hp => jrun_S F E (c_X5_asNumber l D cI cZ z (sc 8)) kw_375 kw_376 rfl kw_377 kw_1 oX5_asNumber ⟨⟨rfl, rfl⟩, ⟨Nat.le_of_ble_eq_true rfl, Nat.le_of_ble_eq_true rfl⟩, Nat.zero_le _, Nat.zero_le _⟩ rfl (Nat.le_of_ble_eq_true rfl) dX5_count_106 hp) rfl ?_
    exact J_iretR F hR dX5_count_109 rfl (by show _ = zX5_count sc ar x1; unfold zX5_count; rw [if_neg c1_0, if_neg c1_1, if_neg c1_2, if_neg c1_3, if_neg c1_4, if_pos c1_5])
  by_cases c1_6 : x1 = 6
  · refine J_vali c1_6 ?_
    refine J_tsIn (tgt := 110) F dX5_count_1 (by decide) (by decide) rfl (by decide) ?_
    refine J_aload_n (pc' := 111) (q := 0) F dX5_count_110 rfl rfl ?_
    refine C_get_0_4 (pc' := 114) F dX5_count_111 kw_166 rfl ?_
    refine C_get_6_5 (v := sc 11) (pc' := 117) F dX5_count_114 kw_72 rfl rfl ?_
    exact J_iretR F hR dX5_count_117 rfl (by show _ = zX5_count sc ar x1; unfold zX5_count; rw [if_neg c1_0, if_neg c1_1, if_neg c1_2, if_neg c1_3, if_neg c1_4, if_neg c1_5, if_pos c1_6])
  by_cases c1_7 : x1 = 7
  · refine J_vali c1_7 ?_
    refine J_tsIn (tgt := 118) F dX5_count_1 (by decide) (by decide) rfl (by decide) ?_
    refine J_aload_n (pc' := 119) (q := 0) F dX5_count_118 rfl rfl ?_
    refine C_get_0_1 (v := sc 0) (pc' := 122) F dX5_count_119 kw_163 rfl rfl ?_
    exact J_iretR F hR dX5_count_122 rfl (by show _ = zX5_count sc ar x1; unfold zX5_count; rw [if_neg c1_0, if_neg c1_1, if_neg c1_2, if_neg c1_3, if_neg c1_4, if_neg c1_5, if_neg c1_6, if_pos c1_7])
  by_cases c1_8 : x1 = 8
  · refine J_vali c1_8 ?_
    refine J_tsIn (tgt := 123) F dX5_count_1 (by decide) (by decide) rfl (by decide) ?_
    refine J_aload_n (pc' := 124) (q := 0) F dX5_count_123 rfl rfl ?_
    refine C_get_0_7 (v := sc 3) (pc' := 127) F dX5_count_124 kw_169 rfl rfl ?_
    exact J_iretR F hR dX5_count_127 rfl (by show _ = zX5_count sc ar x1; unfold zX5_count; rw [if_neg c1_0, if_neg c1_1, if_neg c1_2, if_neg c1_3, if_neg c1_4, if_neg c1_5, if_neg c1_6, if_neg c1_7, if_pos c1_8])
  by_cases c1_9 : x1 = 9
  · refine J_vali c1_9 ?_
    refine J_tsIn (tgt := 128) F dX5_count_1 (by decide) (by decide) rfl (by decide) ?_
    refine J_aload_n (pc' := 129) (q := 0) F dX5_count_128 rfl rfl ?_
    refine C_get_0_8 (v := sc 4) (pc' := 132) F dX5_count_129 kw_170 rfl rfl ?_
    exact J_iretR F hR dX5_count_132 rfl (by show _ = zX5_count sc ar x1; unfold zX5_count; rw [if_neg c1_0, if_neg c1_1, if_neg c1_2, if_neg c1_3, if_neg c1_4, if_neg c1_5, if_neg c1_6, if_neg c1_7, if_neg c1_8, if_pos c1_9])
  refine J_tsOut (tgt := 133) F dX5_count_1 (jts_9 c1_0 c1_1 c1_2 c1_3 c1_4 c1_5 c1_6 c1_7 c1_8 c1_9) (by decide) ?_
  refine J_bipush (pc' := 135) (v := (-102)) F dX5_count_133 (by decide) rfl ?_
  exact J_iretR F hR dX5_count_135 rfl (by show _ = zX5_count sc ar x1; unfold zX5_count; rw [if_neg c1_0, if_neg c1_1, if_neg c1_2, if_neg c1_3, if_neg c1_4, if_neg c1_5, if_neg c1_6, if_neg c1_7, if_neg c1_8, if_neg c1_9])
def zX5_fault_2 (sc : Nat → Int32) (ar : Nat → Nat → Int32)  : Nat → Nat → Int32
  | 0, _ => 0
  | n + 1, i => if (sc 0) ≤ (nI i) then sc 0 else (if (16 : Int32) ≤ (nI i) then sc 0 else (if (zX5_isOfForm (nI i) ((ar 0) i)) = 0 then nI i else zX5_fault_2 sc ar n (i + 1) ))
def zX5_fault (sc : Nat → Int32) (ar : Nat → Nat → Int32) : Int32 := zX5_fault_2 sc ar (16 + 1) 0 
abbrev rm_X5_fault : Room := { frames := 5, cells := 0, slots := 0, locals := 113 }
set_option maxHeartbeats 4000000 in
set_option maxRecDepth 100000 in
theorem c_X5_fault (l : Launch) (D : va_G) (cI cZ : ClassId) (z : Nat → Nat) (g : Nat → Nat) (sc : Nat → Int32) (ar : Nat → Nat → Int32)   : cRi l yX5_fault ww_X5_fault rm_X5_fault D cI cZ z (wC cI g sc ar) [.ref (g 0)] (fun r => r = zX5_fault sc ar) := by
  refine cRi.of (cc := cX5_fault) (maxL := 2) (rt := .int) (by decide) rfl (Nat.le_of_ble_eq_true rfl) (fun X F E hR => ?_)
  refine J_lv [0] (lv' := [(0, .ref (g 0))]) rfl ?_
  refine J_iconst (pc' := 1) (v := 0) F dX5_fault_0 (by decide) rfl ?_
  refine J_istore_n (pc' := 2) [1, 0] [(0, .ref (g 0)), (1, .int 0)] F dX5_fault_1 rfl (jL_of E (show 1 < 2 by decide)) rfl rfl ?_
  have L2 : ∀ (n i : Nat)  , i ≤ 16 → 16 - i < n → zX5_fault_2 sc ar n i  = zX5_fault sc ar → J X false 0 0 2 [(0, .ref (g 0)), (1, .int (nI i))] [] (wC cI g sc ar) := by
    intro n
    induction n with
    | zero => intro i  _ hm; exact absurd hm (Nat.not_lt_zero _)
    | succ n ih =>
      intro i  hi hm heq
      refine J_iload_n (pc' := 3) (q := 1) F dX5_fault_2 rfl rfl ?_
      refine J_aload_n (pc' := 4) (q := 0) F dX5_fault_3 rfl rfl ?_
      refine C_get_0_1 (v := sc 0) (pc' := 7) F dX5_fault_4 kw_163 rfl rfl ?_
      refine J_icmp_ge (tgt := 40) (pc' := 10) F dX5_fault_7 (by decide) rfl (fun c7 => ?_) (fun c7 => ?_)
      · refine J_aload_n (pc' := 41) (q := 0) F dX5_fault_40 rfl rfl ?_
        refine C_get_0_1 (v := sc 0) (pc' := 44) F dX5_fault_41 kw_163 rfl rfl ?_
        exact J_iretR F hR dX5_fault_44 rfl (by show _ = zX5_fault sc ar; rw [← heq, zX5_fault_2, if_pos c7])
      · refine J_iload_n (pc' := 11) (q := 1) F dX5_fault_10 rfl rfl ?_
        refine J_aload_n (pc' := 12) (q := 0) F dX5_fault_11 rfl rfl ?_
        refine C_get_0_0 (pc' := 15) F dX5_fault_12 kw_162 rfl ?_
        refine C_len_0 (pc' := 16) F dX5_fault_15 rfl ?_
        refine J_icmp_ge (tgt := 40) (pc' := 19) F dX5_fault_16 (by decide) rfl (fun c16 => ?_) (fun c16 => ?_)
        · refine J_aload_n (pc' := 41) (q := 0) F dX5_fault_40 rfl rfl ?_
          refine C_get_0_1 (v := sc 0) (pc' := 44) F dX5_fault_41 kw_163 rfl rfl ?_
          exact J_iretR F hR dX5_fault_44 rfl (by show _ = zX5_fault sc ar; rw [← heq, zX5_fault_2, if_neg c7, if_pos c16])
        · have hlt : i < 16 := jin_lt (by decide) hi c16
          refine J_iload_n (pc' := 20) (q := 1) F dX5_fault_19 rfl rfl ?_
          refine J_aload_n (pc' := 21) (q := 0) F dX5_fault_20 rfl rfl ?_
          refine C_get_0_0 (pc' := 24) F dX5_fault_21 kw_162 rfl ?_
          refine J_iload_n (pc' := 25) (q := 1) F dX5_fault_24 rfl rfl ?_
          refine C_ld_0 (f := ar 0) (q := i) (pc' := 26) F dX5_fault_25 rfl (nI_clamp (by omega)) (vp_in_nI hlt (by decide)) rfl ?_
          refine J_goRie (wc := []) (av := [.int (nI i), .int ((ar 0) i)]) (rest := []) (v := zX5_isOfForm (nI i) ((ar 0) i)) (pc' := 29) F E (fun _ _ => jP_nil _ _) (fun H locs hI hp => jrun_S F E (c_X5_isOfForm l D cI cZ z (nI i) ((ar 0) i)) kw_211 kw_212 rfl kw_213 kw_1 oX5_isOfForm ⟨⟨rfl, rfl⟩, ⟨Nat.le_of_ble_eq_true rfl, Nat.le_of_ble_eq_true rfl⟩, Nat.zero_le _, Nat.zero_le _⟩ rfl (Nat.le_of_ble_eq_true rfl) dX5_fault_26 hp) rfl ?_
          refine J_if_ne (tgt := 34) (pc' := 32) F dX5_fault_29 (by decide) rfl (fun c29 => ?_) (fun c29 => ?_)
          · refine J_iinc (v := nI (i + 1)) (q := 1) (pc' := 37) [1, 0] [(0, .ref (g 0)), (1, .int (nI (i + 1)))] F dX5_fault_34 rfl (nI_inc i) (jL_of E (show 1 < 2 by decide)) rfl rfl ?_
            refine J_goto (tgt := 2) F dX5_fault_37 (by decide) ?_
            refine J_lv [0, 1] (lv' := [(0, .ref (g 0)), (1, .int (nI (i + 1)))]) rfl ?_
            exact ih (i + 1)  (by omega) (by omega) (by show _ = zX5_fault sc ar; rw [← heq, zX5_fault_2, if_neg c7, if_neg c16, if_neg c29])
          · refine J_iload_n (pc' := 33) (q := 1) F dX5_fault_32 rfl rfl ?_
            exact J_iretR F hR dX5_fault_33 rfl (by show _ = zX5_fault sc ar; rw [← heq, zX5_fault_2, if_neg c7, if_neg c16, if_pos c29])
  refine J_lv [0, 1] (lv' := [(0, .ref (g 0)), (1, .int (nI 0))]) rfl ?_
  exact L2 (16 + 1) 0  (Nat.zero_le _) (Nat.lt_succ_self _) rfl
def zX5_days_64 (sc : Nat → Int32) (ar : Nat → Nat → Int32) (x1 : Int32) (x2 : Int32) (x3 : Int32) : Nat → Nat → Int32 → Int32 → Int32 → Int32 → Int32
  | 0, _, _, _, _, _ => 0
  | n + 1, i, y5, y6, y7, y8 => if x1 ≤ (nI i) then (if x3 = 0 then y7 else (if x3 = 1 then y8 else (if x3 = 2 then zX5_tonsOf y5 else y6))) else (if (zX5_isAct (((zX5_nextSeed y6) / 65536) - ((zX5_nextSeed y6) / 65536) / 42 * 42)) = 0 then zX5_days_64 sc ar x1 x2 x3 n (i + 1) y5 (zX5_nextSeed y6) y7 y8 else (if (zX2_behind sc ar y5 (((zX5_nextSeed y6) / 65536) - ((zX5_nextSeed y6) / 65536) / 42 * 42) (zX5_bendNow sc ar)) = (-1) then zX5_days_64 sc ar x1 x2 x3 n (i + 1) y5 (zX5_nextSeed y6) y7 y8 else zX5_days_64 sc ar x1 x2 x3 n (i + 1) (zX2_behind sc ar y5 (((zX5_nextSeed y6) / 65536) - ((zX5_nextSeed y6) / 65536) / 42 * 42) (zX5_bendNow sc ar)) (zX5_nextSeed y6) (y7 + 1) (y8 + (zX2_minutesOf sc ar (((zX5_nextSeed y6) / 65536) - ((zX5_nextSeed y6) / 65536) / 42 * 42)))))
def zX5_days (sc : Nat → Int32) (ar : Nat → Nat → Int32) (x1 : Int32) (x2 : Int32) (x3 : Int32) : Int32 := if x1 < 1 then (-102) else (if (90 : Int32) < x1 then (-102) else (if x2 < 0 then (-102) else (if x3 < 0 then (-102) else (if x3 ≤ 3 then (if (sc 1) = 0 then (-103) else zX5_days_64 sc ar x1 x2 x3 (90 + 1) 0 (sc 7) x2 0 0) else (-102)))))
abbrev rm_X5_days : Room := { frames := 3, cells := 0, slots := 0, locals := 75 }
set_option maxHeartbeats 4000000 in
set_option maxRecDepth 100000 in
theorem c_X5_days (l : Launch) (D : va_G) (cI cZ : ClassId) (z : Nat → Nat) (g : Nat → Nat) (sc : Nat → Int32) (ar : Nat → Nat → Int32) (x1 : Int32) (x2 : Int32) (x3 : Int32)  : cRi l yX5_days ww_X5_days rm_X5_days D cI cZ z (wC cI g sc ar) [.ref (g 0), .int x1, .int x2, .int x3] (fun r => r = zX5_days sc ar x1 x2 x3) := by
  refine cRi.of (cc := cX5_days) (maxL := 12) (rt := .int) (by decide) rfl (Nat.le_of_ble_eq_true rfl) (fun X F E hR => ?_)
  refine J_lv [0, 1, 2, 3] (lv' := [(0, .ref (g 0)), (1, .int x1), (2, .int x2), (3, .int x3)]) rfl ?_
  refine J_iload_n (pc' := 1) (q := 1) F dX5_days_0 rfl rfl ?_
  refine J_iconst (pc' := 2) (v := 1) F dX5_days_1 (by decide) rfl ?_
  refine J_icmp_lt (tgt := 24) (pc' := 5) F dX5_days_2 (by decide) rfl (fun c2 => ?_) (fun c2 => ?_)
  · refine J_bipush (pc' := 26) (v := (-102)) F dX5_days_24 (by decide) rfl ?_
    exact J_iretR F hR dX5_days_26 rfl (by show _ = zX5_days sc ar x1 x2 x3; unfold zX5_days; rw [if_pos c2])
  · refine J_iload_n (pc' := 6) (q := 1) F dX5_days_5 rfl rfl ?_
    refine J_bipush (pc' := 8) (v := 90) F dX5_days_6 (by decide) rfl ?_
    refine J_icmp_gt (tgt := 24) (pc' := 11) F dX5_days_8 (by decide) rfl (fun c8 => ?_) (fun c8 => ?_)
    · refine J_bipush (pc' := 26) (v := (-102)) F dX5_days_24 (by decide) rfl ?_
      exact J_iretR F hR dX5_days_26 rfl (by show _ = zX5_days sc ar x1 x2 x3; unfold zX5_days; rw [if_neg c2, if_pos c8])
    · refine J_iload_n (pc' := 12) (q := 2) F dX5_days_11 rfl rfl ?_
      refine J_if_lt (tgt := 24) (pc' := 15) F dX5_days_12 (by decide) rfl (fun c12 => ?_) (fun c12 => ?_)
      · refine J_bipush (pc' := 26) (v := (-102)) F dX5_days_24 (by decide) rfl ?_
        exact J_iretR F hR dX5_days_26 rfl (by show _ = zX5_days sc ar x1 x2 x3; unfold zX5_days; rw [if_neg c2, if_neg c8, if_pos c12])
      · refine J_iload_n (pc' := 16) (q := 3) F dX5_days_15 rfl rfl ?_
        refine J_if_lt (tgt := 24) (pc' := 19) F dX5_days_16 (by decide) rfl (fun c16 => ?_) (fun c16 => ?_)
        · refine J_bipush (pc' := 26) (v := (-102)) F dX5_days_24 (by decide) rfl ?_
          exact J_iretR F hR dX5_days_26 rfl (by show _ = zX5_days sc ar x1 x2 x3; unfold zX5_days; rw [if_neg c2, if_neg c8, if_neg c12, if_pos c16])
        · refine J_iload_n (pc' := 20) (q := 3) F dX5_days_19 rfl rfl ?_
          refine J_iconst (pc' := 21) (v := 3) F dX5_days_20 (by decide) rfl ?_
          refine J_icmp_le (tgt := 27) (pc' := 24) F dX5_days_21 (by decide) rfl (fun c21 => ?_) (fun c21 => ?_)
          · refine J_aload_n (pc' := 28) (q := 0) F dX5_days_27 rfl rfl ?_
            refine C_get_0_3 (v := sc 1) (pc' := 31) F dX5_days_28 kw_165 rfl rfl ?_
            refine J_if_ne (tgt := 37) (pc' := 34) F dX5_days_31 (by decide) rfl (fun c31 => ?_) (fun c31 => ?_)
            · refine J_aload_n (pc' := 38) (q := 0) F dX5_days_37 rfl rfl ?_
              refine J_goRie (wc := (wC cI g sc ar)) (av := [.ref (g 0)]) (rest := []) (v := zX5_bendNow sc ar) (pc' := 41) F E (fun _ h => h) (fun H locs hI hp => jrun_V (As := []) 0 F E (c_X5_bendNow l D cI cZ z g sc ar ) kw_388 kw_390 kp_3 rfl kw_391 kw_1 oX5_bendNow ⟨⟨rfl, rfl⟩, ⟨Nat.le_of_ble_eq_true rfl, Nat.le_of_ble_eq_true rfl⟩, Nat.zero_le _, Nat.zero_le _⟩ rfl rfl (Nat.le_of_ble_eq_true rfl) dX5_days_38 rfl rfl (jI_P E hI) hp) rfl ?_
              refine J_istore (pc' := 43) [1, 2, 3, 4, 0] [(0, .ref (g 0)), (1, .int x1), (2, .int x2), (3, .int x3), (4, .int (zX5_bendNow sc ar))] F dX5_days_41 (jL_of E (show 4 < 12 by decide)) rfl rfl ?_
              refine J_aload_n (pc' := 44) (q := 0) F dX5_days_43 rfl rfl ?_
              refine C_get_0_4 (pc' := 47) F dX5_days_44 kw_166 rfl ?_
              refine C_get_6_0 (v := sc 7) (pc' := 50) F dX5_days_47 kw_60 rfl rfl ?_
              refine J_istore (pc' := 52) [1, 2, 3, 4, 5, 0] [(0, .ref (g 0)), (1, .int x1), (2, .int x2), (3, .int x3), (4, .int (zX5_bendNow sc ar)), (5, .int (sc 7))] F dX5_days_50 (jL_of E (show 5 < 12 by decide)) rfl rfl ?_
              refine J_iload_n (pc' := 53) (q := 2) F dX5_days_52 rfl rfl ?_
              refine J_istore (pc' := 55) [1, 2, 3, 4, 5, 6, 0] [(0, .ref (g 0)), (1, .int x1), (2, .int x2), (3, .int x3), (4, .int (zX5_bendNow sc ar)), (5, .int (sc 7)), (6, .int x2)] F dX5_days_53 (jL_of E (show 6 < 12 by decide)) rfl rfl ?_
              refine J_iconst (pc' := 56) (v := 0) F dX5_days_55 (by decide) rfl ?_
              refine J_istore (pc' := 58) [1, 2, 3, 4, 5, 6, 7, 0] [(0, .ref (g 0)), (1, .int x1), (2, .int x2), (3, .int x3), (4, .int (zX5_bendNow sc ar)), (5, .int (sc 7)), (6, .int x2), (7, .int 0)] F dX5_days_56 (jL_of E (show 7 < 12 by decide)) rfl rfl ?_
              refine J_iconst (pc' := 59) (v := 0) F dX5_days_58 (by decide) rfl ?_
              refine J_istore (pc' := 61) [1, 2, 3, 4, 5, 6, 7, 8, 0] [(0, .ref (g 0)), (1, .int x1), (2, .int x2), (3, .int x3), (4, .int (zX5_bendNow sc ar)), (5, .int (sc 7)), (6, .int x2), (7, .int 0), (8, .int 0)] F dX5_days_59 (jL_of E (show 8 < 12 by decide)) rfl rfl ?_
              refine J_iconst (pc' := 62) (v := 0) F dX5_days_61 (by decide) rfl ?_
              refine J_istore (pc' := 64) [1, 2, 3, 4, 5, 6, 7, 8, 9, 0] [(0, .ref (g 0)), (1, .int x1), (2, .int x2), (3, .int x3), (4, .int (zX5_bendNow sc ar)), (5, .int (sc 7)), (6, .int x2), (7, .int 0), (8, .int 0), (9, .int 0)] F dX5_days_62 (jL_of E (show 9 < 12 by decide)) rfl rfl ?_
              have L64 : ∀ (n i : Nat) (y5 : Int32) (y6 : Int32) (y7 : Int32) (y8 : Int32) , i ≤ 90 → 90 - i < n → zX5_days_64 sc ar x1 x2 x3 n i y5 y6 y7 y8 = zX5_days sc ar x1 x2 x3 → J X false 0 0 64 [(0, .ref (g 0)), (1, .int x1), (3, .int x3), (4, .int (zX5_bendNow sc ar)), (5, .int y5), (6, .int y6), (7, .int y7), (8, .int y8), (9, .int (nI i))] [] (wC cI g sc ar) := by
                intro n
                induction n with
                | zero => intro i _ _ _ _ _ hm; exact absurd hm (Nat.not_lt_zero _)
                | succ n ih =>
                  intro i y5 y6 y7 y8 hi hm heq
                  refine J_iload (pc' := 66) (q := 8) F dX5_days_64 rfl rfl ?_
                  refine J_iload_n (pc' := 67) (q := 1) F dX5_days_66 rfl rfl ?_
                  refine J_icmp_ge (tgt := 147) (pc' := 70) F dX5_days_67 (by decide) rfl (fun c67 => ?_) (fun c67 => ?_)
                  · refine J_iload_n (pc' := 148) (q := 2) F dX5_days_147 rfl rfl ?_
                    by_cases c148_0 : x3 = 0
                    · refine J_vali c148_0 ?_
                      refine J_tsIn (tgt := 176) F dX5_days_148 (by decide) (by decide) rfl (by decide) ?_
                      refine J_iload (pc' := 178) (q := 6) F dX5_days_176 rfl rfl ?_
                      exact J_iretR F hR dX5_days_178 rfl (by show _ = zX5_days sc ar x1 x2 x3; rw [← heq, zX5_days_64, if_pos c67, if_pos c148_0])
                    by_cases c148_1 : x3 = 1
                    · refine J_vali c148_1 ?_
                      refine J_tsIn (tgt := 179) F dX5_days_148 (by decide) (by decide) rfl (by decide) ?_
                      refine J_iload (pc' := 181) (q := 7) F dX5_days_179 rfl rfl ?_
                      exact J_iretR F hR dX5_days_181 rfl (by show _ = zX5_days sc ar x1 x2 x3; rw [← heq, zX5_days_64, if_pos c67, if_neg c148_0, if_pos c148_1])
                    by_cases c148_2 : x3 = 2
                    · refine J_vali c148_2 ?_
                      refine J_tsIn (tgt := 182) F dX5_days_148 (by decide) (by decide) rfl (by decide) ?_
                      refine J_iload (pc' := 184) (q := 4) F dX5_days_182 rfl rfl ?_
                      refine J_goRie (wc := []) (av := [.int y5]) (rest := []) (v := zX5_tonsOf y5) (pc' := 187) F E (fun _ _ => jP_nil _ _) (fun H locs hI hp => jrun_S F E (c_X5_tonsOf l D cI cZ z y5) kw_353 kw_354 rfl kw_355 kw_1 oX5_tonsOf ⟨⟨rfl, rfl⟩, ⟨Nat.le_of_ble_eq_true rfl, Nat.le_of_ble_eq_true rfl⟩, Nat.zero_le _, Nat.zero_le _⟩ rfl (Nat.le_of_ble_eq_true rfl) dX5_days_184 hp) rfl ?_
                      exact J_iretR F hR dX5_days_187 rfl (by show _ = zX5_days sc ar x1 x2 x3; rw [← heq, zX5_days_64, if_pos c67, if_neg c148_0, if_neg c148_1, if_pos c148_2])
                    refine J_tsOut (tgt := 188) F dX5_days_148 (jts_2 c148_0 c148_1 c148_2) (by decide) ?_
                    refine J_iload (pc' := 190) (q := 5) F dX5_days_188 rfl rfl ?_
                    exact J_iretR F hR dX5_days_190 rfl (by show _ = zX5_days sc ar x1 x2 x3; rw [← heq, zX5_days_64, if_pos c67, if_neg c148_0, if_neg c148_1, if_neg c148_2])
                  · have hlt : i < 90 := jlt_of (B := 90) rfl (by decide) hi c67 c8
                    refine J_iload (pc' := 72) (q := 5) F dX5_days_70 rfl rfl ?_
                    refine J_goRie (wc := []) (av := [.int y6]) (rest := []) (v := zX5_nextSeed y6) (pc' := 75) F E (fun _ _ => jP_nil _ _) (fun H locs hI hp => jrun_S F E (c_X5_nextSeed l D cI cZ z y6) kw_527 kw_528 rfl kw_529 kw_1 oX5_nextSeed ⟨⟨rfl, rfl⟩, ⟨Nat.le_of_ble_eq_true rfl, Nat.le_of_ble_eq_true rfl⟩, Nat.zero_le _, Nat.zero_le _⟩ rfl (Nat.le_of_ble_eq_true rfl) dX5_days_72 hp) rfl ?_
                    refine J_istore (pc' := 77) [1, 2, 3, 4, 5, 0, 6, 7, 8] [(0, .ref (g 0)), (1, .int x1), (3, .int x3), (4, .int (zX5_bendNow sc ar)), (5, .int y5), (6, .int (zX5_nextSeed y6)), (7, .int y7), (8, .int y8), (9, .int (nI i))] F dX5_days_75 (jL_of E (show 6 < 12 by decide)) rfl rfl ?_
                    refine J_iload (pc' := 79) (q := 5) F dX5_days_77 rfl rfl ?_
                    refine J_ldc (pc' := 81) (v := 65536) F dX5_days_79 kw_533 rfl ?_
                    refine J_idiv (pc' := 82) F dX5_days_81 (by decide) rfl ?_
                    refine J_bipush (pc' := 84) (v := 42) F dX5_days_82 (by decide) rfl ?_
                    refine J_irem (pc' := 85) F dX5_days_84 (by decide) rfl ?_
                    refine J_istore (pc' := 87) [1, 2, 3, 4, 5, 6, 7, 8, 9, 0] [(0, .ref (g 0)), (1, .int x1), (3, .int x3), (4, .int (zX5_bendNow sc ar)), (5, .int y5), (6, .int (zX5_nextSeed y6)), (7, .int y7), (8, .int y8), (9, .int (nI i)), (10, .int (((zX5_nextSeed y6) / 65536) - ((zX5_nextSeed y6) / 65536) / 42 * 42))] F dX5_days_85 (jL_of E (show 10 < 12 by decide)) rfl rfl ?_
                    refine J_iload (pc' := 89) (q := 9) F dX5_days_87 rfl rfl ?_
                    refine J_goRie (wc := []) (av := [.int (((zX5_nextSeed y6) / 65536) - ((zX5_nextSeed y6) / 65536) / 42 * 42)]) (rest := []) (v := zX5_isAct (((zX5_nextSeed y6) / 65536) - ((zX5_nextSeed y6) / 65536) / 42 * 42)) (pc' := 92) F E (fun _ _ => jP_nil _ _) (fun H locs hI hp => jrun_S F E (c_X5_isAct l D cI cZ z (((zX5_nextSeed y6) / 65536) - ((zX5_nextSeed y6) / 65536) / 42 * 42)) kw_402 kw_403 rfl kw_404 kw_1 oX5_isAct ⟨⟨rfl, rfl⟩, ⟨Nat.le_of_ble_eq_true rfl, Nat.le_of_ble_eq_true rfl⟩, Nat.zero_le _, Nat.zero_le _⟩ rfl (Nat.le_of_ble_eq_true rfl) dX5_days_89 hp) rfl ?_
                    refine J_if_eq (tgt := 111) (pc' := 95) F dX5_days_92 (by decide) rfl (fun c92 => ?_) (fun c92 => ?_)
                    · refine J_iconst (pc' := 112) (v := (-1)) F dX5_days_111 (by decide) rfl ?_
                      refine J_istore (pc' := 114) [1, 2, 3, 4, 5, 6, 7, 8, 9, 10, 0] [(0, .ref (g 0)), (1, .int x1), (3, .int x3), (4, .int (zX5_bendNow sc ar)), (5, .int y5), (6, .int (zX5_nextSeed y6)), (7, .int y7), (8, .int y8), (9, .int (nI i)), (10, .int (((zX5_nextSeed y6) / 65536) - ((zX5_nextSeed y6) / 65536) / 42 * 42)), (11, .int (-1))] F dX5_days_112 (jL_of E (show 11 < 12 by decide)) rfl rfl ?_
                      refine J_iload (pc' := 116) (q := 10) F dX5_days_114 rfl rfl ?_
                      refine J_iconst (pc' := 117) (v := (-1)) F dX5_days_116 (by decide) rfl ?_
                      refine J_icmp_eq (tgt := 141) (pc' := 120) F dX5_days_117 (by decide) rfl (fun _ => ?_) (fun c9 => absurd (by decide) c9)
                      refine J_iinc (v := nI (i + 1)) (q := 8) (pc' := 144) [1, 2, 3, 4, 5, 6, 7, 8, 0, 9, 10] [(0, .ref (g 0)), (1, .int x1), (3, .int x3), (4, .int (zX5_bendNow sc ar)), (5, .int y5), (6, .int (zX5_nextSeed y6)), (7, .int y7), (8, .int y8), (9, .int (nI (i + 1))), (10, .int (((zX5_nextSeed y6) / 65536) - ((zX5_nextSeed y6) / 65536) / 42 * 42)), (11, .int (-1))] F dX5_days_141 rfl (nI_inc i) (jL_of E (show 9 < 12 by decide)) rfl rfl ?_
                      refine J_goto (tgt := 64) F dX5_days_144 (by decide) ?_
                      refine J_lv [0, 1, 2, 3, 4, 5, 6, 7, 8] (lv' := [(0, .ref (g 0)), (1, .int x1), (3, .int x3), (4, .int (zX5_bendNow sc ar)), (5, .int y5), (6, .int (zX5_nextSeed y6)), (7, .int y7), (8, .int y8), (9, .int (nI (i + 1)))]) rfl ?_
                      exact ih (i + 1) y5 (zX5_nextSeed y6) y7 y8 (by omega) (by omega) (by show _ = zX5_days sc ar x1 x2 x3; rw [← heq, zX5_days_64, if_neg c67, if_pos c92])
                    · refine J_aload_n (pc' := 96) (q := 0) F dX5_days_95 rfl rfl ?_
                      refine C_get_0_2 (pc' := 99) F dX5_days_96 kw_164 rfl ?_
                      refine J_iload (pc' := 101) (q := 4) F dX5_days_99 rfl rfl ?_
                      refine J_iload (pc' := 103) (q := 9) F dX5_days_101 rfl rfl ?_
                      refine J_iload (pc' := 105) (q := 3) F dX5_days_103 rfl rfl ?_
                      refine J_goRie (wc := (wC cI g sc ar)) (av := [.ref (g 2), .int y5, .int (((zX5_nextSeed y6) / 65536) - ((zX5_nextSeed y6) / 65536) / 42 * 42), .int (zX5_bendNow sc ar)]) (rest := []) (v := zX2_behind sc ar y5 (((zX5_nextSeed y6) / 65536) - ((zX5_nextSeed y6) / 65536) / 42 * 42) (zX5_bendNow sc ar)) (pc' := 108) F E (fun _ h => h) (fun H locs hI hp => jrun_V (As := [.int y5, .int (((zX5_nextSeed y6) / 65536) - ((zX5_nextSeed y6) / 65536) / 42 * 42), .int (zX5_bendNow sc ar)]) 2 F E (c_X2_behind l D cI cZ z g sc ar y5 (((zX5_nextSeed y6) / 65536) - ((zX5_nextSeed y6) / 65536) / 42 * 42) (zX5_bendNow sc ar)) kw_414 kw_415 kw_416 rfl kw_417 kw_2 oX2_behind ⟨⟨rfl, rfl⟩, ⟨Nat.le_of_ble_eq_true rfl, Nat.le_of_ble_eq_true rfl⟩, Nat.zero_le _, Nat.zero_le _⟩ rfl rfl (Nat.le_of_ble_eq_true rfl) dX5_days_105 rfl rfl (jI_P E hI) hp) rfl ?_
                      refine J_goto (tgt := 112) F dX5_days_108 (by decide) ?_
                      refine J_istore (pc' := 114) [1, 2, 3, 4, 5, 6, 7, 8, 9, 10, 0] [(0, .ref (g 0)), (1, .int x1), (3, .int x3), (4, .int (zX5_bendNow sc ar)), (5, .int y5), (6, .int (zX5_nextSeed y6)), (7, .int y7), (8, .int y8), (9, .int (nI i)), (10, .int (((zX5_nextSeed y6) / 65536) - ((zX5_nextSeed y6) / 65536) / 42 * 42)), (11, .int (zX2_behind sc ar y5 (((zX5_nextSeed y6) / 65536) - ((zX5_nextSeed y6) / 65536) / 42 * 42) (zX5_bendNow sc ar)))] F dX5_days_112 (jL_of E (show 11 < 12 by decide)) rfl rfl ?_
                      refine J_iload (pc' := 116) (q := 10) F dX5_days_114 rfl rfl ?_
                      refine J_iconst (pc' := 117) (v := (-1)) F dX5_days_116 (by decide) rfl ?_
                      refine J_icmp_eq (tgt := 141) (pc' := 120) F dX5_days_117 (by decide) rfl (fun c117 => ?_) (fun c117 => ?_)
                      · refine J_iinc (v := nI (i + 1)) (q := 8) (pc' := 144) [1, 2, 3, 4, 5, 6, 7, 8, 0, 9, 10] [(0, .ref (g 0)), (1, .int x1), (3, .int x3), (4, .int (zX5_bendNow sc ar)), (5, .int y5), (6, .int (zX5_nextSeed y6)), (7, .int y7), (8, .int y8), (9, .int (nI (i + 1))), (10, .int (((zX5_nextSeed y6) / 65536) - ((zX5_nextSeed y6) / 65536) / 42 * 42)), (11, .int (zX2_behind sc ar y5 (((zX5_nextSeed y6) / 65536) - ((zX5_nextSeed y6) / 65536) / 42 * 42) (zX5_bendNow sc ar)))] F dX5_days_141 rfl (nI_inc i) (jL_of E (show 9 < 12 by decide)) rfl rfl ?_
                        refine J_goto (tgt := 64) F dX5_days_144 (by decide) ?_
                        refine J_lv [0, 1, 2, 3, 4, 5, 6, 7, 8] (lv' := [(0, .ref (g 0)), (1, .int x1), (3, .int x3), (4, .int (zX5_bendNow sc ar)), (5, .int y5), (6, .int (zX5_nextSeed y6)), (7, .int y7), (8, .int y8), (9, .int (nI (i + 1)))]) rfl ?_
                        exact ih (i + 1) y5 (zX5_nextSeed y6) y7 y8 (by omega) (by omega) (by show _ = zX5_days sc ar x1 x2 x3; rw [← heq, zX5_days_64, if_neg c67, if_neg c92, if_pos c117])
                      · refine J_iload (pc' := 122) (q := 10) F dX5_days_120 rfl rfl ?_
                        refine J_istore (pc' := 124) [1, 2, 3, 4, 0, 5, 6, 7, 8, 9, 10] [(0, .ref (g 0)), (1, .int x1), (3, .int x3), (4, .int (zX5_bendNow sc ar)), (5, .int (zX2_behind sc ar y5 (((zX5_nextSeed y6) / 65536) - ((zX5_nextSeed y6) / 65536) / 42 * 42) (zX5_bendNow sc ar))), (6, .int (zX5_nextSeed y6)), (7, .int y7), (8, .int y8), (9, .int (nI i)), (10, .int (((zX5_nextSeed y6) / 65536) - ((zX5_nextSeed y6) / 65536) / 42 * 42)), (11, .int (zX2_behind sc ar y5 (((zX5_nextSeed y6) / 65536) - ((zX5_nextSeed y6) / 65536) / 42 * 42) (zX5_bendNow sc ar)))] F dX5_days_122 (jL_of E (show 5 < 12 by decide)) rfl rfl ?_
                        refine J_iinc (v := y7 + 1) (q := 6) (pc' := 127) [1, 2, 3, 4, 5, 6, 0, 7, 8, 9, 10] [(0, .ref (g 0)), (1, .int x1), (3, .int x3), (4, .int (zX5_bendNow sc ar)), (5, .int (zX2_behind sc ar y5 (((zX5_nextSeed y6) / 65536) - ((zX5_nextSeed y6) / 65536) / 42 * 42) (zX5_bendNow sc ar))), (6, .int (zX5_nextSeed y6)), (7, .int (y7 + 1)), (8, .int y8), (9, .int (nI i)), (10, .int (((zX5_nextSeed y6) / 65536) - ((zX5_nextSeed y6) / 65536) / 42 * 42)), (11, .int (zX2_behind sc ar y5 (((zX5_nextSeed y6) / 65536) - ((zX5_nextSeed y6) / 65536) / 42 * 42) (zX5_bendNow sc ar)))] F dX5_days_124 rfl rfl (jL_of E (show 7 < 12 by decide)) rfl rfl ?_
                        refine J_iload (pc' := 129) (q := 7) F dX5_days_127 rfl rfl ?_
                        refine J_aload_n (pc' := 130) (q := 0) F dX5_days_129 rfl rfl ?_
                        refine C_get_0_2 (pc' := 133) F dX5_days_130 kw_164 rfl ?_
                        refine J_iload (pc' := 135) (q := 9) F dX5_days_133 rfl rfl ?_
                        refine J_goRie (wc := (wC cI g sc ar)) (av := [.ref (g 2), .int (((zX5_nextSeed y6) / 65536) - ((zX5_nextSeed y6) / 65536) / 42 * 42)]) (rest := [.int y8]) (v := zX2_minutesOf sc ar (((zX5_nextSeed y6) / 65536) - ((zX5_nextSeed y6) / 65536) / 42 * 42)) (pc' := 138) F E (fun _ h => h) (fun H locs hI hp => jrun_V (As := [.int (((zX5_nextSeed y6) / 65536) - ((zX5_nextSeed y6) / 65536) / 42 * 42)]) 2 F E (c_X2_minutesOf l D cI cZ z g sc ar (((zX5_nextSeed y6) / 65536) - ((zX5_nextSeed y6) / 65536) / 42 * 42)) kw_433 kw_434 kw_435 rfl kw_436 kw_2 oX2_minutesOf ⟨⟨rfl, rfl⟩, ⟨Nat.le_of_ble_eq_true rfl, Nat.le_of_ble_eq_true rfl⟩, Nat.zero_le _, Nat.zero_le _⟩ rfl rfl (Nat.le_of_ble_eq_true rfl) dX5_days_135 rfl rfl (jI_P E hI) hp) rfl ?_
                        refine J_iadd (pc' := 139) F dX5_days_138 rfl ?_
                        refine J_istore (pc' := 141) [1, 2, 3, 4, 5, 6, 7, 0, 8, 9, 10] [(0, .ref (g 0)), (1, .int x1), (3, .int x3), (4, .int (zX5_bendNow sc ar)), (5, .int (zX2_behind sc ar y5 (((zX5_nextSeed y6) / 65536) - ((zX5_nextSeed y6) / 65536) / 42 * 42) (zX5_bendNow sc ar))), (6, .int (zX5_nextSeed y6)), (7, .int (y7 + 1)), (8, .int (y8 + (zX2_minutesOf sc ar (((zX5_nextSeed y6) / 65536) - ((zX5_nextSeed y6) / 65536) / 42 * 42)))), (9, .int (nI i)), (10, .int (((zX5_nextSeed y6) / 65536) - ((zX5_nextSeed y6) / 65536) / 42 * 42)), (11, .int (zX2_behind sc ar y5 (((zX5_nextSeed y6) / 65536) - ((zX5_nextSeed y6) / 65536) / 42 * 42) (zX5_bendNow sc ar)))] F dX5_days_139 (jL_of E (show 8 < 12 by decide)) rfl rfl ?_
                        refine J_iinc (v := nI (i + 1)) (q := 8) (pc' := 144) [1, 2, 3, 4, 5, 6, 7, 8, 0, 9, 10] [(0, .ref (g 0)), (1, .int x1), (3, .int x3), (4, .int (zX5_bendNow sc ar)), (5, .int (zX2_behind sc ar y5 (((zX5_nextSeed y6) / 65536) - ((zX5_nextSeed y6) / 65536) / 42 * 42) (zX5_bendNow sc ar))), (6, .int (zX5_nextSeed y6)), (7, .int (y7 + 1)), (8, .int (y8 + (zX2_minutesOf sc ar (((zX5_nextSeed y6) / 65536) - ((zX5_nextSeed y6) / 65536) / 42 * 42)))), (9, .int (nI (i + 1))), (10, .int (((zX5_nextSeed y6) / 65536) - ((zX5_nextSeed y6) / 65536) / 42 * 42)), (11, .int (zX2_behind sc ar y5 (((zX5_nextSeed y6) / 65536) - ((zX5_nextSeed y6) / 65536) / 42 * 42) (zX5_bendNow sc ar)))] F dX5_days_141 rfl (nI_inc i) (jL_of E (show 9 < 12 by decide)) rfl rfl ?_
                        refine J_goto (tgt := 64) F dX5_days_144 (by decide) ?_
                        refine J_lv [0, 1, 2, 3, 4, 5, 6, 7, 8] (lv' := [(0, .ref (g 0)), (1, .int x1), (3, .int x3), (4, .int (zX5_bendNow sc ar)), (5, .int (zX2_behind sc ar y5 (((zX5_nextSeed y6) / 65536) - ((zX5_nextSeed y6) / 65536) / 42 * 42) (zX5_bendNow sc ar))), (6, .int (zX5_nextSeed y6)), (7, .int (y7 + 1)), (8, .int (y8 + (zX2_minutesOf sc ar (((zX5_nextSeed y6) / 65536) - ((zX5_nextSeed y6) / 65536) / 42 * 42)))), (9, .int (nI (i + 1)))]) rfl ?_
                        exact ih (i + 1) (zX2_behind sc ar y5 (((zX5_nextSeed y6) / 65536) - ((zX5_nextSeed y6) / 65536) / 42 * 42) (zX5_bendNow sc ar)) (zX5_nextSeed y6) (y7 + 1) (y8 + (zX2_minutesOf sc ar (((zX5_nextSeed y6) / 65536) - ((zX5_nextSeed y6) / 65536) / 42 * 42))) (by omega) (by omega) (by show _ = zX5_days sc ar x1 x2 x3; rw [← heq, zX5_days_64, if_neg c67, if_neg c92, if_neg c117])
              refine J_lv [0, 1, 3, 4, 5, 6, 7, 8, 9] (lv' := [(0, .ref (g 0)), (1, .int x1), (3, .int x3), (4, .int (zX5_bendNow sc ar)), (5, .int (sc 7)), (6, .int x2), (7, .int 0), (8, .int 0), (9, .int (nI 0))]) rfl ?_
              exact L64 (90 + 1) 0 (sc 7) x2 0 0 (Nat.zero_le _) (Nat.lt_succ_self _) (by unfold zX5_days; rw [if_neg c2, if_neg c8, if_neg c12, if_neg c16, if_pos c21, if_neg c31])
            · refine J_bipush (pc' := 36) (v := (-103)) F dX5_days_34 (by decide) rfl ?_
              exact J_iretR F hR dX5_days_36 rfl (by show _ = zX5_days sc ar x1 x2 x3; unfold zX5_days; rw [if_neg c2, if_neg c8, if_neg c12, if_neg c16, if_pos c21, if_pos c31])
          · refine J_bipush (pc' := 26) (v := (-102)) F dX5_days_24 (by decide) rfl ?_
            exact J_iretR F hR dX5_days_26 rfl (by show _ = zX5_days sc ar x1 x2 x3; unfold zX5_days; rw [if_neg c2, if_neg c8, if_neg c12, if_neg c16, if_neg c21])
def zX5_withLighter (sc : Nat → Int32) (ar : Nat → Nat → Int32) (x1 : Int64) : Int64 := (31 * ((31 * ((31 * ((31 * ((31 * ((31 * ((31 * ((31 * ((31 * ((31 * ((31 * ((31 * ((31 * ((31 * ((31 * ((31 * ((31 * ((31 * ((31 * x1) + (((zX5_bay sc ar 0 0) : Int32).toInt64))) + (((zX5_bay sc ar 0 1) : Int32).toInt64))) + (((zX5_bay sc ar 0 2) : Int32).toInt64))) + (((zX5_bay sc ar 0 3) : Int32).toInt64))) + (((zX5_bay sc ar 0 4) : Int32).toInt64))) + (((zX5_bay sc ar 1 0) : Int32).toInt64))) + (((zX5_bay sc ar 1 1) : Int32).toInt64))) + (((zX5_bay sc ar 1 2) : Int32).toInt64))) + (((zX5_bay sc ar 1 3) : Int32).toInt64))) + (((zX5_bay sc ar 1 4) : Int32).toInt64))) + (((zX5_bay sc ar 2 0) : Int32).toInt64))) + (((zX5_bay sc ar 2 1) : Int32).toInt64))) + (((zX5_bay sc ar 2 2) : Int32).toInt64))) + (((zX5_bay sc ar 2 3) : Int32).toInt64))) + (((zX5_bay sc ar 2 4) : Int32).toInt64))) + (((zX5_hull sc ar 0) : Int32).toInt64))) + (((zX5_hull sc ar 1) : Int32).toInt64))) + (((zX5_hull sc ar 2) : Int32).toInt64))) + (((zX5_hull sc ar 3) : Int32).toInt64)
abbrev rm_X5_withLighter : Room := { frames := 3, cells := 0, slots := 0, locals := 66 }
set_option maxHeartbeats 4000000 in
set_option maxRecDepth 100000 in
theorem c_X5_withLighter (l : Launch) (D : va_G) (cI cZ : ClassId) (z : Nat → Nat) (g : Nat → Nat) (sc : Nat → Int32) (ar : Nat → Nat → Int32) (x1 : Int64)  : cRl l yX5_withLighter ww_X5_withLighter rm_X5_withLighter D cI cZ z (wC cI g sc ar) [.ref (g 0), .long x1] (fun r => r = zX5_withLighter sc ar x1) := by
  refine cRl.of (cc := cX5_withLighter) (maxL := 7) (by decide) rfl (Nat.le_of_ble_eq_true rfl) (fun X F E hR => ?_)
  refine J_lv [0, 1] (lv' := [(0, .ref (g 0)), (1, .long x1)]) rfl ?_
  refine J_lload_n (pc' := 1) (q := 1) F dX5_withLighter_0 rfl rfl ?_
  refine J_lstore_n (pc' := 2) [1, 2, 0] [(0, .ref (g 0)), (1, .long x1), (3, .long x1)] F dX5_withLighter_1 rfl (jL_of E (show 3 + 1 < 7 by decide)) rfl rfl ?_
  refine J_iconst (pc' := 3) (v := 0) F dX5_withLighter_2 (by decide) rfl ?_
  refine J_istore (pc' := 5) [1, 2, 3, 0] [(0, .ref (g 0)), (1, .long x1), (3, .long x1), (5, .int 0)] F dX5_withLighter_3 (jL_of E (show 5 < 7 by decide)) rfl rfl ?_
  refine J_iload (pc' := 7) (q := 3) F dX5_withLighter_5 rfl rfl ?_
  refine J_iconst (pc' := 8) (v := 3) F dX5_withLighter_7 (by decide) rfl ?_
  refine J_icmp_ge (tgt := 48) (pc' := 11) F dX5_withLighter_8 (by decide) rfl (fun c9 => absurd c9 (by decide)) (fun _ => ?_)
  refine J_iconst (pc' := 12) (v := 0) F dX5_withLighter_11 (by decide) rfl ?_
  refine J_istore (pc' := 14) [1, 2, 3, 4, 0] [(0, .ref (g 0)), (1, .long x1), (3, .long x1), (5, .int 0), (6, .int 0)] F dX5_withLighter_12 (jL_of E (show 6 < 7 by decide)) rfl rfl ?_
  refine J_iload (pc' := 16) (q := 4) F dX5_withLighter_14 rfl rfl ?_
  refine J_iconst (pc' := 17) (v := 4) F dX5_withLighter_16 (by decide) rfl ?_
  refine J_icmp_gt (tgt := 42) (pc' := 20) F dX5_withLighter_17 (by decide) rfl (fun c9 => absurd c9 (by decide)) (fun _ => ?_)
  refine J_ldc2 (pc' := 23) (v := 31) F dX5_withLighter_20 kw_559 rfl ?_
  refine J_lload_n (pc' := 24) (q := 2) F dX5_withLighter_23 rfl rfl ?_
  refine J_lmul (pc' := 25) F dX5_withLighter_24 rfl ?_
  refine J_aload_n (pc' := 26) (q := 0) F dX5_withLighter_25 rfl rfl ?_
  refine J_iload (pc' := 28) (q := 3) F dX5_withLighter_26 rfl rfl ?_
  refine J_iload (pc' := 30) (q := 4) F dX5_withLighter_28 rfl rfl ?_
  refine J_goRie (wc := (wC cI g sc ar)) (av := [.ref (g 0), .int 0, .int 0]) (rest := [.long (31 * x1)]) (v := zX5_bay sc ar 0 0) (pc' := 33) F E (fun _ h => h) (fun H locs hI hp => jrun_V (As := [.int 0, .int 0]) 0 F E (c_X5_bay l D cI cZ z g sc ar 0 0) kw_560 kw_360 kw_361 rfl kw_362 kw_1 oX5_bay ⟨⟨rfl, rfl⟩, ⟨Nat.le_of_ble_eq_true rfl, Nat.le_of_ble_eq_true rfl⟩, Nat.zero_le _, Nat.zero_le _⟩ rfl rfl (Nat.le_of_ble_eq_true rfl) dX5_withLighter_30 rfl rfl (jI_P E hI) hp) rfl ?_
  refine J_i2l (pc' := 34) (v := ((zX5_bay sc ar 0 0) : Int32).toInt64) F dX5_withLighter_33 rfl rfl ?_
  refine J_ladd (pc' := 35) F dX5_withLighter_34 rfl ?_
  refine J_lstore_n (pc' := 36) [1, 2, 0, 3, 4] [(0, .ref (g 0)), (1, .long x1), (3, .long ((31 * x1) + (((zX5_bay sc ar 0 0) : Int32).toInt64))), (5, .int 0), (6, .int 0)] F dX5_withLighter_35 rfl (jL_of E (show 3 + 1 < 7 by decide)) rfl rfl ?_
  refine J_iinc (v := 1) (q := 4) (pc' := 39) [1, 2, 3, 4, 0] [(0, .ref (g 0)), (1, .long x1), (3, .long ((31 * x1) + (((zX5_bay sc ar 0 0) : Int32).toInt64))), (5, .int 0), (6, .int 1)] F dX5_withLighter_36 rfl (by decide) (jL_of E (show 6 < 7 by decide)) rfl rfl ?_
  refine J_goto (tgt := 14) F dX5_withLighter_39 (by decide) ?_
  refine J_iload (pc' := 16) (q := 4) F dX5_withLighter_14 rfl rfl ?_
  refine J_iconst (pc' := 17) (v := 4) F dX5_withLighter_16 (by decide) rfl ?_
  refine J_icmp_gt (tgt := 42) (pc' := 20) F dX5_withLighter_17 (by decide) rfl (fun c9 => absurd c9 (by decide)) (fun _ => ?_)
  refine J_ldc2 (pc' := 23) (v := 31) F dX5_withLighter_20 kw_559 rfl ?_
  refine J_lload_n (pc' := 24) (q := 2) F dX5_withLighter_23 rfl rfl ?_
  refine J_lmul (pc' := 25) F dX5_withLighter_24 rfl ?_
  refine J_aload_n (pc' := 26) (q := 0) F dX5_withLighter_25 rfl rfl ?_
  refine J_iload (pc' := 28) (q := 3) F dX5_withLighter_26 rfl rfl ?_
  refine J_iload (pc' := 30) (q := 4) F dX5_withLighter_28 rfl rfl ?_
  refine J_goRie (wc := (wC cI g sc ar)) (av := [.ref (g 0), .int 0, .int 1]) (rest := [.long (31 * ((31 * x1) + (((zX5_bay sc ar 0 0) : Int32).toInt64)))]) (v := zX5_bay sc ar 0 1) (pc' := 33) F E (fun _ h => h) (fun H locs hI hp => jrun_V (As := [.int 0, .int 1]) 0 F E (c_X5_bay l D cI cZ z g sc ar 0 1) kw_560 kw_360 kw_361 rfl kw_362 kw_1 oX5_bay ⟨⟨rfl, rfl⟩, ⟨Nat.le_of_ble_eq_true rfl, Nat.le_of_ble_eq_true rfl⟩, Nat.zero_le _, Nat.zero_le _⟩ rfl rfl (Nat.le_of_ble_eq_true rfl) dX5_withLighter_30 rfl rfl (jI_P E hI) hp) rfl ?_
  refine J_i2l (pc' := 34) (v := ((zX5_bay sc ar 0 1) : Int32).toInt64) F dX5_withLighter_33 rfl rfl ?_
  refine J_ladd (pc' := 35) F dX5_withLighter_34 rfl ?_
  refine J_lstore_n (pc' := 36) [1, 2, 0, 3, 4] [(0, .ref (g 0)), (1, .long x1), (3, .long ((31 * ((31 * x1) + (((zX5_bay sc ar 0 0) : Int32).toInt64))) + (((zX5_bay sc ar 0 1) : Int32).toInt64))), (5, .int 0), (6, .int 1)] F dX5_withLighter_35 rfl (jL_of E (show 3 + 1 < 7 by decide)) rfl rfl ?_
  refine J_iinc (v := 2) (q := 4) (pc' := 39) [1, 2, 3, 4, 0] [(0, .ref (g 0)), (1, .long x1), (3, .long ((31 * ((31 * x1) + (((zX5_bay sc ar 0 0) : Int32).toInt64))) + (((zX5_bay sc ar 0 1) : Int32).toInt64))), (5, .int 0), (6, .int 2)] F dX5_withLighter_36 rfl (by decide) (jL_of E (show 6 < 7 by decide)) rfl rfl ?_
  refine J_goto (tgt := 14) F dX5_withLighter_39 (by decide) ?_
  refine J_iload (pc' := 16) (q := 4) F dX5_withLighter_14 rfl rfl ?_
  refine J_iconst (pc' := 17) (v := 4) F dX5_withLighter_16 (by decide) rfl ?_
  refine J_icmp_gt (tgt := 42) (pc' := 20) F dX5_withLighter_17 (by decide) rfl (fun c9 => absurd c9 (by decide)) (fun _ => ?_)
  refine J_ldc2 (pc' := 23) (v := 31) F dX5_withLighter_20 kw_559 rfl ?_
  refine J_lload_n (pc' := 24) (q := 2) F dX5_withLighter_23 rfl rfl ?_
  refine J_lmul (pc' := 25) F dX5_withLighter_24 rfl ?_
  refine J_aload_n (pc' := 26) (q := 0) F dX5_withLighter_25 rfl rfl ?_
  refine J_iload (pc' := 28) (q := 3) F dX5_withLighter_26 rfl rfl ?_
  refine J_iload (pc' := 30) (q := 4) F dX5_withLighter_28 rfl rfl ?_
  refine J_goRie (wc := (wC cI g sc ar)) (av := [.ref (g 0), .int 0, .int 2]) (rest := [.long (31 * ((31 * ((31 * x1) + (((zX5_bay sc ar 0 0) : Int32).toInt64))) + (((zX5_bay sc ar 0 1) : Int32).toInt64)))]) (v := zX5_bay sc ar 0 2) (pc' := 33) F E (fun _ h => h) (fun H locs hI hp => jrun_V (As := [.int 0, .int 2]) 0 F E (c_X5_bay l D cI cZ z g sc ar 0 2) kw_560 kw_360 kw_361 rfl kw_362 kw_1 oX5_bay ⟨⟨rfl, rfl⟩, ⟨Nat.le_of_ble_eq_true rfl, Nat.le_of_ble_eq_true rfl⟩, Nat.zero_le _, Nat.zero_le _⟩ rfl rfl (Nat.le_of_ble_eq_true rfl) dX5_withLighter_30 rfl rfl (jI_P E hI) hp) rfl ?_
  refine J_i2l (pc' := 34) (v := ((zX5_bay sc ar 0 2) : Int32).toInt64) F dX5_withLighter_33 rfl rfl ?_
  refine J_ladd (pc' := 35) F dX5_withLighter_34 rfl ?_
  refine J_lstore_n (pc' := 36) [1, 2, 0, 3, 4] [(0, .ref (g 0)), (1, .long x1), (3, .long ((31 * ((31 * ((31 * x1) + (((zX5_bay sc ar 0 0) : Int32).toInt64))) + (((zX5_bay sc ar 0 1) : Int32).toInt64))) + (((zX5_bay sc ar 0 2) : Int32).toInt64))), (5, .int 0), (6, .int 2)] F dX5_withLighter_35 rfl (jL_of E (show 3 + 1 < 7 by decide)) rfl rfl ?_
  refine J_iinc (v := 3) (q := 4) (pc' := 39) [1, 2, 3, 4, 0] [(0, .ref (g 0)), (1, .long x1), (3, .long ((31 * ((31 * ((31 * x1) + (((zX5_bay sc ar 0 0) : Int32).toInt64))) + (((zX5_bay sc ar 0 1) : Int32).toInt64))) + (((zX5_bay sc ar 0 2) : Int32).toInt64))), (5, .int 0), (6, .int 3)] F dX5_withLighter_36 rfl (by decide) (jL_of E (show 6 < 7 by decide)) rfl rfl ?_
  refine J_goto (tgt := 14) F dX5_withLighter_39 (by decide) ?_
  refine J_iload (pc' := 16) (q := 4) F dX5_withLighter_14 rfl rfl ?_
  refine J_iconst (pc' := 17) (v := 4) F dX5_withLighter_16 (by decide) rfl ?_
  refine J_icmp_gt (tgt := 42) (pc' := 20) F dX5_withLighter_17 (by decide) rfl (fun c9 => absurd c9 (by decide)) (fun _ => ?_)
  refine J_ldc2 (pc' := 23) (v := 31) F dX5_withLighter_20 kw_559 rfl ?_
  refine J_lload_n (pc' := 24) (q := 2) F dX5_withLighter_23 rfl rfl ?_
  refine J_lmul (pc' := 25) F dX5_withLighter_24 rfl ?_
  refine J_aload_n (pc' := 26) (q := 0) F dX5_withLighter_25 rfl rfl ?_
  refine J_iload (pc' := 28) (q := 3) F dX5_withLighter_26 rfl rfl ?_
  refine J_iload (pc' := 30) (q := 4) F dX5_withLighter_28 rfl rfl ?_
  refine J_goRie (wc := (wC cI g sc ar)) (av := [.ref (g 0), .int 0, .int 3]) (rest := [.long (31 * ((31 * ((31 * ((31 * x1) + (((zX5_bay sc ar 0 0) : Int32).toInt64))) + (((zX5_bay sc ar 0 1) : Int32).toInt64))) + (((zX5_bay sc ar 0 2) : Int32).toInt64)))]) (v := zX5_bay sc ar 0 3) (pc' := 33) F E (fun _ h => h) (fun H locs hI hp => jrun_V (As := [.int 0, .int 3]) 0 F E (c_X5_bay l D cI cZ z g sc ar 0 3) kw_560 kw_360 kw_361 rfl kw_362 kw_1 oX5_bay ⟨⟨rfl, rfl⟩, ⟨Nat.le_of_ble_eq_true rfl, Nat.le_of_ble_eq_true rfl⟩, Nat.zero_le _, Nat.zero_le _⟩ rfl rfl (Nat.le_of_ble_eq_true rfl) dX5_withLighter_30 rfl rfl (jI_P E hI) hp) rfl ?_
  refine J_i2l (pc' := 34) (v := ((zX5_bay sc ar 0 3) : Int32).toInt64) F dX5_withLighter_33 rfl rfl ?_
  refine J_ladd (pc' := 35) F dX5_withLighter_34 rfl ?_
  refine J_lstore_n (pc' := 36) [1, 2, 0, 3, 4] [(0, .ref (g 0)), (1, .long x1), (3, .long ((31 * ((31 * ((31 * ((31 * x1) + (((zX5_bay sc ar 0 0) : Int32).toInt64))) + (((zX5_bay sc ar 0 1) : Int32).toInt64))) + (((zX5_bay sc ar 0 2) : Int32).toInt64))) + (((zX5_bay sc ar 0 3) : Int32).toInt64))), (5, .int 0), (6, .int 3)] F dX5_withLighter_35 rfl (jL_of E (show 3 + 1 < 7 by decide)) rfl rfl ?_
  refine J_iinc (v := 4) (q := 4) (pc' := 39) [1, 2, 3, 4, 0] [(0, .ref (g 0)), (1, .long x1), (3, .long ((31 * ((31 * ((31 * ((31 * x1) + (((zX5_bay sc ar 0 0) : Int32).toInt64))) + (((zX5_bay sc ar 0 1) : Int32).toInt64))) + (((zX5_bay sc ar 0 2) : Int32).toInt64))) + (((zX5_bay sc ar 0 3) : Int32).toInt64))), (5, .int 0), (6, .int 4)] F dX5_withLighter_36 rfl (by decide) (jL_of E (show 6 < 7 by decide)) rfl rfl ?_
  refine J_goto (tgt := 14) F dX5_withLighter_39 (by decide) ?_
  refine J_iload (pc' := 16) (q := 4) F dX5_withLighter_14 rfl rfl ?_
  refine J_iconst (pc' := 17) (v := 4) F dX5_withLighter_16 (by decide) rfl ?_
  refine J_icmp_gt (tgt := 42) (pc' := 20) F dX5_withLighter_17 (by decide) rfl (fun c9 => absurd c9 (by decide)) (fun _ => ?_)
  refine J_ldc2 (pc' := 23) (v := 31) F dX5_withLighter_20 kw_559 rfl ?_
  refine J_lload_n (pc' := 24) (q := 2) F dX5_withLighter_23 rfl rfl ?_
  refine J_lmul (pc' := 25) F dX5_withLighter_24 rfl ?_
  refine J_aload_n (pc' := 26) (q := 0) F dX5_withLighter_25 rfl rfl ?_
  refine J_iload (pc' := 28) (q := 3) F dX5_withLighter_26 rfl rfl ?_
  refine J_iload (pc' := 30) (q := 4) F dX5_withLighter_28 rfl rfl ?_
  refine J_goRie (wc := (wC cI g sc ar)) (av := [.ref (g 0), .int 0, .int 4]) (rest := [.long (31 * ((31 * ((31 * ((31 * ((31 * x1) + (((zX5_bay sc ar 0 0) : Int32).toInt64))) + (((zX5_bay sc ar 0 1) : Int32).toInt64))) + (((zX5_bay sc ar 0 2) : Int32).toInt64))) + (((zX5_bay sc ar 0 3) : Int32).toInt64)))]) (v := zX5_bay sc ar 0 4) (pc' := 33) F E (fun _ h => h) (fun H locs hI hp => jrun_V (As := [.int 0, .int 4]) 0 F E (c_X5_bay l D cI cZ z g sc ar 0 4) kw_560 kw_360 kw_361 rfl kw_362 kw_1 oX5_bay ⟨⟨rfl, rfl⟩, ⟨Nat.le_of_ble_eq_true rfl, Nat.le_of_ble_eq_true rfl⟩, Nat.zero_le _, Nat.zero_le _⟩ rfl rfl (Nat.le_of_ble_eq_true rfl) dX5_withLighter_30 rfl rfl (jI_P E hI) hp) rfl ?_
  refine J_i2l (pc' := 34) (v := ((zX5_bay sc ar 0 4) : Int32).toInt64) F dX5_withLighter_33 rfl rfl ?_
  refine J_ladd (pc' := 35) F dX5_withLighter_34 rfl ?_
  refine J_lstore_n (pc' := 36) [1, 2, 0, 3, 4] [(0, .ref (g 0)), (1, .long x1), (3, .long ((31 * ((31 * ((31 * ((31 * ((31 * x1) + (((zX5_bay sc ar 0 0) : Int32).toInt64))) + (((zX5_bay sc ar 0 1) : Int32).toInt64))) + (((zX5_bay sc ar 0 2) : Int32).toInt64))) + (((zX5_bay sc ar 0 3) : Int32).toInt64))) + (((zX5_bay sc ar 0 4) : Int32).toInt64))), (5, .int 0), (6, .int 4)] F dX5_withLighter_35 rfl (jL_of E (show 3 + 1 < 7 by decide)) rfl rfl ?_
  refine J_iinc (v := 5) (q := 4) (pc' := 39) [1, 2, 3, 4, 0] [(0, .ref (g 0)), (1, .long x1), (3, .long ((31 * ((31 * ((31 * ((31 * ((31 * x1) + (((zX5_bay sc ar 0 0) : Int32).toInt64))) + (((zX5_bay sc ar 0 1) : Int32).toInt64))) + (((zX5_bay sc ar 0 2) : Int32).toInt64))) + (((zX5_bay sc ar 0 3) : Int32).toInt64))) + (((zX5_bay sc ar 0 4) : Int32).toInt64))), (5, .int 0), (6, .int 5)] F dX5_withLighter_36 rfl (by decide) (jL_of E (show 6 < 7 by decide)) rfl rfl ?_
  refine J_goto (tgt := 14) F dX5_withLighter_39 (by decide) ?_
  refine J_iload (pc' := 16) (q := 4) F dX5_withLighter_14 rfl rfl ?_
  refine J_iconst (pc' := 17) (v := 4) F dX5_withLighter_16 (by decide) rfl ?_
  refine J_icmp_gt (tgt := 42) (pc' := 20) F dX5_withLighter_17 (by decide) rfl (fun _ => ?_) (fun c9 => absurd (by decide) c9)
  refine J_iinc (v := 1) (q := 3) (pc' := 45) [1, 2, 3, 0, 4] [(0, .ref (g 0)), (1, .long x1), (3, .long ((31 * ((31 * ((31 * ((31 * ((31 * x1) + (((zX5_bay sc ar 0 0) : Int32).toInt64))) + (((zX5_bay sc ar 0 1) : Int32).toInt64))) + (((zX5_bay sc ar 0 2) : Int32).toInt64))) + (((zX5_bay sc ar 0 3) : Int32).toInt64))) + (((zX5_bay sc ar 0 4) : Int32).toInt64))), (5, .int 1), (6, .int 5)] F dX5_withLighter_42 rfl (by decide) (jL_of E (show 5 < 7 by decide)) rfl rfl ?_
  refine J_goto (tgt := 5) F dX5_withLighter_45 (by decide) ?_
  refine J_iload (pc' := 7) (q := 3) F dX5_withLighter_5 rfl rfl ?_
  refine J_iconst (pc' := 8) (v := 3) F dX5_withLighter_7 (by decide) rfl ?_
  refine J_icmp_ge (tgt := 48) (pc' := 11) F dX5_withLighter_8 (by decide) rfl (fun c9 => absurd c9 (by decide)) (fun _ => ?_)
  refine J_iconst (pc' := 12) (v := 0) F dX5_withLighter_11 (by decide) rfl ?_
  refine J_istore (pc' := 14) [1, 2, 3, 4, 0] [(0, .ref (g 0)), (1, .long x1), (3, .long ((31 * ((31 * ((31 * ((31 * ((31 * x1) + (((zX5_bay sc ar 0 0) : Int32).toInt64))) + (((zX5_bay sc ar 0 1) : Int32).toInt64))) + (((zX5_bay sc ar 0 2) : Int32).toInt64))) + (((zX5_bay sc ar 0 3) : Int32).toInt64))) + (((zX5_bay sc ar 0 4) : Int32).toInt64))), (5, .int 1), (6, .int 0)] F dX5_withLighter_12 (jL_of E (show 6 < 7 by decide)) rfl rfl ?_
  refine J_iload (pc' := 16) (q := 4) F dX5_withLighter_14 rfl rfl ?_
  refine J_iconst (pc' := 17) (v := 4) F dX5_withLighter_16 (by decide) rfl ?_
  refine J_icmp_gt (tgt := 42) (pc' := 20) F dX5_withLighter_17 (by decide) rfl (fun c9 => absurd c9 (by decide)) (fun _ => ?_)
  refine J_ldc2 (pc' := 23) (v := 31) F dX5_withLighter_20 kw_559 rfl ?_
  refine J_lload_n (pc' := 24) (q := 2) F dX5_withLighter_23 rfl rfl ?_
  refine J_lmul (pc' := 25) F dX5_withLighter_24 rfl ?_
  refine J_aload_n (pc' := 26) (q := 0) F dX5_withLighter_25 rfl rfl ?_
  refine J_iload (pc' := 28) (q := 3) F dX5_withLighter_26 rfl rfl ?_
  refine J_iload (pc' := 30) (q := 4) F dX5_withLighter_28 rfl rfl ?_
  refine J_goRie (wc := (wC cI g sc ar)) (av := [.ref (g 0), .int 1, .int 0]) (rest := [.long (31 * ((31 * ((31 * ((31 * ((31 * ((31 * x1) + (((zX5_bay sc ar 0 0) : Int32).toInt64))) + (((zX5_bay sc ar 0 1) : Int32).toInt64))) + (((zX5_bay sc ar 0 2) : Int32).toInt64))) + (((zX5_bay sc ar 0 3) : Int32).toInt64))) + (((zX5_bay sc ar 0 4) : Int32).toInt64)))]) (v := zX5_bay sc ar 1 0) (pc' := 33) F E (fun _ h => h) (fun H locs hI hp => jrun_V (As := [.int 1, .int 0]) 0 F E (c_X5_bay l D cI cZ z g sc ar 1 0) kw_560 kw_360 kw_361 rfl kw_362 kw_1 oX5_bay ⟨⟨rfl, rfl⟩, ⟨Nat.le_of_ble_eq_true rfl, Nat.le_of_ble_eq_true rfl⟩, Nat.zero_le _, Nat.zero_le _⟩ rfl rfl (Nat.le_of_ble_eq_true rfl) dX5_withLighter_30 rfl rfl (jI_P E hI) hp) rfl ?_
  refine J_i2l (pc' := 34) (v := ((zX5_bay sc ar 1 0) : Int32).toInt64) F dX5_withLighter_33 rfl rfl ?_
  refine J_ladd (pc' := 35) F dX5_withLighter_34 rfl ?_
  refine J_lstore_n (pc' := 36) [1, 2, 0, 3, 4] [(0, .ref (g 0)), (1, .long x1), (3, .long ((31 * ((31 * ((31 * ((31 * ((31 * ((31 * x1) + (((zX5_bay sc ar 0 0) : Int32).toInt64))) + (((zX5_bay sc ar 0 1) : Int32).toInt64))) + (((zX5_bay sc ar 0 2) : Int32).toInt64))) + (((zX5_bay sc ar 0 3) : Int32).toInt64))) + (((zX5_bay sc ar 0 4) : Int32).toInt64))) + (((zX5_bay sc ar 1 0) : Int32).toInt64))), (5, .int 1), (6, .int 0)] F dX5_withLighter_35 rfl (jL_of E (show 3 + 1 < 7 by decide)) rfl rfl ?_
  refine J_iinc (v := 1) (q := 4) (pc' := 39) [1, 2, 3, 4, 0] [(0, .ref (g 0)), (1, .long x1), (3, .long ((31 * ((31 * ((31 * ((31 * ((31 * ((31 * x1) + (((zX5_bay sc ar 0 0) : Int32).toInt64))) + (((zX5_bay sc ar 0 1) : Int32).toInt64))) + (((zX5_bay sc ar 0 2) : Int32).toInt64))) + (((zX5_bay sc ar 0 3) : Int32).toInt64))) + (((zX5_bay sc ar 0 4) : Int32).toInt64))) + (((zX5_bay sc ar 1 0) : Int32).toInt64))), (5, .int 1), (6, .int 1)] F dX5_withLighter_36 rfl (by decide) (jL_of E (show 6 < 7 by decide)) rfl rfl ?_
  refine J_goto (tgt := 14) F dX5_withLighter_39 (by decide) ?_
  refine J_iload (pc' := 16) (q := 4) F dX5_withLighter_14 rfl rfl ?_
  refine J_iconst (pc' := 17) (v := 4) F dX5_withLighter_16 (by decide) rfl ?_
  refine J_icmp_gt (tgt := 42) (pc' := 20) F dX5_withLighter_17 (by decide) rfl (fun c9 => absurd c9 (by decide)) (fun _ => ?_)
  refine J_ldc2 (pc' := 23) (v := 31) F dX5_withLighter_20 kw_559 rfl ?_
  refine J_lload_n (pc' := 24) (q := 2) F dX5_withLighter_23 rfl rfl ?_
  refine J_lmul (pc' := 25) F dX5_withLighter_24 rfl ?_
  refine J_aload_n (pc' := 26) (q := 0) F dX5_withLighter_25 rfl rfl ?_
  refine J_iload (pc' := 28) (q := 3) F dX5_withLighter_26 rfl rfl ?_
  refine J_iload (pc' := 30) (q := 4) F dX5_withLighter_28 rfl rfl ?_
  refine J_goRie (wc := (wC cI g sc ar)) (av := [.ref (g 0), .int 1, .int 1]) (rest := [.long (31 * ((31 * ((31 * ((31 * ((31 * ((31 * ((31 * x1) + (((zX5_bay sc ar 0 0) : Int32).toInt64))) + (((zX5_bay sc ar 0 1) : Int32).toInt64))) + (((zX5_bay sc ar 0 2) : Int32).toInt64))) + (((zX5_bay sc ar 0 3) : Int32).toInt64))) + (((zX5_bay sc ar 0 4) : Int32).toInt64))) + (((zX5_bay sc ar 1 0) : Int32).toInt64)))]) (v := zX5_bay sc ar 1 1) (pc' := 33) F E (fun _ h => h) (fun H locs hI hp => jrun_V (As := [.int 1, .int 1]) 0 F E (c_X5_bay l D cI cZ z g sc ar 1 1) kw_560 kw_360 kw_361 rfl kw_362 kw_1 oX5_bay ⟨⟨rfl, rfl⟩, ⟨Nat.le_of_ble_eq_true rfl, Nat.le_of_ble_eq_true rfl⟩, Nat.zero_le _, Nat.zero_le _⟩ rfl rfl (Nat.le_of_ble_eq_true rfl) dX5_withLighter_30 rfl rfl (jI_P E hI) hp) rfl ?_
  refine J_i2l (pc' := 34) (v := ((zX5_bay sc ar 1 1) : Int32).toInt64) F dX5_withLighter_33 rfl rfl ?_
  refine J_ladd (pc' := 35) F dX5_withLighter_34 rfl ?_
  refine J_lstore_n (pc' := 36) [1, 2, 0, 3, 4] [(0, .ref (g 0)), (1, .long x1), (3, .long ((31 * ((31 * ((31 * ((31 * ((31 * ((31 * ((31 * x1) + (((zX5_bay sc ar 0 0) : Int32).toInt64))) + (((zX5_bay sc ar 0 1) : Int32).toInt64))) + (((zX5_bay sc ar 0 2) : Int32).toInt64))) + (((zX5_bay sc ar 0 3) : Int32).toInt64))) + (((zX5_bay sc ar 0 4) : Int32).toInt64))) + (((zX5_bay sc ar 1 0) : Int32).toInt64))) + (((zX5_bay sc ar 1 1) : Int32).toInt64))), (5, .int 1), (6, .int 1)] F dX5_withLighter_35 rfl (jL_of E (show 3 + 1 < 7 by decide)) rfl rfl ?_
  refine J_iinc (v := 2) (q := 4) (pc' := 39) [1, 2, 3, 4, 0] [(0, .ref (g 0)), (1, .long x1), (3, .long ((31 * ((31 * ((31 * ((31 * ((31 * ((31 * ((31 * x1) + (((zX5_bay sc ar 0 0) : Int32).toInt64))) + (((zX5_bay sc ar 0 1) : Int32).toInt64))) + (((zX5_bay sc ar 0 2) : Int32).toInt64))) + (((zX5_bay sc ar 0 3) : Int32).toInt64))) + (((zX5_bay sc ar 0 4) : Int32).toInt64))) + (((zX5_bay sc ar 1 0) : Int32).toInt64))) + (((zX5_bay sc ar 1 1) : Int32).toInt64))), (5, .int 1), (6, .int 2)] F dX5_withLighter_36 rfl (by decide) (jL_of E (show 6 < 7 by decide)) rfl rfl ?_
  refine J_goto (tgt := 14) F dX5_withLighter_39 (by decide) ?_
  refine J_iload (pc' := 16) (q := 4) F dX5_withLighter_14 rfl rfl ?_
  refine J_iconst (pc' := 17) (v := 4) F dX5_withLighter_16 (by decide) rfl ?_
  refine J_icmp_gt (tgt := 42) (pc' := 20) F dX5_withLighter_17 (by decide) rfl (fun c9 => absurd c9 (by decide)) (fun _ => ?_)
  refine J_ldc2 (pc' := 23) (v := 31) F dX5_withLighter_20 kw_559 rfl ?_
  refine J_lload_n (pc' := 24) (q := 2) F dX5_withLighter_23 rfl rfl ?_
  refine J_lmul (pc' := 25) F dX5_withLighter_24 rfl ?_
  refine J_aload_n (pc' := 26) (q := 0) F dX5_withLighter_25 rfl rfl ?_
  refine J_iload (pc' := 28) (q := 3) F dX5_withLighter_26 rfl rfl ?_
  refine J_iload (pc' := 30) (q := 4) F dX5_withLighter_28 rfl rfl ?_
  refine J_goRie (wc := (wC cI g sc ar)) (av := [.ref (g 0), .int 1, .int 2]) (rest := [.long (31 * ((31 * ((31 * ((31 * ((31 * ((31 * ((31 * ((31 * x1) + (((zX5_bay sc ar 0 0) : Int32).toInt64))) + (((zX5_bay sc ar 0 1) : Int32).toInt64))) + (((zX5_bay sc ar 0 2) : Int32).toInt64))) + (((zX5_bay sc ar 0 3) : Int32).toInt64))) + (((zX5_bay sc ar 0 4) : Int32).toInt64))) + (((zX5_bay sc ar 1 0) : Int32).toInt64))) + (((zX5_bay sc ar 1 1) : Int32).toInt64)))]) (v := zX5_bay sc ar 1 2) (pc' := 33) F E (fun _ h => h) (fun H locs hI hp => jrun_V (As := [.int 1, .int 2]) 0 F E (c_X5_bay l D cI cZ z g sc ar 1 2) kw_560 kw_360 kw_361 rfl kw_362 kw_1 oX5_bay ⟨⟨rfl, rfl⟩, ⟨Nat.le_of_ble_eq_true rfl, Nat.le_of_ble_eq_true rfl⟩, Nat.zero_le _, Nat.zero_le _⟩ rfl rfl (Nat.le_of_ble_eq_true rfl) dX5_withLighter_30 rfl rfl (jI_P E hI) hp) rfl ?_
  refine J_i2l (pc' := 34) (v := ((zX5_bay sc ar 1 2) : Int32).toInt64) F dX5_withLighter_33 rfl rfl ?_
  refine J_ladd (pc' := 35) F dX5_withLighter_34 rfl ?_
  refine J_lstore_n (pc' := 36) [1, 2, 0, 3, 4] [(0, .ref (g 0)), (1, .long x1), (3, .long ((31 * ((31 * ((31 * ((31 * ((31 * ((31 * ((31 * ((31 * x1) + (((zX5_bay sc ar 0 0) : Int32).toInt64))) + (((zX5_bay sc ar 0 1) : Int32).toInt64))) + (((zX5_bay sc ar 0 2) : Int32).toInt64))) + (((zX5_bay sc ar 0 3) : Int32).toInt64))) + (((zX5_bay sc ar 0 4) : Int32).toInt64))) + (((zX5_bay sc ar 1 0) : Int32).toInt64))) + (((zX5_bay sc ar 1 1) : Int32).toInt64))) + (((zX5_bay sc ar 1 2) : Int32).toInt64))), (5, .int 1), (6, .int 2)] F dX5_withLighter_35 rfl (jL_of E (show 3 + 1 < 7 by decide)) rfl rfl ?_
  refine J_iinc (v := 3) (q := 4) (pc' := 39) [1, 2, 3, 4, 0] [(0, .ref (g 0)), (1, .long x1), (3, .long ((31 * ((31 * ((31 * ((31 * ((31 * ((31 * ((31 * ((31 * x1) + (((zX5_bay sc ar 0 0) : Int32).toInt64))) + (((zX5_bay sc ar 0 1) : Int32).toInt64))) + (((zX5_bay sc ar 0 2) : Int32).toInt64))) + (((zX5_bay sc ar 0 3) : Int32).toInt64))) + (((zX5_bay sc ar 0 4) : Int32).toInt64))) + (((zX5_bay sc ar 1 0) : Int32).toInt64))) + (((zX5_bay sc ar 1 1) : Int32).toInt64))) + (((zX5_bay sc ar 1 2) : Int32).toInt64))), (5, .int 1), (6, .int 3)] F dX5_withLighter_36 rfl (by decide) (jL_of E (show 6 < 7 by decide)) rfl rfl ?_
  refine J_goto (tgt := 14) F dX5_withLighter_39 (by decide) ?_
  refine J_iload (pc' := 16) (q := 4) F dX5_withLighter_14 rfl rfl ?_
  refine J_iconst (pc' := 17) (v := 4) F dX5_withLighter_16 (by decide) rfl ?_
  refine J_icmp_gt (tgt := 42) (pc' := 20) F dX5_withLighter_17 (by decide) rfl (fun c9 => absurd c9 (by decide)) (fun _ => ?_)
  refine J_ldc2 (pc' := 23) (v := 31) F dX5_withLighter_20 kw_559 rfl ?_
  refine J_lload_n (pc' := 24) (q := 2) F dX5_withLighter_23 rfl rfl ?_
  refine J_lmul (pc' := 25) F dX5_withLighter_24 rfl ?_
  refine J_aload_n (pc' := 26) (q := 0) F dX5_withLighter_25 rfl rfl ?_
  refine J_iload (pc' := 28) (q := 3) F dX5_withLighter_26 rfl rfl ?_
  refine J_iload (pc' := 30) (q := 4) F dX5_withLighter_28 rfl rfl ?_
  refine J_goRie (wc := (wC cI g sc ar)) (av := [.ref (g 0), .int 1, .int 3]) (rest := [.long (31 * ((31 * ((31 * ((31 * ((31 * ((31 * ((31 * ((31 * ((31 * x1) + (((zX5_bay sc ar 0 0) : Int32).toInt64))) + (((zX5_bay sc ar 0 1) : Int32).toInt64))) + (((zX5_bay sc ar 0 2) : Int32).toInt64))) + (((zX5_bay sc ar 0 3) : Int32).toInt64))) + (((zX5_bay sc ar 0 4) : Int32).toInt64))) + (((zX5_bay sc ar 1 0) : Int32).toInt64))) + (((zX5_bay sc ar 1 1) : Int32).toInt64))) + (((zX5_bay sc ar 1 2) : Int32).toInt64)))]) (v := zX5_bay sc ar 1 3) (pc' := 33) F E (fun _ h => h) (fun H locs hI hp => jrun_V (As := [.int 1, .int 3]) 0 F E (c_X5_bay l D cI cZ z g sc ar 1 3) kw_560 kw_360 kw_361 rfl kw_362 kw_1 oX5_bay ⟨⟨rfl, rfl⟩, ⟨Nat.le_of_ble_eq_true rfl, Nat.le_of_ble_eq_true rfl⟩, Nat.zero_le _, Nat.zero_le _⟩ rfl rfl (Nat.le_of_ble_eq_true rfl) dX5_withLighter_30 rfl rfl (jI_P E hI) hp) rfl ?_
  refine J_i2l (pc' := 34) (v := ((zX5_bay sc ar 1 3) : Int32).toInt64) F dX5_withLighter_33 rfl rfl ?_
  refine J_ladd (pc' := 35) F dX5_withLighter_34 rfl ?_
  refine J_lstore_n (pc' := 36) [1, 2, 0, 3, 4] [(0, .ref (g 0)), (1, .long x1), (3, .long ((31 * ((31 * ((31 * ((31 * ((31 * ((31 * ((31 * ((31 * ((31 * x1) + (((zX5_bay sc ar 0 0) : Int32).toInt64))) + (((zX5_bay sc ar 0 1) : Int32).toInt64))) + (((zX5_bay sc ar 0 2) : Int32).toInt64))) + (((zX5_bay sc ar 0 3) : Int32).toInt64))) + (((zX5_bay sc ar 0 4) : Int32).toInt64))) + (((zX5_bay sc ar 1 0) : Int32).toInt64))) + (((zX5_bay sc ar 1 1) : Int32).toInt64))) + (((zX5_bay sc ar 1 2) : Int32).toInt64))) + (((zX5_bay sc ar 1 3) : Int32).toInt64))), (5, .int 1), (6, .int 3)] F dX5_withLighter_35 rfl (jL_of E (show 3 + 1 < 7 by decide)) rfl rfl ?_
  refine J_iinc (v := 4) (q := 4) (pc' := 39) [1, 2, 3, 4, 0] [(0, .ref (g 0)), (1, .long x1), (3, .long ((31 * ((31 * ((31 * ((31 * ((31 * ((31 * ((31 * ((31 * ((31 * x1) + (((zX5_bay sc ar 0 0) : Int32).toInt64))) + (((zX5_bay sc ar 0 1) : Int32).toInt64))) + (((zX5_bay sc ar 0 2) : Int32).toInt64))) + (((zX5_bay sc ar 0 3) : Int32).toInt64))) + (((zX5_bay sc ar 0 4) : Int32).toInt64))) + (((zX5_bay sc ar 1 0) : Int32).toInt64))) + (((zX5_bay sc ar 1 1) : Int32).toInt64))) + (((zX5_bay sc ar 1 2) : Int32).toInt64))) + (((zX5_bay sc ar 1 3) : Int32).toInt64))), (5, .int 1), (6, .int 4)] F dX5_withLighter_36 rfl (by decide) (jL_of E (show 6 < 7 by decide)) rfl rfl ?_
  refine J_goto (tgt := 14) F dX5_withLighter_39 (by decide) ?_
  refine J_iload (pc' := 16) (q := 4) F dX5_withLighter_14 rfl rfl ?_
  refine J_iconst (pc' := 17) (v := 4) F dX5_withLighter_16 (by decide) rfl ?_
  refine J_icmp_gt (tgt := 42) (pc' := 20) F dX5_withLighter_17 (by decide) rfl (fun c9 => absurd c9 (by decide)) (fun _ => ?_)
  refine J_ldc2 (pc' := 23) (v := 31) F dX5_withLighter_20 kw_559 rfl ?_
  refine J_lload_n (pc' := 24) (q := 2) F dX5_withLighter_23 rfl rfl ?_
  refine J_lmul (pc' := 25) F dX5_withLighter_24 rfl ?_
  refine J_aload_n (pc' := 26) (q := 0) F dX5_withLighter_25 rfl rfl ?_
  refine J_iload (pc' := 28) (q := 3) F dX5_withLighter_26 rfl rfl ?_
  refine J_iload (pc' := 30) (q := 4) F dX5_withLighter_28 rfl rfl ?_
  refine J_goRie (wc := (wC cI g sc ar)) (av := [.ref (g 0), .int 1, .int 4]) (rest := [.long (31 * ((31 * ((31 * ((31 * ((31 * ((31 * ((31 * ((31 * ((31 * ((31 * x1) + (((zX5_bay sc ar 0 0) : Int32).toInt64))) + (((zX5_bay sc ar 0 1) : Int32).toInt64))) + (((zX5_bay sc ar 0 2) : Int32).toInt64))) + (((zX5_bay sc ar 0 3) : Int32).toInt64))) + (((zX5_bay sc ar 0 4) : Int32).toInt64))) + (((zX5_bay sc ar 1 0) : Int32).toInt64))) + (((zX5_bay sc ar 1 1) : Int32).toInt64))) + (((zX5_bay sc ar 1 2) : Int32).toInt64))) + (((zX5_bay sc ar 1 3) : Int32).toInt64)))]) (v := zX5_bay sc ar 1 4) (pc' := 33) F E (fun _ h => h) (fun H locs hI hp => jrun_V (As := [.int 1, .int 4]) 0 F E (c_X5_bay l D cI cZ z g sc ar 1 4) kw_560 kw_360 kw_361 rfl kw_362 kw_1 oX5_bay ⟨⟨rfl, rfl⟩, ⟨Nat.le_of_ble_eq_true rfl, Nat.le_of_ble_eq_true rfl⟩, Nat.zero_le _, Nat.zero_le _⟩ rfl rfl (Nat.le_of_ble_eq_true rfl) dX5_withLighter_30 rfl rfl (jI_P E hI) hp) rfl ?_
  refine J_i2l (pc' := 34) (v := ((zX5_bay sc ar 1 4) : Int32).toInt64) F dX5_withLighter_33 rfl rfl ?_
  refine J_ladd (pc' := 35) F dX5_withLighter_34 rfl ?_
  refine J_lstore_n (pc' := 36) [1, 2, 0, 3, 4] [(0, .ref (g 0)), (1, .long x1), (3, .long ((31 * ((31 * ((31 * ((31 * ((31 * ((31 * ((31 * ((31 * ((31 * ((31 * x1) + (((zX5_bay sc ar 0 0) : Int32).toInt64))) + (((zX5_bay sc ar 0 1) : Int32).toInt64))) + (((zX5_bay sc ar 0 2) : Int32).toInt64))) + (((zX5_bay sc ar 0 3) : Int32).toInt64))) + (((zX5_bay sc ar 0 4) : Int32).toInt64))) + (((zX5_bay sc ar 1 0) : Int32).toInt64))) + (((zX5_bay sc ar 1 1) : Int32).toInt64))) + (((zX5_bay sc ar 1 2) : Int32).toInt64))) + (((zX5_bay sc ar 1 3) : Int32).toInt64))) + (((zX5_bay sc ar 1 4) : Int32).toInt64))), (5, .int 1), (6, .int 4)] F dX5_withLighter_35 rfl (jL_of E (show 3 + 1 < 7 by decide)) rfl rfl ?_
  refine J_iinc (v := 5) (q := 4) (pc' := 39) [1, 2, 3, 4, 0] [(0, .ref (g 0)), (1, .long x1), (3, .long ((31 * ((31 * ((31 * ((31 * ((31 * ((31 * ((31 * ((31 * ((31 * ((31 * x1) + (((zX5_bay sc ar 0 0) : Int32).toInt64))) + (((zX5_bay sc ar 0 1) : Int32).toInt64))) + (((zX5_bay sc ar 0 2) : Int32).toInt64))) + (((zX5_bay sc ar 0 3) : Int32).toInt64))) + (((zX5_bay sc ar 0 4) : Int32).toInt64))) + (((zX5_bay sc ar 1 0) : Int32).toInt64))) + (((zX5_bay sc ar 1 1) : Int32).toInt64))) + (((zX5_bay sc ar 1 2) : Int32).toInt64))) + (((zX5_bay sc ar 1 3) : Int32).toInt64))) + (((zX5_bay sc ar 1 4) : Int32).toInt64))), (5, .int 1), (6, .int 5)] F dX5_withLighter_36 rfl (by decide) (jL_of E (show 6 < 7 by decide)) rfl rfl ?_
  refine J_goto (tgt := 14) F dX5_withLighter_39 (by decide) ?_
  refine J_iload (pc' := 16) (q := 4) F dX5_withLighter_14 rfl rfl ?_
  refine J_iconst (pc' := 17) (v := 4) F dX5_withLighter_16 (by decide) rfl ?_
  refine J_icmp_gt (tgt := 42) (pc' := 20) F dX5_withLighter_17 (by decide) rfl (fun _ => ?_) (fun c9 => absurd (by decide) c9)
  refine J_iinc (v := 2) (q := 3) (pc' := 45) [1, 2, 3, 0, 4] [(0, .ref (g 0)), (1, .long x1), (3, .long ((31 * ((31 * ((31 * ((31 * ((31 * ((31 * ((31 * ((31 * ((31 * ((31 * x1) + (((zX5_bay sc ar 0 0) : Int32).toInt64))) + (((zX5_bay sc ar 0 1) : Int32).toInt64))) + (((zX5_bay sc ar 0 2) : Int32).toInt64))) + (((zX5_bay sc ar 0 3) : Int32).toInt64))) + (((zX5_bay sc ar 0 4) : Int32).toInt64))) + (((zX5_bay sc ar 1 0) : Int32).toInt64))) + (((zX5_bay sc ar 1 1) : Int32).toInt64))) + (((zX5_bay sc ar 1 2) : Int32).toInt64))) + (((zX5_bay sc ar 1 3) : Int32).toInt64))) + (((zX5_bay sc ar 1 4) : Int32).toInt64))), (5, .int 2), (6, .int 5)] F dX5_withLighter_42 rfl (by decide) (jL_of E (show 5 < 7 by decide)) rfl rfl ?_
  refine J_goto (tgt := 5) F dX5_withLighter_45 (by decide) ?_
  refine J_iload (pc' := 7) (q := 3) F dX5_withLighter_5 rfl rfl ?_
  refine J_iconst (pc' := 8) (v := 3) F dX5_withLighter_7 (by decide) rfl ?_
  refine J_icmp_ge (tgt := 48) (pc' := 11) F dX5_withLighter_8 (by decide) rfl (fun c9 => absurd c9 (by decide)) (fun _ => ?_)
  refine J_iconst (pc' := 12) (v := 0) F dX5_withLighter_11 (by decide) rfl ?_
  refine J_istore (pc' := 14) [1, 2, 3, 4, 0] [(0, .ref (g 0)), (1, .long x1), (3, .long ((31 * ((31 * ((31 * ((31 * ((31 * ((31 * ((31 * ((31 * ((31 * ((31 * x1) + (((zX5_bay sc ar 0 0) : Int32).toInt64))) + (((zX5_bay sc ar 0 1) : Int32).toInt64))) + (((zX5_bay sc ar 0 2) : Int32).toInt64))) + (((zX5_bay sc ar 0 3) : Int32).toInt64))) + (((zX5_bay sc ar 0 4) : Int32).toInt64))) + (((zX5_bay sc ar 1 0) : Int32).toInt64))) + (((zX5_bay sc ar 1 1) : Int32).toInt64))) + (((zX5_bay sc ar 1 2) : Int32).toInt64))) + (((zX5_bay sc ar 1 3) : Int32).toInt64))) + (((zX5_bay sc ar 1 4) : Int32).toInt64))), (5, .int 2), (6, .int 0)] F dX5_withLighter_12 (jL_of E (show 6 < 7 by decide)) rfl rfl ?_
  refine J_iload (pc' := 16) (q := 4) F dX5_withLighter_14 rfl rfl ?_
  refine J_iconst (pc' := 17) (v := 4) F dX5_withLighter_16 (by decide) rfl ?_
  refine J_icmp_gt (tgt := 42) (pc' := 20) F dX5_withLighter_17 (by decide) rfl (fun c9 => absurd c9 (by decide)) (fun _ => ?_)
  refine J_ldc2 (pc' := 23) (v := 31) F dX5_withLighter_20 kw_559 rfl ?_
  refine J_lload_n (pc' := 24) (q := 2) F dX5_withLighter_23 rfl rfl ?_
  refine J_lmul (pc' := 25) F dX5_withLighter_24 rfl ?_
  refine J_aload_n (pc' := 26) (q := 0) F dX5_withLighter_25 rfl rfl ?_
  refine J_iload (pc' := 28) (q := 3) F dX5_withLighter_26 rfl rfl ?_
  refine J_iload (pc' := 30) (q := 4) F dX5_withLighter_28 rfl rfl ?_
  refine J_goRie (wc := (wC cI g sc ar)) (av := [.ref (g 0), .int 2, .int 0]) (rest := [.long (31 * ((31 * ((31 * ((31 * ((31 * ((31 * ((31 * ((31 * ((31 * ((31 * ((31 * x1) + (((zX5_bay sc ar 0 0) : Int32).toInt64))) + (((zX5_bay sc ar 0 1) : Int32).toInt64))) + (((zX5_bay sc ar 0 2) : Int32).toInt64))) + (((zX5_bay sc ar 0 3) : Int32).toInt64))) + (((zX5_bay sc ar 0 4) : Int32).toInt64))) + (((zX5_bay sc ar 1 0) : Int32).toInt64))) + (((zX5_bay sc ar 1 1) : Int32).toInt64))) + (((zX5_bay sc ar 1 2) : Int32).toInt64))) + (((zX5_bay sc ar 1 3) : Int32).toInt64))) + (((zX5_bay sc ar 1 4) : Int32).toInt64)))]) (v := zX5_bay sc ar 2 0) (pc' := 33) F E (fun _ h => h) (fun H locs hI hp => jrun_V (As := [.int 2, .int 0]) 0 F E (c_X5_bay l D cI cZ z g sc ar 2 0) kw_560 kw_360 kw_361 rfl kw_362 kw_1 oX5_bay ⟨⟨rfl, rfl⟩, ⟨Nat.le_of_ble_eq_true rfl, Nat.le_of_ble_eq_true rfl⟩, Nat.zero_le _, Nat.zero_le _⟩ rfl rfl (Nat.le_of_ble_eq_true rfl) dX5_withLighter_30 rfl rfl (jI_P E hI) hp) rfl ?_
  refine J_i2l (pc' := 34) (v := ((zX5_bay sc ar 2 0) : Int32).toInt64) F dX5_withLighter_33 rfl rfl ?_
  refine J_ladd (pc' := 35) F dX5_withLighter_34 rfl ?_
  refine J_lstore_n (pc' := 36) [1, 2, 0, 3, 4] [(0, .ref (g 0)), (1, .long x1), (3, .long ((31 * ((31 * ((31 * ((31 * ((31 * ((31 * ((31 * ((31 * ((31 * ((31 * ((31 * x1) + (((zX5_bay sc ar 0 0) : Int32).toInt64))) + (((zX5_bay sc ar 0 1) : Int32).toInt64))) + (((zX5_bay sc ar 0 2) : Int32).toInt64))) + (((zX5_bay sc ar 0 3) : Int32).toInt64))) + (((zX5_bay sc ar 0 4) : Int32).toInt64))) + (((zX5_bay sc ar 1 0) : Int32).toInt64))) + (((zX5_bay sc ar 1 1) : Int32).toInt64))) + (((zX5_bay sc ar 1 2) : Int32).toInt64))) + (((zX5_bay sc ar 1 3) : Int32).toInt64))) + (((zX5_bay sc ar 1 4) : Int32).toInt64))) + (((zX5_bay sc ar 2 0) : Int32).toInt64))), (5, .int 2), (6, .int 0)] F dX5_withLighter_35 rfl (jL_of E (show 3 + 1 < 7 by decide)) rfl rfl ?_
  refine J_iinc (v := 1) (q := 4) (pc' := 39) [1, 2, 3, 4, 0] [(0, .ref (g 0)), (1, .long x1), (3, .long ((31 * ((31 * ((31 * ((31 * ((31 * ((31 * ((31 * ((31 * ((31 * ((31 * ((31 * x1) + (((zX5_bay sc ar 0 0) : Int32).toInt64))) + (((zX5_bay sc ar 0 1) : Int32).toInt64))) + (((zX5_bay sc ar 0 2) : Int32).toInt64))) + (((zX5_bay sc ar 0 3) : Int32).toInt64))) + (((zX5_bay sc ar 0 4) : Int32).toInt64))) + (((zX5_bay sc ar 1 0) : Int32).toInt64))) + (((zX5_bay sc ar 1 1) : Int32).toInt64))) + (((zX5_bay sc ar 1 2) : Int32).toInt64))) + (((zX5_bay sc ar 1 3) : Int32).toInt64))) + (((zX5_bay sc ar 1 4) : Int32).toInt64))) + (((zX5_bay sc ar 2 0) : Int32).toInt64))), (5, .int 2), (6, .int 1)] F dX5_withLighter_36 rfl (by decide) (jL_of E (show 6 < 7 by decide)) rfl rfl ?_
  refine J_goto (tgt := 14) F dX5_withLighter_39 (by decide) ?_
  refine J_iload (pc' := 16) (q := 4) F dX5_withLighter_14 rfl rfl ?_
  refine J_iconst (pc' := 17) (v := 4) F dX5_withLighter_16 (by decide) rfl ?_
  refine J_icmp_gt (tgt := 42) (pc' := 20) F dX5_withLighter_17 (by decide) rfl (fun c9 => absurd c9 (by decide)) (fun _ => ?_)
  refine J_ldc2 (pc' := 23) (v := 31) F dX5_withLighter_20 kw_559 rfl ?_
  refine J_lload_n (pc' := 24) (q := 2) F dX5_withLighter_23 rfl rfl ?_
  refine J_lmul (pc' := 25) F dX5_withLighter_24 rfl ?_
  refine J_aload_n (pc' := 26) (q := 0) F dX5_withLighter_25 rfl rfl ?_
  refine J_iload (pc' := 28) (q := 3) F dX5_withLighter_26 rfl rfl ?_
  refine J_iload (pc' := 30) (q := 4) F dX5_withLighter_28 rfl rfl ?_
  refine J_goRie (wc := (wC cI g sc ar)) (av := [.ref (g 0), .int 2, .int 1]) (rest := [.long (31 * ((31 * ((31 * ((31 * ((31 * ((31 * ((31 * ((31 * ((31 * ((31 * ((31 * ((31 * x1) + (((zX5_bay sc ar 0 0) : Int32).toInt64))) + (((zX5_bay sc ar 0 1) : Int32).toInt64))) + (((zX5_bay sc ar 0 2) : Int32).toInt64))) + (((zX5_bay sc ar 0 3) : Int32).toInt64))) + (((zX5_bay sc ar 0 4) : Int32).toInt64))) + (((zX5_bay sc ar 1 0) : Int32).toInt64))) + (((zX5_bay sc ar 1 1) : Int32).toInt64))) + (((zX5_bay sc ar 1 2) : Int32).toInt64))) + (((zX5_bay sc ar 1 3) : Int32).toInt64))) + (((zX5_bay sc ar 1 4) : Int32).toInt64))) + (((zX5_bay sc ar 2 0) : Int32).toInt64)))]) (v := zX5_bay sc ar 2 1) (pc' := 33) F E (fun _ h => h) (fun H locs hI hp => jrun_V (As := [.int 2, .int 1]) 0 F E (c_X5_bay l D cI cZ z g sc ar 2 1) kw_560 kw_360 kw_361 rfl kw_362 kw_1 oX5_bay ⟨⟨rfl, rfl⟩, ⟨Nat.le_of_ble_eq_true rfl, Nat.le_of_ble_eq_true rfl⟩, Nat.zero_le _, Nat.zero_le _⟩ rfl rfl (Nat.le_of_ble_eq_true rfl) dX5_withLighter_30 rfl rfl (jI_P E hI) hp) rfl ?_
  refine J_i2l (pc' := 34) (v := ((zX5_bay sc ar 2 1) : Int32).toInt64) F dX5_withLighter_33 rfl rfl ?_
  refine J_ladd (pc' := 35) F dX5_withLighter_34 rfl ?_
  refine J_lstore_n (pc' := 36) [1, 2, 0, 3, 4] [(0, .ref (g 0)), (1, .long x1), (3, .long ((31 * ((31 * ((31 * ((31 * ((31 * ((31 * ((31 * ((31 * ((31 * ((31 * ((31 * ((31 * x1) + (((zX5_bay sc ar 0 0) : Int32).toInt64))) + (((zX5_bay sc ar 0 1) : Int32).toInt64))) + (((zX5_bay sc ar 0 2) : Int32).toInt64))) + (((zX5_bay sc ar 0 3) : Int32).toInt64))) + (((zX5_bay sc ar 0 4) : Int32).toInt64))) + (((zX5_bay sc ar 1 0) : Int32).toInt64))) + (((zX5_bay sc ar 1 1) : Int32).toInt64))) + (((zX5_bay sc ar 1 2) : Int32).toInt64))) + (((zX5_bay sc ar 1 3) : Int32).toInt64))) + (((zX5_bay sc ar 1 4) : Int32).toInt64))) + (((zX5_bay sc ar 2 0) : Int32).toInt64))) + (((zX5_bay sc ar 2 1) : Int32).toInt64))), (5, .int 2), (6, .int 1)] F dX5_withLighter_35 rfl (jL_of E (show 3 + 1 < 7 by decide)) rfl rfl ?_
  refine J_iinc (v := 2) (q := 4) (pc' := 39) [1, 2, 3, 4, 0] [(0, .ref (g 0)), (1, .long x1), (3, .long ((31 * ((31 * ((31 * ((31 * ((31 * ((31 * ((31 * ((31 * ((31 * ((31 * ((31 * ((31 * x1) + (((zX5_bay sc ar 0 0) : Int32).toInt64))) + (((zX5_bay sc ar 0 1) : Int32).toInt64))) + (((zX5_bay sc ar 0 2) : Int32).toInt64))) + (((zX5_bay sc ar 0 3) : Int32).toInt64))) + (((zX5_bay sc ar 0 4) : Int32).toInt64))) + (((zX5_bay sc ar 1 0) : Int32).toInt64))) + (((zX5_bay sc ar 1 1) : Int32).toInt64))) + (((zX5_bay sc ar 1 2) : Int32).toInt64))) + (((zX5_bay sc ar 1 3) : Int32).toInt64))) + (((zX5_bay sc ar 1 4) : Int32).toInt64))) + (((zX5_bay sc ar 2 0) : Int32).toInt64))) + (((zX5_bay sc ar 2 1) : Int32).toInt64))), (5, .int 2), (6, .int 2)] F dX5_withLighter_36 rfl (by decide) (jL_of E (show 6 < 7 by decide)) rfl rfl ?_
  refine J_goto (tgt := 14) F dX5_withLighter_39 (by decide) ?_
  refine J_iload (pc' := 16) (q := 4) F dX5_withLighter_14 rfl rfl ?_
  refine J_iconst (pc' := 17) (v := 4) F dX5_withLighter_16 (by decide) rfl ?_
  refine J_icmp_gt (tgt := 42) (pc' := 20) F dX5_withLighter_17 (by decide) rfl (fun c9 => absurd c9 (by decide)) (fun _ => ?_)
  refine J_ldc2 (pc' := 23) (v := 31) F dX5_withLighter_20 kw_559 rfl ?_
  refine J_lload_n (pc' := 24) (q := 2) F dX5_withLighter_23 rfl rfl ?_
  refine J_lmul (pc' := 25) F dX5_withLighter_24 rfl ?_
  refine J_aload_n (pc' := 26) (q := 0) F dX5_withLighter_25 rfl rfl ?_
  refine J_iload (pc' := 28) (q := 3) F dX5_withLighter_26 rfl rfl ?_
  refine J_iload (pc' := 30) (q := 4) F dX5_withLighter_28 rfl rfl ?_
  refine J_goRie (wc := (wC cI g sc ar)) (av := [.ref (g 0), .int 2, .int 2]) (rest := [.long (31 * ((31 * ((31 * ((31 * ((31 * ((31 * ((31 * ((31 * ((31 * ((31 * ((31 * ((31 * ((31 * x1) + (((zX5_bay sc ar 0 0) : Int32).toInt64))) + (((zX5_bay sc ar 0 1) : Int32).toInt64))) + (((zX5_bay sc ar 0 2) : Int32).toInt64))) + (((zX5_bay sc ar 0 3) : Int32).toInt64))) + (((zX5_bay sc ar 0 4) : Int32).toInt64))) + (((zX5_bay sc ar 1 0) : Int32).toInt64))) + (((zX5_bay sc ar 1 1) : Int32).toInt64))) + (((zX5_bay sc ar 1 2) : Int32).toInt64))) + (((zX5_bay sc ar 1 3) : Int32).toInt64))) + (((zX5_bay sc ar 1 4) : Int32).toInt64))) + (((zX5_bay sc ar 2 0) : Int32).toInt64))) + (((zX5_bay sc ar 2 1) : Int32).toInt64)))]) (v := zX5_bay sc ar 2 2) (pc' := 33) F E (fun _ h => h) (fun H locs hI hp => jrun_V (As := [.int 2, .int 2]) 0 F E (c_X5_bay l D cI cZ z g sc ar 2 2) kw_560 kw_360 kw_361 rfl kw_362 kw_1 oX5_bay ⟨⟨rfl, rfl⟩, ⟨Nat.le_of_ble_eq_true rfl, Nat.le_of_ble_eq_true rfl⟩, Nat.zero_le _, Nat.zero_le _⟩ rfl rfl (Nat.le_of_ble_eq_true rfl) dX5_withLighter_30 rfl rfl (jI_P E hI) hp) rfl ?_
  refine J_i2l (pc' := 34) (v := ((zX5_bay sc ar 2 2) : Int32).toInt64) F dX5_withLighter_33 rfl rfl ?_
  refine J_ladd (pc' := 35) F dX5_withLighter_34 rfl ?_
  refine J_lstore_n (pc' := 36) [1, 2, 0, 3, 4] [(0, .ref (g 0)), (1, .long x1), (3, .long ((31 * ((31 * ((31 * ((31 * ((31 * ((31 * ((31 * ((31 * ((31 * ((31 * ((31 * ((31 * ((31 * x1) + (((zX5_bay sc ar 0 0) : Int32).toInt64))) + (((zX5_bay sc ar 0 1) : Int32).toInt64))) + (((zX5_bay sc ar 0 2) : Int32).toInt64))) + (((zX5_bay sc ar 0 3) : Int32).toInt64))) + (((zX5_bay sc ar 0 4) : Int32).toInt64))) + (((zX5_bay sc ar 1 0) : Int32).toInt64))) + (((zX5_bay sc ar 1 1) : Int32).toInt64))) + (((zX5_bay sc ar 1 2) : Int32).toInt64))) + (((zX5_bay sc ar 1 3) : Int32).toInt64))) + (((zX5_bay sc ar 1 4) : Int32).toInt64))) + (((zX5_bay sc ar 2 0) : Int32).toInt64))) + (((zX5_bay sc ar 2 1) : Int32).toInt64))) + (((zX5_bay sc ar 2 2) : Int32).toInt64))), (5, .int 2), (6, .int 2)] F dX5_withLighter_35 rfl (jL_of E (show 3 + 1 < 7 by decide)) rfl rfl ?_
  refine J_iinc (v := 3) (q := 4) (pc' := 39) [1, 2, 3, 4, 0] [(0, .ref (g 0)), (1, .long x1), (3, .long ((31 * ((31 * ((31 * ((31 * ((31 * ((31 * ((31 * ((31 * ((31 * ((31 * ((31 * ((31 * ((31 * x1) + (((zX5_bay sc ar 0 0) : Int32).toInt64))) + (((zX5_bay sc ar 0 1) : Int32).toInt64))) + (((zX5_bay sc ar 0 2) : Int32).toInt64))) + (((zX5_bay sc ar 0 3) : Int32).toInt64))) + (((zX5_bay sc ar 0 4) : Int32).toInt64))) + (((zX5_bay sc ar 1 0) : Int32).toInt64))) + (((zX5_bay sc ar 1 1) : Int32).toInt64))) + (((zX5_bay sc ar 1 2) : Int32).toInt64))) + (((zX5_bay sc ar 1 3) : Int32).toInt64))) + (((zX5_bay sc ar 1 4) : Int32).toInt64))) + (((zX5_bay sc ar 2 0) : Int32).toInt64))) + (((zX5_bay sc ar 2 1) : Int32).toInt64))) + (((zX5_bay sc ar 2 2) : Int32).toInt64))), (5, .int 2), (6, .int 3)] F dX5_withLighter_36 rfl (by decide) (jL_of E (show 6 < 7 by decide)) rfl rfl ?_
  refine J_goto (tgt := 14) F dX5_withLighter_39 (by decide) ?_
  refine J_iload (pc' := 16) (q := 4) F dX5_withLighter_14 rfl rfl ?_
  refine J_iconst (pc' := 17) (v := 4) F dX5_withLighter_16 (by decide) rfl ?_
  refine J_icmp_gt (tgt := 42) (pc' := 20) F dX5_withLighter_17 (by decide) rfl (fun c9 => absurd c9 (by decide)) (fun _ => ?_)
  refine J_ldc2 (pc' := 23) (v := 31) F dX5_withLighter_20 kw_559 rfl ?_
  refine J_lload_n (pc' := 24) (q := 2) F dX5_withLighter_23 rfl rfl ?_
  refine J_lmul (pc' := 25) F dX5_withLighter_24 rfl ?_
  refine J_aload_n (pc' := 26) (q := 0) F dX5_withLighter_25 rfl rfl ?_
  refine J_iload (pc' := 28) (q := 3) F dX5_withLighter_26 rfl rfl ?_
  refine J_iload (pc' := 30) (q := 4) F dX5_withLighter_28 rfl rfl ?_
  refine J_goRie (wc := (wC cI g sc ar)) (av := [.ref (g 0), .int 2, .int 3]) (rest := [.long (31 * ((31 * ((31 * ((31 * ((31 * ((31 * ((31 * ((31 * ((31 * ((31 * ((31 * ((31 * ((31 * ((31 * x1) + (((zX5_bay sc ar 0 0) : Int32).toInt64))) + (((zX5_bay sc ar 0 1) : Int32).toInt64))) + (((zX5_bay sc ar 0 2) : Int32).toInt64))) + (((zX5_bay sc ar 0 3) : Int32).toInt64))) + (((zX5_bay sc ar 0 4) : Int32).toInt64))) + (((zX5_bay sc ar 1 0) : Int32).toInt64))) + (((zX5_bay sc ar 1 1) : Int32).toInt64))) + (((zX5_bay sc ar 1 2) : Int32).toInt64))) + (((zX5_bay sc ar 1 3) : Int32).toInt64))) + (((zX5_bay sc ar 1 4) : Int32).toInt64))) + (((zX5_bay sc ar 2 0) : Int32).toInt64))) + (((zX5_bay sc ar 2 1) : Int32).toInt64))) + (((zX5_bay sc ar 2 2) : Int32).toInt64)))]) (v := zX5_bay sc ar 2 3) (pc' := 33) F E (fun _ h => h) (fun H locs hI hp => jrun_V (As := [.int 2, .int 3]) 0 F E (c_X5_bay l D cI cZ z g sc ar 2 3) kw_560 kw_360 kw_361 rfl kw_362 kw_1 oX5_bay ⟨⟨rfl, rfl⟩, ⟨Nat.le_of_ble_eq_true rfl, Nat.le_of_ble_eq_true rfl⟩, Nat.zero_le _, Nat.zero_le _⟩ rfl rfl (Nat.le_of_ble_eq_true rfl) dX5_withLighter_30 rfl rfl (jI_P E hI) hp) rfl ?_
  refine J_i2l (pc' := 34) (v := ((zX5_bay sc ar 2 3) : Int32).toInt64) F dX5_withLighter_33 rfl rfl ?_
  refine J_ladd (pc' := 35) F dX5_withLighter_34 rfl ?_
  refine J_lstore_n (pc' := 36) [1, 2, 0, 3, 4] [(0, .ref (g 0)), (1, .long x1), (3, .long ((31 * ((31 * ((31 * ((31 * ((31 * ((31 * ((31 * ((31 * ((31 * ((31 * ((31 * ((31 * ((31 * ((31 * x1) + (((zX5_bay sc ar 0 0) : Int32).toInt64))) + (((zX5_bay sc ar 0 1) : Int32).toInt64))) + (((zX5_bay sc ar 0 2) : Int32).toInt64))) + (((zX5_bay sc ar 0 3) : Int32).toInt64))) + (((zX5_bay sc ar 0 4) : Int32).toInt64))) + (((zX5_bay sc ar 1 0) : Int32).toInt64))) + (((zX5_bay sc ar 1 1) : Int32).toInt64))) + (((zX5_bay sc ar 1 2) : Int32).toInt64))) + (((zX5_bay sc ar 1 3) : Int32).toInt64))) + (((zX5_bay sc ar 1 4) : Int32).toInt64))) + (((zX5_bay sc ar 2 0) : Int32).toInt64))) + (((zX5_bay sc ar 2 1) : Int32).toInt64))) + (((zX5_bay sc ar 2 2) : Int32).toInt64))) + (((zX5_bay sc ar 2 3) : Int32).toInt64))), (5, .int 2), (6, .int 3)] F dX5_withLighter_35 rfl (jL_of E (show 3 + 1 < 7 by decide)) rfl rfl ?_
  refine J_iinc (v := 4) (q := 4) (pc' := 39) [1, 2, 3, 4, 0] [(0, .ref (g 0)), (1, .long x1), (3, .long ((31 * ((31 * ((31 * ((31 * ((31 * ((31 * ((31 * ((31 * ((31 * ((31 * ((31 * ((31 * ((31 * ((31 * x1) + (((zX5_bay sc ar 0 0) : Int32).toInt64))) + (((zX5_bay sc ar 0 1) : Int32).toInt64))) + (((zX5_bay sc ar 0 2) : Int32).toInt64))) + (((zX5_bay sc ar 0 3) : Int32).toInt64))) + (((zX5_bay sc ar 0 4) : Int32).toInt64))) + (((zX5_bay sc ar 1 0) : Int32).toInt64))) + (((zX5_bay sc ar 1 1) : Int32).toInt64))) + (((zX5_bay sc ar 1 2) : Int32).toInt64))) + (((zX5_bay sc ar 1 3) : Int32).toInt64))) + (((zX5_bay sc ar 1 4) : Int32).toInt64))) + (((zX5_bay sc ar 2 0) : Int32).toInt64))) + (((zX5_bay sc ar 2 1) : Int32).toInt64))) + (((zX5_bay sc ar 2 2) : Int32).toInt64))) + (((zX5_bay sc ar 2 3) : Int32).toInt64))), (5, .int 2), (6, .int 4)] F dX5_withLighter_36 rfl (by decide) (jL_of E (show 6 < 7 by decide)) rfl rfl ?_
  refine J_goto (tgt := 14) F dX5_withLighter_39 (by decide) ?_
  refine J_iload (pc' := 16) (q := 4) F dX5_withLighter_14 rfl rfl ?_
  refine J_iconst (pc' := 17) (v := 4) F dX5_withLighter_16 (by decide) rfl ?_
  refine J_icmp_gt (tgt := 42) (pc' := 20) F dX5_withLighter_17 (by decide) rfl (fun c9 => absurd c9 (by decide)) (fun _ => ?_)
  refine J_ldc2 (pc' := 23) (v := 31) F dX5_withLighter_20 kw_559 rfl ?_
  refine J_lload_n (pc' := 24) (q := 2) F dX5_withLighter_23 rfl rfl ?_
  refine J_lmul (pc' := 25) F dX5_withLighter_24 rfl ?_
  refine J_aload_n (pc' := 26) (q := 0) F dX5_withLighter_25 rfl rfl ?_
  refine J_iload (pc' := 28) (q := 3) F dX5_withLighter_26 rfl rfl ?_
  refine J_iload (pc' := 30) (q := 4) F dX5_withLighter_28 rfl rfl ?_
  refine J_goRie (wc := (wC cI g sc ar)) (av := [.ref (g 0), .int 2, .int 4]) (rest := [.long (31 * ((31 * ((31 * ((31 * ((31 * ((31 * ((31 * ((31 * ((31 * ((31 * ((31 * ((31 * ((31 * ((31 * ((31 * x1) + (((zX5_bay sc ar 0 0) : Int32).toInt64))) + (((zX5_bay sc ar 0 1) : Int32).toInt64))) + (((zX5_bay sc ar 0 2) : Int32).toInt64))) + (((zX5_bay sc ar 0 3) : Int32).toInt64))) + (((zX5_bay sc ar 0 4) : Int32).toInt64))) + (((zX5_bay sc ar 1 0) : Int32).toInt64))) + (((zX5_bay sc ar 1 1) : Int32).toInt64))) + (((zX5_bay sc ar 1 2) : Int32).toInt64))) + (((zX5_bay sc ar 1 3) : Int32).toInt64))) + (((zX5_bay sc ar 1 4) : Int32).toInt64))) + (((zX5_bay sc ar 2 0) : Int32).toInt64))) + (((zX5_bay sc ar 2 1) : Int32).toInt64))) + (((zX5_bay sc ar 2 2) : Int32).toInt64))) + (((zX5_bay sc ar 2 3) : Int32).toInt64)))]) (v := zX5_bay sc ar 2 4) (pc' := 33) F E (fun _ h => h) (fun H locs hI hp => jrun_V (As := [.int 2, .int 4]) 0 F E (c_X5_bay l D cI cZ z g sc ar 2 4) kw_560 kw_360 kw_361 rfl kw_362 kw_1 oX5_bay ⟨⟨rfl, rfl⟩, ⟨Nat.le_of_ble_eq_true rfl, Nat.le_of_ble_eq_true rfl⟩, Nat.zero_le _, Nat.zero_le _⟩ rfl rfl (Nat.le_of_ble_eq_true rfl) dX5_withLighter_30 rfl rfl (jI_P E hI) hp) rfl ?_
  refine J_i2l (pc' := 34) (v := ((zX5_bay sc ar 2 4) : Int32).toInt64) F dX5_withLighter_33 rfl rfl ?_
  refine J_ladd (pc' := 35) F dX5_withLighter_34 rfl ?_
  refine J_lstore_n (pc' := 36) [1, 2, 0, 3, 4] [(0, .ref (g 0)), (1, .long x1), (3, .long ((31 * ((31 * ((31 * ((31 * ((31 * ((31 * ((31 * ((31 * ((31 * ((31 * ((31 * ((31 * ((31 * ((31 * ((31 * x1) + (((zX5_bay sc ar 0 0) : Int32).toInt64))) + (((zX5_bay sc ar 0 1) : Int32).toInt64))) + (((zX5_bay sc ar 0 2) : Int32).toInt64))) + (((zX5_bay sc ar 0 3) : Int32).toInt64))) + (((zX5_bay sc ar 0 4) : Int32).toInt64))) + (((zX5_bay sc ar 1 0) : Int32).toInt64))) + (((zX5_bay sc ar 1 1) : Int32).toInt64))) + (((zX5_bay sc ar 1 2) : Int32).toInt64))) + (((zX5_bay sc ar 1 3) : Int32).toInt64))) + (((zX5_bay sc ar 1 4) : Int32).toInt64))) + (((zX5_bay sc ar 2 0) : Int32).toInt64))) + (((zX5_bay sc ar 2 1) : Int32).toInt64))) + (((zX5_bay sc ar 2 2) : Int32).toInt64))) + (((zX5_bay sc ar 2 3) : Int32).toInt64))) + (((zX5_bay sc ar 2 4) : Int32).toInt64))), (5, .int 2), (6, .int 4)] F dX5_withLighter_35 rfl (jL_of E (show 3 + 1 < 7 by decide)) rfl rfl ?_
  refine J_iinc (v := 5) (q := 4) (pc' := 39) [1, 2, 3, 4, 0] [(0, .ref (g 0)), (1, .long x1), (3, .long ((31 * ((31 * ((31 * ((31 * ((31 * ((31 * ((31 * ((31 * ((31 * ((31 * ((31 * ((31 * ((31 * ((31 * ((31 * x1) + (((zX5_bay sc ar 0 0) : Int32).toInt64))) + (((zX5_bay sc ar 0 1) : Int32).toInt64))) + (((zX5_bay sc ar 0 2) : Int32).toInt64))) + (((zX5_bay sc ar 0 3) : Int32).toInt64))) + (((zX5_bay sc ar 0 4) : Int32).toInt64))) + (((zX5_bay sc ar 1 0) : Int32).toInt64))) + (((zX5_bay sc ar 1 1) : Int32).toInt64))) + (((zX5_bay sc ar 1 2) : Int32).toInt64))) + (((zX5_bay sc ar 1 3) : Int32).toInt64))) + (((zX5_bay sc ar 1 4) : Int32).toInt64))) + (((zX5_bay sc ar 2 0) : Int32).toInt64))) + (((zX5_bay sc ar 2 1) : Int32).toInt64))) + (((zX5_bay sc ar 2 2) : Int32).toInt64))) + (((zX5_bay sc ar 2 3) : Int32).toInt64))) + (((zX5_bay sc ar 2 4) : Int32).toInt64))), (5, .int 2), (6, .int 5)] F dX5_withLighter_36 rfl (by decide) (jL_of E (show 6 < 7 by decide)) rfl rfl ?_
  refine J_goto (tgt := 14) F dX5_withLighter_39 (by decide) ?_
  refine J_iload (pc' := 16) (q := 4) F dX5_withLighter_14 rfl rfl ?_
  refine J_iconst (pc' := 17) (v := 4) F dX5_withLighter_16 (by decide) rfl ?_
  refine J_icmp_gt (tgt := 42) (pc' := 20) F dX5_withLighter_17 (by decide) rfl (fun _ => ?_) (fun c9 => absurd (by decide) c9)
  refine J_iinc (v := 3) (q := 3) (pc' := 45) [1, 2, 3, 0, 4] [(0, .ref (g 0)), (1, .long x1), (3, .long ((31 * ((31 * ((31 * ((31 * ((31 * ((31 * ((31 * ((31 * ((31 * ((31 * ((31 * ((31 * ((31 * ((31 * ((31 * x1) + (((zX5_bay sc ar 0 0) : Int32).toInt64))) + (((zX5_bay sc ar 0 1) : Int32).toInt64))) + (((zX5_bay sc ar 0 2) : Int32).toInt64))) + (((zX5_bay sc ar 0 3) : Int32).toInt64))) + (((zX5_bay sc ar 0 4) : Int32).toInt64))) + (((zX5_bay sc ar 1 0) : Int32).toInt64))) + (((zX5_bay sc ar 1 1) : Int32).toInt64))) + (((zX5_bay sc ar 1 2) : Int32).toInt64))) + (((zX5_bay sc ar 1 3) : Int32).toInt64))) + (((zX5_bay sc ar 1 4) : Int32).toInt64))) + (((zX5_bay sc ar 2 0) : Int32).toInt64))) + (((zX5_bay sc ar 2 1) : Int32).toInt64))) + (((zX5_bay sc ar 2 2) : Int32).toInt64))) + (((zX5_bay sc ar 2 3) : Int32).toInt64))) + (((zX5_bay sc ar 2 4) : Int32).toInt64))), (5, .int 3), (6, .int 5)] F dX5_withLighter_42 rfl (by decide) (jL_of E (show 5 < 7 by decide)) rfl rfl ?_
  refine J_goto (tgt := 5) F dX5_withLighter_45 (by decide) ?_
  refine J_iload (pc' := 7) (q := 3) F dX5_withLighter_5 rfl rfl ?_
  refine J_iconst (pc' := 8) (v := 3) F dX5_withLighter_7 (by decide) rfl ?_
  refine J_icmp_ge (tgt := 48) (pc' := 11) F dX5_withLighter_8 (by decide) rfl (fun _ => ?_) (fun c9 => absurd (by decide) c9)
  refine J_iconst (pc' := 49) (v := 0) F dX5_withLighter_48 (by decide) rfl ?_
  refine J_istore (pc' := 51) [1, 2, 3, 0, 4] [(0, .ref (g 0)), (1, .long x1), (3, .long ((31 * ((31 * ((31 * ((31 * ((31 * ((31 * ((31 * ((31 * ((31 * ((31 * ((31 * ((31 * ((31 * ((31 * ((31 * x1) + (((zX5_bay sc ar 0 0) : Int32).toInt64))) + (((zX5_bay sc ar 0 1) : Int32).toInt64))) + (((zX5_bay sc ar 0 2) : Int32).toInt64))) + (((zX5_bay sc ar 0 3) : Int32).toInt64))) + (((zX5_bay sc ar 0 4) : Int32).toInt64))) + (((zX5_bay sc ar 1 0) : Int32).toInt64))) + (((zX5_bay sc ar 1 1) : Int32).toInt64))) + (((zX5_bay sc ar 1 2) : Int32).toInt64))) + (((zX5_bay sc ar 1 3) : Int32).toInt64))) + (((zX5_bay sc ar 1 4) : Int32).toInt64))) + (((zX5_bay sc ar 2 0) : Int32).toInt64))) + (((zX5_bay sc ar 2 1) : Int32).toInt64))) + (((zX5_bay sc ar 2 2) : Int32).toInt64))) + (((zX5_bay sc ar 2 3) : Int32).toInt64))) + (((zX5_bay sc ar 2 4) : Int32).toInt64))), (5, .int 0), (6, .int 5)] F dX5_withLighter_49 (jL_of E (show 5 < 7 by decide)) rfl rfl ?_
  refine J_iload (pc' := 53) (q := 3) F dX5_withLighter_51 rfl rfl ?_
  refine J_iconst (pc' := 54) (v := 3) F dX5_withLighter_53 (by decide) rfl ?_
  refine J_icmp_gt (tgt := 77) (pc' := 57) F dX5_withLighter_54 (by decide) rfl (fun c9 => absurd c9 (by decide)) (fun _ => ?_)
  refine J_ldc2 (pc' := 60) (v := 31) F dX5_withLighter_57 kw_559 rfl ?_
  refine J_lload_n (pc' := 61) (q := 2) F dX5_withLighter_60 rfl rfl ?_
  refine J_lmul (pc' := 62) F dX5_withLighter_61 rfl ?_
  refine J_aload_n (pc' := 63) (q := 0) F dX5_withLighter_62 rfl rfl ?_
  refine J_iload (pc' := 65) (q := 3) F dX5_withLighter_63 rfl rfl ?_
  refine J_goRie (wc := (wC cI g sc ar)) (av := [.ref (g 0), .int 0]) (rest := [.long (31 * ((31 * ((31 * ((31 * ((31 * ((31 * ((31 * ((31 * ((31 * ((31 * ((31 * ((31 * ((31 * ((31 * ((31 * ((31 * x1) + (((zX5_bay sc ar 0 0) : Int32).toInt64))) + (((zX5_bay sc ar 0 1) : Int32).toInt64))) + (((zX5_bay sc ar 0 2) : Int32).toInt64))) + (((zX5_bay sc ar 0 3) : Int32).toInt64))) + (((zX5_bay sc ar 0 4) : Int32).toInt64))) + (((zX5_bay sc ar 1 0) : Int32).toInt64))) + (((zX5_bay sc ar 1 1) : Int32).toInt64))) + (((zX5_bay sc ar 1 2) : Int32).toInt64))) + (((zX5_bay sc ar 1 3) : Int32).toInt64))) + (((zX5_bay sc ar 1 4) : Int32).toInt64))) + (((zX5_bay sc ar 2 0) : Int32).toInt64))) + (((zX5_bay sc ar 2 1) : Int32).toInt64))) + (((zX5_bay sc ar 2 2) : Int32).toInt64))) + (((zX5_bay sc ar 2 3) : Int32).toInt64))) + (((zX5_bay sc ar 2 4) : Int32).toInt64)))]) (v := zX5_hull sc ar 0) (pc' := 68) F E (fun _ h => h) (fun H locs hI hp => jrun_V (As := [.int 0]) 0 F E (c_X5_hull l D cI cZ z g sc ar 0) kw_561 kw_379 kw_380 rfl kw_381 kw_1 oX5_hull ⟨⟨rfl, rfl⟩, ⟨Nat.le_of_ble_eq_true rfl, Nat.le_of_ble_eq_true rfl⟩, Nat.zero_le _, Nat.zero_le _⟩ rfl rfl (Nat.le_of_ble_eq_true rfl) dX5_withLighter_65 rfl rfl (jI_P E hI) hp) rfl ?_
  refine J_i2l (pc' := 69) (v := ((zX5_hull sc ar 0) : Int32).toInt64) F dX5_withLighter_68 rfl rfl ?_
  refine J_ladd (pc' := 70) F dX5_withLighter_69 rfl ?_
  refine J_lstore_n (pc' := 71) [1, 2, 0, 3, 4] [(0, .ref (g 0)), (1, .long x1), (3, .long ((31 * ((31 * ((31 * ((31 * ((31 * ((31 * ((31 * ((31 * ((31 * ((31 * ((31 * ((31 * ((31 * ((31 * ((31 * ((31 * x1) + (((zX5_bay sc ar 0 0) : Int32).toInt64))) + (((zX5_bay sc ar 0 1) : Int32).toInt64))) + (((zX5_bay sc ar 0 2) : Int32).toInt64))) + (((zX5_bay sc ar 0 3) : Int32).toInt64))) + (((zX5_bay sc ar 0 4) : Int32).toInt64))) + (((zX5_bay sc ar 1 0) : Int32).toInt64))) + (((zX5_bay sc ar 1 1) : Int32).toInt64))) + (((zX5_bay sc ar 1 2) : Int32).toInt64))) + (((zX5_bay sc ar 1 3) : Int32).toInt64))) + (((zX5_bay sc ar 1 4) : Int32).toInt64))) + (((zX5_bay sc ar 2 0) : Int32).toInt64))) + (((zX5_bay sc ar 2 1) : Int32).toInt64))) + (((zX5_bay sc ar 2 2) : Int32).toInt64))) + (((zX5_bay sc ar 2 3) : Int32).toInt64))) + (((zX5_bay sc ar 2 4) : Int32).toInt64))) + (((zX5_hull sc ar 0) : Int32).toInt64))), (5, .int 0), (6, .int 5)] F dX5_withLighter_70 rfl (jL_of E (show 3 + 1 < 7 by decide)) rfl rfl ?_
  refine J_iinc (v := 1) (q := 3) (pc' := 74) [1, 2, 3, 0, 4] [(0, .ref (g 0)), (1, .long x1), (3, .long ((31 * ((31 * ((31 * ((31 * ((31 * ((31 * ((31 * ((31 * ((31 * ((31 * ((31 * ((31 * ((31 * ((31 * ((31 * ((31 * x1) + (((zX5_bay sc ar 0 0) : Int32).toInt64))) + (((zX5_bay sc ar 0 1) : Int32).toInt64))) + (((zX5_bay sc ar 0 2) : Int32).toInt64))) + (((zX5_bay sc ar 0 3) : Int32).toInt64))) + (((zX5_bay sc ar 0 4) : Int32).toInt64))) + (((zX5_bay sc ar 1 0) : Int32).toInt64))) + (((zX5_bay sc ar 1 1) : Int32).toInt64))) + (((zX5_bay sc ar 1 2) : Int32).toInt64))) + (((zX5_bay sc ar 1 3) : Int32).toInt64))) + (((zX5_bay sc ar 1 4) : Int32).toInt64))) + (((zX5_bay sc ar 2 0) : Int32).toInt64))) + (((zX5_bay sc ar 2 1) : Int32).toInt64))) + (((zX5_bay sc ar 2 2) : Int32).toInt64))) + (((zX5_bay sc ar 2 3) : Int32).toInt64))) + (((zX5_bay sc ar 2 4) : Int32).toInt64))) + (((zX5_hull sc ar 0) : Int32).toInt64))), (5, .int 1), (6, .int 5)] F dX5_withLighter_71 rfl (by decide) (jL_of E (show 5 < 7 by decide)) rfl rfl ?_
  refine J_goto (tgt := 51) F dX5_withLighter_74 (by decide) ?_
  refine J_iload (pc' := 53) (q := 3) F dX5_withLighter_51 rfl rfl ?_
  refine J_iconst (pc' := 54) (v := 3) F dX5_withLighter_53 (by decide) rfl ?_
  refine J_icmp_gt (tgt := 77) (pc' := 57) F dX5_withLighter_54 (by decide) rfl (fun c9 => absurd c9 (by decide)) (fun _ => ?_)
  refine J_ldc2 (pc' := 60) (v := 31) F dX5_withLighter_57 kw_559 rfl ?_
  refine J_lload_n (pc' := 61) (q := 2) F dX5_withLighter_60 rfl rfl ?_
  refine J_lmul (pc' := 62) F dX5_withLighter_61 rfl ?_
  refine J_aload_n (pc' := 63) (q := 0) F dX5_withLighter_62 rfl rfl ?_
  refine J_iload (pc' := 65) (q := 3) F dX5_withLighter_63 rfl rfl ?_
  refine J_goRie (wc := (wC cI g sc ar)) (av := [.ref (g 0), .int 1]) (rest := [.long (31 * ((31 * ((31 * ((31 * ((31 * ((31 * ((31 * ((31 * ((31 * ((31 * ((31 * ((31 * ((31 * ((31 * ((31 * ((31 * ((31 * x1) + (((zX5_bay sc ar 0 0) : Int32).toInt64))) + (((zX5_bay sc ar 0 1) : Int32).toInt64))) + (((zX5_bay sc ar 0 2) : Int32).toInt64))) + (((zX5_bay sc ar 0 3) : Int32).toInt64))) + (((zX5_bay sc ar 0 4) : Int32).toInt64))) + (((zX5_bay sc ar 1 0) : Int32).toInt64))) + (((zX5_bay sc ar 1 1) : Int32).toInt64))) + (((zX5_bay sc ar 1 2) : Int32).toInt64))) + (((zX5_bay sc ar 1 3) : Int32).toInt64))) + (((zX5_bay sc ar 1 4) : Int32).toInt64))) + (((zX5_bay sc ar 2 0) : Int32).toInt64))) + (((zX5_bay sc ar 2 1) : Int32).toInt64))) + (((zX5_bay sc ar 2 2) : Int32).toInt64))) + (((zX5_bay sc ar 2 3) : Int32).toInt64))) + (((zX5_bay sc ar 2 4) : Int32).toInt64))) + (((zX5_hull sc ar 0) : Int32).toInt64)))]) (v := zX5_hull sc ar 1) (pc' := 68) F E (fun _ h => h) (fun H locs hI hp => jrun_V (As := [.int 1]) 0 F E (c_X5_hull l D cI cZ z g sc ar 1) kw_561 kw_379 kw_380 rfl kw_381 kw_1 oX5_hull ⟨⟨rfl, rfl⟩, ⟨Nat.le_of_ble_eq_true rfl, Nat.le_of_ble_eq_true rfl⟩, Nat.zero_le _, Nat.zero_le _⟩ rfl rfl (Nat.le_of_ble_eq_true rfl) dX5_withLighter_65 rfl rfl (jI_P E hI) hp) rfl ?_
  refine J_i2l (pc' := 69) (v := ((zX5_hull sc ar 1) : Int32).toInt64) F dX5_withLighter_68 rfl rfl ?_
  refine J_ladd (pc' := 70) F dX5_withLighter_69 rfl ?_
  refine J_lstore_n (pc' := 71) [1, 2, 0, 3, 4] [(0, .ref (g 0)), (1, .long x1), (3, .long ((31 * ((31 * ((31 * ((31 * ((31 * ((31 * ((31 * ((31 * ((31 * ((31 * ((31 * ((31 * ((31 * ((31 * ((31 * ((31 * ((31 * x1) + (((zX5_bay sc ar 0 0) : Int32).toInt64))) + (((zX5_bay sc ar 0 1) : Int32).toInt64))) + (((zX5_bay sc ar 0 2) : Int32).toInt64))) + (((zX5_bay sc ar 0 3) : Int32).toInt64))) + (((zX5_bay sc ar 0 4) : Int32).toInt64))) + (((zX5_bay sc ar 1 0) : Int32).toInt64))) + (((zX5_bay sc ar 1 1) : Int32).toInt64))) + (((zX5_bay sc ar 1 2) : Int32).toInt64))) + (((zX5_bay sc ar 1 3) : Int32).toInt64))) + (((zX5_bay sc ar 1 4) : Int32).toInt64))) + (((zX5_bay sc ar 2 0) : Int32).toInt64))) + (((zX5_bay sc ar 2 1) : Int32).toInt64))) + (((zX5_bay sc ar 2 2) : Int32).toInt64))) + (((zX5_bay sc ar 2 3) : Int32).toInt64))) + (((zX5_bay sc ar 2 4) : Int32).toInt64))) + (((zX5_hull sc ar 0) : Int32).toInt64))) + (((zX5_hull sc ar 1) : Int32).toInt64))), (5, .int 1), (6, .int 5)] F dX5_withLighter_70 rfl (jL_of E (show 3 + 1 < 7 by decide)) rfl rfl ?_
  refine J_iinc (v := 2) (q := 3) (pc' := 74) [1, 2, 3, 0, 4] [(0, .ref (g 0)), (1, .long x1), (3, .long ((31 * ((31 * ((31 * ((31 * ((31 * ((31 * ((31 * ((31 * ((31 * ((31 * ((31 * ((31 * ((31 * ((31 * ((31 * ((31 * ((31 * x1) + (((zX5_bay sc ar 0 0) : Int32).toInt64))) + (((zX5_bay sc ar 0 1) : Int32).toInt64))) + (((zX5_bay sc ar 0 2) : Int32).toInt64))) + (((zX5_bay sc ar 0 3) : Int32).toInt64))) + (((zX5_bay sc ar 0 4) : Int32).toInt64))) + (((zX5_bay sc ar 1 0) : Int32).toInt64))) + (((zX5_bay sc ar 1 1) : Int32).toInt64))) + (((zX5_bay sc ar 1 2) : Int32).toInt64))) + (((zX5_bay sc ar 1 3) : Int32).toInt64))) + (((zX5_bay sc ar 1 4) : Int32).toInt64))) + (((zX5_bay sc ar 2 0) : Int32).toInt64))) + (((zX5_bay sc ar 2 1) : Int32).toInt64))) + (((zX5_bay sc ar 2 2) : Int32).toInt64))) + (((zX5_bay sc ar 2 3) : Int32).toInt64))) + (((zX5_bay sc ar 2 4) : Int32).toInt64))) + (((zX5_hull sc ar 0) : Int32).toInt64))) + (((zX5_hull sc ar 1) : Int32).toInt64))), (5, .int 2), (6, .int 5)] F dX5_withLighter_71 rfl (by decide) (jL_of E (show 5 < 7 by decide)) rfl rfl ?_
  refine J_goto (tgt := 51) F dX5_withLighter_74 (by decide) ?_
  refine J_iload (pc' := 53) (q := 3) F dX5_withLighter_51 rfl rfl ?_
  refine J_iconst (pc' := 54) (v := 3) F dX5_withLighter_53 (by decide) rfl ?_
  refine J_icmp_gt (tgt := 77) (pc' := 57) F dX5_withLighter_54 (by decide) rfl (fun c9 => absurd c9 (by decide)) (fun _ => ?_)
  refine J_ldc2 (pc' := 60) (v := 31) F dX5_withLighter_57 kw_559 rfl ?_
  refine J_lload_n (pc' := 61) (q := 2) F dX5_withLighter_60 rfl rfl ?_
  refine J_lmul (pc' := 62) F dX5_withLighter_61 rfl ?_
  refine J_aload_n (pc' := 63) (q := 0) F dX5_withLighter_62 rfl rfl ?_
  refine J_iload (pc' := 65) (q := 3) F dX5_withLighter_63 rfl rfl ?_
  refine J_goRie (wc := (wC cI g sc ar)) (av := [.ref (g 0), .int 2]) (rest := [.long (31 * ((31 * ((31 * ((31 * ((31 * ((31 * ((31 * ((31 * ((31 * ((31 * ((31 * ((31 * ((31 * ((31 * ((31 * ((31 * ((31 * ((31 * x1) + (((zX5_bay sc ar 0 0) : Int32).toInt64))) + (((zX5_bay sc ar 0 1) : Int32).toInt64))) + (((zX5_bay sc ar 0 2) : Int32).toInt64))) + (((zX5_bay sc ar 0 3) : Int32).toInt64))) + (((zX5_bay sc ar 0 4) : Int32).toInt64))) + (((zX5_bay sc ar 1 0) : Int32).toInt64))) + (((zX5_bay sc ar 1 1) : Int32).toInt64))) + (((zX5_bay sc ar 1 2) : Int32).toInt64))) + (((zX5_bay sc ar 1 3) : Int32).toInt64))) + (((zX5_bay sc ar 1 4) : Int32).toInt64))) + (((zX5_bay sc ar 2 0) : Int32).toInt64))) + (((zX5_bay sc ar 2 1) : Int32).toInt64))) + (((zX5_bay sc ar 2 2) : Int32).toInt64))) + (((zX5_bay sc ar 2 3) : Int32).toInt64))) + (((zX5_bay sc ar 2 4) : Int32).toInt64))) + (((zX5_hull sc ar 0) : Int32).toInt64))) + (((zX5_hull sc ar 1) : Int32).toInt64)))]) (v := zX5_hull sc ar 2) (pc' := 68) F E (fun _ h => h) (fun H locs hI hp => jrun_V (As := [.int 2]) 0 F E (c_X5_hull l D cI cZ z g sc ar 2) kw_561 kw_379 kw_380 rfl kw_381 kw_1 oX5_hull ⟨⟨rfl, rfl⟩, ⟨Nat.le_of_ble_eq_true rfl, Nat.le_of_ble_eq_true rfl⟩, Nat.zero_le _, Nat.zero_le _⟩ rfl rfl (Nat.le_of_ble_eq_true rfl) dX5_withLighter_65 rfl rfl (jI_P E hI) hp) rfl ?_
  refine J_i2l (pc' := 69) (v := ((zX5_hull sc ar 2) : Int32).toInt64) F dX5_withLighter_68 rfl rfl ?_
  refine J_ladd (pc' := 70) F dX5_withLighter_69 rfl ?_
  refine J_lstore_n (pc' := 71) [1, 2, 0, 3, 4] [(0, .ref (g 0)), (1, .long x1), (3, .long ((31 * ((31 * ((31 * ((31 * ((31 * ((31 * ((31 * ((31 * ((31 * ((31 * ((31 * ((31 * ((31 * ((31 * ((31 * ((31 * ((31 * ((31 * x1) + (((zX5_bay sc ar 0 0) : Int32).toInt64))) + (((zX5_bay sc ar 0 1) : Int32).toInt64))) + (((zX5_bay sc ar 0 2) : Int32).toInt64))) + (((zX5_bay sc ar 0 3) : Int32).toInt64))) + (((zX5_bay sc ar 0 4) : Int32).toInt64))) + (((zX5_bay sc ar 1 0) : Int32).toInt64))) + (((zX5_bay sc ar 1 1) : Int32).toInt64))) + (((zX5_bay sc ar 1 2) : Int32).toInt64))) + (((zX5_bay sc ar 1 3) : Int32).toInt64))) + (((zX5_bay sc ar 1 4) : Int32).toInt64))) + (((zX5_bay sc ar 2 0) : Int32).toInt64))) + (((zX5_bay sc ar 2 1) : Int32).toInt64))) + (((zX5_bay sc ar 2 2) : Int32).toInt64))) + (((zX5_bay sc ar 2 3) : Int32).toInt64))) + (((zX5_bay sc ar 2 4) : Int32).toInt64))) + (((zX5_hull sc ar 0) : Int32).toInt64))) + (((zX5_hull sc ar 1) : Int32).toInt64))) + (((zX5_hull sc ar 2) : Int32).toInt64))), (5, .int 2), (6, .int 5)] F dX5_withLighter_70 rfl (jL_of E (show 3 + 1 < 7 by decide)) rfl rfl ?_
  refine J_iinc (v := 3) (q := 3) (pc' := 74) [1, 2, 3, 0, 4] [(0, .ref (g 0)), (1, .long x1), (3, .long ((31 * ((31 * ((31 * ((31 * ((31 * ((31 * ((31 * ((31 * ((31 * ((31 * ((31 * ((31 * ((31 * ((31 * ((31 * ((31 * ((31 * ((31 * x1) + (((zX5_bay sc ar 0 0) : Int32).toInt64))) + (((zX5_bay sc ar 0 1) : Int32).toInt64))) + (((zX5_bay sc ar 0 2) : Int32).toInt64))) + (((zX5_bay sc ar 0 3) : Int32).toInt64))) + (((zX5_bay sc ar 0 4) : Int32).toInt64))) + (((zX5_bay sc ar 1 0) : Int32).toInt64))) + (((zX5_bay sc ar 1 1) : Int32).toInt64))) + (((zX5_bay sc ar 1 2) : Int32).toInt64))) + (((zX5_bay sc ar 1 3) : Int32).toInt64))) + (((zX5_bay sc ar 1 4) : Int32).toInt64))) + (((zX5_bay sc ar 2 0) : Int32).toInt64))) + (((zX5_bay sc ar 2 1) : Int32).toInt64))) + (((zX5_bay sc ar 2 2) : Int32).toInt64))) + (((zX5_bay sc ar 2 3) : Int32).toInt64))) + (((zX5_bay sc ar 2 4) : Int32).toInt64))) + (((zX5_hull sc ar 0) : Int32).toInt64))) + (((zX5_hull sc ar 1) : Int32).toInt64))) + (((zX5_hull sc ar 2) : Int32).toInt64))), (5, .int 3), (6, .int 5)] F dX5_withLighter_71 rfl (by decide) (jL_of E (show 5 < 7 by decide)) rfl rfl ?_
  refine J_goto (tgt := 51) F dX5_withLighter_74 (by decide) ?_
  refine J_iload (pc' := 53) (q := 3) F dX5_withLighter_51 rfl rfl ?_
  refine J_iconst (pc' := 54) (v := 3) F dX5_withLighter_53 (by decide) rfl ?_
  refine J_icmp_gt (tgt := 77) (pc' := 57) F dX5_withLighter_54 (by decide) rfl (fun c9 => absurd c9 (by decide)) (fun _ => ?_)
  refine J_ldc2 (pc' := 60) (v := 31) F dX5_withLighter_57 kw_559 rfl ?_
  refine J_lload_n (pc' := 61) (q := 2) F dX5_withLighter_60 rfl rfl ?_
  refine J_lmul (pc' := 62) F dX5_withLighter_61 rfl ?_
  refine J_aload_n (pc' := 63) (q := 0) F dX5_withLighter_62 rfl rfl ?_
  refine J_iload (pc' := 65) (q := 3) F dX5_withLighter_63 rfl rfl ?_
  refine J_goRie (wc := (wC cI g sc ar)) (av := [.ref (g 0), .int 3]) (rest := [.long (31 * ((31 * ((31 * ((31 * ((31 * ((31 * ((31 * ((31 * ((31 * ((31 * ((31 * ((31 * ((31 * ((31 * ((31 * ((31 * ((31 * ((31 * ((31 * x1) + (((zX5_bay sc ar 0 0) : Int32).toInt64))) + (((zX5_bay sc ar 0 1) : Int32).toInt64))) + (((zX5_bay sc ar 0 2) : Int32).toInt64))) + (((zX5_bay sc ar 0 3) : Int32).toInt64))) + (((zX5_bay sc ar 0 4) : Int32).toInt64))) + (((zX5_bay sc ar 1 0) : Int32).toInt64))) + (((zX5_bay sc ar 1 1) : Int32).toInt64))) + (((zX5_bay sc ar 1 2) : Int32).toInt64))) + (((zX5_bay sc ar 1 3) : Int32).toInt64))) + (((zX5_bay sc ar 1 4) : Int32).toInt64))) + (((zX5_bay sc ar 2 0) : Int32).toInt64))) + (((zX5_bay sc ar 2 1) : Int32).toInt64))) + (((zX5_bay sc ar 2 2) : Int32).toInt64))) + (((zX5_bay sc ar 2 3) : Int32).toInt64))) + (((zX5_bay sc ar 2 4) : Int32).toInt64))) + (((zX5_hull sc ar 0) : Int32).toInt64))) + (((zX5_hull sc ar 1) : Int32).toInt64))) + (((zX5_hull sc ar 2) : Int32).toInt64)))]) (v := zX5_hull sc ar 3) (pc' := 68) F E (fun _ h => h) (fun H locs hI hp => jrun_V (As := [.int 3]) 0 F E (c_X5_hull l D cI cZ z g sc ar 3) kw_561 kw_379 kw_380 rfl kw_381 kw_1 oX5_hull ⟨⟨rfl, rfl⟩, ⟨Nat.le_of_ble_eq_true rfl, Nat.le_of_ble_eq_true rfl⟩, Nat.zero_le _, Nat.zero_le _⟩ rfl rfl (Nat.le_of_ble_eq_true rfl) dX5_withLighter_65 rfl rfl (jI_P E hI) hp) rfl ?_
  refine J_i2l (pc' := 69) (v := ((zX5_hull sc ar 3) : Int32).toInt64) F dX5_withLighter_68 rfl rfl ?_
  refine J_ladd (pc' := 70) F dX5_withLighter_69 rfl ?_
  refine J_lstore_n (pc' := 71) [1, 2, 0, 3, 4] [(0, .ref (g 0)), (1, .long x1), (3, .long ((31 * ((31 * ((31 * ((31 * ((31 * ((31 * ((31 * ((31 * ((31 * ((31 * ((31 * ((31 * ((31 * ((31 * ((31 * ((31 * ((31 * ((31 * ((31 * x1) + (((zX5_bay sc ar 0 0) : Int32).toInt64))) + (((zX5_bay sc ar 0 1) : Int32).toInt64))) + (((zX5_bay sc ar 0 2) : Int32).toInt64))) + (((zX5_bay sc ar 0 3) : Int32).toInt64))) + (((zX5_bay sc ar 0 4) : Int32).toInt64))) + (((zX5_bay sc ar 1 0) : Int32).toInt64))) + (((zX5_bay sc ar 1 1) : Int32).toInt64))) + (((zX5_bay sc ar 1 2) : Int32).toInt64))) + (((zX5_bay sc ar 1 3) : Int32).toInt64))) + (((zX5_bay sc ar 1 4) : Int32).toInt64))) + (((zX5_bay sc ar 2 0) : Int32).toInt64))) + (((zX5_bay sc ar 2 1) : Int32).toInt64))) + (((zX5_bay sc ar 2 2) : Int32).toInt64))) + (((zX5_bay sc ar 2 3) : Int32).toInt64))) + (((zX5_bay sc ar 2 4) : Int32).toInt64))) + (((zX5_hull sc ar 0) : Int32).toInt64))) + (((zX5_hull sc ar 1) : Int32).toInt64))) + (((zX5_hull sc ar 2) : Int32).toInt64))) + (((zX5_hull sc ar 3) : Int32).toInt64))), (5, .int 3), (6, .int 5)] F dX5_withLighter_70 rfl (jL_of E (show 3 + 1 < 7 by decide)) rfl rfl ?_
  refine J_iinc (v := 4) (q := 3) (pc' := 74) [1, 2, 3, 0, 4] [(0, .ref (g 0)), (1, .long x1), (3, .long ((31 * ((31 * ((31 * ((31 * ((31 * ((31 * ((31 * ((31 * ((31 * ((31 * ((31 * ((31 * ((31 * ((31 * ((31 * ((31 * ((31 * ((31 * ((31 * x1) + (((zX5_bay sc ar 0 0) : Int32).toInt64))) + (((zX5_bay sc ar 0 1) : Int32).toInt64))) + (((zX5_bay sc ar 0 2) : Int32).toInt64))) + (((zX5_bay sc ar 0 3) : Int32).toInt64))) + (((zX5_bay sc ar 0 4) : Int32).toInt64))) + (((zX5_bay sc ar 1 0) : Int32).toInt64))) + (((zX5_bay sc ar 1 1) : Int32).toInt64))) + (((zX5_bay sc ar 1 2) : Int32).toInt64))) + (((zX5_bay sc ar 1 3) : Int32).toInt64))) + (((zX5_bay sc ar 1 4) : Int32).toInt64))) + (((zX5_bay sc ar 2 0) : Int32).toInt64))) + (((zX5_bay sc ar 2 1) : Int32).toInt64))) + (((zX5_bay sc ar 2 2) : Int32).toInt64))) + (((zX5_bay sc ar 2 3) : Int32).toInt64))) + (((zX5_bay sc ar 2 4) : Int32).toInt64))) + (((zX5_hull sc ar 0) : Int32).toInt64))) + (((zX5_hull sc ar 1) : Int32).toInt64))) + (((zX5_hull sc ar 2) : Int32).toInt64))) + (((zX5_hull sc ar 3) : Int32).toInt64))), (5, .int 4), (6, .int 5)] F dX5_withLighter_71 rfl (by decide) (jL_of E (show 5 < 7 by decide)) rfl rfl ?_
  refine J_goto (tgt := 51) F dX5_withLighter_74 (by decide) ?_
  refine J_iload (pc' := 53) (q := 3) F dX5_withLighter_51 rfl rfl ?_
  refine J_iconst (pc' := 54) (v := 3) F dX5_withLighter_53 (by decide) rfl ?_
  refine J_icmp_gt (tgt := 77) (pc' := 57) F dX5_withLighter_54 (by decide) rfl (fun _ => ?_) (fun c9 => absurd (by decide) c9)
  refine J_lload_n (pc' := 78) (q := 2) F dX5_withLighter_77 rfl rfl ?_
  exact J_lretR F hR dX5_withLighter_78 rfl
def zX5_withActs (sc : Nat → Int32) (ar : Nat → Nat → Int32) (x1 : Int64) : Int64 := (31 * ((31 * ((31 * ((31 * ((31 * ((31 * ((31 * ((31 * ((31 * ((31 * ((31 * ((31 * ((31 * ((31 * ((31 * ((31 * ((31 * ((31 * ((31 * ((31 * x1) + (((zX5_may sc ar 0) : Int32).toInt64))) + (((zX5_may sc ar 1) : Int32).toInt64))) + (((zX5_may sc ar 2) : Int32).toInt64))) + (((zX5_may sc ar 3) : Int32).toInt64))) + (((zX5_may sc ar 4) : Int32).toInt64))) + (((zX5_may sc ar 5) : Int32).toInt64))) + (((zX5_may sc ar 7) : Int32).toInt64))) + (((zX5_may sc ar 8) : Int32).toInt64))) + (((zX5_may sc ar 12) : Int32).toInt64))) + (((zX5_may sc ar 15) : Int32).toInt64))) + (((zX5_may sc ar 18) : Int32).toInt64))) + (((zX5_may sc ar 21) : Int32).toInt64))) + (((zX5_may sc ar 22) : Int32).toInt64))) + (((zX5_may sc ar 25) : Int32).toInt64))) + (((zX5_may sc ar 26) : Int32).toInt64))) + (((zX5_may sc ar 29) : Int32).toInt64))) + (((zX5_may sc ar 32) : Int32).toInt64))) + (((zX5_may sc ar 35) : Int32).toInt64))) + (((zX5_may sc ar 39) : Int32).toInt64))) + (((zX5_may sc ar 40) : Int32).toInt64)
abbrev rm_X5_withActs : Room := { frames := 4, cells := 0, slots := 0, locals := 96 }
set_option maxHeartbeats 4000000 in
set_option maxRecDepth 100000 in
theorem c_X5_withActs (l : Launch) (D : va_G) (cI cZ : ClassId) (z : Nat → Nat) (g : Nat → Nat) (sc : Nat → Int32) (ar : Nat → Nat → Int32) (x1 : Int64)  : cRl l yX5_withActs ww_X5_withActs rm_X5_withActs D cI cZ z (wC cI g sc ar) [.ref (g 0), .long x1] (fun r => r = zX5_withActs sc ar x1) := by
  refine cRl.of (cc := cX5_withActs) (maxL := 9) (by decide) rfl (Nat.le_of_ble_eq_true rfl) (fun X F E hR => ?_)
  refine J_lv [0, 1] (lv' := [(0, .ref (g 0)), (1, .long x1)]) rfl ?_
  refine J_lload_n (pc' := 1) (q := 1) F dX5_withActs_0 rfl rfl ?_
  refine J_lstore_n (pc' := 2) [1, 2, 0] [(0, .ref (g 0)), (1, .long x1), (3, .long x1)] F dX5_withActs_1 rfl (jL_of E (show 3 + 1 < 9 by decide)) rfl rfl ?_
  refine J_gets (pc' := 5) F dX5_withActs_2 kw_566 (fun _ _ _ h => h.2.2.2.2.2.2.1) rfl rfl ?_
  refine J_astore (pc' := 7) [1, 2, 3, 0] [(0, .ref (g 0)), (1, .long x1), (3, .long x1), (5, .ref (z 2))] F dX5_withActs_5 (jL_of E (show 5 < 9 by decide)) rfl rfl ?_
  refine J_aload (pc' := 9) (q := 3) F dX5_withActs_7 rfl rfl ?_
  refine J_tlen (v := 20) (pc' := 10) F dX5_withActs_9 (fun _ _ _ h => h.2.2.2.2.2.2.2.1) rfl rfl ?_
  refine J_istore (pc' := 12) [1, 2, 3, 4, 0] [(0, .ref (g 0)), (1, .long x1), (3, .long x1), (5, .ref (z 2)), (6, .int 20)] F dX5_withActs_10 (jL_of E (show 6 < 9 by decide)) rfl rfl ?_
  refine J_iconst (pc' := 13) (v := 0) F dX5_withActs_12 (by decide) rfl ?_
  refine J_istore (pc' := 15) [1, 2, 3, 4, 5, 0] [(0, .ref (g 0)), (1, .long x1), (3, .long x1), (5, .ref (z 2)), (6, .int 20), (7, .int 0)] F dX5_withActs_13 (jL_of E (show 7 < 9 by decide)) rfl rfl ?_
  refine J_iload (pc' := 17) (q := 5) F dX5_withActs_15 rfl rfl ?_
  refine J_iload (pc' := 19) (q := 4) F dX5_withActs_17 rfl rfl ?_
  refine J_icmp_ge (tgt := 49) (pc' := 22) F dX5_withActs_19 (by decide) rfl (fun c9 => absurd c9 (by decide)) (fun _ => ?_)
  refine J_aload (pc' := 24) (q := 3) F dX5_withActs_22 rfl rfl ?_
  refine J_iload (pc' := 26) (q := 5) F dX5_withActs_24 rfl rfl ?_
  refine J_tiald (v := .int 0) (pc' := 27) F dX5_withActs_26 (fun _ _ _ h => h.2.2.2.2.2.2.2.1) (by unfold vp_in; decide) rfl rfl ?_
  refine J_istore (pc' := 29) [1, 2, 3, 4, 5, 6, 0] [(0, .ref (g 0)), (1, .long x1), (3, .long x1), (5, .ref (z 2)), (6, .int 20), (7, .int 0), (8, .int 0)] F dX5_withActs_27 (jL_of E (show 8 < 9 by decide)) rfl rfl ?_
  refine J_ldc2 (pc' := 32) (v := 31) F dX5_withActs_29 kw_559 rfl ?_
  refine J_lload_n (pc' := 33) (q := 2) F dX5_withActs_32 rfl rfl ?_
  refine J_lmul (pc' := 34) F dX5_withActs_33 rfl ?_
  refine J_aload_n (pc' := 35) (q := 0) F dX5_withActs_34 rfl rfl ?_
  refine J_iload (pc' := 37) (q := 6) F dX5_withActs_35 rfl rfl ?_
  refine J_goRie (wc := (wC cI g sc ar)) (av := [.ref (g 0), .int 0]) (rest := [.long (31 * x1)]) (v := zX5_may sc ar 0) (pc' := 40) F E (fun _ h => h) (fun H locs hI hp => jrun_V (As := [.int 0]) 0 F E (c_X5_may l D cI cZ z g sc ar 0) kw_567 kw_399 kw_400 rfl kw_401 kw_1 oX5_may ⟨⟨rfl, rfl⟩, ⟨Nat.le_of_ble_eq_true rfl, Nat.le_of_ble_eq_true rfl⟩, Nat.zero_le _, Nat.zero_le _⟩ rfl rfl (Nat.le_of_ble_eq_true rfl) dX5_withActs_37 rfl rfl (jI_P E hI) hp) rfl ?_
  refine J_i2l (pc' := 41) (v := ((zX5_may sc ar 0) : Int32).toInt64) F dX5_withActs_40 rfl rfl ?_
  refine J_ladd (pc' := 42) F dX5_withActs_41 rfl ?_
  refine J_lstore_n (pc' := 43) [1, 2, 0, 3, 4, 5, 6] [(0, .ref (g 0)), (1, .long x1), (3, .long ((31 * x1) + (((zX5_may sc ar 0) : Int32).toInt64))), (5, .ref (z 2)), (6, .int 20), (7, .int 0), (8, .int 0)] F dX5_withActs_42 rfl (jL_of E (show 3 + 1 < 9 by decide)) rfl rfl ?_
  refine J_iinc (v := 1) (q := 5) (pc' := 46) [1, 2, 3, 4, 5, 0, 6] [(0, .ref (g 0)), (1, .long x1), (3, .long ((31 * x1) + (((zX5_may sc ar 0) : Int32).toInt64))), (5, .ref (z 2)), (6, .int 20), (7, .int 1), (8, .int 0)] F dX5_withActs_43 rfl (by decide) (jL_of E (show 7 < 9 by decide)) rfl rfl ?_
  refine J_goto (tgt := 15) F dX5_withActs_46 (by decide) ?_
  refine J_iload (pc' := 17) (q := 5) F dX5_withActs_15 rfl rfl ?_
  refine J_iload (pc' := 19) (q := 4) F dX5_withActs_17 rfl rfl ?_
  refine J_icmp_ge (tgt := 49) (pc' := 22) F dX5_withActs_19 (by decide) rfl (fun c9 => absurd c9 (by decide)) (fun _ => ?_)
  refine J_aload (pc' := 24) (q := 3) F dX5_withActs_22 rfl rfl ?_
  refine J_iload (pc' := 26) (q := 5) F dX5_withActs_24 rfl rfl ?_
  refine J_tiald (v := .int 1) (pc' := 27) F dX5_withActs_26 (fun _ _ _ h => h.2.2.2.2.2.2.2.1) (by unfold vp_in; decide) rfl rfl ?_
  refine J_istore (pc' := 29) [1, 2, 3, 4, 5, 6, 0] [(0, .ref (g 0)), (1, .long x1), (3, .long ((31 * x1) + (((zX5_may sc ar 0) : Int32).toInt64))), (5, .ref (z 2)), (6, .int 20), (7, .int 1), (8, .int 1)] F dX5_withActs_27 (jL_of E (show 8 < 9 by decide)) rfl rfl ?_
  refine J_ldc2 (pc' := 32) (v := 31) F dX5_withActs_29 kw_559 rfl ?_
  refine J_lload_n (pc' := 33) (q := 2) F dX5_withActs_32 rfl rfl ?_
  refine J_lmul (pc' := 34) F dX5_withActs_33 rfl ?_
  refine J_aload_n (pc' := 35) (q := 0) F dX5_withActs_34 rfl rfl ?_
  refine J_iload (pc' := 37) (q := 6) F dX5_withActs_35 rfl rfl ?_
  refine J_goRie (wc := (wC cI g sc ar)) (av := [.ref (g 0), .int 1]) (rest := [.long (31 * ((31 * x1) + (((zX5_may sc ar 0) : Int32).toInt64)))]) (v := zX5_may sc ar 1) (pc' := 40) F E (fun _ h => h) (fun H locs hI hp => jrun_V (As := [.int 1]) 0 F E (c_X5_may l D cI cZ z g sc ar 1) kw_567 kw_399 kw_400 rfl kw_401 kw_1 oX5_may ⟨⟨rfl, rfl⟩, ⟨Nat.le_of_ble_eq_true rfl, Nat.le_of_ble_eq_true rfl⟩, Nat.zero_le _, Nat.zero_le _⟩ rfl rfl (Nat.le_of_ble_eq_true rfl) dX5_withActs_37 rfl rfl (jI_P E hI) hp) rfl ?_
  refine J_i2l (pc' := 41) (v := ((zX5_may sc ar 1) : Int32).toInt64) F dX5_withActs_40 rfl rfl ?_
  refine J_ladd (pc' := 42) F dX5_withActs_41 rfl ?_
  refine J_lstore_n (pc' := 43) [1, 2, 0, 3, 4, 5, 6] [(0, .ref (g 0)), (1, .long x1), (3, .long ((31 * ((31 * x1) + (((zX5_may sc ar 0) : Int32).toInt64))) + (((zX5_may sc ar 1) : Int32).toInt64))), (5, .ref (z 2)), (6, .int 20), (7, .int 1), (8, .int 1)] F dX5_withActs_42 rfl (jL_of E (show 3 + 1 < 9 by decide)) rfl rfl ?_
  refine J_iinc (v := 2) (q := 5) (pc' := 46) [1, 2, 3, 4, 5, 0, 6] [(0, .ref (g 0)), (1, .long x1), (3, .long ((31 * ((31 * x1) + (((zX5_may sc ar 0) : Int32).toInt64))) + (((zX5_may sc ar 1) : Int32).toInt64))), (5, .ref (z 2)), (6, .int 20), (7, .int 2), (8, .int 1)] F dX5_withActs_43 rfl (by decide) (jL_of E (show 7 < 9 by decide)) rfl rfl ?_
  refine J_goto (tgt := 15) F dX5_withActs_46 (by decide) ?_
  refine J_iload (pc' := 17) (q := 5) F dX5_withActs_15 rfl rfl ?_
  refine J_iload (pc' := 19) (q := 4) F dX5_withActs_17 rfl rfl ?_
  refine J_icmp_ge (tgt := 49) (pc' := 22) F dX5_withActs_19 (by decide) rfl (fun c9 => absurd c9 (by decide)) (fun _ => ?_)
  refine J_aload (pc' := 24) (q := 3) F dX5_withActs_22 rfl rfl ?_
  refine J_iload (pc' := 26) (q := 5) F dX5_withActs_24 rfl rfl ?_
  refine J_tiald (v := .int 2) (pc' := 27) F dX5_withActs_26 (fun _ _ _ h => h.2.2.2.2.2.2.2.1) (by unfold vp_in; decide) rfl rfl ?_
  refine J_istore (pc' := 29) [1, 2, 3, 4, 5, 6, 0] [(0, .ref (g 0)), (1, .long x1), (3, .long ((31 * ((31 * x1) + (((zX5_may sc ar 0) : Int32).toInt64))) + (((zX5_may sc ar 1) : Int32).toInt64))), (5, .ref (z 2)), (6, .int 20), (7, .int 2), (8, .int 2)] F dX5_withActs_27 (jL_of E (show 8 < 9 by decide)) rfl rfl ?_
  refine J_ldc2 (pc' := 32) (v := 31) F dX5_withActs_29 kw_559 rfl ?_
  refine J_lload_n (pc' := 33) (q := 2) F dX5_withActs_32 rfl rfl ?_
  refine J_lmul (pc' := 34) F dX5_withActs_33 rfl ?_
  refine J_aload_n (pc' := 35) (q := 0) F dX5_withActs_34 rfl rfl ?_
  refine J_iload (pc' := 37) (q := 6) F dX5_withActs_35 rfl rfl ?_
  refine J_goRie (wc := (wC cI g sc ar)) (av := [.ref (g 0), .int 2]) (rest := [.long (31 * ((31 * ((31 * x1) + (((zX5_may sc ar 0) : Int32).toInt64))) + (((zX5_may sc ar 1) : Int32).toInt64)))]) (v := zX5_may sc ar 2) (pc' := 40) F E (fun _ h => h) (fun H locs hI hp => jrun_V (As := [.int 2]) 0 F E (c_X5_may l D cI cZ z g sc ar 2) kw_567 kw_399 kw_400 rfl kw_401 kw_1 oX5_may ⟨⟨rfl, rfl⟩, ⟨Nat.le_of_ble_eq_true rfl, Nat.le_of_ble_eq_true rfl⟩, Nat.zero_le _, Nat.zero_le _⟩ rfl rfl (Nat.le_of_ble_eq_true rfl) dX5_withActs_37 rfl rfl (jI_P E hI) hp) rfl ?_
  refine J_i2l (pc' := 41) (v := ((zX5_may sc ar 2) : Int32).toInt64) F dX5_withActs_40 rfl rfl ?_
  refine J_ladd (pc' := 42) F dX5_withActs_41 rfl ?_
  refine J_lstore_n (pc' := 43) [1, 2, 0, 3, 4, 5, 6] [(0, .ref (g 0)), (1, .long x1), (3, .long ((31 * ((31 * ((31 * x1) + (((zX5_may sc ar 0) : Int32).toInt64))) + (((zX5_may sc ar 1) : Int32).toInt64))) + (((zX5_may sc ar 2) : Int32).toInt64))), (5, .ref (z 2)), (6, .int 20), (7, .int 2), (8, .int 2)] F dX5_withActs_42 rfl (jL_of E (show 3 + 1 < 9 by decide)) rfl rfl ?_
  refine J_iinc (v := 3) (q := 5) (pc' := 46) [1, 2, 3, 4, 5, 0, 6] [(0, .ref (g 0)), (1, .long x1), (3, .long ((31 * ((31 * ((31 * x1) + (((zX5_may sc ar 0) : Int32).toInt64))) + (((zX5_may sc ar 1) : Int32).toInt64))) + (((zX5_may sc ar 2) : Int32).toInt64))), (5, .ref (z 2)), (6, .int 20), (7, .int 3), (8, .int 2)] F dX5_withActs_43 rfl (by decide) (jL_of E (show 7 < 9 by decide)) rfl rfl ?_
  refine J_goto (tgt := 15) F dX5_withActs_46 (by decide) ?_
  refine J_iload (pc' := 17) (q := 5) F dX5_withActs_15 rfl rfl ?_
  refine J_iload (pc' := 19) (q := 4) F dX5_withActs_17 rfl rfl ?_
  refine J_icmp_ge (tgt := 49) (pc' := 22) F dX5_withActs_19 (by decide) rfl (fun c9 => absurd c9 (by decide)) (fun _ => ?_)
  refine J_aload (pc' := 24) (q := 3) F dX5_withActs_22 rfl rfl ?_
  refine J_iload (pc' := 26) (q := 5) F dX5_withActs_24 rfl rfl ?_
  refine J_tiald (v := .int 3) (pc' := 27) F dX5_withActs_26 (fun _ _ _ h => h.2.2.2.2.2.2.2.1) (by unfold vp_in; decide) rfl rfl ?_
  refine J_istore (pc' := 29) [1, 2, 3, 4, 5, 6, 0] [(0, .ref (g 0)), (1, .long x1), (3, .long ((31 * ((31 * ((31 * x1) + (((zX5_may sc ar 0) : Int32).toInt64))) + (((zX5_may sc ar 1) : Int32).toInt64))) + (((zX5_may sc ar 2) : Int32).toInt64))), (5, .ref (z 2)), (6, .int 20), (7, .int 3), (8, .int 3)] F dX5_withActs_27 (jL_of E (show 8 < 9 by decide)) rfl rfl ?_
  refine J_ldc2 (pc' := 32) (v := 31) F dX5_withActs_29 kw_559 rfl ?_
  refine J_lload_n (pc' := 33) (q := 2) F dX5_withActs_32 rfl rfl ?_
  refine J_lmul (pc' := 34) F dX5_withActs_33 rfl ?_
  refine J_aload_n (pc' := 35) (q := 0) F dX5_withActs_34 rfl rfl ?_
  refine J_iload (pc' := 37) (q := 6) F dX5_withActs_35 rfl rfl ?_
  refine J_goRie (wc := (wC cI g sc ar)) (av := [.ref (g 0), .int 3]) (rest := [.long (31 * ((31 * ((31 * ((31 * x1) + (((zX5_may sc ar 0) : Int32).toInt64))) + (((zX5_may sc ar 1) : Int32).toInt64))) + (((zX5_may sc ar 2) : Int32).toInt64)))]) (v := zX5_may sc ar 3) (pc' := 40) F E (fun _ h => h) (fun H locs hI hp => jrun_V (As := [.int 3]) 0 F E (c_X5_may l D cI cZ z g sc ar 3) kw_567 kw_399 kw_400 rfl kw_401 kw_1 oX5_may ⟨⟨rfl, rfl⟩, ⟨Nat.le_of_ble_eq_true rfl, Nat.le_of_ble_eq_true rfl⟩, Nat.zero_le _, Nat.zero_le _⟩ rfl rfl (Nat.le_of_ble_eq_true rfl) dX5_withActs_37 rfl rfl (jI_P E hI) hp) rfl ?_
  refine J_i2l (pc' := 41) (v := ((zX5_may sc ar 3) : Int32).toInt64) F dX5_withActs_40 rfl rfl ?_
  refine J_ladd (pc' := 42) F dX5_withActs_41 rfl ?_
  refine J_lstore_n (pc' := 43) [1, 2, 0, 3, 4, 5, 6] [(0, .ref (g 0)), (1, .long x1), (3, .long ((31 * ((31 * ((31 * ((31 * x1) + (((zX5_may sc ar 0) : Int32).toInt64))) + (((zX5_may sc ar 1) : Int32).toInt64))) + (((zX5_may sc ar 2) : Int32).toInt64))) + (((zX5_may sc ar 3) : Int32).toInt64))), (5, .ref (z 2)), (6, .int 20), (7, .int 3), (8, .int 3)] F dX5_withActs_42 rfl (jL_of E (show 3 + 1 < 9 by decide)) rfl rfl ?_
  refine J_iinc (v := 4) (q := 5) (pc' := 46) [1, 2, 3, 4, 5, 0, 6] [(0, .ref (g 0)), (1, .long x1), (3, .long ((31 * ((31 * ((31 * ((31 * x1) + (((zX5_may sc ar 0) : Int32).toInt64))) + (((zX5_may sc ar 1) : Int32).toInt64))) + (((zX5_may sc ar 2) : Int32).toInt64))) + (((zX5_may sc ar 3) : Int32).toInt64))), (5, .ref (z 2)), (6, .int 20), (7, .int 4), (8, .int 3)] F dX5_withActs_43 rfl (by decide) (jL_of E (show 7 < 9 by decide)) rfl rfl ?_
  refine J_goto (tgt := 15) F dX5_withActs_46 (by decide) ?_
  refine J_iload (pc' := 17) (q := 5) F dX5_withActs_15 rfl rfl ?_
  refine J_iload (pc' := 19) (q := 4) F dX5_withActs_17 rfl rfl ?_
  refine J_icmp_ge (tgt := 49) (pc' := 22) F dX5_withActs_19 (by decide) rfl (fun c9 => absurd c9 (by decide)) (fun _ => ?_)
  refine J_aload (pc' := 24) (q := 3) F dX5_withActs_22 rfl rfl ?_
  refine J_iload (pc' := 26) (q := 5) F dX5_withActs_24 rfl rfl ?_
  refine J_tiald (v := .int 4) (pc' := 27) F dX5_withActs_26 (fun _ _ _ h => h.2.2.2.2.2.2.2.1) (by unfold vp_in; decide) rfl rfl ?_
  refine J_istore (pc' := 29) [1, 2, 3, 4, 5, 6, 0] [(0, .ref (g 0)), (1, .long x1), (3, .long ((31 * ((31 * ((31 * ((31 * x1) + (((zX5_may sc ar 0) : Int32).toInt64))) + (((zX5_may sc ar 1) : Int32).toInt64))) + (((zX5_may sc ar 2) : Int32).toInt64))) + (((zX5_may sc ar 3) : Int32).toInt64))), (5, .ref (z 2)), (6, .int 20), (7, .int 4), (8, .int 4)] F dX5_withActs_27 (jL_of E (show 8 < 9 by decide)) rfl rfl ?_
  refine J_ldc2 (pc' := 32) (v := 31) F dX5_withActs_29 kw_559 rfl ?_
  refine J_lload_n (pc' := 33) (q := 2) F dX5_withActs_32 rfl rfl ?_
  refine J_lmul (pc' := 34) F dX5_withActs_33 rfl ?_
  refine J_aload_n (pc' := 35) (q := 0) F dX5_withActs_34 rfl rfl ?_
  refine J_iload (pc' := 37) (q := 6) F dX5_withActs_35 rfl rfl ?_
  refine J_goRie (wc := (wC cI g sc ar)) (av := [.ref (g 0), .int 4]) (rest := [.long (31 * ((31 * ((31 * ((31 * ((31 * x1) + (((zX5_may sc ar 0) : Int32).toInt64))) + (((zX5_may sc ar 1) : Int32).toInt64))) + (((zX5_may sc ar 2) : Int32).toInt64))) + (((zX5_may sc ar 3) : Int32).toInt64)))]) (v := zX5_may sc ar 4) (pc' := 40) F E (fun _ h => h) (fun H locs hI hp => jrun_V (As := [.int 4]) 0 F E (c_X5_may l D cI cZ z g sc ar 4) kw_567 kw_399 kw_400 rfl kw_401 kw_1 oX5_may ⟨⟨rfl, rfl⟩, ⟨Nat.le_of_ble_eq_true rfl, Nat.le_of_ble_eq_true rfl⟩, Nat.zero_le _, Nat.zero_le _⟩ rfl rfl (Nat.le_of_ble_eq_true rfl) dX5_withActs_37 rfl rfl (jI_P E hI) hp) rfl ?_
  refine J_i2l (pc' := 41) (v := ((zX5_may sc ar 4) : Int32).toInt64) F dX5_withActs_40 rfl rfl ?_
  refine J_ladd (pc' := 42) F dX5_withActs_41 rfl ?_
  refine J_lstore_n (pc' := 43) [1, 2, 0, 3, 4, 5, 6] [(0, .ref (g 0)), (1, .long x1), (3, .long ((31 * ((31 * ((31 * ((31 * ((31 * x1) + (((zX5_may sc ar 0) : Int32).toInt64))) + (((zX5_may sc ar 1) : Int32).toInt64))) + (((zX5_may sc ar 2) : Int32).toInt64))) + (((zX5_may sc ar 3) : Int32).toInt64))) + (((zX5_may sc ar 4) : Int32).toInt64))), (5, .ref (z 2)), (6, .int 20), (7, .int 4), (8, .int 4)] F dX5_withActs_42 rfl (jL_of E (show 3 + 1 < 9 by decide)) rfl rfl ?_
  refine J_iinc (v := 5) (q := 5) (pc' := 46) [1, 2, 3, 4, 5, 0, 6] [(0, .ref (g 0)), (1, .long x1), (3, .long ((31 * ((31 * ((31 * ((31 * ((31 * x1) + (((zX5_may sc ar 0) : Int32).toInt64))) + (((zX5_may sc ar 1) : Int32).toInt64))) + (((zX5_may sc ar 2) : Int32).toInt64))) + (((zX5_may sc ar 3) : Int32).toInt64))) + (((zX5_may sc ar 4) : Int32).toInt64))), (5, .ref (z 2)), (6, .int 20), (7, .int 5), (8, .int 4)] F dX5_withActs_43 rfl (by decide) (jL_of E (show 7 < 9 by decide)) rfl rfl ?_
  refine J_goto (tgt := 15) F dX5_withActs_46 (by decide) ?_
  refine J_iload (pc' := 17) (q := 5) F dX5_withActs_15 rfl rfl ?_
  refine J_iload (pc' := 19) (q := 4) F dX5_withActs_17 rfl rfl ?_
  refine J_icmp_ge (tgt := 49) (pc' := 22) F dX5_withActs_19 (by decide) rfl (fun c9 => absurd c9 (by decide)) (fun _ => ?_)
  refine J_aload (pc' := 24) (q := 3) F dX5_withActs_22 rfl rfl ?_
  refine J_iload (pc' := 26) (q := 5) F dX5_withActs_24 rfl rfl ?_
  refine J_tiald (v := .int 5) (pc' := 27) F dX5_withActs_26 (fun _ _ _ h => h.2.2.2.2.2.2.2.1) (by unfold vp_in; decide) rfl rfl ?_
  refine J_istore (pc' := 29) [1, 2, 3, 4, 5, 6, 0] [(0, .ref (g 0)), (1, .long x1), (3, .long ((31 * ((31 * ((31 * ((31 * ((31 * x1) + (((zX5_may sc ar 0) : Int32).toInt64))) + (((zX5_may sc ar 1) : Int32).toInt64))) + (((zX5_may sc ar 2) : Int32).toInt64))) + (((zX5_may sc ar 3) : Int32).toInt64))) + (((zX5_may sc ar 4) : Int32).toInt64))), (5, .ref (z 2)), (6, .int 20), (7, .int 5), (8, .int 5)] F dX5_withActs_27 (jL_of E (show 8 < 9 by decide)) rfl rfl ?_
  refine J_ldc2 (pc' := 32) (v := 31) F dX5_withActs_29 kw_559 rfl ?_
  refine J_lload_n (pc' := 33) (q := 2) F dX5_withActs_32 rfl rfl ?_
  refine J_lmul (pc' := 34) F dX5_withActs_33 rfl ?_
  refine J_aload_n (pc' := 35) (q := 0) F dX5_withActs_34 rfl rfl ?_
  refine J_iload (pc' := 37) (q := 6) F dX5_withActs_35 rfl rfl ?_
  refine J_goRie (wc := (wC cI g sc ar)) (av := [.ref (g 0), .int 5]) (rest := [.long (31 * ((31 * ((31 * ((31 * ((31 * ((31 * x1) + (((zX5_may sc ar 0) : Int32).toInt64))) + (((zX5_may sc ar 1) : Int32).toInt64))) + (((zX5_may sc ar 2) : Int32).toInt64))) + (((zX5_may sc ar 3) : Int32).toInt64))) + (((zX5_may sc ar 4) : Int32).toInt64)))]) (v := zX5_may sc ar 5) (pc' := 40) F E (fun _ h => h) (fun H locs hI hp => jrun_V (As := [.int 5]) 0 F E (c_X5_may l D cI cZ z g sc ar 5) kw_567 kw_399 kw_400 rfl kw_401 kw_1 oX5_may ⟨⟨rfl, rfl⟩, ⟨Nat.le_of_ble_eq_true rfl, Nat.le_of_ble_eq_true rfl⟩, Nat.zero_le _, Nat.zero_le _⟩ rfl rfl (Nat.le_of_ble_eq_true rfl) dX5_withActs_37 rfl rfl (jI_P E hI) hp) rfl ?_
  refine J_i2l (pc' := 41) (v := ((zX5_may sc ar 5) : Int32).toInt64) F dX5_withActs_40 rfl rfl ?_
  refine J_ladd (pc' := 42) F dX5_withActs_41 rfl ?_
  refine J_lstore_n (pc' := 43) [1, 2, 0, 3, 4, 5, 6] [(0, .ref (g 0)), (1, .long x1), (3, .long ((31 * ((31 * ((31 * ((31 * ((31 * ((31 * x1) + (((zX5_may sc ar 0) : Int32).toInt64))) + (((zX5_may sc ar 1) : Int32).toInt64))) + (((zX5_may sc ar 2) : Int32).toInt64))) + (((zX5_may sc ar 3) : Int32).toInt64))) + (((zX5_may sc ar 4) : Int32).toInt64))) + (((zX5_may sc ar 5) : Int32).toInt64))), (5, .ref (z 2)), (6, .int 20), (7, .int 5), (8, .int 5)] F dX5_withActs_42 rfl (jL_of E (show 3 + 1 < 9 by decide)) rfl rfl ?_
  refine J_iinc (v := 6) (q := 5) (pc' := 46) [1, 2, 3, 4, 5, 0, 6] [(0, .ref (g 0)), (1, .long x1), (3, .long ((31 * ((31 * ((31 * ((31 * ((31 * ((31 * x1) + (((zX5_may sc ar 0) : Int32).toInt64))) + (((zX5_may sc ar 1) : Int32).toInt64))) + (((zX5_may sc ar 2) : Int32).toInt64))) + (((zX5_may sc ar 3) : Int32).toInt64))) + (((zX5_may sc ar 4) : Int32).toInt64))) + (((zX5_may sc ar 5) : Int32).toInt64))), (5, .ref (z 2)), (6, .int 20), (7, .int 6), (8, .int 5)] F dX5_withActs_43 rfl (by decide) (jL_of E (show 7 < 9 by decide)) rfl rfl ?_
  refine J_goto (tgt := 15) F dX5_withActs_46 (by decide) ?_
  refine J_iload (pc' := 17) (q := 5) F dX5_withActs_15 rfl rfl ?_
  refine J_iload (pc' := 19) (q := 4) F dX5_withActs_17 rfl rfl ?_
  refine J_icmp_ge (tgt := 49) (pc' := 22) F dX5_withActs_19 (by decide) rfl (fun c9 => absurd c9 (by decide)) (fun _ => ?_)
  refine J_aload (pc' := 24) (q := 3) F dX5_withActs_22 rfl rfl ?_
  refine J_iload (pc' := 26) (q := 5) F dX5_withActs_24 rfl rfl ?_
  refine J_tiald (v := .int 7) (pc' := 27) F dX5_withActs_26 (fun _ _ _ h => h.2.2.2.2.2.2.2.1) (by unfold vp_in; decide) rfl rfl ?_
  refine J_istore (pc' := 29) [1, 2, 3, 4, 5, 6, 0] [(0, .ref (g 0)), (1, .long x1), (3, .long ((31 * ((31 * ((31 * ((31 * ((31 * ((31 * x1) + (((zX5_may sc ar 0) : Int32).toInt64))) + (((zX5_may sc ar 1) : Int32).toInt64))) + (((zX5_may sc ar 2) : Int32).toInt64))) + (((zX5_may sc ar 3) : Int32).toInt64))) + (((zX5_may sc ar 4) : Int32).toInt64))) + (((zX5_may sc ar 5) : Int32).toInt64))), (5, .ref (z 2)), (6, .int 20), (7, .int 6), (8, .int 7)] F dX5_withActs_27 (jL_of E (show 8 < 9 by decide)) rfl rfl ?_
  refine J_ldc2 (pc' := 32) (v := 31) F dX5_withActs_29 kw_559 rfl ?_
  refine J_lload_n (pc' := 33) (q := 2) F dX5_withActs_32 rfl rfl ?_
  refine J_lmul (pc' := 34) F dX5_withActs_33 rfl ?_
  refine J_aload_n (pc' := 35) (q := 0) F dX5_withActs_34 rfl rfl ?_
  refine J_iload (pc' := 37) (q := 6) F dX5_withActs_35 rfl rfl ?_
  refine J_goRie (wc := (wC cI g sc ar)) (av := [.ref (g 0), .int 7]) (rest := [.long (31 * ((31 * ((31 * ((31 * ((31 * ((31 * ((31 * x1) + (((zX5_may sc ar 0) : Int32).toInt64))) + (((zX5_may sc ar 1) : Int32).toInt64))) + (((zX5_may sc ar 2) : Int32).toInt64))) + (((zX5_may sc ar 3) : Int32).toInt64))) + (((zX5_may sc ar 4) : Int32).toInt64))) + (((zX5_may sc ar 5) : Int32).toInt64)))]) (v := zX5_may sc ar 7) (pc' := 40) F E (fun _ h => h) (fun H locs hI hp => jrun_V (As := [.int 7]) 0 F E (c_X5_may l D cI cZ z g sc ar 7) kw_567 kw_399 kw_400 rfl kw_401 kw_1 oX5_may ⟨⟨rfl, rfl⟩, ⟨Nat.le_of_ble_eq_true rfl, Nat.le_of_ble_eq_true rfl⟩, Nat.zero_le _, Nat.zero_le _⟩ rfl rfl (Nat.le_of_ble_eq_true rfl) dX5_withActs_37 rfl rfl (jI_P E hI) hp) rfl ?_
  refine J_i2l (pc' := 41) (v := ((zX5_may sc ar 7) : Int32).toInt64) F dX5_withActs_40 rfl rfl ?_
  refine J_ladd (pc' := 42) F dX5_withActs_41 rfl ?_
  refine J_lstore_n (pc' := 43) [1, 2, 0, 3, 4, 5, 6] [(0, .ref (g 0)), (1, .long x1), (3, .long ((31 * ((31 * ((31 * ((31 * ((31 * ((31 * ((31 * x1) + (((zX5_may sc ar 0) : Int32).toInt64))) + (((zX5_may sc ar 1) : Int32).toInt64))) + (((zX5_may sc ar 2) : Int32).toInt64))) + (((zX5_may sc ar 3) : Int32).toInt64))) + (((zX5_may sc ar 4) : Int32).toInt64))) + (((zX5_may sc ar 5) : Int32).toInt64))) + (((zX5_may sc ar 7) : Int32).toInt64))), (5, .ref (z 2)), (6, .int 20), (7, .int 6), (8, .int 7)] F dX5_withActs_42 rfl (jL_of E (show 3 + 1 < 9 by decide)) rfl rfl ?_
  refine J_iinc (v := 7) (q := 5) (pc' := 46) [1, 2, 3, 4, 5, 0, 6] [(0, .ref (g 0)), (1, .long x1), (3, .long ((31 * ((31 * ((31 * ((31 * ((31 * ((31 * ((31 * x1) + (((zX5_may sc ar 0) : Int32).toInt64))) + (((zX5_may sc ar 1) : Int32).toInt64))) + (((zX5_may sc ar 2) : Int32).toInt64))) + (((zX5_may sc ar 3) : Int32).toInt64))) + (((zX5_may sc ar 4) : Int32).toInt64))) + (((zX5_may sc ar 5) : Int32).toInt64))) + (((zX5_may sc ar 7) : Int32).toInt64))), (5, .ref (z 2)), (6, .int 20), (7, .int 7), (8, .int 7)] F dX5_withActs_43 rfl (by decide) (jL_of E (show 7 < 9 by decide)) rfl rfl ?_
  refine J_goto (tgt := 15) F dX5_withActs_46 (by decide) ?_
  refine J_iload (pc' := 17) (q := 5) F dX5_withActs_15 rfl rfl ?_
  refine J_iload (pc' := 19) (q := 4) F dX5_withActs_17 rfl rfl ?_
  refine J_icmp_ge (tgt := 49) (pc' := 22) F dX5_withActs_19 (by decide) rfl (fun c9 => absurd c9 (by decide)) (fun _ => ?_)
  refine J_aload (pc' := 24) (q := 3) F dX5_withActs_22 rfl rfl ?_
  refine J_iload (pc' := 26) (q := 5) F dX5_withActs_24 rfl rfl ?_
  refine J_tiald (v := .int 8) (pc' := 27) F dX5_withActs_26 (fun _ _ _ h => h.2.2.2.2.2.2.2.1) (by unfold vp_in; decide) rfl rfl ?_
  refine J_istore (pc' := 29) [1, 2, 3, 4, 5, 6, 0] [(0, .ref (g 0)), (1, .long x1), (3, .long ((31 * ((31 * ((31 * ((31 * ((31 * ((31 * ((31 * x1) + (((zX5_may sc ar 0) : Int32).toInt64))) + (((zX5_may sc ar 1) : Int32).toInt64))) + (((zX5_may sc ar 2) : Int32).toInt64))) + (((zX5_may sc ar 3) : Int32).toInt64))) + (((zX5_may sc ar 4) : Int32).toInt64))) + (((zX5_may sc ar 5) : Int32).toInt64))) + (((zX5_may sc ar 7) : Int32).toInt64))), (5, .ref (z 2)), (6, .int 20), (7, .int 7), (8, .int 8)] F dX5_withActs_27 (jL_of E (show 8 < 9 by decide)) rfl rfl ?_
  refine J_ldc2 (pc' := 32) (v := 31) F dX5_withActs_29 kw_559 rfl ?_
  refine J_lload_n (pc' := 33) (q := 2) F dX5_withActs_32 rfl rfl ?_
  refine J_lmul (pc' := 34) F dX5_withActs_33 rfl ?_
  refine J_aload_n (pc' := 35) (q := 0) F dX5_withActs_34 rfl rfl ?_
  refine J_iload (pc' := 37) (q := 6) F dX5_withActs_35 rfl rfl ?_
  refine J_goRie (wc := (wC cI g sc ar)) (av := [.ref (g 0), .int 8]) (rest := [.long (31 * ((31 * ((31 * ((31 * ((31 * ((31 * ((31 * ((31 * x1) + (((zX5_may sc ar 0) : Int32).toInt64))) + (((zX5_may sc ar 1) : Int32).toInt64))) + (((zX5_may sc ar 2) : Int32).toInt64))) + (((zX5_may sc ar 3) : Int32).toInt64))) + (((zX5_may sc ar 4) : Int32).toInt64))) + (((zX5_may sc ar 5) : Int32).toInt64))) + (((zX5_may sc ar 7) : Int32).toInt64)))]) (v := zX5_may sc ar 8) (pc' := 40) F E (fun _ h => h) (fun H locs hI hp => jrun_V (As := [.int 8]) 0 F E (c_X5_may l D cI cZ z g sc ar 8) kw_567 kw_399 kw_400 rfl kw_401 kw_1 oX5_may ⟨⟨rfl, rfl⟩, ⟨Nat.le_of_ble_eq_true rfl, Nat.le_of_ble_eq_true rfl⟩, Nat.zero_le _, Nat.zero_le _⟩ rfl rfl (Nat.le_of_ble_eq_true rfl) dX5_withActs_37 rfl rfl (jI_P E hI) hp) rfl ?_
  refine J_i2l (pc' := 41) (v := ((zX5_may sc ar 8) : Int32).toInt64) F dX5_withActs_40 rfl rfl ?_
  refine J_ladd (pc' := 42) F dX5_withActs_41 rfl ?_
  refine J_lstore_n (pc' := 43) [1, 2, 0, 3, 4, 5, 6] [(0, .ref (g 0)), (1, .long x1), (3, .long ((31 * ((31 * ((31 * ((31 * ((31 * ((31 * ((31 * ((31 * x1) + (((zX5_may sc ar 0) : Int32).toInt64))) + (((zX5_may sc ar 1) : Int32).toInt64))) + (((zX5_may sc ar 2) : Int32).toInt64))) + (((zX5_may sc ar 3) : Int32).toInt64))) + (((zX5_may sc ar 4) : Int32).toInt64))) + (((zX5_may sc ar 5) : Int32).toInt64))) + (((zX5_may sc ar 7) : Int32).toInt64))) + (((zX5_may sc ar 8) : Int32).toInt64))), (5, .ref (z 2)), (6, .int 20), (7, .int 7), (8, .int 8)] F dX5_withActs_42 rfl (jL_of E (show 3 + 1 < 9 by decide)) rfl rfl ?_
  refine J_iinc (v := 8) (q := 5) (pc' := 46) [1, 2, 3, 4, 5, 0, 6] [(0, .ref (g 0)), (1, .long x1), (3, .long ((31 * ((31 * ((31 * ((31 * ((31 * ((31 * ((31 * ((31 * x1) + (((zX5_may sc ar 0) : Int32).toInt64))) + (((zX5_may sc ar 1) : Int32).toInt64))) + (((zX5_may sc ar 2) : Int32).toInt64))) + (((zX5_may sc ar 3) : Int32).toInt64))) + (((zX5_may sc ar 4) : Int32).toInt64))) + (((zX5_may sc ar 5) : Int32).toInt64))) + (((zX5_may sc ar 7) : Int32).toInt64))) + (((zX5_may sc ar 8) : Int32).toInt64))), (5, .ref (z 2)), (6, .int 20), (7, .int 8), (8, .int 8)] F dX5_withActs_43 rfl (by decide) (jL_of E (show 7 < 9 by decide)) rfl rfl ?_
  refine J_goto (tgt := 15) F dX5_withActs_46 (by decide) ?_
  refine J_iload (pc' := 17) (q := 5) F dX5_withActs_15 rfl rfl ?_
  refine J_iload (pc' := 19) (q := 4) F dX5_withActs_17 rfl rfl ?_
  refine J_icmp_ge (tgt := 49) (pc' := 22) F dX5_withActs_19 (by decide) rfl (fun c9 => absurd c9 (by decide)) (fun _ => ?_)
  refine J_aload (pc' := 24) (q := 3) F dX5_withActs_22 rfl rfl ?_
  refine J_iload (pc' := 26) (q := 5) F dX5_withActs_24 rfl rfl ?_
  refine J_tiald (v := .int 12) (pc' := 27) F dX5_withActs_26 (fun _ _ _ h => h.2.2.2.2.2.2.2.1) (by unfold vp_in; decide) rfl rfl ?_
  refine J_istore (pc' := 29) [1, 2, 3, 4, 5, 6, 0] [(0, .ref (g 0)), (1, .long x1), (3, .long ((31 * ((31 * ((31 * ((31 * ((31 * ((31 * ((31 * ((31 * x1) + (((zX5_may sc ar 0) : Int32).toInt64))) + (((zX5_may sc ar 1) : Int32).toInt64))) + (((zX5_may sc ar 2) : Int32).toInt64))) + (((zX5_may sc ar 3) : Int32).toInt64))) + (((zX5_may sc ar 4) : Int32).toInt64))) + (((zX5_may sc ar 5) : Int32).toInt64))) + (((zX5_may sc ar 7) : Int32).toInt64))) + (((zX5_may sc ar 8) : Int32).toInt64))), (5, .ref (z 2)), (6, .int 20), (7, .int 8), (8, .int 12)] F dX5_withActs_27 (jL_of E (show 8 < 9 by decide)) rfl rfl ?_
  refine J_ldc2 (pc' := 32) (v := 31) F dX5_withActs_29 kw_559 rfl ?_
  refine J_lload_n (pc' := 33) (q := 2) F dX5_withActs_32 rfl rfl ?_
  refine J_lmul (pc' := 34) F dX5_withActs_33 rfl ?_
  refine J_aload_n (pc' := 35) (q := 0) F dX5_withActs_34 rfl rfl ?_
  refine J_iload (pc' := 37) (q := 6) F dX5_withActs_35 rfl rfl ?_
  refine J_goRie (wc := (wC cI g sc ar)) (av := [.ref (g 0), .int 12]) (rest := [.long (31 * ((31 * ((31 * ((31 * ((31 * ((31 * ((31 * ((31 * ((31 * x1) + (((zX5_may sc ar 0) : Int32).toInt64))) + (((zX5_may sc ar 1) : Int32).toInt64))) + (((zX5_may sc ar 2) : Int32).toInt64))) + (((zX5_may sc ar 3) : Int32).toInt64))) + (((zX5_may sc ar 4) : Int32).toInt64))) + (((zX5_may sc ar 5) : Int32).toInt64))) + (((zX5_may sc ar 7) : Int32).toInt64))) + (((zX5_may sc ar 8) : Int32).toInt64)))]) (v := zX5_may sc ar 12) (pc' := 40) F E (fun _ h => h) (fun H locs hI hp => jrun_V (As := [.int 12]) 0 F E (c_X5_may l D cI cZ z g sc ar 12) kw_567 kw_399 kw_400 rfl kw_401 kw_1 oX5_may ⟨⟨rfl, rfl⟩, ⟨Nat.le_of_ble_eq_true rfl, Nat.le_of_ble_eq_true rfl⟩, Nat.zero_le _, Nat.zero_le _⟩ rfl rfl (Nat.le_of_ble_eq_true rfl) dX5_withActs_37 rfl rfl (jI_P E hI) hp) rfl ?_
  refine J_i2l (pc' := 41) (v := ((zX5_may sc ar 12) : Int32).toInt64) F dX5_withActs_40 rfl rfl ?_
  refine J_ladd (pc' := 42) F dX5_withActs_41 rfl ?_
  refine J_lstore_n (pc' := 43) [1, 2, 0, 3, 4, 5, 6] [(0, .ref (g 0)), (1, .long x1), (3, .long ((31 * ((31 * ((31 * ((31 * ((31 * ((31 * ((31 * ((31 * ((31 * x1) + (((zX5_may sc ar 0) : Int32).toInt64))) + (((zX5_may sc ar 1) : Int32).toInt64))) + (((zX5_may sc ar 2) : Int32).toInt64))) + (((zX5_may sc ar 3) : Int32).toInt64))) + (((zX5_may sc ar 4) : Int32).toInt64))) + (((zX5_may sc ar 5) : Int32).toInt64))) + (((zX5_may sc ar 7) : Int32).toInt64))) + (((zX5_may sc ar 8) : Int32).toInt64))) + (((zX5_may sc ar 12) : Int32).toInt64))), (5, .ref (z 2)), (6, .int 20), (7, .int 8), (8, .int 12)] F dX5_withActs_42 rfl (jL_of E (show 3 + 1 < 9 by decide)) rfl rfl ?_
  refine J_iinc (v := 9) (q := 5) (pc' := 46) [1, 2, 3, 4, 5, 0, 6] [(0, .ref (g 0)), (1, .long x1), (3, .long ((31 * ((31 * ((31 * ((31 * ((31 * ((31 * ((31 * ((31 * ((31 * x1) + (((zX5_may sc ar 0) : Int32).toInt64))) + (((zX5_may sc ar 1) : Int32).toInt64))) + (((zX5_may sc ar 2) : Int32).toInt64))) + (((zX5_may sc ar 3) : Int32).toInt64))) + (((zX5_may sc ar 4) : Int32).toInt64))) + (((zX5_may sc ar 5) : Int32).toInt64))) + (((zX5_may sc ar 7) : Int32).toInt64))) + (((zX5_may sc ar 8) : Int32).toInt64))) + (((zX5_may sc ar 12) : Int32).toInt64))), (5, .ref (z 2)), (6, .int 20), (7, .int 9), (8, .int 12)] F dX5_withActs_43 rfl (by decide) (jL_of E (show 7 < 9 by decide)) rfl rfl ?_
  refine J_goto (tgt := 15) F dX5_withActs_46 (by decide) ?_
  refine J_iload (pc' := 17) (q := 5) F dX5_withActs_15 rfl rfl ?_
  refine J_iload (pc' := 19) (q := 4) F dX5_withActs_17 rfl rfl ?_
  refine J_icmp_ge (tgt := 49) (pc' := 22) F dX5_withActs_19 (by decide) rfl (fun c9 => absurd c9 (by decide)) (fun _ => ?_)
  refine J_aload (pc' := 24) (q := 3) F dX5_withActs_22 rfl rfl ?_
  refine J_iload (pc' := 26) (q := 5) F dX5_withActs_24 rfl rfl ?_
  refine J_tiald (v := .int 15) (pc' := 27) F dX5_withActs_26 (fun _ _ _ h => h.2.2.2.2.2.2.2.1) (by unfold vp_in; decide) rfl rfl ?_
  refine J_istore (pc' := 29) [1, 2, 3, 4, 5, 6, 0] [(0, .ref (g 0)), (1, .long x1), (3, .long ((31 * ((31 * ((31 * ((31 * ((31 * ((31 * ((31 * ((31 * ((31 * x1) + (((zX5_may sc ar 0) : Int32).toInt64))) + (((zX5_may sc ar 1) : Int32).toInt64))) + (((zX5_may sc ar 2) : Int32).toInt64))) + (((zX5_may sc ar 3) : Int32).toInt64))) + (((zX5_may sc ar 4) : Int32).toInt64))) + (((zX5_may sc ar 5) : Int32).toInt64))) + (((zX5_may sc ar 7) : Int32).toInt64))) + (((zX5_may sc ar 8) : Int32).toInt64))) + (((zX5_may sc ar 12) : Int32).toInt64))), (5, .ref (z 2)), (6, .int 20), (7, .int 9), (8, .int 15)] F dX5_withActs_27 (jL_of E (show 8 < 9 by decide)) rfl rfl ?_
  refine J_ldc2 (pc' := 32) (v := 31) F dX5_withActs_29 kw_559 rfl ?_
  refine J_lload_n (pc' := 33) (q := 2) F dX5_withActs_32 rfl rfl ?_
  refine J_lmul (pc' := 34) F dX5_withActs_33 rfl ?_
  refine J_aload_n (pc' := 35) (q := 0) F dX5_withActs_34 rfl rfl ?_
  refine J_iload (pc' := 37) (q := 6) F dX5_withActs_35 rfl rfl ?_
  refine J_goRie (wc := (wC cI g sc ar)) (av := [.ref (g 0), .int 15]) (rest := [.long (31 * ((31 * ((31 * ((31 * ((31 * ((31 * ((31 * ((31 * ((31 * ((31 * x1) + (((zX5_may sc ar 0) : Int32).toInt64))) + (((zX5_may sc ar 1) : Int32).toInt64))) + (((zX5_may sc ar 2) : Int32).toInt64))) + (((zX5_may sc ar 3) : Int32).toInt64))) + (((zX5_may sc ar 4) : Int32).toInt64))) + (((zX5_may sc ar 5) : Int32).toInt64))) + (((zX5_may sc ar 7) : Int32).toInt64))) + (((zX5_may sc ar 8) : Int32).toInt64))) + (((zX5_may sc ar 12) : Int32).toInt64)))]) (v := zX5_may sc ar 15) (pc' := 40) F E (fun _ h => h) (fun H locs hI hp => jrun_V (As := [.int 15]) 0 F E (c_X5_may l D cI cZ z g sc ar 15) kw_567 kw_399 kw_400 rfl kw_401 kw_1 oX5_may ⟨⟨rfl, rfl⟩, ⟨Nat.le_of_ble_eq_true rfl, Nat.le_of_ble_eq_true rfl⟩, Nat.zero_le _, Nat.zero_le _⟩ rfl rfl (Nat.le_of_ble_eq_true rfl) dX5_withActs_37 rfl rfl (jI_P E hI) hp) rfl ?_
  refine J_i2l (pc' := 41) (v := ((zX5_may sc ar 15) : Int32).toInt64) F dX5_withActs_40 rfl rfl ?_
  refine J_ladd (pc' := 42) F dX5_withActs_41 rfl ?_
  refine J_lstore_n (pc' := 43) [1, 2, 0, 3, 4, 5, 6] [(0, .ref (g 0)), (1, .long x1), (3, .long ((31 * ((31 * ((31 * ((31 * ((31 * ((31 * ((31 * ((31 * ((31 * ((31 * x1) + (((zX5_may sc ar 0) : Int32).toInt64))) + (((zX5_may sc ar 1) : Int32).toInt64))) + (((zX5_may sc ar 2) : Int32).toInt64))) + (((zX5_may sc ar 3) : Int32).toInt64))) + (((zX5_may sc ar 4) : Int32).toInt64))) + (((zX5_may sc ar 5) : Int32).toInt64))) + (((zX5_may sc ar 7) : Int32).toInt64))) + (((zX5_may sc ar 8) : Int32).toInt64))) + (((zX5_may sc ar 12) : Int32).toInt64))) + (((zX5_may sc ar 15) : Int32).toInt64))), (5, .ref (z 2)), (6, .int 20), (7, .int 9), (8, .int 15)] F dX5_withActs_42 rfl (jL_of E (show 3 + 1 < 9 by decide)) rfl rfl ?_
  refine J_iinc (v := 10) (q := 5) (pc' := 46) [1, 2, 3, 4, 5, 0, 6] [(0, .ref (g 0)), (1, .long x1), (3, .long ((31 * ((31 * ((31 * ((31 * ((31 * ((31 * ((31 * ((31 * ((31 * ((31 * x1) + (((zX5_may sc ar 0) : Int32).toInt64))) + (((zX5_may sc ar 1) : Int32).toInt64))) + (((zX5_may sc ar 2) : Int32).toInt64))) + (((zX5_may sc ar 3) : Int32).toInt64))) + (((zX5_may sc ar 4) : Int32).toInt64))) + (((zX5_may sc ar 5) : Int32).toInt64))) + (((zX5_may sc ar 7) : Int32).toInt64))) + (((zX5_may sc ar 8) : Int32).toInt64))) + (((zX5_may sc ar 12) : Int32).toInt64))) + (((zX5_may sc ar 15) : Int32).toInt64))), (5, .ref (z 2)), (6, .int 20), (7, .int 10), (8, .int 15)] F dX5_withActs_43 rfl (by decide) (jL_of E (show 7 < 9 by decide)) rfl rfl ?_
  refine J_goto (tgt := 15) F dX5_withActs_46 (by decide) ?_
  refine J_iload (pc' := 17) (q := 5) F dX5_withActs_15 rfl rfl ?_
  refine J_iload (pc' := 19) (q := 4) F dX5_withActs_17 rfl rfl ?_
  refine J_icmp_ge (tgt := 49) (pc' := 22) F dX5_withActs_19 (by decide) rfl (fun c9 => absurd c9 (by decide)) (fun _ => ?_)
  refine J_aload (pc' := 24) (q := 3) F dX5_withActs_22 rfl rfl ?_
  refine J_iload (pc' := 26) (q := 5) F dX5_withActs_24 rfl rfl ?_
  refine J_tiald (v := .int 18) (pc' := 27) F dX5_withActs_26 (fun _ _ _ h => h.2.2.2.2.2.2.2.1) (by unfold vp_in; decide) rfl rfl ?_
  refine J_istore (pc' := 29) [1, 2, 3, 4, 5, 6, 0] [(0, .ref (g 0)), (1, .long x1), (3, .long ((31 * ((31 * ((31 * ((31 * ((31 * ((31 * ((31 * ((31 * ((31 * ((31 * x1) + (((zX5_may sc ar 0) : Int32).toInt64))) + (((zX5_may sc ar 1) : Int32).toInt64))) + (((zX5_may sc ar 2) : Int32).toInt64))) + (((zX5_may sc ar 3) : Int32).toInt64))) + (((zX5_may sc ar 4) : Int32).toInt64))) + (((zX5_may sc ar 5) : Int32).toInt64))) + (((zX5_may sc ar 7) : Int32).toInt64))) + (((zX5_may sc ar 8) : Int32).toInt64))) + (((zX5_may sc ar 12) : Int32).toInt64))) + (((zX5_may sc ar 15) : Int32).toInt64))), (5, .ref (z 2)), (6, .int 20), (7, .int 10), (8, .int 18)] F dX5_withActs_27 (jL_of E (show 8 < 9 by decide)) rfl rfl ?_
  refine J_ldc2 (pc' := 32) (v := 31) F dX5_withActs_29 kw_559 rfl ?_
  refine J_lload_n (pc' := 33) (q := 2) F dX5_withActs_32 rfl rfl ?_
  refine J_lmul (pc' := 34) F dX5_withActs_33 rfl ?_
  refine J_aload_n (pc' := 35) (q := 0) F dX5_withActs_34 rfl rfl ?_
  refine J_iload (pc' := 37) (q := 6) F dX5_withActs_35 rfl rfl ?_
  refine J_goRie (wc := (wC cI g sc ar)) (av := [.ref (g 0), .int 18]) (rest := [.long (31 * ((31 * ((31 * ((31 * ((31 * ((31 * ((31 * ((31 * ((31 * ((31 * ((31 * x1) + (((zX5_may sc ar 0) : Int32).toInt64))) + (((zX5_may sc ar 1) : Int32).toInt64))) + (((zX5_may sc ar 2) : Int32).toInt64))) + (((zX5_may sc ar 3) : Int32).toInt64))) + (((zX5_may sc ar 4) : Int32).toInt64))) + (((zX5_may sc ar 5) : Int32).toInt64))) + (((zX5_may sc ar 7) : Int32).toInt64))) + (((zX5_may sc ar 8) : Int32).toInt64))) + (((zX5_may sc ar 12) : Int32).toInt64))) + (((zX5_may sc ar 15) : Int32).toInt64)))]) (v := zX5_may sc ar 18) (pc' := 40) F E (fun _ h => h) (fun H locs hI hp => jrun_V (As := [.int 18]) 0 F E (c_X5_may l D cI cZ z g sc ar 18) kw_567 kw_399 kw_400 rfl kw_401 kw_1 oX5_may ⟨⟨rfl, rfl⟩, ⟨Nat.le_of_ble_eq_true rfl, Nat.le_of_ble_eq_true rfl⟩, Nat.zero_le _, Nat.zero_le _⟩ rfl rfl (Nat.le_of_ble_eq_true rfl) dX5_withActs_37 rfl rfl (jI_P E hI) hp) rfl ?_
  refine J_i2l (pc' := 41) (v := ((zX5_may sc ar 18) : Int32).toInt64) F dX5_withActs_40 rfl rfl ?_
  refine J_ladd (pc' := 42) F dX5_withActs_41 rfl ?_
  refine J_lstore_n (pc' := 43) [1, 2, 0, 3, 4, 5, 6] [(0, .ref (g 0)), (1, .long x1), (3, .long ((31 * ((31 * ((31 * ((31 * ((31 * ((31 * ((31 * ((31 * ((31 * ((31 * ((31 * x1) + (((zX5_may sc ar 0) : Int32).toInt64))) + (((zX5_may sc ar 1) : Int32).toInt64))) + (((zX5_may sc ar 2) : Int32).toInt64))) + (((zX5_may sc ar 3) : Int32).toInt64))) + (((zX5_may sc ar 4) : Int32).toInt64))) + (((zX5_may sc ar 5) : Int32).toInt64))) + (((zX5_may sc ar 7) : Int32).toInt64))) + (((zX5_may sc ar 8) : Int32).toInt64))) + (((zX5_may sc ar 12) : Int32).toInt64))) + (((zX5_may sc ar 15) : Int32).toInt64))) + (((zX5_may sc ar 18) : Int32).toInt64))), (5, .ref (z 2)), (6, .int 20), (7, .int 10), (8, .int 18)] F dX5_withActs_42 rfl (jL_of E (show 3 + 1 < 9 by decide)) rfl rfl ?_
  refine J_iinc (v := 11) (q := 5) (pc' := 46) [1, 2, 3, 4, 5, 0, 6] [(0, .ref (g 0)), (1, .long x1), (3, .long ((31 * ((31 * ((31 * ((31 * ((31 * ((31 * ((31 * ((31 * ((31 * ((31 * ((31 * x1) + (((zX5_may sc ar 0) : Int32).toInt64))) + (((zX5_may sc ar 1) : Int32).toInt64))) + (((zX5_may sc ar 2) : Int32).toInt64))) + (((zX5_may sc ar 3) : Int32).toInt64))) + (((zX5_may sc ar 4) : Int32).toInt64))) + (((zX5_may sc ar 5) : Int32).toInt64))) + (((zX5_may sc ar 7) : Int32).toInt64))) + (((zX5_may sc ar 8) : Int32).toInt64))) + (((zX5_may sc ar 12) : Int32).toInt64))) + (((zX5_may sc ar 15) : Int32).toInt64))) + (((zX5_may sc ar 18) : Int32).toInt64))), (5, .ref (z 2)), (6, .int 20), (7, .int 11), (8, .int 18)] F dX5_withActs_43 rfl (by decide) (jL_of E (show 7 < 9 by decide)) rfl rfl ?_
  refine J_goto (tgt := 15) F dX5_withActs_46 (by decide) ?_
  refine J_iload (pc' := 17) (q := 5) F dX5_withActs_15 rfl rfl ?_
  refine J_iload (pc' := 19) (q := 4) F dX5_withActs_17 rfl rfl ?_
  refine J_icmp_ge (tgt := 49) (pc' := 22) F dX5_withActs_19 (by decide) rfl (fun c9 => absurd c9 (by decide)) (fun _ => ?_)
  refine J_aload (pc' := 24) (q := 3) F dX5_withActs_22 rfl rfl ?_
  refine J_iload (pc' := 26) (q := 5) F dX5_withActs_24 rfl rfl ?_
  refine J_tiald (v := .int 21) (pc' := 27) F dX5_withActs_26 (fun _ _ _ h => h.2.2.2.2.2.2.2.1) (by unfold vp_in; decide) rfl rfl ?_
  refine J_istore (pc' := 29) [1, 2, 3, 4, 5, 6, 0] [(0, .ref (g 0)), (1, .long x1), (3, .long ((31 * ((31 * ((31 * ((31 * ((31 * ((31 * ((31 * ((31 * ((31 * ((31 * ((31 * x1) + (((zX5_may sc ar 0) : Int32).toInt64))) + (((zX5_may sc ar 1) : Int32).toInt64))) + (((zX5_may sc ar 2) : Int32).toInt64))) + (((zX5_may sc ar 3) : Int32).toInt64))) + (((zX5_may sc ar 4) : Int32).toInt64))) + (((zX5_may sc ar 5) : Int32).toInt64))) + (((zX5_may sc ar 7) : Int32).toInt64))) + (((zX5_may sc ar 8) : Int32).toInt64))) + (((zX5_may sc ar 12) : Int32).toInt64))) + (((zX5_may sc ar 15) : Int32).toInt64))) + (((zX5_may sc ar 18) : Int32).toInt64))), (5, .ref (z 2)), (6, .int 20), (7, .int 11), (8, .int 21)] F dX5_withActs_27 (jL_of E (show 8 < 9 by decide)) rfl rfl ?_
  refine J_ldc2 (pc' := 32) (v := 31) F dX5_withActs_29 kw_559 rfl ?_
  refine J_lload_n (pc' := 33) (q := 2) F dX5_withActs_32 rfl rfl ?_
  refine J_lmul (pc' := 34) F dX5_withActs_33 rfl ?_
  refine J_aload_n (pc' := 35) (q := 0) F dX5_withActs_34 rfl rfl ?_
  refine J_iload (pc' := 37) (q := 6) F dX5_withActs_35 rfl rfl ?_
  refine J_goRie (wc := (wC cI g sc ar)) (av := [.ref (g 0), .int 21]) (rest := [.long (31 * ((31 * ((31 * ((31 * ((31 * ((31 * ((31 * ((31 * ((31 * ((31 * ((31 * ((31 * x1) + (((zX5_may sc ar 0) : Int32).toInt64))) + (((zX5_may sc ar 1) : Int32).toInt64))) + (((zX5_may sc ar 2) : Int32).toInt64))) + (((zX5_may sc ar 3) : Int32).toInt64))) + (((zX5_may sc ar 4) : Int32).toInt64))) + (((zX5_may sc ar 5) : Int32).toInt64))) + (((zX5_may sc ar 7) : Int32).toInt64))) + (((zX5_may sc ar 8) : Int32).toInt64))) + (((zX5_may sc ar 12) : Int32).toInt64))) + (((zX5_may sc ar 15) : Int32).toInt64))) + (((zX5_may sc ar 18) : Int32).toInt64)))]) (v := zX5_may sc ar 21) (pc' := 40) F E (fun _ h => h) (fun H locs hI hp => jrun_V (As := [.int 21]) 0 F E (c_X5_may l D cI cZ z g sc ar 21) kw_567 kw_399 kw_400 rfl kw_401 kw_1 oX5_may ⟨⟨rfl, rfl⟩, ⟨Nat.le_of_ble_eq_true rfl, Nat.le_of_ble_eq_true rfl⟩, Nat.zero_le _, Nat.zero_le _⟩ rfl rfl (Nat.le_of_ble_eq_true rfl) dX5_withActs_37 rfl rfl (jI_P E hI) hp) rfl ?_
  refine J_i2l (pc' := 41) (v := ((zX5_may sc ar 21) : Int32).toInt64) F dX5_withActs_40 rfl rfl ?_
  refine J_ladd (pc' := 42) F dX5_withActs_41 rfl ?_
  refine J_lstore_n (pc' := 43) [1, 2, 0, 3, 4, 5, 6] [(0, .ref (g 0)), (1, .long x1), (3, .long ((31 * ((31 * ((31 * ((31 * ((31 * ((31 * ((31 * ((31 * ((31 * ((31 * ((31 * ((31 * x1) + (((zX5_may sc ar 0) : Int32).toInt64))) + (((zX5_may sc ar 1) : Int32).toInt64))) + (((zX5_may sc ar 2) : Int32).toInt64))) + (((zX5_may sc ar 3) : Int32).toInt64))) + (((zX5_may sc ar 4) : Int32).toInt64))) + (((zX5_may sc ar 5) : Int32).toInt64))) + (((zX5_may sc ar 7) : Int32).toInt64))) + (((zX5_may sc ar 8) : Int32).toInt64))) + (((zX5_may sc ar 12) : Int32).toInt64))) + (((zX5_may sc ar 15) : Int32).toInt64))) + (((zX5_may sc ar 18) : Int32).toInt64))) + (((zX5_may sc ar 21) : Int32).toInt64))), (5, .ref (z 2)), (6, .int 20), (7, .int 11), (8, .int 21)] F dX5_withActs_42 rfl (jL_of E (show 3 + 1 < 9 by decide)) rfl rfl ?_
  refine J_iinc (v := 12) (q := 5) (pc' := 46) [1, 2, 3, 4, 5, 0, 6] [(0, .ref (g 0)), (1, .long x1), (3, .long ((31 * ((31 * ((31 * ((31 * ((31 * ((31 * ((31 * ((31 * ((31 * ((31 * ((31 * ((31 * x1) + (((zX5_may sc ar 0) : Int32).toInt64))) + (((zX5_may sc ar 1) : Int32).toInt64))) + (((zX5_may sc ar 2) : Int32).toInt64))) + (((zX5_may sc ar 3) : Int32).toInt64))) + (((zX5_may sc ar 4) : Int32).toInt64))) + (((zX5_may sc ar 5) : Int32).toInt64))) + (((zX5_may sc ar 7) : Int32).toInt64))) + (((zX5_may sc ar 8) : Int32).toInt64))) + (((zX5_may sc ar 12) : Int32).toInt64))) + (((zX5_may sc ar 15) : Int32).toInt64))) + (((zX5_may sc ar 18) : Int32).toInt64))) + (((zX5_may sc ar 21) : Int32).toInt64))), (5, .ref (z 2)), (6, .int 20), (7, .int 12), (8, .int 21)] F dX5_withActs_43 rfl (by decide) (jL_of E (show 7 < 9 by decide)) rfl rfl ?_
  refine J_goto (tgt := 15) F dX5_withActs_46 (by decide) ?_
  refine J_iload (pc' := 17) (q := 5) F dX5_withActs_15 rfl rfl ?_
  refine J_iload (pc' := 19) (q := 4) F dX5_withActs_17 rfl rfl ?_
  refine J_icmp_ge (tgt := 49) (pc' := 22) F dX5_withActs_19 (by decide) rfl (fun c9 => absurd c9 (by decide)) (fun _ => ?_)
  refine J_aload (pc' := 24) (q := 3) F dX5_withActs_22 rfl rfl ?_
  refine J_iload (pc' := 26) (q := 5) F dX5_withActs_24 rfl rfl ?_
  refine J_tiald (v := .int 22) (pc' := 27) F dX5_withActs_26 (fun _ _ _ h => h.2.2.2.2.2.2.2.1) (by unfold vp_in; decide) rfl rfl ?_
  refine J_istore (pc' := 29) [1, 2, 3, 4, 5, 6, 0] [(0, .ref (g 0)), (1, .long x1), (3, .long ((31 * ((31 * ((31 * ((31 * ((31 * ((31 * ((31 * ((31 * ((31 * ((31 * ((31 * ((31 * x1) + (((zX5_may sc ar 0) : Int32).toInt64))) + (((zX5_may sc ar 1) : Int32).toInt64))) + (((zX5_may sc ar 2) : Int32).toInt64))) + (((zX5_may sc ar 3) : Int32).toInt64))) + (((zX5_may sc ar 4) : Int32).toInt64))) + (((zX5_may sc ar 5) : Int32).toInt64))) + (((zX5_may sc ar 7) : Int32).toInt64))) + (((zX5_may sc ar 8) : Int32).toInt64))) + (((zX5_may sc ar 12) : Int32).toInt64))) + (((zX5_may sc ar 15) : Int32).toInt64))) + (((zX5_may sc ar 18) : Int32).toInt64))) + (((zX5_may sc ar 21) : Int32).toInt64))), (5, .ref (z 2)), (6, .int 20), (7, .int 12), (8, .int 22)] F dX5_withActs_27 (jL_of E (show 8 < 9 by decide)) rfl rfl ?_
  refine J_ldc2 (pc' := 32) (v := 31) F dX5_withActs_29 kw_559 rfl ?_
  refine J_lload_n (pc' := 33) (q := 2) F dX5_withActs_32 rfl rfl ?_
  refine J_lmul (pc' := 34) F dX5_withActs_33 rfl ?_
  refine J_aload_n (pc' := 35) (q := 0) F dX5_withActs_34 rfl rfl ?_
  refine J_iload (pc' := 37) (q := 6) F dX5_withActs_35 rfl rfl ?_
  refine J_goRie (wc := (wC cI g sc ar)) (av := [.ref (g 0), .int 22]) (rest := [.long (31 * ((31 * ((31 * ((31 * ((31 * ((31 * ((31 * ((31 * ((31 * ((31 * ((31 * ((31 * ((31 * x1) + (((zX5_may sc ar 0) : Int32).toInt64))) + (((zX5_may sc ar 1) : Int32).toInt64))) + (((zX5_may sc ar 2) : Int32).toInt64))) + (((zX5_may sc ar 3) : Int32).toInt64))) + (((zX5_may sc ar 4) : Int32).toInt64))) + (((zX5_may sc ar 5) : Int32).toInt64))) + (((zX5_may sc ar 7) : Int32).toInt64))) + (((zX5_may sc ar 8) : Int32).toInt64))) + (((zX5_may sc ar 12) : Int32).toInt64))) + (((zX5_may sc ar 15) : Int32).toInt64))) + (((zX5_may sc ar 18) : Int32).toInt64))) + (((zX5_may sc ar 21) : Int32).toInt64)))]) (v := zX5_may sc ar 22) (pc' := 40) F E (fun _ h => h) (fun H locs hI hp => jrun_V (As := [.int 22]) 0 F E (c_X5_may l D cI cZ z g sc ar 22) kw_567 kw_399 kw_400 rfl kw_401 kw_1 oX5_may ⟨⟨rfl, rfl⟩, ⟨Nat.le_of_ble_eq_true rfl, Nat.le_of_ble_eq_true rfl⟩, Nat.zero_le _, Nat.zero_le _⟩ rfl rfl (Nat.le_of_ble_eq_true rfl) dX5_withActs_37 rfl rfl (jI_P E hI) hp) rfl ?_
  refine J_i2l (pc' := 41) (v := ((zX5_may sc ar 22) : Int32).toInt64) F dX5_withActs_40 rfl rfl ?_
  refine J_ladd (pc' := 42) F dX5_withActs_41 rfl ?_
  refine J_lstore_n (pc' := 43) [1, 2, 0, 3, 4, 5, 6] [(0, .ref (g 0)), (1, .long x1), (3, .long ((31 * ((31 * ((31 * ((31 * ((31 * ((31 * ((31 * ((31 * ((31 * ((31 * ((31 * ((31 * ((31 * x1) + (((zX5_may sc ar 0) : Int32).toInt64))) + (((zX5_may sc ar 1) : Int32).toInt64))) + (((zX5_may sc ar 2) : Int32).toInt64))) + (((zX5_may sc ar 3) : Int32).toInt64))) + (((zX5_may sc ar 4) : Int32).toInt64))) + (((zX5_may sc ar 5) : Int32).toInt64))) + (((zX5_may sc ar 7) : Int32).toInt64))) + (((zX5_may sc ar 8) : Int32).toInt64))) + (((zX5_may sc ar 12) : Int32).toInt64))) + (((zX5_may sc ar 15) : Int32).toInt64))) + (((zX5_may sc ar 18) : Int32).toInt64))) + (((zX5_may sc ar 21) : Int32).toInt64))) + (((zX5_may sc ar 22) : Int32).toInt64))), (5, .ref (z 2)), (6, .int 20), (7, .int 12), (8, .int 22)] F dX5_withActs_42 rfl (jL_of E (show 3 + 1 < 9 by decide)) rfl rfl ?_
  refine J_iinc (v := 13) (q := 5) (pc' := 46) [1, 2, 3, 4, 5, 0, 6] [(0, .ref (g 0)), (1, .long x1), (3, .long ((31 * ((31 * ((31 * ((31 * ((31 * ((31 * ((31 * ((31 * ((31 * ((31 * ((31 * ((31 * ((31 * x1) + (((zX5_may sc ar 0) : Int32).toInt64))) + (((zX5_may sc ar 1) : Int32).toInt64))) + (((zX5_may sc ar 2) : Int32).toInt64))) + (((zX5_may sc ar 3) : Int32).toInt64))) + (((zX5_may sc ar 4) : Int32).toInt64))) + (((zX5_may sc ar 5) : Int32).toInt64))) + (((zX5_may sc ar 7) : Int32).toInt64))) + (((zX5_may sc ar 8) : Int32).toInt64))) + (((zX5_may sc ar 12) : Int32).toInt64))) + (((zX5_may sc ar 15) : Int32).toInt64))) + (((zX5_may sc ar 18) : Int32).toInt64))) + (((zX5_may sc ar 21) : Int32).toInt64))) + (((zX5_may sc ar 22) : Int32).toInt64))), (5, .ref (z 2)), (6, .int 20), (7, .int 13), (8, .int 22)] F dX5_withActs_43 rfl (by decide) (jL_of E (show 7 < 9 by decide)) rfl rfl ?_
  refine J_goto (tgt := 15) F dX5_withActs_46 (by decide) ?_
  refine J_iload (pc' := 17) (q := 5) F dX5_withActs_15 rfl rfl ?_
  refine J_iload (pc' := 19) (q := 4) F dX5_withActs_17 rfl rfl ?_
  refine J_icmp_ge (tgt := 49) (pc' := 22) F dX5_withActs_19 (by decide) rfl (fun c9 => absurd c9 (by decide)) (fun _ => ?_)
  refine J_aload (pc' := 24) (q := 3) F dX5_withActs_22 rfl rfl ?_
  refine J_iload (pc' := 26) (q := 5) F dX5_withActs_24 rfl rfl ?_
  refine J_tiald (v := .int 25) (pc' := 27) F dX5_withActs_26 (fun _ _ _ h => h.2.2.2.2.2.2.2.1) (by unfold vp_in; decide) rfl rfl ?_
  refine J_istore (pc' := 29) [1, 2, 3, 4, 5, 6, 0] [(0, .ref (g 0)), (1, .long x1), (3, .long ((31 * ((31 * ((31 * ((31 * ((31 * ((31 * ((31 * ((31 * ((31 * ((31 * ((31 * ((31 * ((31 * x1) + (((zX5_may sc ar 0) : Int32).toInt64))) + (((zX5_may sc ar 1) : Int32).toInt64))) + (((zX5_may sc ar 2) : Int32).toInt64))) + (((zX5_may sc ar 3) : Int32).toInt64))) + (((zX5_may sc ar 4) : Int32).toInt64))) + (((zX5_may sc ar 5) : Int32).toInt64))) + (((zX5_may sc ar 7) : Int32).toInt64))) + (((zX5_may sc ar 8) : Int32).toInt64))) + (((zX5_may sc ar 12) : Int32).toInt64))) + (((zX5_may sc ar 15) : Int32).toInt64))) + (((zX5_may sc ar 18) : Int32).toInt64))) + (((zX5_may sc ar 21) : Int32).toInt64))) + (((zX5_may sc ar 22) : Int32).toInt64))), (5, .ref (z 2)), (6, .int 20), (7, .int 13), (8, .int 25)] F dX5_withActs_27 (jL_of E (show 8 < 9 by decide)) rfl rfl ?_
  refine J_ldc2 (pc' := 32) (v := 31) F dX5_withActs_29 kw_559 rfl ?_
  refine J_lload_n (pc' := 33) (q := 2) F dX5_withActs_32 rfl rfl ?_
  refine J_lmul (pc' := 34) F dX5_withActs_33 rfl ?_
  refine J_aload_n (pc' := 35) (q := 0) F dX5_withActs_34 rfl rfl ?_
  refine J_iload (pc' := 37) (q := 6) F dX5_withActs_35 rfl rfl ?_
  refine J_goRie (wc := (wC cI g sc ar)) (av := [.ref (g 0), .int 25]) (rest := [.long (31 * ((31 * ((31 * ((31 * ((31 * ((31 * ((31 * ((31 * ((31 * ((31 * ((31 * ((31 * ((31 * ((31 * x1) + (((zX5_may sc ar 0) : Int32).toInt64))) + (((zX5_may sc ar 1) : Int32).toInt64))) + (((zX5_may sc ar 2) : Int32).toInt64))) + (((zX5_may sc ar 3) : Int32).toInt64))) + (((zX5_may sc ar 4) : Int32).toInt64))) + (((zX5_may sc ar 5) : Int32).toInt64))) + (((zX5_may sc ar 7) : Int32).toInt64))) + (((zX5_may sc ar 8) : Int32).toInt64))) + (((zX5_may sc ar 12) : Int32).toInt64))) + (((zX5_may sc ar 15) : Int32).toInt64))) + (((zX5_may sc ar 18) : Int32).toInt64))) + (((zX5_may sc ar 21) : Int32).toInt64))) + (((zX5_may sc ar 22) : Int32).toInt64)))]) (v := zX5_may sc ar 25) (pc' := 40) F E (fun _ h => h) (fun H locs hI hp => jrun_V (As := [.int 25]) 0 F E (c_X5_may l D cI cZ z g sc ar 25) kw_567 kw_399 kw_400 rfl kw_401 kw_1 oX5_may ⟨⟨rfl, rfl⟩, ⟨Nat.le_of_ble_eq_true rfl, Nat.le_of_ble_eq_true rfl⟩, Nat.zero_le _, Nat.zero_le _⟩ rfl rfl (Nat.le_of_ble_eq_true rfl) dX5_withActs_37 rfl rfl (jI_P E hI) hp) rfl ?_
  refine J_i2l (pc' := 41) (v := ((zX5_may sc ar 25) : Int32).toInt64) F dX5_withActs_40 rfl rfl ?_
  refine J_ladd (pc' := 42) F dX5_withActs_41 rfl ?_
  refine J_lstore_n (pc' := 43) [1, 2, 0, 3, 4, 5, 6] [(0, .ref (g 0)), (1, .long x1), (3, .long ((31 * ((31 * ((31 * ((31 * ((31 * ((31 * ((31 * ((31 * ((31 * ((31 * ((31 * ((31 * ((31 * ((31 * x1) + (((zX5_may sc ar 0) : Int32).toInt64))) + (((zX5_may sc ar 1) : Int32).toInt64))) + (((zX5_may sc ar 2) : Int32).toInt64))) + (((zX5_may sc ar 3) : Int32).toInt64))) + (((zX5_may sc ar 4) : Int32).toInt64))) + (((zX5_may sc ar 5) : Int32).toInt64))) + (((zX5_may sc ar 7) : Int32).toInt64))) + (((zX5_may sc ar 8) : Int32).toInt64))) + (((zX5_may sc ar 12) : Int32).toInt64))) + (((zX5_may sc ar 15) : Int32).toInt64))) + (((zX5_may sc ar 18) : Int32).toInt64))) + (((zX5_may sc ar 21) : Int32).toInt64))) + (((zX5_may sc ar 22) : Int32).toInt64))) + (((zX5_may sc ar 25) : Int32).toInt64))), (5, .ref (z 2)), (6, .int 20), (7, .int 13), (8, .int 25)] F dX5_withActs_42 rfl (jL_of E (show 3 + 1 < 9 by decide)) rfl rfl ?_
  refine J_iinc (v := 14) (q := 5) (pc' := 46) [1, 2, 3, 4, 5, 0, 6] [(0, .ref (g 0)), (1, .long x1), (3, .long ((31 * ((31 * ((31 * ((31 * ((31 * ((31 * ((31 * ((31 * ((31 * ((31 * ((31 * ((31 * ((31 * ((31 * x1) + (((zX5_may sc ar 0) : Int32).toInt64))) + (((zX5_may sc ar 1) : Int32).toInt64))) + (((zX5_may sc ar 2) : Int32).toInt64))) + (((zX5_may sc ar 3) : Int32).toInt64))) + (((zX5_may sc ar 4) : Int32).toInt64))) + (((zX5_may sc ar 5) : Int32).toInt64))) + (((zX5_may sc ar 7) : Int32).toInt64))) + (((zX5_may sc ar 8) : Int32).toInt64))) + (((zX5_may sc ar 12) : Int32).toInt64))) + (((zX5_may sc ar 15) : Int32).toInt64))) + (((zX5_may sc ar 18) : Int32).toInt64))) + (((zX5_may sc ar 21) : Int32).toInt64))) + (((zX5_may sc ar 22) : Int32).toInt64))) + (((zX5_may sc ar 25) : Int32).toInt64))), (5, .ref (z 2)), (6, .int 20), (7, .int 14), (8, .int 25)] F dX5_withActs_43 rfl (by decide) (jL_of E (show 7 < 9 by decide)) rfl rfl ?_
  refine J_goto (tgt := 15) F dX5_withActs_46 (by decide) ?_
  refine J_iload (pc' := 17) (q := 5) F dX5_withActs_15 rfl rfl ?_
  refine J_iload (pc' := 19) (q := 4) F dX5_withActs_17 rfl rfl ?_
  refine J_icmp_ge (tgt := 49) (pc' := 22) F dX5_withActs_19 (by decide) rfl (fun c9 => absurd c9 (by decide)) (fun _ => ?_)
  refine J_aload (pc' := 24) (q := 3) F dX5_withActs_22 rfl rfl ?_
  refine J_iload (pc' := 26) (q := 5) F dX5_withActs_24 rfl rfl ?_
  refine J_tiald (v := .int 26) (pc' := 27) F dX5_withActs_26 (fun _ _ _ h => h.2.2.2.2.2.2.2.1) (by unfold vp_in; decide) rfl rfl ?_
  refine J_istore (pc' := 29) [1, 2, 3, 4, 5, 6, 0] [(0, .ref (g 0)), (1, .long x1), (3, .long ((31 * ((31 * ((31 * ((31 * ((31 * ((31 * ((31 * ((31 * ((31 * ((31 * ((31 * ((31 * ((31 * ((31 * x1) + (((zX5_may sc ar 0) : Int32).toInt64))) + (((zX5_may sc ar 1) : Int32).toInt64))) + (((zX5_may sc ar 2) : Int32).toInt64))) + (((zX5_may sc ar 3) : Int32).toInt64))) + (((zX5_may sc ar 4) : Int32).toInt64))) + (((zX5_may sc ar 5) : Int32).toInt64))) + (((zX5_may sc ar 7) : Int32).toInt64))) + (((zX5_may sc ar 8) : Int32).toInt64))) + (((zX5_may sc ar 12) : Int32).toInt64))) + (((zX5_may sc ar 15) : Int32).toInt64))) + (((zX5_may sc ar 18) : Int32).toInt64))) + (((zX5_may sc ar 21) : Int32).toInt64))) + (((zX5_may sc ar 22) : Int32).toInt64))) + (((zX5_may sc ar 25) : Int32).toInt64))), (5, .ref (z 2)), (6, .int 20), (7, .int 14), (8, .int 26)] F dX5_withActs_27 (jL_of E (show 8 < 9 by decide)) rfl rfl ?_
  refine J_ldc2 (pc' := 32) (v := 31) F dX5_withActs_29 kw_559 rfl ?_
  refine J_lload_n (pc' := 33) (q := 2) F dX5_withActs_32 rfl rfl ?_
  refine J_lmul (pc' := 34) F dX5_withActs_33 rfl ?_
  refine J_aload_n (pc' := 35) (q := 0) F dX5_withActs_34 rfl rfl ?_
  refine J_iload (pc' := 37) (q := 6) F dX5_withActs_35 rfl rfl ?_
  refine J_goRie (wc := (wC cI g sc ar)) (av := [.ref (g 0), .int 26]) (rest := [.long (31 * ((31 * ((31 * ((31 * ((31 * ((31 * ((31 * ((31 * ((31 * ((31 * ((31 * ((31 * ((31 * ((31 * ((31 * x1) + (((zX5_may sc ar 0) : Int32).toInt64))) + (((zX5_may sc ar 1) : Int32).toInt64))) + (((zX5_may sc ar 2) : Int32).toInt64))) + (((zX5_may sc ar 3) : Int32).toInt64))) + (((zX5_may sc ar 4) : Int32).toInt64))) + (((zX5_may sc ar 5) : Int32).toInt64))) + (((zX5_may sc ar 7) : Int32).toInt64))) + (((zX5_may sc ar 8) : Int32).toInt64))) + (((zX5_may sc ar 12) : Int32).toInt64))) + (((zX5_may sc ar 15) : Int32).toInt64))) + (((zX5_may sc ar 18) : Int32).toInt64))) + (((zX5_may sc ar 21) : Int32).toInt64))) + (((zX5_may sc ar 22) : Int32).toInt64))) + (((zX5_may sc ar 25) : Int32).toInt64)))]) (v := zX5_may sc ar 26) (pc' := 40) F E (fun _ h => h) (fun H locs hI hp => jrun_V (As := [.int 26]) 0 F E (c_X5_may l D cI cZ z g sc ar 26) kw_567 kw_399 kw_400 rfl kw_401 kw_1 oX5_may ⟨⟨rfl, rfl⟩, ⟨Nat.le_of_ble_eq_true rfl, Nat.le_of_ble_eq_true rfl⟩, Nat.zero_le _, Nat.zero_le _⟩ rfl rfl (Nat.le_of_ble_eq_true rfl) dX5_withActs_37 rfl rfl (jI_P E hI) hp) rfl ?_
  refine J_i2l (pc' := 41) (v := ((zX5_may sc ar 26) : Int32).toInt64) F dX5_withActs_40 rfl rfl ?_
  refine J_ladd (pc' := 42) F dX5_withActs_41 rfl ?_
  refine J_lstore_n (pc' := 43) [1, 2, 0, 3, 4, 5, 6] [(0, .ref (g 0)), (1, .long x1), (3, .long ((31 * ((31 * ((31 * ((31 * ((31 * ((31 * ((31 * ((31 * ((31 * ((31 * ((31 * ((31 * ((31 * ((31 * ((31 * x1) + (((zX5_may sc ar 0) : Int32).toInt64))) + (((zX5_may sc ar 1) : Int32).toInt64))) + (((zX5_may sc ar 2) : Int32).toInt64))) + (((zX5_may sc ar 3) : Int32).toInt64))) + (((zX5_may sc ar 4) : Int32).toInt64))) + (((zX5_may sc ar 5) : Int32).toInt64))) + (((zX5_may sc ar 7) : Int32).toInt64))) + (((zX5_may sc ar 8) : Int32).toInt64))) + (((zX5_may sc ar 12) : Int32).toInt64))) + (((zX5_may sc ar 15) : Int32).toInt64))) + (((zX5_may sc ar 18) : Int32).toInt64))) + (((zX5_may sc ar 21) : Int32).toInt64))) + (((zX5_may sc ar 22) : Int32).toInt64))) + (((zX5_may sc ar 25) : Int32).toInt64))) + (((zX5_may sc ar 26) : Int32).toInt64))), (5, .ref (z 2)), (6, .int 20), (7, .int 14), (8, .int 26)] F dX5_withActs_42 rfl (jL_of E (show 3 + 1 < 9 by decide)) rfl rfl ?_
  refine J_iinc (v := 15) (q := 5) (pc' := 46) [1, 2, 3, 4, 5, 0, 6] [(0, .ref (g 0)), (1, .long x1), (3, .long ((31 * ((31 * ((31 * ((31 * ((31 * ((31 * ((31 * ((31 * ((31 * ((31 * ((31 * ((31 * ((31 * ((31 * ((31 * x1) + (((zX5_may sc ar 0) : Int32).toInt64))) + (((zX5_may sc ar 1) : Int32).toInt64))) + (((zX5_may sc ar 2) : Int32).toInt64))) + (((zX5_may sc ar 3) : Int32).toInt64))) + (((zX5_may sc ar 4) : Int32).toInt64))) + (((zX5_may sc ar 5) : Int32).toInt64))) + (((zX5_may sc ar 7) : Int32).toInt64))) + (((zX5_may sc ar 8) : Int32).toInt64))) + (((zX5_may sc ar 12) : Int32).toInt64))) + (((zX5_may sc ar 15) : Int32).toInt64))) + (((zX5_may sc ar 18) : Int32).toInt64))) + (((zX5_may sc ar 21) : Int32).toInt64))) + (((zX5_may sc ar 22) : Int32).toInt64))) + (((zX5_may sc ar 25) : Int32).toInt64))) + (((zX5_may sc ar 26) : Int32).toInt64))), (5, .ref (z 2)), (6, .int 20), (7, .int 15), (8, .int 26)] F dX5_withActs_43 rfl (by decide) (jL_of E (show 7 < 9 by decide)) rfl rfl ?_
  refine J_goto (tgt := 15) F dX5_withActs_46 (by decide) ?_
  refine J_iload (pc' := 17) (q := 5) F dX5_withActs_15 rfl rfl ?_
  refine J_iload (pc' := 19) (q := 4) F dX5_withActs_17 rfl rfl ?_
  refine J_icmp_ge (tgt := 49) (pc' := 22) F dX5_withActs_19 (by decide) rfl (fun c9 => absurd c9 (by decide)) (fun _ => ?_)
  refine J_aload (pc' := 24) (q := 3) F dX5_withActs_22 rfl rfl ?_
  refine J_iload (pc' := 26) (q := 5) F dX5_withActs_24 rfl rfl ?_
  refine J_tiald (v := .int 29) (pc' := 27) F dX5_withActs_26 (fun _ _ _ h => h.2.2.2.2.2.2.2.1) (by unfold vp_in; decide) rfl rfl ?_
  refine J_istore (pc' := 29) [1, 2, 3, 4, 5, 6, 0] [(0, .ref (g 0)), (1, .long x1), (3, .long ((31 * ((31 * ((31 * ((31 * ((31 * ((31 * ((31 * ((31 * ((31 * ((31 * ((31 * ((31 * ((31 * ((31 * ((31 * x1) + (((zX5_may sc ar 0) : Int32).toInt64))) + (((zX5_may sc ar 1) : Int32).toInt64))) + (((zX5_may sc ar 2) : Int32).toInt64))) + (((zX5_may sc ar 3) : Int32).toInt64))) + (((zX5_may sc ar 4) : Int32).toInt64))) + (((zX5_may sc ar 5) : Int32).toInt64))) + (((zX5_may sc ar 7) : Int32).toInt64))) + (((zX5_may sc ar 8) : Int32).toInt64))) + (((zX5_may sc ar 12) : Int32).toInt64))) + (((zX5_may sc ar 15) : Int32).toInt64))) + (((zX5_may sc ar 18) : Int32).toInt64))) + (((zX5_may sc ar 21) : Int32).toInt64))) + (((zX5_may sc ar 22) : Int32).toInt64))) + (((zX5_may sc ar 25) : Int32).toInt64))) + (((zX5_may sc ar 26) : Int32).toInt64))), (5, .ref (z 2)), (6, .int 20), (7, .int 15), (8, .int 29)] F dX5_withActs_27 (jL_of E (show 8 < 9 by decide)) rfl rfl ?_
  refine J_ldc2 (pc' := 32) (v := 31) F dX5_withActs_29 kw_559 rfl ?_
  refine J_lload_n (pc' := 33) (q := 2) F dX5_withActs_32 rfl rfl ?_
  refine J_lmul (pc' := 34) F dX5_withActs_33 rfl ?_
  refine J_aload_n (pc' := 35) (q := 0) F dX5_withActs_34 rfl rfl ?_
  refine J_iload (pc' := 37) (q := 6) F dX5_withActs_35 rfl rfl ?_
  refine J_goRie (wc := (wC cI g sc ar)) (av := [.ref (g 0), .int 29]) (rest := [.long (31 * ((31 * ((31 * ((31 * ((31 * ((31 * ((31 * ((31 * ((31 * ((31 * ((31 * ((31 * ((31 * ((31 * ((31 * ((31 * x1) + (((zX5_may sc ar 0) : Int32).toInt64))) + (((zX5_may sc ar 1) : Int32).toInt64))) + (((zX5_may sc ar 2) : Int32).toInt64))) + (((zX5_may sc ar 3) : Int32).toInt64))) + (((zX5_may sc ar 4) : Int32).toInt64))) + (((zX5_may sc ar 5) : Int32).toInt64))) + (((zX5_may sc ar 7) : Int32).toInt64))) + (((zX5_may sc ar 8) : Int32).toInt64))) + (((zX5_may sc ar 12) : Int32).toInt64))) + (((zX5_may sc ar 15) : Int32).toInt64))) + (((zX5_may sc ar 18) : Int32).toInt64))) + (((zX5_may sc ar 21) : Int32).toInt64))) + (((zX5_may sc ar 22) : Int32).toInt64))) + (((zX5_may sc ar 25) : Int32).toInt64))) + (((zX5_may sc ar 26) : Int32).toInt64)))]) (v := zX5_may sc ar 29) (pc' := 40) F E (fun _ h => h) (fun H locs hI hp => jrun_V (As := [.int 29]) 0 F E (c_X5_may l D cI cZ z g sc ar 29) kw_567 kw_399 kw_400 rfl kw_401 kw_1 oX5_may ⟨⟨rfl, rfl⟩, ⟨Nat.le_of_ble_eq_true rfl, Nat.le_of_ble_eq_true rfl⟩, Nat.zero_le _, Nat.zero_le _⟩ rfl rfl (Nat.le_of_ble_eq_true rfl) dX5_withActs_37 rfl rfl (jI_P E hI) hp) rfl ?_
  refine J_i2l (pc' := 41) (v := ((zX5_may sc ar 29) : Int32).toInt64) F dX5_withActs_40 rfl rfl ?_
  refine J_ladd (pc' := 42) F dX5_withActs_41 rfl ?_
  refine J_lstore_n (pc' := 43) [1, 2, 0, 3, 4, 5, 6] [(0, .ref (g 0)), (1, .long x1), (3, .long ((31 * ((31 * ((31 * ((31 * ((31 * ((31 * ((31 * ((31 * ((31 * ((31 * ((31 * ((31 * ((31 * ((31 * ((31 * ((31 * x1) + (((zX5_may sc ar 0) : Int32).toInt64))) + (((zX5_may sc ar 1) : Int32).toInt64))) + (((zX5_may sc ar 2) : Int32).toInt64))) + (((zX5_may sc ar 3) : Int32).toInt64))) + (((zX5_may sc ar 4) : Int32).toInt64))) + (((zX5_may sc ar 5) : Int32).toInt64))) + (((zX5_may sc ar 7) : Int32).toInt64))) + (((zX5_may sc ar 8) : Int32).toInt64))) + (((zX5_may sc ar 12) : Int32).toInt64))) + (((zX5_may sc ar 15) : Int32).toInt64))) + (((zX5_may sc ar 18) : Int32).toInt64))) + (((zX5_may sc ar 21) : Int32).toInt64))) + (((zX5_may sc ar 22) : Int32).toInt64))) + (((zX5_may sc ar 25) : Int32).toInt64))) + (((zX5_may sc ar 26) : Int32).toInt64))) + (((zX5_may sc ar 29) : Int32).toInt64))), (5, .ref (z 2)), (6, .int 20), (7, .int 15), (8, .int 29)] F dX5_withActs_42 rfl (jL_of E (show 3 + 1 < 9 by decide)) rfl rfl ?_
  refine J_iinc (v := 16) (q := 5) (pc' := 46) [1, 2, 3, 4, 5, 0, 6] [(0, .ref (g 0)), (1, .long x1), (3, .long ((31 * ((31 * ((31 * ((31 * ((31 * ((31 * ((31 * ((31 * ((31 * ((31 * ((31 * ((31 * ((31 * ((31 * ((31 * ((31 * x1) + (((zX5_may sc ar 0) : Int32).toInt64))) + (((zX5_may sc ar 1) : Int32).toInt64))) + (((zX5_may sc ar 2) : Int32).toInt64))) + (((zX5_may sc ar 3) : Int32).toInt64))) + (((zX5_may sc ar 4) : Int32).toInt64))) + (((zX5_may sc ar 5) : Int32).toInt64))) + (((zX5_may sc ar 7) : Int32).toInt64))) + (((zX5_may sc ar 8) : Int32).toInt64))) + (((zX5_may sc ar 12) : Int32).toInt64))) + (((zX5_may sc ar 15) : Int32).toInt64))) + (((zX5_may sc ar 18) : Int32).toInt64))) + (((zX5_may sc ar 21) : Int32).toInt64))) + (((zX5_may sc ar 22) : Int32).toInt64))) + (((zX5_may sc ar 25) : Int32).toInt64))) + (((zX5_may sc ar 26) : Int32).toInt64))) + (((zX5_may sc ar 29) : Int32).toInt64))), (5, .ref (z 2)), (6, .int 20), (7, .int 16), (8, .int 29)] F dX5_withActs_43 rfl (by decide) (jL_of E (show 7 < 9 by decide)) rfl rfl ?_
  refine J_goto (tgt := 15) F dX5_withActs_46 (by decide) ?_
  refine J_iload (pc' := 17) (q := 5) F dX5_withActs_15 rfl rfl ?_
  refine J_iload (pc' := 19) (q := 4) F dX5_withActs_17 rfl rfl ?_
  refine J_icmp_ge (tgt := 49) (pc' := 22) F dX5_withActs_19 (by decide) rfl (fun c9 => absurd c9 (by decide)) (fun _ => ?_)
  refine J_aload (pc' := 24) (q := 3) F dX5_withActs_22 rfl rfl ?_
  refine J_iload (pc' := 26) (q := 5) F dX5_withActs_24 rfl rfl ?_
  refine J_tiald (v := .int 32) (pc' := 27) F dX5_withActs_26 (fun _ _ _ h => h.2.2.2.2.2.2.2.1) (by unfold vp_in; decide) rfl rfl ?_
  refine J_istore (pc' := 29) [1, 2, 3, 4, 5, 6, 0] [(0, .ref (g 0)), (1, .long x1), (3, .long ((31 * ((31 * ((31 * ((31 * ((31 * ((31 * ((31 * ((31 * ((31 * ((31 * ((31 * ((31 * ((31 * ((31 * ((31 * ((31 * x1) + (((zX5_may sc ar 0) : Int32).toInt64))) + (((zX5_may sc ar 1) : Int32).toInt64))) + (((zX5_may sc ar 2) : Int32).toInt64))) + (((zX5_may sc ar 3) : Int32).toInt64))) + (((zX5_may sc ar 4) : Int32).toInt64))) + (((zX5_may sc ar 5) : Int32).toInt64))) + (((zX5_may sc ar 7) : Int32).toInt64))) + (((zX5_may sc ar 8) : Int32).toInt64))) + (((zX5_may sc ar 12) : Int32).toInt64))) + (((zX5_may sc ar 15) : Int32).toInt64))) + (((zX5_may sc ar 18) : Int32).toInt64))) + (((zX5_may sc ar 21) : Int32).toInt64))) + (((zX5_may sc ar 22) : Int32).toInt64))) + (((zX5_may sc ar 25) : Int32).toInt64))) + (((zX5_may sc ar 26) : Int32).toInt64))) + (((zX5_may sc ar 29) : Int32).toInt64))), (5, .ref (z 2)), (6, .int 20), (7, .int 16), (8, .int 32)] F dX5_withActs_27 (jL_of E (show 8 < 9 by decide)) rfl rfl ?_
  refine J_ldc2 (pc' := 32) (v := 31) F dX5_withActs_29 kw_559 rfl ?_
  refine J_lload_n (pc' := 33) (q := 2) F dX5_withActs_32 rfl rfl ?_
  refine J_lmul (pc' := 34) F dX5_withActs_33 rfl ?_
  refine J_aload_n (pc' := 35) (q := 0) F dX5_withActs_34 rfl rfl ?_
  refine J_iload (pc' := 37) (q := 6) F dX5_withActs_35 rfl rfl ?_
  refine J_goRie (wc := (wC cI g sc ar)) (av := [.ref (g 0), .int 32]) (rest := [.long (31 * ((31 * ((31 * ((31 * ((31 * ((31 * ((31 * ((31 * ((31 * ((31 * ((31 * ((31 * ((31 * ((31 * ((31 * ((31 * ((31 * x1) + (((zX5_may sc ar 0) : Int32).toInt64))) + (((zX5_may sc ar 1) : Int32).toInt64))) + (((zX5_may sc ar 2) : Int32).toInt64))) + (((zX5_may sc ar 3) : Int32).toInt64))) + (((zX5_may sc ar 4) : Int32).toInt64))) + (((zX5_may sc ar 5) : Int32).toInt64))) + (((zX5_may sc ar 7) : Int32).toInt64))) + (((zX5_may sc ar 8) : Int32).toInt64))) + (((zX5_may sc ar 12) : Int32).toInt64))) + (((zX5_may sc ar 15) : Int32).toInt64))) + (((zX5_may sc ar 18) : Int32).toInt64))) + (((zX5_may sc ar 21) : Int32).toInt64))) + (((zX5_may sc ar 22) : Int32).toInt64))) + (((zX5_may sc ar 25) : Int32).toInt64))) + (((zX5_may sc ar 26) : Int32).toInt64))) + (((zX5_may sc ar 29) : Int32).toInt64)))]) (v := zX5_may sc ar 32) (pc' := 40) F E (fun _ h => h) (fun H locs hI hp => jrun_V (As := [.int 32]) 0 F E (c_X5_may l D cI cZ z g sc ar 32) kw_567 kw_399 kw_400 rfl kw_401 kw_1 oX5_may ⟨⟨rfl, rfl⟩, ⟨Nat.le_of_ble_eq_true rfl, Nat.le_of_ble_eq_true rfl⟩, Nat.zero_le _, Nat.zero_le _⟩ rfl rfl (Nat.le_of_ble_eq_true rfl) dX5_withActs_37 rfl rfl (jI_P E hI) hp) rfl ?_
  refine J_i2l (pc' := 41) (v := ((zX5_may sc ar 32) : Int32).toInt64) F dX5_withActs_40 rfl rfl ?_
  refine J_ladd (pc' := 42) F dX5_withActs_41 rfl ?_
  refine J_lstore_n (pc' := 43) [1, 2, 0, 3, 4, 5, 6] [(0, .ref (g 0)), (1, .long x1), (3, .long ((31 * ((31 * ((31 * ((31 * ((31 * ((31 * ((31 * ((31 * ((31 * ((31 * ((31 * ((31 * ((31 * ((31 * ((31 * ((31 * ((31 * x1) + (((zX5_may sc ar 0) : Int32).toInt64))) + (((zX5_may sc ar 1) : Int32).toInt64))) + (((zX5_may sc ar 2) : Int32).toInt64))) + (((zX5_may sc ar 3) : Int32).toInt64))) + (((zX5_may sc ar 4) : Int32).toInt64))) + (((zX5_may sc ar 5) : Int32).toInt64))) + (((zX5_may sc ar 7) : Int32).toInt64))) + (((zX5_may sc ar 8) : Int32).toInt64))) + (((zX5_may sc ar 12) : Int32).toInt64))) + (((zX5_may sc ar 15) : Int32).toInt64))) + (((zX5_may sc ar 18) : Int32).toInt64))) + (((zX5_may sc ar 21) : Int32).toInt64))) + (((zX5_may sc ar 22) : Int32).toInt64))) + (((zX5_may sc ar 25) : Int32).toInt64))) + (((zX5_may sc ar 26) : Int32).toInt64))) + (((zX5_may sc ar 29) : Int32).toInt64))) + (((zX5_may sc ar 32) : Int32).toInt64))), (5, .ref (z 2)), (6, .int 20), (7, .int 16), (8, .int 32)] F dX5_withActs_42 rfl (jL_of E (show 3 + 1 < 9 by decide)) rfl rfl ?_
  refine J_iinc (v := 17) (q := 5) (pc' := 46) [1, 2, 3, 4, 5, 0, 6] [(0, .ref (g 0)), (1, .long x1), (3, .long ((31 * ((31 * ((31 * ((31 * ((31 * ((31 * ((31 * ((31 * ((31 * ((31 * ((31 * ((31 * ((31 * ((31 * ((31 * ((31 * ((31 * x1) + (((zX5_may sc ar 0) : Int32).toInt64))) + (((zX5_may sc ar 1) : Int32).toInt64))) + (((zX5_may sc ar 2) : Int32).toInt64))) + (((zX5_may sc ar 3) : Int32).toInt64))) + (((zX5_may sc ar 4) : Int32).toInt64))) + (((zX5_may sc ar 5) : Int32).toInt64))) + (((zX5_may sc ar 7) : Int32).toInt64))) + (((zX5_may sc ar 8) : Int32).toInt64))) + (((zX5_may sc ar 12) : Int32).toInt64))) + (((zX5_may sc ar 15) : Int32).toInt64))) + (((zX5_may sc ar 18) : Int32).toInt64))) + (((zX5_may sc ar 21) : Int32).toInt64))) + (((zX5_may sc ar 22) : Int32).toInt64))) + (((zX5_may sc ar 25) : Int32).toInt64))) + (((zX5_may sc ar 26) : Int32).toInt64))) + (((zX5_may sc ar 29) : Int32).toInt64))) + (((zX5_may sc ar 32) : Int32).toInt64))), (5, .ref (z 2)), (6, .int 20), (7, .int 17), (8, .int 32)] F dX5_withActs_43 rfl (by decide) (jL_of E (show 7 < 9 by decide)) rfl rfl ?_
  refine J_goto (tgt := 15) F dX5_withActs_46 (by decide) ?_
  refine J_iload (pc' := 17) (q := 5) F dX5_withActs_15 rfl rfl ?_
  refine J_iload (pc' := 19) (q := 4) F dX5_withActs_17 rfl rfl ?_
  refine J_icmp_ge (tgt := 49) (pc' := 22) F dX5_withActs_19 (by decide) rfl (fun c9 => absurd c9 (by decide)) (fun _ => ?_)
  refine J_aload (pc' := 24) (q := 3) F dX5_withActs_22 rfl rfl ?_
  refine J_iload (pc' := 26) (q := 5) F dX5_withActs_24 rfl rfl ?_
  refine J_tiald (v := .int 35) (pc' := 27) F dX5_withActs_26 (fun _ _ _ h => h.2.2.2.2.2.2.2.1) (by unfold vp_in; decide) rfl rfl ?_
  refine J_istore (pc' := 29) [1, 2, 3, 4, 5, 6, 0] [(0, .ref (g 0)), (1, .long x1), (3, .long ((31 * ((31 * ((31 * ((31 * ((31 * ((31 * ((31 * ((31 * ((31 * ((31 * ((31 * ((31 * ((31 * ((31 * ((31 * ((31 * ((31 * x1) + (((zX5_may sc ar 0) : Int32).toInt64))) + (((zX5_may sc ar 1) : Int32).toInt64))) + (((zX5_may sc ar 2) : Int32).toInt64))) + (((zX5_may sc ar 3) : Int32).toInt64))) + (((zX5_may sc ar 4) : Int32).toInt64))) + (((zX5_may sc ar 5) : Int32).toInt64))) + (((zX5_may sc ar 7) : Int32).toInt64))) + (((zX5_may sc ar 8) : Int32).toInt64))) + (((zX5_may sc ar 12) : Int32).toInt64))) + (((zX5_may sc ar 15) : Int32).toInt64))) + (((zX5_may sc ar 18) : Int32).toInt64))) + (((zX5_may sc ar 21) : Int32).toInt64))) + (((zX5_may sc ar 22) : Int32).toInt64))) + (((zX5_may sc ar 25) : Int32).toInt64))) + (((zX5_may sc ar 26) : Int32).toInt64))) + (((zX5_may sc ar 29) : Int32).toInt64))) + (((zX5_may sc ar 32) : Int32).toInt64))), (5, .ref (z 2)), (6, .int 20), (7, .int 17), (8, .int 35)] F dX5_withActs_27 (jL_of E (show 8 < 9 by decide)) rfl rfl ?_
  refine J_ldc2 (pc' := 32) (v := 31) F dX5_withActs_29 kw_559 rfl ?_
  refine J_lload_n (pc' := 33) (q := 2) F dX5_withActs_32 rfl rfl ?_
  refine J_lmul (pc' := 34) F dX5_withActs_33 rfl ?_
  refine J_aload_n (pc' := 35) (q := 0) F dX5_withActs_34 rfl rfl ?_
  refine J_iload (pc' := 37) (q := 6) F dX5_withActs_35 rfl rfl ?_
  refine J_goRie (wc := (wC cI g sc ar)) (av := [.ref (g 0), .int 35]) (rest := [.long (31 * ((31 * ((31 * ((31 * ((31 * ((31 * ((31 * ((31 * ((31 * ((31 * ((31 * ((31 * ((31 * ((31 * ((31 * ((31 * ((31 * ((31 * x1) + (((zX5_may sc ar 0) : Int32).toInt64))) + (((zX5_may sc ar 1) : Int32).toInt64))) + (((zX5_may sc ar 2) : Int32).toInt64))) + (((zX5_may sc ar 3) : Int32).toInt64))) + (((zX5_may sc ar 4) : Int32).toInt64))) + (((zX5_may sc ar 5) : Int32).toInt64))) + (((zX5_may sc ar 7) : Int32).toInt64))) + (((zX5_may sc ar 8) : Int32).toInt64))) + (((zX5_may sc ar 12) : Int32).toInt64))) + (((zX5_may sc ar 15) : Int32).toInt64))) + (((zX5_may sc ar 18) : Int32).toInt64))) + (((zX5_may sc ar 21) : Int32).toInt64))) + (((zX5_may sc ar 22) : Int32).toInt64))) + (((zX5_may sc ar 25) : Int32).toInt64))) + (((zX5_may sc ar 26) : Int32).toInt64))) + (((zX5_may sc ar 29) : Int32).toInt64))) + (((zX5_may sc ar 32) : Int32).toInt64)))]) (v := zX5_may sc ar 35) (pc' := 40) F E (fun _ h => h) (fun H locs hI hp => jrun_V (As := [.int 35]) 0 F E (c_X5_may l D cI cZ z g sc ar 35) kw_567 kw_399 kw_400 rfl kw_401 kw_1 oX5_may ⟨⟨rfl, rfl⟩, ⟨Nat.le_of_ble_eq_true rfl, Nat.le_of_ble_eq_true rfl⟩, Nat.zero_le _, Nat.zero_le _⟩ rfl rfl (Nat.le_of_ble_eq_true rfl) dX5_withActs_37 rfl rfl (jI_P E hI) hp) rfl ?_
  refine J_i2l (pc' := 41) (v := ((zX5_may sc ar 35) : Int32).toInt64) F dX5_withActs_40 rfl rfl ?_
  refine J_ladd (pc' := 42) F dX5_withActs_41 rfl ?_
  refine J_lstore_n (pc' := 43) [1, 2, 0, 3, 4, 5, 6] [(0, .ref (g 0)), (1, .long x1), (3, .long ((31 * ((31 * ((31 * ((31 * ((31 * ((31 * ((31 * ((31 * ((31 * ((31 * ((31 * ((31 * ((31 * ((31 * ((31 * ((31 * ((31 * ((31 * x1) + (((zX5_may sc ar 0) : Int32).toInt64))) + (((zX5_may sc ar 1) : Int32).toInt64))) + (((zX5_may sc ar 2) : Int32).toInt64))) + (((zX5_may sc ar 3) : Int32).toInt64))) + (((zX5_may sc ar 4) : Int32).toInt64))) + (((zX5_may sc ar 5) : Int32).toInt64))) + (((zX5_may sc ar 7) : Int32).toInt64))) + (((zX5_may sc ar 8) : Int32).toInt64))) + (((zX5_may sc ar 12) : Int32).toInt64))) + (((zX5_may sc ar 15) : Int32).toInt64))) + (((zX5_may sc ar 18) : Int32).toInt64))) + (((zX5_may sc ar 21) : Int32).toInt64))) + (((zX5_may sc ar 22) : Int32).toInt64))) + (((zX5_may sc ar 25) : Int32).toInt64))) + (((zX5_may sc ar 26) : Int32).toInt64))) + (((zX5_may sc ar 29) : Int32).toInt64))) + (((zX5_may sc ar 32) : Int32).toInt64))) + (((zX5_may sc ar 35) : Int32).toInt64))), (5, .ref (z 2)), (6, .int 20), (7, .int 17), (8, .int 35)] F dX5_withActs_42 rfl (jL_of E (show 3 + 1 < 9 by decide)) rfl rfl ?_
  refine J_iinc (v := 18) (q := 5) (pc' := 46) [1, 2, 3, 4, 5, 0, 6] [(0, .ref (g 0)), (1, .long x1), (3, .long ((31 * ((31 * ((31 * ((31 * ((31 * ((31 * ((31 * ((31 * ((31 * ((31 * ((31 * ((31 * ((31 * ((31 * ((31 * ((31 * ((31 * ((31 * x1) + (((zX5_may sc ar 0) : Int32).toInt64))) + (((zX5_may sc ar 1) : Int32).toInt64))) + (((zX5_may sc ar 2) : Int32).toInt64))) + (((zX5_may sc ar 3) : Int32).toInt64))) + (((zX5_may sc ar 4) : Int32).toInt64))) + (((zX5_may sc ar 5) : Int32).toInt64))) + (((zX5_may sc ar 7) : Int32).toInt64))) + (((zX5_may sc ar 8) : Int32).toInt64))) + (((zX5_may sc ar 12) : Int32).toInt64))) + (((zX5_may sc ar 15) : Int32).toInt64))) + (((zX5_may sc ar 18) : Int32).toInt64))) + (((zX5_may sc ar 21) : Int32).toInt64))) + (((zX5_may sc ar 22) : Int32).toInt64))) + (((zX5_may sc ar 25) : Int32).toInt64))) + (((zX5_may sc ar 26) : Int32).toInt64))) + (((zX5_may sc ar 29) : Int32).toInt64))) + (((zX5_may sc ar 32) : Int32).toInt64))) + (((zX5_may sc ar 35) : Int32).toInt64))), (5, .ref (z 2)), (6, .int 20), (7, .int 18), (8, .int 35)] F dX5_withActs_43 rfl (by decide) (jL_of E (show 7 < 9 by decide)) rfl rfl ?_
  refine J_goto (tgt := 15) F dX5_withActs_46 (by decide) ?_
  refine J_iload (pc' := 17) (q := 5) F dX5_withActs_15 rfl rfl ?_
  refine J_iload (pc' := 19) (q := 4) F dX5_withActs_17 rfl rfl ?_
  refine J_icmp_ge (tgt := 49) (pc' := 22) F dX5_withActs_19 (by decide) rfl (fun c9 => absurd c9 (by decide)) (fun _ => ?_)
  refine J_aload (pc' := 24) (q := 3) F dX5_withActs_22 rfl rfl ?_
  refine J_iload (pc' := 26) (q := 5) F dX5_withActs_24 rfl rfl ?_
  refine J_tiald (v := .int 39) (pc' := 27) F dX5_withActs_26 (fun _ _ _ h => h.2.2.2.2.2.2.2.1) (by unfold vp_in; decide) rfl rfl ?_
  refine J_istore (pc' := 29) [1, 2, 3, 4, 5, 6, 0] [(0, .ref (g 0)), (1, .long x1), (3, .long ((31 * ((31 * ((31 * ((31 * ((31 * ((31 * ((31 * ((31 * ((31 * ((31 * ((31 * ((31 * ((31 * ((31 * ((31 * ((31 * ((31 * ((31 * x1) + (((zX5_may sc ar 0) : Int32).toInt64))) + (((zX5_may sc ar 1) : Int32).toInt64))) + (((zX5_may sc ar 2) : Int32).toInt64))) + (((zX5_may sc ar 3) : Int32).toInt64))) + (((zX5_may sc ar 4) : Int32).toInt64))) + (((zX5_may sc ar 5) : Int32).toInt64))) + (((zX5_may sc ar 7) : Int32).toInt64))) + (((zX5_may sc ar 8) : Int32).toInt64))) + (((zX5_may sc ar 12) : Int32).toInt64))) + (((zX5_may sc ar 15) : Int32).toInt64))) + (((zX5_may sc ar 18) : Int32).toInt64))) + (((zX5_may sc ar 21) : Int32).toInt64))) + (((zX5_may sc ar 22) : Int32).toInt64))) + (((zX5_may sc ar 25) : Int32).toInt64))) + (((zX5_may sc ar 26) : Int32).toInt64))) + (((zX5_may sc ar 29) : Int32).toInt64))) + (((zX5_may sc ar 32) : Int32).toInt64))) + (((zX5_may sc ar 35) : Int32).toInt64))), (5, .ref (z 2)), (6, .int 20), (7, .int 18), (8, .int 39)] F dX5_withActs_27 (jL_of E (show 8 < 9 by decide)) rfl rfl ?_
  refine J_ldc2 (pc' := 32) (v := 31) F dX5_withActs_29 kw_559 rfl ?_
  refine J_lload_n (pc' := 33) (q := 2) F dX5_withActs_32 rfl rfl ?_
  refine J_lmul (pc' := 34) F dX5_withActs_33 rfl ?_
  refine J_aload_n (pc' := 35) (q := 0) F dX5_withActs_34 rfl rfl ?_
  refine J_iload (pc' := 37) (q := 6) F dX5_withActs_35 rfl rfl ?_
  refine J_goRie (wc := (wC cI g sc ar)) (av := [.ref (g 0), .int 39]) (rest := [.long (31 * ((31 * ((31 * ((31 * ((31 * ((31 * ((31 * ((31 * ((31 * ((31 * ((31 * ((31 * ((31 * ((31 * ((31 * ((31 * ((31 * ((31 * ((31 * x1) + (((zX5_may sc ar 0) : Int32).toInt64))) + (((zX5_may sc ar 1) : Int32).toInt64))) + (((zX5_may sc ar 2) : Int32).toInt64))) + (((zX5_may sc ar 3) : Int32).toInt64))) + (((zX5_may sc ar 4) : Int32).toInt64))) + (((zX5_may sc ar 5) : Int32).toInt64))) + (((zX5_may sc ar 7) : Int32).toInt64))) + (((zX5_may sc ar 8) : Int32).toInt64))) + (((zX5_may sc ar 12) : Int32).toInt64))) + (((zX5_may sc ar 15) : Int32).toInt64))) + (((zX5_may sc ar 18) : Int32).toInt64))) + (((zX5_may sc ar 21) : Int32).toInt64))) + (((zX5_may sc ar 22) : Int32).toInt64))) + (((zX5_may sc ar 25) : Int32).toInt64))) + (((zX5_may sc ar 26) : Int32).toInt64))) + (((zX5_may sc ar 29) : Int32).toInt64))) + (((zX5_may sc ar 32) : Int32).toInt64))) + (((zX5_may sc ar 35) : Int32).toInt64)))]) (v := zX5_may sc ar 39) (pc' := 40) F E (fun _ h => h) (fun H locs hI hp => jrun_V (As := [.int 39]) 0 F E (c_X5_may l D cI cZ z g sc ar 39) kw_567 kw_399 kw_400 rfl kw_401 kw_1 oX5_may ⟨⟨rfl, rfl⟩, ⟨Nat.le_of_ble_eq_true rfl, Nat.le_of_ble_eq_true rfl⟩, Nat.zero_le _, Nat.zero_le _⟩ rfl rfl (Nat.le_of_ble_eq_true rfl) dX5_withActs_37 rfl rfl (jI_P E hI) hp) rfl ?_
  refine J_i2l (pc' := 41) (v := ((zX5_may sc ar 39) : Int32).toInt64) F dX5_withActs_40 rfl rfl ?_
  refine J_ladd (pc' := 42) F dX5_withActs_41 rfl ?_
  refine J_lstore_n (pc' := 43) [1, 2, 0, 3, 4, 5, 6] [(0, .ref (g 0)), (1, .long x1), (3, .long ((31 * ((31 * ((31 * ((31 * ((31 * ((31 * ((31 * ((31 * ((31 * ((31 * ((31 * ((31 * ((31 * ((31 * ((31 * ((31 * ((31 * ((31 * ((31 * x1) + (((zX5_may sc ar 0) : Int32).toInt64))) + (((zX5_may sc ar 1) : Int32).toInt64))) + (((zX5_may sc ar 2) : Int32).toInt64))) + (((zX5_may sc ar 3) : Int32).toInt64))) + (((zX5_may sc ar 4) : Int32).toInt64))) + (((zX5_may sc ar 5) : Int32).toInt64))) + (((zX5_may sc ar 7) : Int32).toInt64))) + (((zX5_may sc ar 8) : Int32).toInt64))) + (((zX5_may sc ar 12) : Int32).toInt64))) + (((zX5_may sc ar 15) : Int32).toInt64))) + (((zX5_may sc ar 18) : Int32).toInt64))) + (((zX5_may sc ar 21) : Int32).toInt64))) + (((zX5_may sc ar 22) : Int32).toInt64))) + (((zX5_may sc ar 25) : Int32).toInt64))) + (((zX5_may sc ar 26) : Int32).toInt64))) + (((zX5_may sc ar 29) : Int32).toInt64))) + (((zX5_may sc ar 32) : Int32).toInt64))) + (((zX5_may sc ar 35) : Int32).toInt64))) + (((zX5_may sc ar 39) : Int32).toInt64))), (5, .ref (z 2)), (6, .int 20), (7, .int 18), (8, .int 39)] F dX5_withActs_42 rfl (jL_of E (show 3 + 1 < 9 by decide)) rfl rfl ?_
  refine J_iinc (v := 19) (q := 5) (pc' := 46) [1, 2, 3, 4, 5, 0, 6] [(0, .ref (g 0)), (1, .long x1), (3, .long ((31 * ((31 * ((31 * ((31 * ((31 * ((31 * ((31 * ((31 * ((31 * ((31 * ((31 * ((31 * ((31 * ((31 * ((31 * ((31 * ((31 * ((31 * ((31 * x1) + (((zX5_may sc ar 0) : Int32).toInt64))) + (((zX5_may sc ar 1) : Int32).toInt64))) + (((zX5_may sc ar 2) : Int32).toInt64))) + (((zX5_may sc ar 3) : Int32).toInt64))) + (((zX5_may sc ar 4) : Int32).toInt64))) + (((zX5_may sc ar 5) : Int32).toInt64))) + (((zX5_may sc ar 7) : Int32).toInt64))) + (((zX5_may sc ar 8) : Int32).toInt64))) + (((zX5_may sc ar 12) : Int32).toInt64))) + (((zX5_may sc ar 15) : Int32).toInt64))) + (((zX5_may sc ar 18) : Int32).toInt64))) + (((zX5_may sc ar 21) : Int32).toInt64))) + (((zX5_may sc ar 22) : Int32).toInt64))) + (((zX5_may sc ar 25) : Int32).toInt64))) + (((zX5_may sc ar 26) : Int32).toInt64))) + (((zX5_may sc ar 29) : Int32).toInt64))) + (((zX5_may sc ar 32) : Int32).toInt64))) + (((zX5_may sc ar 35) : Int32).toInt64))) + (((zX5_may sc ar 39) : Int32).toInt64))), (5, .ref (z 2)), (6, .int 20), (7, .int 19), (8, .int 39)] F dX5_withActs_43 rfl (by decide) (jL_of E (show 7 < 9 by decide)) rfl rfl ?_
  refine J_goto (tgt := 15) F dX5_withActs_46 (by decide) ?_
  refine J_iload (pc' := 17) (q := 5) F dX5_withActs_15 rfl rfl ?_
  refine J_iload (pc' := 19) (q := 4) F dX5_withActs_17 rfl rfl ?_
  refine J_icmp_ge (tgt := 49) (pc' := 22) F dX5_withActs_19 (by decide) rfl (fun c9 => absurd c9 (by decide)) (fun _ => ?_)
  refine J_aload (pc' := 24) (q := 3) F dX5_withActs_22 rfl rfl ?_
  refine J_iload (pc' := 26) (q := 5) F dX5_withActs_24 rfl rfl ?_
  refine J_tiald (v := .int 40) (pc' := 27) F dX5_withActs_26 (fun _ _ _ h => h.2.2.2.2.2.2.2.1) (by unfold vp_in; decide) rfl rfl ?_
  refine J_istore (pc' := 29) [1, 2, 3, 4, 5, 6, 0] [(0, .ref (g 0)), (1, .long x1), (3, .long ((31 * ((31 * ((31 * ((31 * ((31 * ((31 * ((31 * ((31 * ((31 * ((31 * ((31 * ((31 * ((31 * ((31 * ((31 * ((31 * ((31 * ((31 * ((31 * x1) + (((zX5_may sc ar 0) : Int32).toInt64))) + (((zX5_may sc ar 1) : Int32).toInt64))) + (((zX5_may sc ar 2) : Int32).toInt64))) + (((zX5_may sc ar 3) : Int32).toInt64))) + (((zX5_may sc ar 4) : Int32).toInt64))) + (((zX5_may sc ar 5) : Int32).toInt64))) + (((zX5_may sc ar 7) : Int32).toInt64))) + (((zX5_may sc ar 8) : Int32).toInt64))) + (((zX5_may sc ar 12) : Int32).toInt64))) + (((zX5_may sc ar 15) : Int32).toInt64))) + (((zX5_may sc ar 18) : Int32).toInt64))) + (((zX5_may sc ar 21) : Int32).toInt64))) + (((zX5_may sc ar 22) : Int32).toInt64))) + (((zX5_may sc ar 25) : Int32).toInt64))) + (((zX5_may sc ar 26) : Int32).toInt64))) + (((zX5_may sc ar 29) : Int32).toInt64))) + (((zX5_may sc ar 32) : Int32).toInt64))) + (((zX5_may sc ar 35) : Int32).toInt64))) + (((zX5_may sc ar 39) : Int32).toInt64))), (5, .ref (z 2)), (6, .int 20), (7, .int 19), (8, .int 40)] F dX5_withActs_27 (jL_of E (show 8 < 9 by decide)) rfl rfl ?_
  refine J_ldc2 (pc' := 32) (v := 31) F dX5_withActs_29 kw_559 rfl ?_
  refine J_lload_n (pc' := 33) (q := 2) F dX5_withActs_32 rfl rfl ?_
  refine J_lmul (pc' := 34) F dX5_withActs_33 rfl ?_
  refine J_aload_n (pc' := 35) (q := 0) F dX5_withActs_34 rfl rfl ?_
  refine J_iload (pc' := 37) (q := 6) F dX5_withActs_35 rfl rfl ?_
  refine J_goRie (wc := (wC cI g sc ar)) (av := [.ref (g 0), .int 40]) (rest := [.long (31 * ((31 * ((31 * ((31 * ((31 * ((31 * ((31 * ((31 * ((31 * ((31 * ((31 * ((31 * ((31 * ((31 * ((31 * ((31 * ((31 * ((31 * ((31 * ((31 * x1) + (((zX5_may sc ar 0) : Int32).toInt64))) + (((zX5_may sc ar 1) : Int32).toInt64))) + (((zX5_may sc ar 2) : Int32).toInt64))) + (((zX5_may sc ar 3) : Int32).toInt64))) + (((zX5_may sc ar 4) : Int32).toInt64))) + (((zX5_may sc ar 5) : Int32).toInt64))) + (((zX5_may sc ar 7) : Int32).toInt64))) + (((zX5_may sc ar 8) : Int32).toInt64))) + (((zX5_may sc ar 12) : Int32).toInt64))) + (((zX5_may sc ar 15) : Int32).toInt64))) + (((zX5_may sc ar 18) : Int32).toInt64))) + (((zX5_may sc ar 21) : Int32).toInt64))) + (((zX5_may sc ar 22) : Int32).toInt64))) + (((zX5_may sc ar 25) : Int32).toInt64))) + (((zX5_may sc ar 26) : Int32).toInt64))) + (((zX5_may sc ar 29) : Int32).toInt64))) + (((zX5_may sc ar 32) : Int32).toInt64))) + (((zX5_may sc ar 35) : Int32).toInt64))) + (((zX5_may sc ar 39) : Int32).toInt64)))]) (v := zX5_may sc ar 40) (pc' := 40) F E (fun _ h => h) (fun H locs hI hp => jrun_V (As := [.int 40]) 0 F E (c_X5_may l D cI cZ z g sc ar 40) kw_567 kw_399 kw_400 rfl kw_401 kw_1 oX5_may ⟨⟨rfl, rfl⟩, ⟨Nat.le_of_ble_eq_true rfl, Nat.le_of_ble_eq_true rfl⟩, Nat.zero_le _, Nat.zero_le _⟩ rfl rfl (Nat.le_of_ble_eq_true rfl) dX5_withActs_37 rfl rfl (jI_P E hI) hp) rfl ?_
  refine J_i2l (pc' := 41) (v := ((zX5_may sc ar 40) : Int32).toInt64) F dX5_withActs_40 rfl rfl ?_
  refine J_ladd (pc' := 42) F dX5_withActs_41 rfl ?_
  refine J_lstore_n (pc' := 43) [1, 2, 0, 3, 4, 5, 6] [(0, .ref (g 0)), (1, .long x1), (3, .long ((31 * ((31 * ((31 * ((31 * ((31 * ((31 * ((31 * ((31 * ((31 * ((31 * ((31 * ((31 * ((31 * ((31 * ((31 * ((31 * ((31 * ((31 * ((31 * ((31 * x1) + (((zX5_may sc ar 0) : Int32).toInt64))) + (((zX5_may sc ar 1) : Int32).toInt64))) + (((zX5_may sc ar 2) : Int32).toInt64))) + (((zX5_may sc ar 3) : Int32).toInt64))) + (((zX5_may sc ar 4) : Int32).toInt64))) + (((zX5_may sc ar 5) : Int32).toInt64))) + (((zX5_may sc ar 7) : Int32).toInt64))) + (((zX5_may sc ar 8) : Int32).toInt64))) + (((zX5_may sc ar 12) : Int32).toInt64))) + (((zX5_may sc ar 15) : Int32).toInt64))) + (((zX5_may sc ar 18) : Int32).toInt64))) + (((zX5_may sc ar 21) : Int32).toInt64))) + (((zX5_may sc ar 22) : Int32).toInt64))) + (((zX5_may sc ar 25) : Int32).toInt64))) + (((zX5_may sc ar 26) : Int32).toInt64))) + (((zX5_may sc ar 29) : Int32).toInt64))) + (((zX5_may sc ar 32) : Int32).toInt64))) + (((zX5_may sc ar 35) : Int32).toInt64))) + (((zX5_may sc ar 39) : Int32).toInt64))) + (((zX5_may sc ar 40) : Int32).toInt64))), (5, .ref (z 2)), (6, .int 20), (7, .int 19), (8, .int 40)] F dX5_withActs_42 rfl (jL_of E (show 3 + 1 < 9 by decide)) rfl rfl ?_
  refine J_iinc (v := 20) (q := 5) (pc' := 46) [1, 2, 3, 4, 5, 0, 6] [(0, .ref (g 0)), (1, .long x1), (3, .long ((31 * ((31 * ((31 * ((31 * ((31 * ((31 * ((31 * ((31 * ((31 * ((31 * ((31 * ((31 * ((31 * ((31 * ((31 * ((31 * ((31 * ((31 * ((31 * ((31 * x1) + (((zX5_may sc ar 0) : Int32).toInt64))) + (((zX5_may sc ar 1) : Int32).toInt64))) + (((zX5_may sc ar 2) : Int32).toInt64))) + (((zX5_may sc ar 3) : Int32).toInt64))) + (((zX5_may sc ar 4) : Int32).toInt64))) + (((zX5_may sc ar 5) : Int32).toInt64))) + (((zX5_may sc ar 7) : Int32).toInt64))) + (((zX5_may sc ar 8) : Int32).toInt64))) + (((zX5_may sc ar 12) : Int32).toInt64))) + (((zX5_may sc ar 15) : Int32).toInt64))) + (((zX5_may sc ar 18) : Int32).toInt64))) + (((zX5_may sc ar 21) : Int32).toInt64))) + (((zX5_may sc ar 22) : Int32).toInt64))) + (((zX5_may sc ar 25) : Int32).toInt64))) + (((zX5_may sc ar 26) : Int32).toInt64))) + (((zX5_may sc ar 29) : Int32).toInt64))) + (((zX5_may sc ar 32) : Int32).toInt64))) + (((zX5_may sc ar 35) : Int32).toInt64))) + (((zX5_may sc ar 39) : Int32).toInt64))) + (((zX5_may sc ar 40) : Int32).toInt64))), (5, .ref (z 2)), (6, .int 20), (7, .int 20), (8, .int 40)] F dX5_withActs_43 rfl (by decide) (jL_of E (show 7 < 9 by decide)) rfl rfl ?_
  refine J_goto (tgt := 15) F dX5_withActs_46 (by decide) ?_
  refine J_iload (pc' := 17) (q := 5) F dX5_withActs_15 rfl rfl ?_
  refine J_iload (pc' := 19) (q := 4) F dX5_withActs_17 rfl rfl ?_
  refine J_icmp_ge (tgt := 49) (pc' := 22) F dX5_withActs_19 (by decide) rfl (fun _ => ?_) (fun c9 => absurd (by decide) c9)
  refine J_lload_n (pc' := 50) (q := 2) F dX5_withActs_49 rfl rfl ?_
  exact J_lretR F hR dX5_withActs_50 rfl
def zX5_withOutlook (sc : Nat → Int32) (ar : Nat → Nat → Int32) (x1 : Int64) : Int64 := (31 * ((31 * ((31 * ((31 * ((31 * ((31 * ((31 * x1) + ((((ar 6) 0) : Int32).toInt64))) + ((((ar 7) 0) : Int32).toInt64))) + (((sc 19) : Int32).toInt64))) + (((sc 18) : Int32).toInt64))) + (((sc 24) : Int32).toInt64))) + (((sc 25) : Int32).toInt64))) + (((sc 26) : Int32).toInt64)
abbrev rm_X5_withOutlook : Room := { frames := 0, cells := 0, slots := 0, locals := 0 }
set_option maxHeartbeats 4000000 in
set_option maxRecDepth 100000 in
theorem c_X5_withOutlook (l : Launch) (D : va_G) (cI cZ : ClassId) (z : Nat → Nat) (g : Nat → Nat) (sc : Nat → Int32) (ar : Nat → Nat → Int32) (x1 : Int64)  : cRl l yX5_withOutlook ww_X5_withOutlook rm_X5_withOutlook D cI cZ z (wC cI g sc ar) [.ref (g 0), .long x1] (fun r => r = zX5_withOutlook sc ar x1) := by
  refine cRl.of (cc := cX5_withOutlook) (maxL := 5) (by decide) rfl (Nat.le_of_ble_eq_true rfl) (fun X F E hR => ?_)
  refine J_lv [0, 1] (lv' := [(0, .ref (g 0)), (1, .long x1)]) rfl ?_
  refine J_lload_n (pc' := 1) (q := 1) F dX5_withOutlook_0 rfl rfl ?_
  refine J_lstore_n (pc' := 2) [1, 2, 0] [(0, .ref (g 0)), (1, .long x1), (3, .long x1)] F dX5_withOutlook_1 rfl (jL_of E (show 3 + 1 < 5 by decide)) rfl rfl ?_
  refine J_ldc2 (pc' := 5) (v := 31) F dX5_withOutlook_2 kw_559 rfl ?_
  refine J_lload_n (pc' := 6) (q := 2) F dX5_withOutlook_5 rfl rfl ?_
  refine J_lmul (pc' := 7) F dX5_withOutlook_6 rfl ?_
  refine J_aload_n (pc' := 8) (q := 0) F dX5_withOutlook_7 rfl rfl ?_
  refine C_get_0_9 (pc' := 11) F dX5_withOutlook_8 kw_171 rfl ?_
  refine C_get_10_0 (pc' := 14) F dX5_withOutlook_11 kw_93 rfl ?_
  refine J_iconst (pc' := 15) (v := 0) F dX5_withOutlook_14 (by decide) rfl ?_
  refine C_ld_6 (f := ar 6) (q := 0) (pc' := 16) F dX5_withOutlook_15 rfl rfl (by unfold vp_in; decide) rfl ?_
  refine J_i2l (pc' := 17) (v := (((ar 6) 0) : Int32).toInt64) F dX5_withOutlook_16 rfl rfl ?_
  refine J_ladd (pc' := 18) F dX5_withOutlook_17 rfl ?_
  refine J_lstore_n (pc' := 19) [1, 2, 0] [(0, .ref (g 0)), (1, .long x1), (3, .long ((31 * x1) + ((((ar 6) 0) : Int32).toInt64)))] F dX5_withOutlook_18 rfl (jL_of E (show 3 + 1 < 5 by decide)) rfl rfl ?_
  refine J_ldc2 (pc' := 22) (v := 31) F dX5_withOutlook_19 kw_559 rfl ?_
  refine J_lload_n (pc' := 23) (q := 2) F dX5_withOutlook_22 rfl rfl ?_
  refine J_lmul (pc' := 24) F dX5_withOutlook_23 rfl ?_
  refine J_aload_n (pc' := 25) (q := 0) F dX5_withOutlook_24 rfl rfl ?_
  refine C_get_0_9 (pc' := 28) F dX5_withOutlook_25 kw_171 rfl ?_
  refine C_get_10_1 (pc' := 31) F dX5_withOutlook_28 kw_95 rfl ?_
  refine J_iconst (pc' := 32) (v := 0) F dX5_withOutlook_31 (by decide) rfl ?_
  refine C_ld_7 (f := ar 7) (q := 0) (pc' := 33) F dX5_withOutlook_32 rfl rfl (by unfold vp_in; decide) rfl ?_
  refine J_i2l (pc' := 34) (v := (((ar 7) 0) : Int32).toInt64) F dX5_withOutlook_33 rfl rfl ?_
  refine J_ladd (pc' := 35) F dX5_withOutlook_34 rfl ?_
  refine J_lstore_n (pc' := 36) [1, 2, 0] [(0, .ref (g 0)), (1, .long x1), (3, .long ((31 * ((31 * x1) + ((((ar 6) 0) : Int32).toInt64))) + ((((ar 7) 0) : Int32).toInt64)))] F dX5_withOutlook_35 rfl (jL_of E (show 3 + 1 < 5 by decide)) rfl rfl ?_
  refine J_ldc2 (pc' := 39) (v := 31) F dX5_withOutlook_36 kw_559 rfl ?_
  refine J_lload_n (pc' := 40) (q := 2) F dX5_withOutlook_39 rfl rfl ?_
  refine J_lmul (pc' := 41) F dX5_withOutlook_40 rfl ?_
  refine J_aload_n (pc' := 42) (q := 0) F dX5_withOutlook_41 rfl rfl ?_
  refine C_get_0_9 (pc' := 45) F dX5_withOutlook_42 kw_171 rfl ?_
  refine C_get_10_6 (v := sc 19) (pc' := 48) F dX5_withOutlook_45 kw_102 rfl rfl ?_
  refine J_i2l (pc' := 49) (v := ((sc 19) : Int32).toInt64) F dX5_withOutlook_48 rfl rfl ?_
  refine J_ladd (pc' := 50) F dX5_withOutlook_49 rfl ?_
  refine J_lstore_n (pc' := 51) [1, 2, 0] [(0, .ref (g 0)), (1, .long x1), (3, .long ((31 * ((31 * ((31 * x1) + ((((ar 6) 0) : Int32).toInt64))) + ((((ar 7) 0) : Int32).toInt64))) + (((sc 19) : Int32).toInt64)))] F dX5_withOutlook_50 rfl (jL_of E (show 3 + 1 < 5 by decide)) rfl rfl ?_
  refine J_ldc2 (pc' := 54) (v := 31) F dX5_withOutlook_51 kw_559 rfl ?_
  refine J_lload_n (pc' := 55) (q := 2) F dX5_withOutlook_54 rfl rfl ?_
  refine J_lmul (pc' := 56) F dX5_withOutlook_55 rfl ?_
  refine J_aload_n (pc' := 57) (q := 0) F dX5_withOutlook_56 rfl rfl ?_
  refine C_get_0_9 (pc' := 60) F dX5_withOutlook_57 kw_171 rfl ?_
  refine C_get_10_5 (v := sc 18) (pc' := 63) F dX5_withOutlook_60 kw_100 rfl rfl ?_
  refine J_i2l (pc' := 64) (v := ((sc 18) : Int32).toInt64) F dX5_withOutlook_63 rfl rfl ?_
  refine J_ladd (pc' := 65) F dX5_withOutlook_64 rfl ?_
  refine J_lstore_n (pc' := 66) [1, 2, 0] [(0, .ref (g 0)), (1, .long x1), (3, .long ((31 * ((31 * ((31 * ((31 * x1) + ((((ar 6) 0) : Int32).toInt64))) + ((((ar 7) 0) : Int32).toInt64))) + (((sc 19) : Int32).toInt64))) + (((sc 18) : Int32).toInt64)))] F dX5_withOutlook_65 rfl (jL_of E (show 3 + 1 < 5 by decide)) rfl rfl ?_
  refine J_ldc2 (pc' := 69) (v := 31) F dX5_withOutlook_66 kw_559 rfl ?_
  refine J_lload_n (pc' := 70) (q := 2) F dX5_withOutlook_69 rfl rfl ?_
  refine J_lmul (pc' := 71) F dX5_withOutlook_70 rfl ?_
  refine J_aload_n (pc' := 72) (q := 0) F dX5_withOutlook_71 rfl rfl ?_
  refine C_get_0_11 (pc' := 75) F dX5_withOutlook_72 kw_173 rfl ?_
  refine C_get_18_0 (v := sc 24) (pc' := 78) F dX5_withOutlook_75 kw_150 rfl rfl ?_
  refine J_i2l (pc' := 79) (v := ((sc 24) : Int32).toInt64) F dX5_withOutlook_78 rfl rfl ?_
  refine J_ladd (pc' := 80) F dX5_withOutlook_79 rfl ?_
  refine J_lstore_n (pc' := 81) [1, 2, 0] [(0, .ref (g 0)), (1, .long x1), (3, .long ((31 * ((31 * ((31 * ((31 * ((31 * x1) + ((((ar 6) 0) : Int32).toInt64))) + ((((ar 7) 0) : Int32).toInt64))) + (((sc 19) : Int32).toInt64))) + (((sc 18) : Int32).toInt64))) + (((sc 24) : Int32).toInt64)))] F dX5_withOutlook_80 rfl (jL_of E (show 3 + 1 < 5 by decide)) rfl rfl ?_
  refine J_ldc2 (pc' := 84) (v := 31) F dX5_withOutlook_81 kw_559 rfl ?_
  refine J_lload_n (pc' := 85) (q := 2) F dX5_withOutlook_84 rfl rfl ?_
  refine J_lmul (pc' := 86) F dX5_withOutlook_85 rfl ?_
  refine J_aload_n (pc' := 87) (q := 0) F dX5_withOutlook_86 rfl rfl ?_
  refine C_get_0_11 (pc' := 90) F dX5_withOutlook_87 kw_173 rfl ?_
  refine C_get_18_1 (v := sc 25) (pc' := 93) F dX5_withOutlook_90 kw_152 rfl rfl ?_
  refine J_i2l (pc' := 94) (v := ((sc 25) : Int32).toInt64) F dX5_withOutlook_93 rfl rfl ?_
  refine J_ladd (pc' := 95) F dX5_withOutlook_94 rfl ?_
  refine J_lstore_n (pc' := 96) [1, 2, 0] [(0, .ref (g 0)), (1, .long x1), (3, .long ((31 * ((31 * ((31 * ((31 * ((31 * ((31 * x1) + ((((ar 6) 0) : Int32).toInt64))) + ((((ar 7) 0) : Int32).toInt64))) + (((sc 19) : Int32).toInt64))) + (((sc 18) : Int32).toInt64))) + (((sc 24) : Int32).toInt64))) + (((sc 25) : Int32).toInt64)))] F dX5_withOutlook_95 rfl (jL_of E (show 3 + 1 < 5 by decide)) rfl rfl ?_
  refine J_ldc2 (pc' := 99) (v := 31) F dX5_withOutlook_96 kw_559 rfl ?_
  refine J_lload_n (pc' := 100) (q := 2) F dX5_withOutlook_99 rfl rfl ?_
  refine J_lmul (pc' := 101) F dX5_withOutlook_100 rfl ?_
  refine J_aload_n (pc' := 102) (q := 0) F dX5_withOutlook_101 rfl rfl ?_
  refine C_get_0_11 (pc' := 105) F dX5_withOutlook_102 kw_173 rfl ?_
  refine C_get_18_2 (v := sc 26) (pc' := 108) F dX5_withOutlook_105 kw_154 rfl rfl ?_
  refine J_i2l (pc' := 109) (v := ((sc 26) : Int32).toInt64) F dX5_withOutlook_108 rfl rfl ?_
  refine J_ladd (pc' := 110) F dX5_withOutlook_109 rfl ?_
  exact J_lretR F hR dX5_withOutlook_110 rfl
