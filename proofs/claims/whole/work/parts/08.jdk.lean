/-! the JDK: two String constants (z 3: FORM, z 4: KINDS), Arrays.fill; EvenHold.at -/
def zAt (N : Nat) (f : Nat → Int32) (x : Int32) : Int32 := if x < 0 then 0 else if nI N ≤ x then 0 else f x.toNatClampNeg
abbrev rm_X5_at : Room := { frames := 0, cells := 0, slots := 0, locals := 0 }
set_option maxHeartbeats 4000000 in
set_option maxRecDepth 100000 in
theorem c_X5_at (l : Launch) (D : va_G) (cI cZ : ClassId) (z : Nat → Nat) (a N : Nat) (f : Nat → Int32) (hN : N < 2 ^ 31) (x1 : Int32) : cRi l yX5_at ww_X5_at rm_X5_at D cI cZ z [(a, .inl (cI, N, .inl f))] [.ref a, .int x1] (fun r => r = zAt N f x1) := by
  refine cRi.of (cc := cX5_at) (maxL := 2) (rt := .int) (by decide) rfl (Nat.le_of_ble_eq_true rfl) (fun X F E hR => ?_)
  refine J_lv [0, 1] (lv' := [(0, .ref a), (1, .int x1)]) rfl ?_
  refine J_iload_n (pc' := 1) (q := 1) F dX5_at_0 rfl rfl ?_
  refine J_if_lt (tgt := 16) (pc' := 4) F dX5_at_1 (by decide) rfl (fun c1 => ?_) (fun c1 => ?_)
  · refine J_iconst (pc' := 17) (v := 0) F dX5_at_16 (by decide) rfl ?_
    exact J_iretR F hR dX5_at_17 rfl (by show _ = zAt N f x1; unfold zAt; rw [if_pos c1])
  · refine J_iload_n (pc' := 5) (q := 1) F dX5_at_4 rfl rfl ?_
    refine J_aload_n (pc' := 6) (q := 0) F dX5_at_5 rfl rfl ?_
    refine J_alen (v := nI N) (pc' := 7) 0 F dX5_at_6 rfl rfl rfl ?_
    refine J_icmp_ge (tgt := 16) (pc' := 10) F dX5_at_7 (by decide) rfl (fun c7 => ?_) (fun c7 => ?_)
    · refine J_iconst (pc' := 17) (v := 0) F dX5_at_16 (by decide) rfl ?_
      exact J_iretR F hR dX5_at_17 rfl (by show _ = zAt N f x1; unfold zAt; rw [if_neg c1, if_pos c7])
    · refine J_aload_n (pc' := 11) (q := 0) F dX5_at_10 rfl rfl ?_
      refine J_iload_n (pc' := 12) (q := 1) F dX5_at_11 rfl rfl ?_
      refine J_iald (pc' := 13) 0 F dX5_at_12 rfl (vp_in2 c1 c7 hN) rfl ?_
      refine J_goto (tgt := 17) F dX5_at_13 (by decide) ?_
      exact J_iretR F hR dX5_at_17 rfl (by show _ = zAt N f x1; unfold zAt; rw [if_neg c1, if_neg c7])
set_option maxHeartbeats 4000000 in
set_option maxRecDepth 100000 in
theorem c_X5_atz (l : Launch) (D : va_G) (cI cZ : ClassId) (z : Nat → Nat) (a N : Nat) (f : Nat → Int32) (hT : ∀ (A : Nat → Prop) (U : State) (H : Heap), jSt z A U H → va_T .int a N (fun j => .int (f j)) A U H) (hN : N < 2 ^ 31) (x1 : Int32) : cRi l yX5_at ww_X5_at rm_X5_at D cI cZ z [] [.ref a, .int x1] (fun r => r = zAt N f x1) := by
  refine cRi.of (cc := cX5_at) (maxL := 2) (rt := .int) (by decide) rfl (Nat.le_of_ble_eq_true rfl) (fun X F E hR => ?_)
  refine J_lv [0, 1] (lv' := [(0, .ref a), (1, .int x1)]) rfl ?_
  refine J_iload_n (pc' := 1) (q := 1) F dX5_at_0 rfl rfl ?_
  refine J_if_lt (tgt := 16) (pc' := 4) F dX5_at_1 (by decide) rfl (fun c1 => ?_) (fun c1 => ?_)
  · refine J_iconst (pc' := 17) (v := 0) F dX5_at_16 (by decide) rfl ?_
    exact J_iretR F hR dX5_at_17 rfl (by show _ = zAt N f x1; unfold zAt; rw [if_pos c1])
  · refine J_iload_n (pc' := 5) (q := 1) F dX5_at_4 rfl rfl ?_
    refine J_aload_n (pc' := 6) (q := 0) F dX5_at_5 rfl rfl ?_
    refine J_tlen (v := nI N) (pc' := 7) F dX5_at_6 hT rfl rfl ?_
    refine J_icmp_ge (tgt := 16) (pc' := 10) F dX5_at_7 (by decide) rfl (fun c7 => ?_) (fun c7 => ?_)
    · refine J_iconst (pc' := 17) (v := 0) F dX5_at_16 (by decide) rfl ?_
      exact J_iretR F hR dX5_at_17 rfl (by show _ = zAt N f x1; unfold zAt; rw [if_neg c1, if_pos c7])
    · refine J_aload_n (pc' := 11) (q := 0) F dX5_at_10 rfl rfl ?_
      refine J_iload_n (pc' := 12) (q := 1) F dX5_at_11 rfl rfl ?_
      refine J_tiald (v := .int (f x1.toNatClampNeg)) (pc' := 13) F dX5_at_12 hT (vp_in2 c1 c7 hN) rfl rfl ?_
      refine J_goto (tgt := 17) F dX5_at_13 (by decide) ?_
      exact J_iretR F hR dX5_at_17 rfl (by show _ = zAt N f x1; unfold zAt; rw [if_neg c1, if_neg c7])
def zJ0_coder_3  : Int32 := 0
abbrev rm_J0_coder_3 : Room := { frames := 0, cells := 0, slots := 0, locals := 0 }
set_option maxHeartbeats 4000000 in
set_option maxRecDepth 100000 in
theorem c_J0_coder_3 (l : Launch) (D : va_G) (cI cZ : ClassId) (z : Nat → Nat)   : cRi l yJ0_coder_7d493 ww_J0_coder_7d493 rm_J0_coder_3 D cI cZ z [] [.ref (z 3)] (fun r => r = 0) := by
  refine cRi.of (cc := cJ0_coder_7d493) (maxL := 1) (rt := .byte) (by decide) rfl (Nat.le_of_ble_eq_true rfl) (fun X F E hR => ?_)
  refine J_lv [0] (lv' := [(0, .ref (z 3))]) rfl ?_
  refine J_gets (v := .int 1) (pc' := 3) F dJ0_coder_7d493_0 kw_223 (fun _ _ _ h => h.2.2.2.2.2.2.2.2.2.2.2.1) rfl rfl ?_
  refine J_if_eq (tgt := 13) (pc' := 6) F dJ0_coder_7d493_3 (by decide) rfl (fun c9 => absurd c9 (by decide)) (fun _ => ?_)
  refine J_aload_n (pc' := 7) (q := 0) F dJ0_coder_7d493_6 rfl rfl ?_
  refine J_getO (v := .int 0) (pc' := 10) F dJ0_coder_7d493_7 kw_892 (fun _ _ _ h => ((jStS h).1 0 (by decide)).2.1) rfl rfl ?_
  refine J_goto (tgt := 14) F dJ0_coder_7d493_10 (by decide) ?_
  exact J_iretR F hR dJ0_coder_7d493_14 rfl rfl
def zJ0_isLatin1_3  : Int32 := 1
abbrev rm_J0_isLatin1_3 : Room := { frames := 0, cells := 0, slots := 0, locals := 0 }
set_option maxHeartbeats 4000000 in
set_option maxRecDepth 100000 in
theorem c_J0_isLatin1_3 (l : Launch) (D : va_G) (cI cZ : ClassId) (z : Nat → Nat)   : cRi l yJ0_isLatin1_aae02 ww_J0_isLatin1_aae02 rm_J0_isLatin1_3 D cI cZ z [] [.ref (z 3)] (fun r => r = 1) := by
  refine cRi.of (cc := cJ0_isLatin1_aae02) (maxL := 1) (rt := .boolean) (by decide) rfl (Nat.le_of_ble_eq_true rfl) (fun X F E hR => ?_)
  refine J_lv [0] (lv' := [(0, .ref (z 3))]) rfl ?_
  refine J_gets (v := .int 1) (pc' := 3) F dJ0_isLatin1_aae02_0 kw_223 (fun _ _ _ h => h.2.2.2.2.2.2.2.2.2.2.2.1) rfl rfl ?_
  refine J_if_eq (tgt := 17) (pc' := 6) F dJ0_isLatin1_aae02_3 (by decide) rfl (fun c9 => absurd c9 (by decide)) (fun _ => ?_)
  refine J_aload_n (pc' := 7) (q := 0) F dJ0_isLatin1_aae02_6 rfl rfl ?_
  refine J_getO (v := .int 0) (pc' := 10) F dJ0_isLatin1_aae02_7 kw_892 (fun _ _ _ h => ((jStS h).1 0 (by decide)).2.1) rfl rfl ?_
  refine J_if_ne (tgt := 17) (pc' := 13) F dJ0_isLatin1_aae02_10 (by decide) rfl (fun c9 => absurd (by decide) c9) (fun _ => ?_)
  refine J_iconst (pc' := 14) (v := 1) F dJ0_isLatin1_aae02_13 (by decide) rfl ?_
  refine J_goto (tgt := 18) F dJ0_isLatin1_aae02_14 (by decide) ?_
  exact J_iretR F hR dJ0_isLatin1_aae02_18 rfl rfl
def zJ0_length_3  : Int32 := 14
abbrev rm_J0_length_3 : Room := { frames := 1, cells := 0, slots := 0, locals := 20 }
set_option maxHeartbeats 4000000 in
set_option maxRecDepth 100000 in
theorem c_J0_length_3 (l : Launch) (D : va_G) (cI cZ : ClassId) (z : Nat → Nat)   : cRi l yJ0_length_8abf5 ww_J0_length_8abf5 rm_J0_length_3 D cI cZ z [] [.ref (z 3)] (fun r => r = 14) := by
  refine cRi.of (cc := cJ0_length_8abf5) (maxL := 1) (rt := .int) (by decide) rfl (Nat.le_of_ble_eq_true rfl) (fun X F E hR => ?_)
  refine J_lv [0] (lv' := [(0, .ref (z 3))]) rfl ?_
  refine J_aload_n (pc' := 1) (q := 0) F dJ0_length_8abf5_0 rfl rfl ?_
  refine J_getO (v := .ref (z 5)) (pc' := 4) F dJ0_length_8abf5_1 kw_891 (fun _ _ _ h => ((jStS h).1 0 (by decide)).2.2.1) rfl rfl ?_
  refine J_tlen (v := 14) (pc' := 5) F dJ0_length_8abf5_4 (fun _ _ _ h => ((jStS h).1 0 (by decide)).2.2.2) rfl rfl ?_
  refine J_aload_n (pc' := 6) (q := 0) F dJ0_length_8abf5_5 rfl rfl ?_
  refine J_goRie (wc := []) (av := [.ref (z 3)]) (rest := [.int 14]) (v := 0) (pc' := 9) F E (fun _ _ => jP_nil _ _) (fun H locs hI hp => jrun_VS (i := 0) (As := []) F E (c_J0_coder_3 l D cI cZ z ) kw_219 kw_220 kw_221 rfl kw_222 kw_8 oJ0_coder_7d493 ⟨⟨rfl, rfl⟩, ⟨Nat.le_of_ble_eq_true rfl, Nat.le_of_ble_eq_true rfl⟩, Nat.zero_le _, Nat.zero_le _⟩ (by decide) rfl rfl (Nat.le_of_ble_eq_true rfl) dJ0_length_8abf5_6 hI hp) rfl ?_
  refine J_ishr (pc' := 10) F dJ0_length_8abf5_9 rfl ?_
  refine J_vali (y := 14) (by decide) ?_
  exact J_iretR F hR dJ0_length_8abf5_10 rfl rfl
def zJ0_coder_4  : Int32 := 0
abbrev rm_J0_coder_4 : Room := { frames := 0, cells := 0, slots := 0, locals := 0 }
set_option maxHeartbeats 4000000 in
set_option maxRecDepth 100000 in
theorem c_J0_coder_4 (l : Launch) (D : va_G) (cI cZ : ClassId) (z : Nat → Nat)   : cRi l yJ0_coder_7d493 ww_J0_coder_7d493 rm_J0_coder_4 D cI cZ z [] [.ref (z 4)] (fun r => r = 0) := by
  refine cRi.of (cc := cJ0_coder_7d493) (maxL := 1) (rt := .byte) (by decide) rfl (Nat.le_of_ble_eq_true rfl) (fun X F E hR => ?_)
  refine J_lv [0] (lv' := [(0, .ref (z 4))]) rfl ?_
  refine J_gets (v := .int 1) (pc' := 3) F dJ0_coder_7d493_0 kw_223 (fun _ _ _ h => h.2.2.2.2.2.2.2.2.2.2.2.1) rfl rfl ?_
  refine J_if_eq (tgt := 13) (pc' := 6) F dJ0_coder_7d493_3 (by decide) rfl (fun c9 => absurd c9 (by decide)) (fun _ => ?_)
  refine J_aload_n (pc' := 7) (q := 0) F dJ0_coder_7d493_6 rfl rfl ?_
  refine J_getO (v := .int 0) (pc' := 10) F dJ0_coder_7d493_7 kw_892 (fun _ _ _ h => ((jStS h).1 1 (by decide)).2.1) rfl rfl ?_
  refine J_goto (tgt := 14) F dJ0_coder_7d493_10 (by decide) ?_
  exact J_iretR F hR dJ0_coder_7d493_14 rfl rfl
def zJ0_isLatin1_4  : Int32 := 1
abbrev rm_J0_isLatin1_4 : Room := { frames := 0, cells := 0, slots := 0, locals := 0 }
set_option maxHeartbeats 4000000 in
set_option maxRecDepth 100000 in
theorem c_J0_isLatin1_4 (l : Launch) (D : va_G) (cI cZ : ClassId) (z : Nat → Nat)   : cRi l yJ0_isLatin1_aae02 ww_J0_isLatin1_aae02 rm_J0_isLatin1_4 D cI cZ z [] [.ref (z 4)] (fun r => r = 1) := by
  refine cRi.of (cc := cJ0_isLatin1_aae02) (maxL := 1) (rt := .boolean) (by decide) rfl (Nat.le_of_ble_eq_true rfl) (fun X F E hR => ?_)
  refine J_lv [0] (lv' := [(0, .ref (z 4))]) rfl ?_
  refine J_gets (v := .int 1) (pc' := 3) F dJ0_isLatin1_aae02_0 kw_223 (fun _ _ _ h => h.2.2.2.2.2.2.2.2.2.2.2.1) rfl rfl ?_
  refine J_if_eq (tgt := 17) (pc' := 6) F dJ0_isLatin1_aae02_3 (by decide) rfl (fun c9 => absurd c9 (by decide)) (fun _ => ?_)
  refine J_aload_n (pc' := 7) (q := 0) F dJ0_isLatin1_aae02_6 rfl rfl ?_
  refine J_getO (v := .int 0) (pc' := 10) F dJ0_isLatin1_aae02_7 kw_892 (fun _ _ _ h => ((jStS h).1 1 (by decide)).2.1) rfl rfl ?_
  refine J_if_ne (tgt := 17) (pc' := 13) F dJ0_isLatin1_aae02_10 (by decide) rfl (fun c9 => absurd (by decide) c9) (fun _ => ?_)
  refine J_iconst (pc' := 14) (v := 1) F dJ0_isLatin1_aae02_13 (by decide) rfl ?_
  refine J_goto (tgt := 18) F dJ0_isLatin1_aae02_14 (by decide) ?_
  exact J_iretR F hR dJ0_isLatin1_aae02_18 rfl rfl
def zJ0_length_4  : Int32 := 5
abbrev rm_J0_length_4 : Room := { frames := 1, cells := 0, slots := 0, locals := 20 }
set_option maxHeartbeats 4000000 in
set_option maxRecDepth 100000 in
theorem c_J0_length_4 (l : Launch) (D : va_G) (cI cZ : ClassId) (z : Nat → Nat)   : cRi l yJ0_length_8abf5 ww_J0_length_8abf5 rm_J0_length_4 D cI cZ z [] [.ref (z 4)] (fun r => r = 5) := by
  refine cRi.of (cc := cJ0_length_8abf5) (maxL := 1) (rt := .int) (by decide) rfl (Nat.le_of_ble_eq_true rfl) (fun X F E hR => ?_)
  refine J_lv [0] (lv' := [(0, .ref (z 4))]) rfl ?_
  refine J_aload_n (pc' := 1) (q := 0) F dJ0_length_8abf5_0 rfl rfl ?_
  refine J_getO (v := .ref (z 6)) (pc' := 4) F dJ0_length_8abf5_1 kw_891 (fun _ _ _ h => ((jStS h).1 1 (by decide)).2.2.1) rfl rfl ?_
  refine J_tlen (v := 5) (pc' := 5) F dJ0_length_8abf5_4 (fun _ _ _ h => ((jStS h).1 1 (by decide)).2.2.2) rfl rfl ?_
  refine J_aload_n (pc' := 6) (q := 0) F dJ0_length_8abf5_5 rfl rfl ?_
  refine J_goRie (wc := []) (av := [.ref (z 4)]) (rest := [.int 5]) (v := 0) (pc' := 9) F E (fun _ _ => jP_nil _ _) (fun H locs hI hp => jrun_VS (i := 1) (As := []) F E (c_J0_coder_4 l D cI cZ z ) kw_219 kw_220 kw_221 rfl kw_222 kw_8 oJ0_coder_7d493 ⟨⟨rfl, rfl⟩, ⟨Nat.le_of_ble_eq_true rfl, Nat.le_of_ble_eq_true rfl⟩, Nat.zero_le _, Nat.zero_le _⟩ (by decide) rfl rfl (Nat.le_of_ble_eq_true rfl) dJ0_length_8abf5_6 hI hp) rfl ?_
  refine J_ishr (pc' := 10) F dJ0_length_8abf5_9 rfl ?_
  refine J_vali (y := 5) (by decide) ?_
  exact J_iretR F hR dJ0_length_8abf5_10 rfl rfl
abbrev rm_J3_checkIndex_8e157 : Room := { frames := 0, cells := 0, slots := 0, locals := 0 }
set_option maxHeartbeats 4000000 in
set_option maxRecDepth 100000 in
theorem c_J3_checkIndex_8e157 (l : Launch) (D : va_G) (cI cZ : ClassId) (z : Nat → Nat) (x0 x1 : Int32) (v2 : Value) (hv2 : v2.category = 1) (h0 : ¬ x0 < 0) (h1 : x0 < x1) : cRi l yJ3_checkIndex_8e157 ww_J3_checkIndex_8e157 rm_J3_checkIndex_8e157 D cI cZ z [] [.int x0, .int x1, v2] (fun r => r = x0) := by
  refine cRi.of (cc := cJ3_checkIndex_8e157) (maxL := 3) (rt := .int) (by decide) rfl (by simp [lg_sl, hv2, show ∀ x : Int32, (Value.int x).category = 1 from fun _ => rfl]) (fun X F E hR => ?_)
  refine J_lv [0, 1] (lv' := [(0, .int x0), (1, .int x1)]) rfl ?_
  refine J_iload_n (pc' := 1) (q := 0) F dJ3_checkIndex_8e157_0 rfl rfl ?_
  refine J_if_lt (tgt := 9) (pc' := 4) F dJ3_checkIndex_8e157_1 (by decide) rfl (fun c1 => False.elim (h0 c1)) (fun c1 => ?_)
  refine J_iload_n (pc' := 5) (q := 0) F dJ3_checkIndex_8e157_4 rfl rfl ?_
  refine J_iload_n (pc' := 6) (q := 1) F dJ3_checkIndex_8e157_5 rfl rfl ?_
  refine J_icmp_lt (tgt := 16) (pc' := 9) F dJ3_checkIndex_8e157_6 (by decide) rfl (fun c6 => ?_) (fun c6 => False.elim (c6 h1))
  refine J_iload_n (pc' := 17) (q := 0) F dJ3_checkIndex_8e157_16 rfl rfl ?_
  exact J_iretR F hR dJ3_checkIndex_8e157_17 rfl rfl
abbrev rm_J0_checkIndex_df160 : Room := { frames := 1, cells := 0, slots := 0, locals := 22 }
set_option maxHeartbeats 4000000 in
set_option maxRecDepth 100000 in
theorem c_J0_checkIndex_df160 (l : Launch) (D : va_G) (cI cZ : ClassId) (z : Nat → Nat) (x0 x1 : Int32) (h0 : ¬ x0 < 0) (h1 : x0 < x1) : cRv l yJ0_checkIndex_df160 ww_J0_checkIndex_df160 rm_J0_checkIndex_df160 D cI cZ z [] [.int x0, .int x1] (fun _ => True) := by
  refine cRv.of (cc := cJ0_checkIndex_df160) (maxL := 2) (by decide) rfl (Nat.le_of_ble_eq_true rfl) (fun X F E hR => ?_)
  refine J_lv [0, 1] (lv' := [(0, .int x0), (1, .int x1)]) rfl ?_
  refine J_iload_n (pc' := 1) (q := 0) F dJ0_checkIndex_df160_0 rfl rfl ?_
  refine J_iload_n (pc' := 2) (q := 1) F dJ0_checkIndex_df160_1 rfl rfl ?_
  refine J_getsq (pc' := 5) F dJ0_checkIndex_df160_2 kw_239 rfl (fun v2 hv2 => ?_)
  refine J_goRie (wc := []) (av := [.int x0, .int x1, v2]) (rest := []) (v := x0) (pc' := 8) F E (fun _ _ => jP_nil _ _) (fun H locs hI hp => jrun_S F E (c_J3_checkIndex_8e157 l D cI cZ z x0 x1 v2 hv2 h0 h1) kw_241 kw_242 rfl kw_243 kw_10 oJ3_checkIndex_8e157 ⟨⟨rfl, rfl⟩, ⟨Nat.le_of_ble_eq_true rfl, Nat.le_of_ble_eq_true rfl⟩, Nat.zero_le _, Nat.zero_le _⟩ rfl (Nat.le_of_ble_eq_true rfl) dJ0_checkIndex_df160_5 hp) rfl ?_
  refine J_pop (pc' := 9) F dJ0_checkIndex_df160_8 rfl rfl ?_
  exact J_vretR F hR dJ0_checkIndex_df160_9 trivial
def zJ1_charAt_3b067  (x1 : Int32) : Int32 := (((((jByt.getD 0 []).getD ((x1 : Int32).toNatClampNeg) 0) &&& 255) : Int32).toUInt32 % 65536).toInt32
abbrev rm_J1_charAt_3b067 : Room := { frames := 2, cells := 0, slots := 0, locals := 43 }
set_option maxHeartbeats 4000000 in
set_option maxRecDepth 100000 in
theorem c_J1_charAt_3b067 (l : Launch) (D : va_G) (cI cZ : ClassId) (z : Nat → Nat) (x1 : Int32) (h0 : ¬ x1 < 0) (h1 : x1 < 14) : cRi l yJ1_charAt_3b067 ww_J1_charAt_3b067 rm_J1_charAt_3b067 D cI cZ z [] [.ref (z 5), .int x1] (fun r => r = zJ1_charAt_3b067 x1) := by
  refine cRi.of (cc := cJ1_charAt_3b067) (maxL := 2) (rt := .char) (by decide) rfl (Nat.le_of_ble_eq_true rfl) (fun X F E hR => ?_)
  refine J_lv [0, 1] (lv' := [(0, .ref (z 5)), (1, .int x1)]) rfl ?_
  refine J_iload_n (pc' := 1) (q := 1) F dJ1_charAt_3b067_0 rfl rfl ?_
  refine J_aload_n (pc' := 2) (q := 0) F dJ1_charAt_3b067_1 rfl rfl ?_
  refine J_tlen (v := 14) (pc' := 3) F dJ1_charAt_3b067_2 (fun _ _ _ h => ((jStS h).1 0 (by decide)).2.2.2) rfl rfl ?_
  refine J_goRv (wc := []) (av := [.int x1, .int 14]) (rest := []) (pc' := 6) F E (fun _ _ => jP_nil _ _) (fun H locs hI hp => jrun_S F E (c_J0_checkIndex_df160 l D cI cZ z x1 14 h0 h1) kw_236 kw_237 rfl kw_238 kw_8 oJ0_checkIndex_df160 ⟨⟨rfl, rfl⟩, ⟨Nat.le_of_ble_eq_true rfl, Nat.le_of_ble_eq_true rfl⟩, Nat.zero_le _, Nat.zero_le _⟩ rfl (Nat.le_of_ble_eq_true rfl) dJ1_charAt_3b067_3 hp) rfl (fun _ => ?_)
  refine J_aload_n (pc' := 7) (q := 0) F dJ1_charAt_3b067_6 rfl rfl ?_
  refine J_iload_n (pc' := 8) (q := 1) F dJ1_charAt_3b067_7 rfl rfl ?_
  refine J_tbald (v := .int ((jByt.getD 0 []).getD ((x1 : Int32).toNatClampNeg) 0)) (pc' := 9) F dJ1_charAt_3b067_8 (fun _ _ _ h => ((jStS h).1 0 (by decide)).2.2.2) (vp_in3 h0 h1 (by decide)) rfl rfl ?_
  refine J_sipush (pc' := 12) (v := 255) F dJ1_charAt_3b067_9 (by decide) rfl ?_
  refine J_iand (pc' := 13) F dJ1_charAt_3b067_12 rfl ?_
  refine J_i2c (pc' := 14) (v := (((((jByt.getD 0 []).getD ((x1 : Int32).toNatClampNeg) 0) &&& 255) : Int32).toUInt32 % 65536).toInt32) F dJ1_charAt_3b067_13 rfl rfl ?_
  exact J_iretR F hR dJ1_charAt_3b067_14 (pk_nc _) rfl
def zJ0_charAt_5068e  (x1 : Int32) : Int32 := zJ1_charAt_3b067 x1
abbrev rm_J0_charAt_5068e : Room := { frames := 3, cells := 0, slots := 0, locals := 64 }
set_option maxHeartbeats 4000000 in
set_option maxRecDepth 100000 in
theorem c_J0_charAt_5068e (l : Launch) (D : va_G) (cI cZ : ClassId) (z : Nat → Nat) (x1 : Int32) (h0 : ¬ x1 < 0) (h1 : x1 < 14) : cRi l yJ0_charAt_5068e ww_J0_charAt_5068e rm_J0_charAt_5068e D cI cZ z [] [.ref (z 3), .int x1] (fun r => r = zJ0_charAt_5068e x1) := by
  refine cRi.of (cc := cJ0_charAt_5068e) (maxL := 2) (rt := .char) (by decide) rfl (Nat.le_of_ble_eq_true rfl) (fun X F E hR => ?_)
  refine J_lv [0, 1] (lv' := [(0, .ref (z 3)), (1, .int x1)]) rfl ?_
  refine J_aload_n (pc' := 1) (q := 0) F dJ0_charAt_5068e_0 rfl rfl ?_
  refine J_goRie (wc := []) (av := [.ref (z 3)]) (rest := []) (v := 1) (pc' := 4) F E (fun _ _ => jP_nil _ _) (fun H locs hI hp => jrun_VS (i := 0) (As := []) F E (c_J0_isLatin1_3 l D cI cZ z ) kw_229 kw_230 kw_231 rfl kw_232 kw_8 oJ0_isLatin1_aae02 ⟨⟨rfl, rfl⟩, ⟨Nat.le_of_ble_eq_true rfl, Nat.le_of_ble_eq_true rfl⟩, Nat.zero_le _, Nat.zero_le _⟩ (by decide) rfl rfl (Nat.le_of_ble_eq_true rfl) dJ0_charAt_5068e_1 hI hp) rfl ?_
  refine J_if_eq (tgt := 16) (pc' := 7) F dJ0_charAt_5068e_4 (by decide) rfl (fun c9 => absurd c9 (by decide)) (fun _ => ?_)
  refine J_aload_n (pc' := 8) (q := 0) F dJ0_charAt_5068e_7 rfl rfl ?_
  refine J_getO (v := .ref (z 5)) (pc' := 11) F dJ0_charAt_5068e_8 kw_891 (fun _ _ _ h => ((jStS h).1 0 (by decide)).2.2.1) rfl rfl ?_
  refine J_iload_n (pc' := 12) (q := 1) F dJ0_charAt_5068e_11 rfl rfl ?_
  refine J_goRie (wc := []) (av := [.ref (z 5), .int x1]) (rest := []) (v := zJ1_charAt_3b067 x1) (pc' := 15) F E (fun _ _ => jP_nil _ _) (fun H locs hI hp => jrun_S F E (c_J1_charAt_3b067 l D cI cZ z x1 h0 h1) kw_233 kw_234 rfl kw_235 kw_9 oJ1_charAt_3b067 ⟨⟨rfl, rfl⟩, ⟨Nat.le_of_ble_eq_true rfl, Nat.le_of_ble_eq_true rfl⟩, Nat.zero_le _, Nat.zero_le _⟩ rfl (Nat.le_of_ble_eq_true rfl) dJ0_charAt_5068e_12 hp) rfl ?_
  exact J_iretR F hR dJ0_charAt_5068e_15 (pk_nc _) rfl
def zJ1_canEncode_9a6ad  (x0 : Int32) : Int32 := if x0 < 0 then 0 else (if (255 : Int32) < x0 then 0 else 1)
abbrev rm_J1_canEncode_9a6ad : Room := { frames := 0, cells := 0, slots := 0, locals := 0 }
set_option maxHeartbeats 4000000 in
set_option maxRecDepth 100000 in
theorem c_J1_canEncode_9a6ad (l : Launch) (D : va_G) (cI cZ : ClassId) (z : Nat → Nat) (x0 : Int32)  : cRi l yJ1_canEncode_9a6ad ww_J1_canEncode_9a6ad rm_J1_canEncode_9a6ad D cI cZ z [] [.int x0] (fun r => r = zJ1_canEncode_9a6ad x0) := by
  refine cRi.of (cc := cJ1_canEncode_9a6ad) (maxL := 1) (rt := .boolean) (by decide) rfl (Nat.le_of_ble_eq_true rfl) (fun X F E hR => ?_)
  refine J_lv [0] (lv' := [(0, .int x0)]) rfl ?_
  refine J_iload_n (pc' := 1) (q := 0) F dJ1_canEncode_9a6ad_0 rfl rfl ?_
  refine J_if_lt (tgt := 15) (pc' := 4) F dJ1_canEncode_9a6ad_1 (by decide) rfl (fun c1 => ?_) (fun c1 => ?_)
  · refine J_iconst (pc' := 16) (v := 0) F dJ1_canEncode_9a6ad_15 (by decide) rfl ?_
    exact J_iretR F hR dJ1_canEncode_9a6ad_16 rfl (by show _ = zJ1_canEncode_9a6ad x0; unfold zJ1_canEncode_9a6ad; rw [if_pos c1])
  · refine J_iload_n (pc' := 5) (q := 0) F dJ1_canEncode_9a6ad_4 rfl rfl ?_
    refine J_sipush (pc' := 8) (v := 255) F dJ1_canEncode_9a6ad_5 (by decide) rfl ?_
    refine J_icmp_gt (tgt := 15) (pc' := 11) F dJ1_canEncode_9a6ad_8 (by decide) rfl (fun c8 => ?_) (fun c8 => ?_)
    · refine J_iconst (pc' := 16) (v := 0) F dJ1_canEncode_9a6ad_15 (by decide) rfl ?_
      exact J_iretR F hR dJ1_canEncode_9a6ad_16 rfl (by show _ = zJ1_canEncode_9a6ad x0; unfold zJ1_canEncode_9a6ad; rw [if_neg c1, if_pos c8])
    · refine J_iconst (pc' := 12) (v := 1) F dJ1_canEncode_9a6ad_11 (by decide) rfl ?_
      refine J_goto (tgt := 16) F dJ1_canEncode_9a6ad_12 (by decide) ?_
      exact J_iretR F hR dJ1_canEncode_9a6ad_16 rfl (by show _ = zJ1_canEncode_9a6ad x0; unfold zJ1_canEncode_9a6ad; rw [if_neg c1, if_neg c8])
def zJ1_indexOfChar_4cfef  (x1 : Int32) : Int32 := if (98 : Int32) = ((x1 : Int32).toInt8.toInt32) then 0 else (if (110 : Int32) = ((x1 : Int32).toInt8.toInt32) then 1 else (if (102 : Int32) = ((x1 : Int32).toInt8.toInt32) then 2 else (if (104 : Int32) = ((x1 : Int32).toInt8.toInt32) then 3 else (if (100 : Int32) = ((x1 : Int32).toInt8.toInt32) then 4 else (-1)))))
abbrev rm_J1_indexOfChar_4cfef : Room := { frames := 0, cells := 0, slots := 0, locals := 0 }
set_option maxHeartbeats 4000000 in
set_option maxRecDepth 100000 in
theorem c_J1_indexOfChar_4cfef (l : Launch) (D : va_G) (cI cZ : ClassId) (z : Nat → Nat) (x1 : Int32)  : cRi l yJ1_indexOfChar_4cfef ww_J1_indexOfChar_4cfef rm_J1_indexOfChar_4cfef D cI cZ z [] [.ref (z 6), .int x1, .int 0, .int 5] (fun r => r = zJ1_indexOfChar_4cfef x1) := by
  refine cRi.of (cc := cJ1_indexOfChar_4cfef) (maxL := 6) (rt := .int) (by decide) rfl (Nat.le_of_ble_eq_true rfl) (fun X F E hR => ?_)
  refine J_lv [0, 1, 2, 3] (lv' := [(0, .ref (z 6)), (1, .int x1), (2, .int 0), (3, .int 5)]) rfl ?_
  refine J_iload_n (pc' := 1) (q := 1) F dJ1_indexOfChar_4cfef_0 rfl rfl ?_
  refine J_i2b (pc' := 2) (v := (x1 : Int32).toInt8.toInt32) F dJ1_indexOfChar_4cfef_1 rfl rfl ?_
  refine J_istore (pc' := 4) [1, 2, 3, 4, 0] [(0, .ref (z 6)), (1, .int x1), (2, .int 0), (3, .int 5), (4, .int ((x1 : Int32).toInt8.toInt32))] F dJ1_indexOfChar_4cfef_2 (jL_of E (show 4 < 6 by decide)) rfl rfl ?_
  refine J_iload_n (pc' := 5) (q := 2) F dJ1_indexOfChar_4cfef_4 rfl rfl ?_
  refine J_istore (pc' := 7) [1, 2, 3, 4, 5, 0] [(0, .ref (z 6)), (1, .int x1), (2, .int 0), (3, .int 5), (4, .int ((x1 : Int32).toInt8.toInt32)), (5, .int 0)] F dJ1_indexOfChar_4cfef_5 (jL_of E (show 5 < 6 by decide)) rfl rfl ?_
  refine J_iload (pc' := 9) (q := 5) F dJ1_indexOfChar_4cfef_7 rfl rfl ?_
  refine J_iload_n (pc' := 10) (q := 3) F dJ1_indexOfChar_4cfef_9 rfl rfl ?_
  refine J_icmp_ge (tgt := 31) (pc' := 13) F dJ1_indexOfChar_4cfef_10 (by decide) rfl (fun c9 => absurd c9 (by decide)) (fun _ => ?_)
  refine J_aload_n (pc' := 14) (q := 0) F dJ1_indexOfChar_4cfef_13 rfl rfl ?_
  refine J_iload (pc' := 16) (q := 5) F dJ1_indexOfChar_4cfef_14 rfl rfl ?_
  refine J_tbald (v := .int 98) (pc' := 17) F dJ1_indexOfChar_4cfef_16 (fun _ _ _ h => ((jStS h).1 1 (by decide)).2.2.2) (by unfold vp_in; decide) rfl rfl ?_
  refine J_iload (pc' := 19) (q := 4) F dJ1_indexOfChar_4cfef_17 rfl rfl ?_
  refine J_icmp_ne (tgt := 25) (pc' := 22) F dJ1_indexOfChar_4cfef_19 (by decide) rfl (fun c19 => ?_) (fun c19 => ?_)
  · refine J_iinc (v := 1) (q := 5) (pc' := 28) [1, 2, 3, 4, 5, 0] [(0, .ref (z 6)), (1, .int x1), (2, .int 0), (3, .int 5), (4, .int ((x1 : Int32).toInt8.toInt32)), (5, .int 1)] F dJ1_indexOfChar_4cfef_25 rfl (by decide) (jL_of E (show 5 < 6 by decide)) rfl rfl ?_
    refine J_goto (tgt := 7) F dJ1_indexOfChar_4cfef_28 (by decide) ?_
    refine J_iload (pc' := 9) (q := 5) F dJ1_indexOfChar_4cfef_7 rfl rfl ?_
    refine J_iload_n (pc' := 10) (q := 3) F dJ1_indexOfChar_4cfef_9 rfl rfl ?_
    refine J_icmp_ge (tgt := 31) (pc' := 13) F dJ1_indexOfChar_4cfef_10 (by decide) rfl (fun c9 => absurd c9 (by decide)) (fun _ => ?_)
    refine J_aload_n (pc' := 14) (q := 0) F dJ1_indexOfChar_4cfef_13 rfl rfl ?_
    refine J_iload (pc' := 16) (q := 5) F dJ1_indexOfChar_4cfef_14 rfl rfl ?_
    refine J_tbald (v := .int 110) (pc' := 17) F dJ1_indexOfChar_4cfef_16 (fun _ _ _ h => ((jStS h).1 1 (by decide)).2.2.2) (by unfold vp_in; decide) rfl rfl ?_
    refine J_iload (pc' := 19) (q := 4) F dJ1_indexOfChar_4cfef_17 rfl rfl ?_
    refine J_icmp_ne (tgt := 25) (pc' := 22) F dJ1_indexOfChar_4cfef_19 (by decide) rfl (fun c19_2 => ?_) (fun c19_2 => ?_)
    · refine J_iinc (v := 2) (q := 5) (pc' := 28) [1, 2, 3, 4, 5, 0] [(0, .ref (z 6)), (1, .int x1), (2, .int 0), (3, .int 5), (4, .int ((x1 : Int32).toInt8.toInt32)), (5, .int 2)] F dJ1_indexOfChar_4cfef_25 rfl (by decide) (jL_of E (show 5 < 6 by decide)) rfl rfl ?_
      refine J_goto (tgt := 7) F dJ1_indexOfChar_4cfef_28 (by decide) ?_
      refine J_iload (pc' := 9) (q := 5) F dJ1_indexOfChar_4cfef_7 rfl rfl ?_
      refine J_iload_n (pc' := 10) (q := 3) F dJ1_indexOfChar_4cfef_9 rfl rfl ?_
      refine J_icmp_ge (tgt := 31) (pc' := 13) F dJ1_indexOfChar_4cfef_10 (by decide) rfl (fun c9 => absurd c9 (by decide)) (fun _ => ?_)
      refine J_aload_n (pc' := 14) (q := 0) F dJ1_indexOfChar_4cfef_13 rfl rfl ?_
      refine J_iload (pc' := 16) (q := 5) F dJ1_indexOfChar_4cfef_14 rfl rfl ?_
      refine J_tbald (v := .int 102) (pc' := 17) F dJ1_indexOfChar_4cfef_16 (fun _ _ _ h => ((jStS h).1 1 (by decide)).2.2.2) (by unfold vp_in; decide) rfl rfl ?_
      refine J_iload (pc' := 19) (q := 4) F dJ1_indexOfChar_4cfef_17 rfl rfl ?_
      refine J_icmp_ne (tgt := 25) (pc' := 22) F dJ1_indexOfChar_4cfef_19 (by decide) rfl (fun c19_3 => ?_) (fun c19_3 => ?_)
      · refine J_iinc (v := 3) (q := 5) (pc' := 28) [1, 2, 3, 4, 5, 0] [(0, .ref (z 6)), (1, .int x1), (2, .int 0), (3, .int 5), (4, .int ((x1 : Int32).toInt8.toInt32)), (5, .int 3)] F dJ1_indexOfChar_4cfef_25 rfl (by decide) (jL_of E (show 5 < 6 by decide)) rfl rfl ?_
        refine J_goto (tgt := 7) F dJ1_indexOfChar_4cfef_28 (by decide) ?_
        refine J_iload (pc' := 9) (q := 5) F dJ1_indexOfChar_4cfef_7 rfl rfl ?_
        refine J_iload_n (pc' := 10) (q := 3) F dJ1_indexOfChar_4cfef_9 rfl rfl ?_
        refine J_icmp_ge (tgt := 31) (pc' := 13) F dJ1_indexOfChar_4cfef_10 (by decide) rfl (fun c9 => absurd c9 (by decide)) (fun _ => ?_)
        refine J_aload_n (pc' := 14) (q := 0) F dJ1_indexOfChar_4cfef_13 rfl rfl ?_
        refine J_iload (pc' := 16) (q := 5) F dJ1_indexOfChar_4cfef_14 rfl rfl ?_
        refine J_tbald (v := .int 104) (pc' := 17) F dJ1_indexOfChar_4cfef_16 (fun _ _ _ h => ((jStS h).1 1 (by decide)).2.2.2) (by unfold vp_in; decide) rfl rfl ?_
        refine J_iload (pc' := 19) (q := 4) F dJ1_indexOfChar_4cfef_17 rfl rfl ?_
        refine J_icmp_ne (tgt := 25) (pc' := 22) F dJ1_indexOfChar_4cfef_19 (by decide) rfl (fun c19_4 => ?_) (fun c19_4 => ?_)
        · refine J_iinc (v := 4) (q := 5) (pc' := 28) [1, 2, 3, 4, 5, 0] [(0, .ref (z 6)), (1, .int x1), (2, .int 0), (3, .int 5), (4, .int ((x1 : Int32).toInt8.toInt32)), (5, .int 4)] F dJ1_indexOfChar_4cfef_25 rfl (by decide) (jL_of E (show 5 < 6 by decide)) rfl rfl ?_
          refine J_goto (tgt := 7) F dJ1_indexOfChar_4cfef_28 (by decide) ?_
          refine J_iload (pc' := 9) (q := 5) F dJ1_indexOfChar_4cfef_7 rfl rfl ?_
          refine J_iload_n (pc' := 10) (q := 3) F dJ1_indexOfChar_4cfef_9 rfl rfl ?_
          refine J_icmp_ge (tgt := 31) (pc' := 13) F dJ1_indexOfChar_4cfef_10 (by decide) rfl (fun c9 => absurd c9 (by decide)) (fun _ => ?_)
          refine J_aload_n (pc' := 14) (q := 0) F dJ1_indexOfChar_4cfef_13 rfl rfl ?_
          refine J_iload (pc' := 16) (q := 5) F dJ1_indexOfChar_4cfef_14 rfl rfl ?_
          refine J_tbald (v := .int 100) (pc' := 17) F dJ1_indexOfChar_4cfef_16 (fun _ _ _ h => ((jStS h).1 1 (by decide)).2.2.2) (by unfold vp_in; decide) rfl rfl ?_
          refine J_iload (pc' := 19) (q := 4) F dJ1_indexOfChar_4cfef_17 rfl rfl ?_
          refine J_icmp_ne (tgt := 25) (pc' := 22) F dJ1_indexOfChar_4cfef_19 (by decide) rfl (fun c19_5 => ?_) (fun c19_5 => ?_)
          · refine J_iinc (v := 5) (q := 5) (pc' := 28) [1, 2, 3, 4, 5, 0] [(0, .ref (z 6)), (1, .int x1), (2, .int 0), (3, .int 5), (4, .int ((x1 : Int32).toInt8.toInt32)), (5, .int 5)] F dJ1_indexOfChar_4cfef_25 rfl (by decide) (jL_of E (show 5 < 6 by decide)) rfl rfl ?_
            refine J_goto (tgt := 7) F dJ1_indexOfChar_4cfef_28 (by decide) ?_
            refine J_iload (pc' := 9) (q := 5) F dJ1_indexOfChar_4cfef_7 rfl rfl ?_
            refine J_iload_n (pc' := 10) (q := 3) F dJ1_indexOfChar_4cfef_9 rfl rfl ?_
            refine J_icmp_ge (tgt := 31) (pc' := 13) F dJ1_indexOfChar_4cfef_10 (by decide) rfl (fun _ => ?_) (fun c9 => absurd (by decide) c9)
            refine J_iconst (pc' := 32) (v := (-1)) F dJ1_indexOfChar_4cfef_31 (by decide) rfl ?_
            exact J_iretR F hR dJ1_indexOfChar_4cfef_32 rfl (by show _ = zJ1_indexOfChar_4cfef x1; unfold zJ1_indexOfChar_4cfef; rw [if_neg c19, if_neg c19_2, if_neg c19_3, if_neg c19_4, if_neg c19_5])
          · refine J_iload (pc' := 24) (q := 5) F dJ1_indexOfChar_4cfef_22 rfl rfl ?_
            exact J_iretR F hR dJ1_indexOfChar_4cfef_24 rfl (by show _ = zJ1_indexOfChar_4cfef x1; unfold zJ1_indexOfChar_4cfef; rw [if_neg c19, if_neg c19_2, if_neg c19_3, if_neg c19_4, if_pos c19_5])
        · refine J_iload (pc' := 24) (q := 5) F dJ1_indexOfChar_4cfef_22 rfl rfl ?_
          exact J_iretR F hR dJ1_indexOfChar_4cfef_24 rfl (by show _ = zJ1_indexOfChar_4cfef x1; unfold zJ1_indexOfChar_4cfef; rw [if_neg c19, if_neg c19_2, if_neg c19_3, if_pos c19_4])
      · refine J_iload (pc' := 24) (q := 5) F dJ1_indexOfChar_4cfef_22 rfl rfl ?_
        exact J_iretR F hR dJ1_indexOfChar_4cfef_24 rfl (by show _ = zJ1_indexOfChar_4cfef x1; unfold zJ1_indexOfChar_4cfef; rw [if_neg c19, if_neg c19_2, if_pos c19_3])
    · refine J_iload (pc' := 24) (q := 5) F dJ1_indexOfChar_4cfef_22 rfl rfl ?_
      exact J_iretR F hR dJ1_indexOfChar_4cfef_24 rfl (by show _ = zJ1_indexOfChar_4cfef x1; unfold zJ1_indexOfChar_4cfef; rw [if_neg c19, if_pos c19_2])
  · refine J_iload (pc' := 24) (q := 5) F dJ1_indexOfChar_4cfef_22 rfl rfl ?_
    exact J_iretR F hR dJ1_indexOfChar_4cfef_24 rfl (by show _ = zJ1_indexOfChar_4cfef x1; unfold zJ1_indexOfChar_4cfef; rw [if_pos c19])
def zJ1_indexOf_4cfef  (x1 : Int32) : Int32 := if (zJ1_canEncode_9a6ad x1) = 0 then (-1) else zJ1_indexOfChar_4cfef x1
abbrev rm_J1_indexOf_4cfef : Room := { frames := 1, cells := 0, slots := 0, locals := 25 }
set_option maxHeartbeats 4000000 in
set_option maxRecDepth 100000 in
theorem c_J1_indexOf_4cfef (l : Launch) (D : va_G) (cI cZ : ClassId) (z : Nat → Nat) (x1 : Int32)  : cRi l yJ1_indexOf_4cfef ww_J1_indexOf_4cfef rm_J1_indexOf_4cfef D cI cZ z [] [.ref (z 6), .int x1, .int 0, .int 5] (fun r => r = zJ1_indexOf_4cfef x1) := by
  refine cRi.of (cc := cJ1_indexOf_4cfef) (maxL := 4) (rt := .int) (by decide) rfl (Nat.le_of_ble_eq_true rfl) (fun X F E hR => ?_)
  refine J_lv [0, 1, 2, 3] (lv' := [(0, .ref (z 6)), (1, .int x1), (2, .int 0), (3, .int 5)]) rfl ?_
  refine J_iload_n (pc' := 1) (q := 1) F dJ1_indexOf_4cfef_0 rfl rfl ?_
  refine J_goRie (wc := []) (av := [.int x1]) (rest := []) (v := zJ1_canEncode_9a6ad x1) (pc' := 4) F E (fun _ _ => jP_nil _ _) (fun H locs hI hp => jrun_S F E (c_J1_canEncode_9a6ad l D cI cZ z x1) kw_276 kw_277 rfl kw_278 kw_9 oJ1_canEncode_9a6ad ⟨⟨rfl, rfl⟩, ⟨Nat.le_of_ble_eq_true rfl, Nat.le_of_ble_eq_true rfl⟩, Nat.zero_le _, Nat.zero_le _⟩ rfl (Nat.le_of_ble_eq_true rfl) dJ1_indexOf_4cfef_1 hp) rfl ?_
  refine J_if_ne (tgt := 9) (pc' := 7) F dJ1_indexOf_4cfef_4 (by decide) rfl (fun c4 => ?_) (fun c4 => ?_)
  · refine J_iload_n (pc' := 10) (q := 2) F dJ1_indexOf_4cfef_9 rfl rfl ?_
    refine J_iconst (pc' := 11) (v := 0) F dJ1_indexOf_4cfef_10 (by decide) rfl ?_
    refine J_mmax (pc' := 14) F E dJ1_indexOf_4cfef_11 kw_279 kw_280 kw_12 kw_281 (Nat.le_of_ble_eq_true rfl) (Nat.le_of_ble_eq_true rfl) (Nat.zero_le _) (Nat.zero_le _) rfl ?_
    refine J_vali (y := 0) (by decide) ?_
    refine J_istore_n (pc' := 15) [1, 2, 0, 3] [(0, .ref (z 6)), (1, .int x1), (2, .int 0), (3, .int 5)] F dJ1_indexOf_4cfef_14 rfl (jL_of E (show 2 < 4 by decide)) rfl rfl ?_
    refine J_iload_n (pc' := 16) (q := 3) F dJ1_indexOf_4cfef_15 rfl rfl ?_
    refine J_aload_n (pc' := 17) (q := 0) F dJ1_indexOf_4cfef_16 rfl rfl ?_
    refine J_tlen (v := 5) (pc' := 18) F dJ1_indexOf_4cfef_17 (fun _ _ _ h => ((jStS h).1 1 (by decide)).2.2.2) rfl rfl ?_
    refine J_mmin (pc' := 21) F E dJ1_indexOf_4cfef_18 kw_282 kw_283 kw_12 kw_284 (Nat.le_of_ble_eq_true rfl) (Nat.le_of_ble_eq_true rfl) (Nat.zero_le _) (Nat.zero_le _) rfl ?_
    refine J_vali (y := 5) (by decide) ?_
    refine J_istore_n (pc' := 22) [1, 2, 3, 0] [(0, .ref (z 6)), (1, .int x1), (2, .int 0), (3, .int 5)] F dJ1_indexOf_4cfef_21 rfl (jL_of E (show 3 < 4 by decide)) rfl rfl ?_
    refine J_iload_n (pc' := 23) (q := 2) F dJ1_indexOf_4cfef_22 rfl rfl ?_
    refine J_iload_n (pc' := 24) (q := 3) F dJ1_indexOf_4cfef_23 rfl rfl ?_
    refine J_icmp_lt (tgt := 29) (pc' := 27) F dJ1_indexOf_4cfef_24 (by decide) rfl (fun _ => ?_) (fun c9 => absurd (by decide) c9)
    refine J_aload_n (pc' := 30) (q := 0) F dJ1_indexOf_4cfef_29 rfl rfl ?_
    refine J_iload_n (pc' := 31) (q := 1) F dJ1_indexOf_4cfef_30 rfl rfl ?_
    refine J_iload_n (pc' := 32) (q := 2) F dJ1_indexOf_4cfef_31 rfl rfl ?_
    refine J_iload_n (pc' := 33) (q := 3) F dJ1_indexOf_4cfef_32 rfl rfl ?_
    refine J_goRie (wc := []) (av := [.ref (z 6), .int x1, .int 0, .int 5]) (rest := []) (v := zJ1_indexOfChar_4cfef x1) (pc' := 36) F E (fun _ _ => jP_nil _ _) (fun H locs hI hp => jrun_S F E (c_J1_indexOfChar_4cfef l D cI cZ z x1) kw_285 kw_286 rfl kw_287 kw_9 oJ1_indexOfChar_4cfef ⟨⟨rfl, rfl⟩, ⟨Nat.le_of_ble_eq_true rfl, Nat.le_of_ble_eq_true rfl⟩, Nat.zero_le _, Nat.zero_le _⟩ rfl (Nat.le_of_ble_eq_true rfl) dJ1_indexOf_4cfef_33 hp) rfl ?_
    exact J_iretR F hR dJ1_indexOf_4cfef_36 rfl (by show _ = zJ1_indexOf_4cfef x1; unfold zJ1_indexOf_4cfef; rw [if_neg c4])
  · refine J_iconst (pc' := 8) (v := (-1)) F dJ1_indexOf_4cfef_7 (by decide) rfl ?_
    exact J_iretR F hR dJ1_indexOf_4cfef_8 rfl (by show _ = zJ1_indexOf_4cfef x1; unfold zJ1_indexOf_4cfef; rw [if_pos c4])
def zJ0_indexOf_7cf53  (x1 : Int32) : Int32 := zJ1_indexOf_4cfef x1
abbrev rm_J0_indexOf_7cf53 : Room := { frames := 2, cells := 0, slots := 0, locals := 48 }
set_option maxHeartbeats 4000000 in
set_option maxRecDepth 100000 in
theorem c_J0_indexOf_7cf53 (l : Launch) (D : va_G) (cI cZ : ClassId) (z : Nat → Nat) (x1 : Int32)  : cRi l yJ0_indexOf_7cf53 ww_J0_indexOf_7cf53 rm_J0_indexOf_7cf53 D cI cZ z [] [.ref (z 4), .int x1, .int 0] (fun r => r = zJ0_indexOf_7cf53 x1) := by
  refine cRi.of (cc := cJ0_indexOf_7cf53) (maxL := 3) (rt := .int) (by decide) rfl (Nat.le_of_ble_eq_true rfl) (fun X F E hR => ?_)
  refine J_lv [0, 1, 2] (lv' := [(0, .ref (z 4)), (1, .int x1), (2, .int 0)]) rfl ?_
  refine J_aload_n (pc' := 1) (q := 0) F dJ0_indexOf_7cf53_0 rfl rfl ?_
  refine J_goRie (wc := []) (av := [.ref (z 4)]) (rest := []) (v := 1) (pc' := 4) F E (fun _ _ => jP_nil _ _) (fun H locs hI hp => jrun_VS (i := 1) (As := []) F E (c_J0_isLatin1_4 l D cI cZ z ) kw_229 kw_230 kw_231 rfl kw_232 kw_8 oJ0_isLatin1_aae02 ⟨⟨rfl, rfl⟩, ⟨Nat.le_of_ble_eq_true rfl, Nat.le_of_ble_eq_true rfl⟩, Nat.zero_le _, Nat.zero_le _⟩ (by decide) rfl rfl (Nat.le_of_ble_eq_true rfl) dJ0_indexOf_7cf53_1 hI hp) rfl ?_
  refine J_if_eq (tgt := 23) (pc' := 7) F dJ0_indexOf_7cf53_4 (by decide) rfl (fun c9 => absurd c9 (by decide)) (fun _ => ?_)
  refine J_aload_n (pc' := 8) (q := 0) F dJ0_indexOf_7cf53_7 rfl rfl ?_
  refine J_getO (v := .ref (z 6)) (pc' := 11) F dJ0_indexOf_7cf53_8 kw_891 (fun _ _ _ h => ((jStS h).1 1 (by decide)).2.2.1) rfl rfl ?_
  refine J_iload_n (pc' := 12) (q := 1) F dJ0_indexOf_7cf53_11 rfl rfl ?_
  refine J_iload_n (pc' := 13) (q := 2) F dJ0_indexOf_7cf53_12 rfl rfl ?_
  refine J_aload_n (pc' := 14) (q := 0) F dJ0_indexOf_7cf53_13 rfl rfl ?_
  refine J_goRie (wc := []) (av := [.ref (z 4)]) (rest := [.int 0, .int x1, .ref (z 6)]) (v := 5) (pc' := 17) F E (fun _ _ => jP_nil _ _) (fun H locs hI hp => jrun_VS (i := 1) (As := []) F E (c_J0_length_4 l D cI cZ z ) kw_272 kw_216 kw_217 rfl kw_218 kw_8 oJ0_length_8abf5 ⟨⟨rfl, rfl⟩, ⟨Nat.le_of_ble_eq_true rfl, Nat.le_of_ble_eq_true rfl⟩, Nat.zero_le _, Nat.zero_le _⟩ (by decide) rfl rfl (Nat.le_of_ble_eq_true rfl) dJ0_indexOf_7cf53_14 hI hp) rfl ?_
  refine J_goRie (wc := []) (av := [.ref (z 6), .int x1, .int 0, .int 5]) (rest := []) (v := zJ1_indexOf_4cfef x1) (pc' := 20) F E (fun _ _ => jP_nil _ _) (fun H locs hI hp => jrun_S F E (c_J1_indexOf_4cfef l D cI cZ z x1) kw_273 kw_274 rfl kw_275 kw_9 oJ1_indexOf_4cfef ⟨⟨rfl, rfl⟩, ⟨Nat.le_of_ble_eq_true rfl, Nat.le_of_ble_eq_true rfl⟩, Nat.zero_le _, Nat.zero_le _⟩ rfl (Nat.le_of_ble_eq_true rfl) dJ0_indexOf_7cf53_17 hp) rfl ?_
  refine J_goto (tgt := 36) F dJ0_indexOf_7cf53_20 (by decide) ?_
  exact J_iretR F hR dJ0_indexOf_7cf53_36 rfl rfl
def zJ0_indexOf_0f7a4  (x1 : Int32) : Int32 := zJ0_indexOf_7cf53 x1
abbrev rm_J0_indexOf_0f7a4 : Room := { frames := 3, cells := 0, slots := 0, locals := 70 }
set_option maxHeartbeats 4000000 in
set_option maxRecDepth 100000 in
theorem c_J0_indexOf_0f7a4 (l : Launch) (D : va_G) (cI cZ : ClassId) (z : Nat → Nat) (x1 : Int32)  : cRi l yJ0_indexOf_0f7a4 ww_J0_indexOf_0f7a4 rm_J0_indexOf_0f7a4 D cI cZ z [] [.ref (z 4), .int x1] (fun r => r = zJ0_indexOf_0f7a4 x1) := by
  refine cRi.of (cc := cJ0_indexOf_0f7a4) (maxL := 2) (rt := .int) (by decide) rfl (Nat.le_of_ble_eq_true rfl) (fun X F E hR => ?_)
  refine J_lv [0, 1] (lv' := [(0, .ref (z 4)), (1, .int x1)]) rfl ?_
  refine J_aload_n (pc' := 1) (q := 0) F dJ0_indexOf_0f7a4_0 rfl rfl ?_
  refine J_iload_n (pc' := 2) (q := 1) F dJ0_indexOf_0f7a4_1 rfl rfl ?_
  refine J_iconst (pc' := 3) (v := 0) F dJ0_indexOf_0f7a4_2 (by decide) rfl ?_
  refine J_goRie (wc := []) (av := [.ref (z 4), .int x1, .int 0]) (rest := []) (v := zJ0_indexOf_7cf53 x1) (pc' := 6) F E (fun _ _ => jP_nil _ _) (fun H locs hI hp => jrun_VS (i := 1) (As := [.int x1, .int 0]) F E (c_J0_indexOf_7cf53 l D cI cZ z x1) kw_268 kw_269 kw_270 rfl kw_271 kw_8 oJ0_indexOf_7cf53 ⟨⟨rfl, rfl⟩, ⟨Nat.le_of_ble_eq_true rfl, Nat.le_of_ble_eq_true rfl⟩, Nat.zero_le _, Nat.zero_le _⟩ (by decide) rfl rfl (Nat.le_of_ble_eq_true rfl) dJ0_indexOf_0f7a4_3 hI hp) rfl ?_
  exact J_iretR F hR dJ0_indexOf_0f7a4_6 rfl rfl
