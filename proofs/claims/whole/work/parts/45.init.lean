/-! the constructors -/
theorem dfX0 : ∀ j, j < 2 → defaultValue (tyX0 j) = vp_V [.null, .null] j := by
  intro j hj
  match j, hj with
  | 0, _ => rfl
  | 1, _ => rfl
  | j + 2, hj => exact absurd hj (by omega)
theorem dfX1 : ∀ j, j < 3 → defaultValue (tyX1 j) = vp_V [.int 0, .int 0, .int 0] j := by
  intro j hj
  match j, hj with
  | 0, _ => rfl
  | 1, _ => rfl
  | 2, _ => rfl
  | j + 3, hj => exact absurd hj (by omega)
theorem dfX2 : ∀ j, j < 5 → defaultValue (tyX2 j) = vp_V [.null, .null, .null, .int 0, .int 0] j := by
  intro j hj
  match j, hj with
  | 0, _ => rfl
  | 1, _ => rfl
  | 2, _ => rfl
  | 3, _ => rfl
  | 4, _ => rfl
  | j + 5, hj => exact absurd hj (by omega)
theorem dfX3 : ∀ j, j < 6 → defaultValue (tyX3 j) = vp_V [.int 0, .int 0, .int 0, .int 0, .null, .int 0] j := by
  intro j hj
  match j, hj with
  | 0, _ => rfl
  | 1, _ => rfl
  | 2, _ => rfl
  | 3, _ => rfl
  | 4, _ => rfl
  | 5, _ => rfl
  | j + 6, hj => exact absurd hj (by omega)
theorem dfX4 : ∀ j, j < 11 → defaultValue (tyX4 j) = vp_V [.null, .null, .null, .null, .int 0, .int 0, .int 0, .int 0, .int 0, .int 0, .int 0] j := by
  intro j hj
  match j, hj with
  | 0, _ => rfl
  | 1, _ => rfl
  | 2, _ => rfl
  | 3, _ => rfl
  | 4, _ => rfl
  | 5, _ => rfl
  | 6, _ => rfl
  | 7, _ => rfl
  | 8, _ => rfl
  | 9, _ => rfl
  | 10, _ => rfl
  | j + 11, hj => exact absurd hj (by omega)
theorem dfX5 : ∀ j, j < 12 → defaultValue (tyX5 j) = vp_V [.null, .int 0, .null, .int 0, .null, .null, .int 0, .int 0, .int 0, .null, .null, .null] j := by
  intro j hj
  match j, hj with
  | 0, _ => rfl
  | 1, _ => rfl
  | 2, _ => rfl
  | 3, _ => rfl
  | 4, _ => rfl
  | 5, _ => rfl
  | 6, _ => rfl
  | 7, _ => rfl
  | 8, _ => rfl
  | 9, _ => rfl
  | 10, _ => rfl
  | 11, _ => rfl
  | j + 12, hj => exact absurd hj (by omega)
theorem dfX6 : ∀ j, j < 32 → defaultValue (tyX6 j) = vp_V [.null, .int 0, .int 0, .int 0, .int 0, .int 0, .int 0, .int 0, .int 0, .int 0, .null, .null, .null, .null, .null, .int 0, .int 0, .null, .null, .null, .int 0, .int 0, .int 0, .int 0, .int 0, .int 0, .int 0, .int 0, .int 0, .int 0, .null, .long 0] j := by
  intro j hj
  match j, hj with
  | 0, _ => rfl
  | 1, _ => rfl
  | 2, _ => rfl
  | 3, _ => rfl
  | 4, _ => rfl
  | 5, _ => rfl
  | 6, _ => rfl
  | 7, _ => rfl
  | 8, _ => rfl
  | 9, _ => rfl
  | 10, _ => rfl
  | 11, _ => rfl
  | 12, _ => rfl
  | 13, _ => rfl
  | 14, _ => rfl
  | 15, _ => rfl
  | 16, _ => rfl
  | 17, _ => rfl
  | 18, _ => rfl
  | 19, _ => rfl
  | 20, _ => rfl
  | 21, _ => rfl
  | 22, _ => rfl
  | 23, _ => rfl
  | 24, _ => rfl
  | 25, _ => rfl
  | 26, _ => rfl
  | 27, _ => rfl
  | 28, _ => rfl
  | 29, _ => rfl
  | 30, _ => rfl
  | 31, _ => rfl
  | j + 32, hj => exact absurd hj (by omega)
abbrev rm_X0_init : Room := { frames := 1, cells := 2, slots := 4109, locals := 12 }
set_option maxHeartbeats 4000000 in
set_option maxRecDepth 100000 in
theorem c_X0_init (l : Launch) (D : va_G) (cI cZ : ClassId) (z : Nat → Nat) (a : Nat) : cNv l yX0_init ww_X0_init rm_X0_init D cI cZ z (fun u : Nat → Nat => [(a, .inr (0, [.ref (u 0), .ref (u 1)])), ((u 0), .inl (cI, 4096, .inl (fun _ => 0))), ((u 1), .inl (cI, 13, .inl (fun _ => 0)))]) [(a, .inr (0, [.null, .null]))] [.ref a] (fun _ => True) 2 4109 := by
  refine cNv.of (cc := cX0_init) (maxL := 1) (by decide) rfl rfl (Nat.le_of_ble_eq_true rfl) (fun X F E hA hNm hR => ?_)
  refine J_lv [0] (lv' := [(0, .ref a)]) rfl ?_
  refine J_aload_n (pc' := 1) (q := 0) F dX0_init_0 rfl rfl ?_
  refine J_objInit (pc' := 4) F E dX0_init_1 kw_135 kw_21 kw_22 (Nat.le_of_ble_eq_true rfl) (Nat.le_of_ble_eq_true rfl) rfl ?_
  refine J_aload_n (pc' := 5) (q := 0) F dX0_init_4 rfl rfl ?_
  refine J_sipush (pc' := 8) (v := 4096) F dX0_init_5 (by decide) rfl ?_
  refine J_newI (pc' := 10) 4096 F E hA dX0_init_8 kw_51 (by decide) (by decide) (Nat.le_of_ble_eq_true rfl) (Nat.le_of_ble_eq_true rfl) (Nat.le_of_ble_eq_true rfl) rfl (fun q1 => ?_)
  refine J_ws (ws' := [(a, .inr (0, [.null, .null])), (q1, .inl (cI, 4096, .inl (fun _ => 0)))]) rfl ?_
  refine J_putF (pc' := 13) (ws' := [(a, .inr (0, [.ref q1, .null])), (q1, .inl (cI, 4096, .inl (fun _ => 0)))]) 0 0 F hNm dX0_init_10 inG_X0 tyX0 tyX0_ok nmX0 rfl rfl (by decide) rfl kw_136 rfl rfl (tyX0_ok 0 (by decide)) rfl rfl (Nat.le_of_ble_eq_true rfl) rfl rfl ?_
  refine J_aload_n (pc' := 14) (q := 0) F dX0_init_13 rfl rfl ?_
  refine J_bipush (pc' := 16) (v := 13) F dX0_init_14 (by decide) rfl ?_
  refine J_newI (pc' := 18) 13 F E hA dX0_init_16 kw_51 (by decide) (by decide) (Nat.le_of_ble_eq_true rfl) (Nat.le_of_ble_eq_true rfl) (Nat.le_of_ble_eq_true rfl) rfl (fun q2 => ?_)
  refine J_ws (ws' := [(a, .inr (0, [.ref q1, .null])), (q1, .inl (cI, 4096, .inl (fun _ => 0))), (q2, .inl (cI, 13, .inl (fun _ => 0)))]) rfl ?_
  refine J_putF (pc' := 21) (ws' := [(a, .inr (0, [.ref q1, .ref q2])), (q1, .inl (cI, 4096, .inl (fun _ => 0))), (q2, .inl (cI, 13, .inl (fun _ => 0)))]) 0 1 F hNm dX0_init_18 inG_X0 tyX0 tyX0_ok nmX0 rfl rfl (by decide) rfl kw_137 rfl rfl (tyX0_ok 1 (by decide)) rfl rfl (Nat.le_of_ble_eq_true rfl) rfl rfl ?_
  exact J_vretN (fun j => [q1, q2].getD j 0) F hR dX0_init_21 rfl rfl rfl trivial
abbrev rm_X1_init : Room := { frames := 1, cells := 0, slots := 0, locals := 12 }
set_option maxHeartbeats 4000000 in
set_option maxRecDepth 100000 in
theorem c_X1_init (l : Launch) (D : va_G) (cI cZ : ClassId) (z : Nat → Nat) (a : Nat) : cNv l yX1_init ww_X1_init rm_X1_init D cI cZ z (fun u : Nat → Nat => [(a, .inr (1, [.int 0, .int 0, .int (-1)]))]) [(a, .inr (1, [.int 0, .int 0, .int 0]))] [.ref a] (fun _ => True) 0 0 := by
  refine cNv.of (cc := cX1_init) (maxL := 1) (by decide) rfl rfl (Nat.le_of_ble_eq_true rfl) (fun X F E hA hNm hR => ?_)
  refine J_lv [0] (lv' := [(0, .ref a)]) rfl ?_
  refine J_aload_n (pc' := 1) (q := 0) F dX1_init_0 rfl rfl ?_
  refine J_objInit (pc' := 4) F E dX1_init_1 kw_148 kw_21 kw_22 (Nat.le_of_ble_eq_true rfl) (Nat.le_of_ble_eq_true rfl) rfl ?_
  refine J_aload_n (pc' := 5) (q := 0) F dX1_init_4 rfl rfl ?_
  refine J_iconst (pc' := 6) (v := 0) F dX1_init_5 (by decide) rfl ?_
  refine J_put (pc' := 9) (ws' := [(a, .inr (1, [.int 0, .int 0, .int 0]))]) 0 0 F dX1_init_6 inG_X1 tyX1 tyX1_ok nmX1 rfl rfl (by decide) rfl kw_149 rfl (tyX1_ok 0 (by decide)) rfl rfl (Nat.le_of_ble_eq_true rfl) rfl rfl ?_
  refine J_aload_n (pc' := 10) (q := 0) F dX1_init_9 rfl rfl ?_
  refine J_iconst (pc' := 11) (v := 0) F dX1_init_10 (by decide) rfl ?_
  refine J_put (pc' := 14) (ws' := [(a, .inr (1, [.int 0, .int 0, .int 0]))]) 0 1 F dX1_init_11 inG_X1 tyX1 tyX1_ok nmX1 rfl rfl (by decide) rfl kw_151 rfl (tyX1_ok 1 (by decide)) rfl rfl (Nat.le_of_ble_eq_true rfl) rfl rfl ?_
  refine J_aload_n (pc' := 15) (q := 0) F dX1_init_14 rfl rfl ?_
  refine J_iconst (pc' := 16) (v := (-1)) F dX1_init_15 (by decide) rfl ?_
  refine J_put (pc' := 19) (ws' := [(a, .inr (1, [.int 0, .int 0, .int (-1)]))]) 0 2 F dX1_init_16 inG_X1 tyX1 tyX1_ok nmX1 rfl rfl (by decide) rfl kw_153 rfl (tyX1_ok 2 (by decide)) rfl rfl (Nat.le_of_ble_eq_true rfl) rfl rfl ?_
  exact J_vretN (fun _ => 0) F hR dX1_init_19 rfl rfl rfl trivial
abbrev rm_X2_init : Room := { frames := 1, cells := 3, slots := 9, locals := 12 }
set_option maxHeartbeats 4000000 in
set_option maxRecDepth 100000 in
theorem c_X2_init (l : Launch) (D : va_G) (cI cZ : ClassId) (z : Nat → Nat) (a : Nat) : cNv l yX2_init ww_X2_init rm_X2_init D cI cZ z (fun u : Nat → Nat => [(a, .inr (2, [.ref (u 0), .ref (u 1), .ref (u 2), .int 0, .int 0])), ((u 0), .inl (cI, 3, .inl (fun _ => 0))), ((u 1), .inl (cI, 3, .inl (fun _ => 0))), ((u 2), .inl (cI, 3, .inl (fun _ => 0)))]) [(a, .inr (2, [.null, .null, .null, .int 0, .int 0]))] [.ref a] (fun _ => True) 3 9 := by
  refine cNv.of (cc := cX2_init) (maxL := 1) (by decide) rfl rfl (Nat.le_of_ble_eq_true rfl) (fun X F E hA hNm hR => ?_)
  refine J_lv [0] (lv' := [(0, .ref a)]) rfl ?_
  refine J_aload_n (pc' := 1) (q := 0) F dX2_init_0 rfl rfl ?_
  refine J_objInit (pc' := 4) F E dX2_init_1 kw_28 kw_21 kw_22 (Nat.le_of_ble_eq_true rfl) (Nat.le_of_ble_eq_true rfl) rfl ?_
  refine J_aload_n (pc' := 5) (q := 0) F dX2_init_4 rfl rfl ?_
  refine J_iconst (pc' := 6) (v := 3) F dX2_init_5 (by decide) rfl ?_
  refine J_newI (pc' := 8) 3 F E hA dX2_init_6 kw_51 (by decide) (by decide) (Nat.le_of_ble_eq_true rfl) (Nat.le_of_ble_eq_true rfl) (Nat.le_of_ble_eq_true rfl) rfl (fun q1 => ?_)
  refine J_ws (ws' := [(a, .inr (2, [.null, .null, .null, .int 0, .int 0])), (q1, .inl (cI, 3, .inl (fun _ => 0)))]) rfl ?_
  refine J_putF (pc' := 11) (ws' := [(a, .inr (2, [.ref q1, .null, .null, .int 0, .int 0])), (q1, .inl (cI, 3, .inl (fun _ => 0)))]) 0 0 F hNm dX2_init_8 inG_X2 tyX2 tyX2_ok nmX2 rfl rfl (by decide) rfl kw_29 rfl rfl (tyX2_ok 0 (by decide)) rfl rfl (Nat.le_of_ble_eq_true rfl) rfl rfl ?_
  refine J_aload_n (pc' := 12) (q := 0) F dX2_init_11 rfl rfl ?_
  refine J_iconst (pc' := 13) (v := 3) F dX2_init_12 (by decide) rfl ?_
  refine J_newI (pc' := 15) 3 F E hA dX2_init_13 kw_51 (by decide) (by decide) (Nat.le_of_ble_eq_true rfl) (Nat.le_of_ble_eq_true rfl) (Nat.le_of_ble_eq_true rfl) rfl (fun q2 => ?_)
  refine J_ws (ws' := [(a, .inr (2, [.ref q1, .null, .null, .int 0, .int 0])), (q1, .inl (cI, 3, .inl (fun _ => 0))), (q2, .inl (cI, 3, .inl (fun _ => 0)))]) rfl ?_
  refine J_putF (pc' := 18) (ws' := [(a, .inr (2, [.ref q1, .ref q2, .null, .int 0, .int 0])), (q1, .inl (cI, 3, .inl (fun _ => 0))), (q2, .inl (cI, 3, .inl (fun _ => 0)))]) 0 1 F hNm dX2_init_15 inG_X2 tyX2 tyX2_ok nmX2 rfl rfl (by decide) rfl kw_31 rfl rfl (tyX2_ok 1 (by decide)) rfl rfl (Nat.le_of_ble_eq_true rfl) rfl rfl ?_
  refine J_aload_n (pc' := 19) (q := 0) F dX2_init_18 rfl rfl ?_
  refine J_iconst (pc' := 20) (v := 3) F dX2_init_19 (by decide) rfl ?_
  refine J_newI (pc' := 22) 3 F E hA dX2_init_20 kw_51 (by decide) (by decide) (Nat.le_of_ble_eq_true rfl) (Nat.le_of_ble_eq_true rfl) (Nat.le_of_ble_eq_true rfl) rfl (fun q3 => ?_)
  refine J_ws (ws' := [(a, .inr (2, [.ref q1, .ref q2, .null, .int 0, .int 0])), (q1, .inl (cI, 3, .inl (fun _ => 0))), (q2, .inl (cI, 3, .inl (fun _ => 0))), (q3, .inl (cI, 3, .inl (fun _ => 0)))]) rfl ?_
  refine J_putF (pc' := 25) (ws' := [(a, .inr (2, [.ref q1, .ref q2, .ref q3, .int 0, .int 0])), (q1, .inl (cI, 3, .inl (fun _ => 0))), (q2, .inl (cI, 3, .inl (fun _ => 0))), (q3, .inl (cI, 3, .inl (fun _ => 0)))]) 0 2 F hNm dX2_init_22 inG_X2 tyX2 tyX2_ok nmX2 rfl rfl (by decide) rfl kw_33 rfl rfl (tyX2_ok 2 (by decide)) rfl rfl (Nat.le_of_ble_eq_true rfl) rfl rfl ?_
  refine J_aload_n (pc' := 26) (q := 0) F dX2_init_25 rfl rfl ?_
  refine J_iconst (pc' := 27) (v := 0) F dX2_init_26 (by decide) rfl ?_
  refine J_put (pc' := 30) (ws' := [(a, .inr (2, [.ref q1, .ref q2, .ref q3, .int 0, .int 0])), (q1, .inl (cI, 3, .inl (fun _ => 0))), (q2, .inl (cI, 3, .inl (fun _ => 0))), (q3, .inl (cI, 3, .inl (fun _ => 0)))]) 0 3 F dX2_init_27 inG_X2 tyX2 tyX2_ok nmX2 rfl rfl (by decide) rfl kw_35 rfl (tyX2_ok 3 (by decide)) rfl rfl (Nat.le_of_ble_eq_true rfl) rfl rfl ?_
  refine J_aload_n (pc' := 31) (q := 0) F dX2_init_30 rfl rfl ?_
  refine J_iconst (pc' := 32) (v := 0) F dX2_init_31 (by decide) rfl ?_
  refine J_put (pc' := 35) (ws' := [(a, .inr (2, [.ref q1, .ref q2, .ref q3, .int 0, .int 0])), (q1, .inl (cI, 3, .inl (fun _ => 0))), (q2, .inl (cI, 3, .inl (fun _ => 0))), (q3, .inl (cI, 3, .inl (fun _ => 0)))]) 0 4 F dX2_init_32 inG_X2 tyX2 tyX2_ok nmX2 rfl rfl (by decide) rfl kw_37 rfl (tyX2_ok 4 (by decide)) rfl rfl (Nat.le_of_ble_eq_true rfl) rfl rfl ?_
  exact J_vretN (fun j => [q1, q2, q3].getD j 0) F hR dX2_init_35 rfl rfl rfl trivial
abbrev rm_X3_init : Room := { frames := 1, cells := 1, slots := 4, locals := 12 }
set_option maxHeartbeats 4000000 in
set_option maxRecDepth 100000 in
theorem c_X3_init (l : Launch) (D : va_G) (cI cZ : ClassId) (z : Nat → Nat) (a : Nat) : cNv l yX3_init ww_X3_init rm_X3_init D cI cZ z (fun u : Nat → Nat => [(a, .inr (3, [.int 0, .int 0, .int 0, .int 0, .ref (u 0), .int 0])), ((u 0), .inl (cI, 4, .inl (fun _ => 0)))]) [(a, .inr (3, [.int 0, .int 0, .int 0, .int 0, .null, .int 0]))] [.ref a] (fun _ => True) 1 4 := by
  refine cNv.of (cc := cX3_init) (maxL := 1) (by decide) rfl rfl (Nat.le_of_ble_eq_true rfl) (fun X F E hA hNm hR => ?_)
  refine J_lv [0] (lv' := [(0, .ref a)]) rfl ?_
  refine J_aload_n (pc' := 1) (q := 0) F dX3_init_0 rfl rfl ?_
  refine J_objInit (pc' := 4) F E dX3_init_1 kw_57 kw_21 kw_22 (Nat.le_of_ble_eq_true rfl) (Nat.le_of_ble_eq_true rfl) rfl ?_
  refine J_aload_n (pc' := 5) (q := 0) F dX3_init_4 rfl rfl ?_
  refine J_iconst (pc' := 6) (v := 0) F dX3_init_5 (by decide) rfl ?_
  refine J_put (pc' := 9) (ws' := [(a, .inr (3, [.int 0, .int 0, .int 0, .int 0, .null, .int 0]))]) 0 0 F dX3_init_6 inG_X3 tyX3 tyX3_ok nmX3 rfl rfl (by decide) rfl kw_58 rfl (tyX3_ok 0 (by decide)) rfl rfl (Nat.le_of_ble_eq_true rfl) rfl rfl ?_
  refine J_aload_n (pc' := 10) (q := 0) F dX3_init_9 rfl rfl ?_
  refine J_iconst (pc' := 11) (v := 0) F dX3_init_10 (by decide) rfl ?_
  refine J_put (pc' := 14) (ws' := [(a, .inr (3, [.int 0, .int 0, .int 0, .int 0, .null, .int 0]))]) 0 1 F dX3_init_11 inG_X3 tyX3 tyX3_ok nmX3 rfl rfl (by decide) rfl kw_61 rfl (tyX3_ok 1 (by decide)) rfl rfl (Nat.le_of_ble_eq_true rfl) rfl rfl ?_
  refine J_aload_n (pc' := 15) (q := 0) F dX3_init_14 rfl rfl ?_
  refine J_iconst (pc' := 16) (v := 0) F dX3_init_15 (by decide) rfl ?_
  refine J_put (pc' := 19) (ws' := [(a, .inr (3, [.int 0, .int 0, .int 0, .int 0, .null, .int 0]))]) 0 2 F dX3_init_16 inG_X3 tyX3 tyX3_ok nmX3 rfl rfl (by decide) rfl kw_63 rfl (tyX3_ok 2 (by decide)) rfl rfl (Nat.le_of_ble_eq_true rfl) rfl rfl ?_
  refine J_aload_n (pc' := 20) (q := 0) F dX3_init_19 rfl rfl ?_
  refine J_iconst (pc' := 21) (v := 0) F dX3_init_20 (by decide) rfl ?_
  refine J_put (pc' := 24) (ws' := [(a, .inr (3, [.int 0, .int 0, .int 0, .int 0, .null, .int 0]))]) 0 3 F dX3_init_21 inG_X3 tyX3 tyX3_ok nmX3 rfl rfl (by decide) rfl kw_65 rfl (tyX3_ok 3 (by decide)) rfl rfl (Nat.le_of_ble_eq_true rfl) rfl rfl ?_
  refine J_aload_n (pc' := 25) (q := 0) F dX3_init_24 rfl rfl ?_
  refine J_iconst (pc' := 26) (v := 4) F dX3_init_25 (by decide) rfl ?_
  refine J_newI (pc' := 28) 4 F E hA dX3_init_26 kw_51 (by decide) (by decide) (Nat.le_of_ble_eq_true rfl) (Nat.le_of_ble_eq_true rfl) (Nat.le_of_ble_eq_true rfl) rfl (fun q1 => ?_)
  refine J_ws (ws' := [(a, .inr (3, [.int 0, .int 0, .int 0, .int 0, .null, .int 0])), (q1, .inl (cI, 4, .inl (fun _ => 0)))]) rfl ?_
  refine J_putF (pc' := 31) (ws' := [(a, .inr (3, [.int 0, .int 0, .int 0, .int 0, .ref q1, .int 0])), (q1, .inl (cI, 4, .inl (fun _ => 0)))]) 0 4 F hNm dX3_init_28 inG_X3 tyX3 tyX3_ok nmX3 rfl rfl (by decide) rfl kw_67 rfl rfl (tyX3_ok 4 (by decide)) rfl rfl (Nat.le_of_ble_eq_true rfl) rfl rfl ?_
  refine J_aload_n (pc' := 32) (q := 0) F dX3_init_31 rfl rfl ?_
  refine J_iconst (pc' := 33) (v := 0) F dX3_init_32 (by decide) rfl ?_
  refine J_put (pc' := 36) (ws' := [(a, .inr (3, [.int 0, .int 0, .int 0, .int 0, .ref q1, .int 0])), (q1, .inl (cI, 4, .inl (fun _ => 0)))]) 0 5 F dX3_init_33 inG_X3 tyX3 tyX3_ok nmX3 rfl rfl (by decide) rfl kw_70 rfl (tyX3_ok 5 (by decide)) rfl rfl (Nat.le_of_ble_eq_true rfl) rfl rfl ?_
  exact J_vretN (fun j => [q1].getD j 0) F hR dX3_init_36 rfl rfl rfl trivial
abbrev rm_X4_init : Room := { frames := 1, cells := 4, slots := 28677, locals := 12 }
set_option maxHeartbeats 4000000 in
set_option maxRecDepth 100000 in
theorem c_X4_init (l : Launch) (D : va_G) (cI cZ : ClassId) (z : Nat → Nat) (a : Nat) : cNv l yX4_init ww_X4_init rm_X4_init D cI cZ z (fun u : Nat → Nat => [(a, .inr (4, [.ref (u 0), .ref (u 1), .ref (u 2), .ref (u 3), .int 0, .int 0, .int 0, .int 0, .int (-1), .int 0, .int (-1)])), ((u 0), .inl (cI, 4096, .inl (fun _ => 0))), ((u 1), .inl (cI, 4096, .inl (fun _ => 0))), ((u 2), .inl (cI, 20480, .inl (fun _ => 0))), ((u 3), .inl (cI, 5, .inl (fun _ => 0)))]) [(a, .inr (4, [.null, .null, .null, .null, .int 0, .int 0, .int 0, .int 0, .int 0, .int 0, .int 0]))] [.ref a] (fun _ => True) 4 28677 := by
  refine cNv.of (cc := cX4_init) (maxL := 1) (by decide) rfl rfl (Nat.le_of_ble_eq_true rfl) (fun X F E hA hNm hR => ?_)
  refine J_lv [0] (lv' := [(0, .ref a)]) rfl ?_
  refine J_aload_n (pc' := 1) (q := 0) F dX4_init_0 rfl rfl ?_
  refine J_objInit (pc' := 4) F E dX4_init_1 kw_91 kw_21 kw_22 (Nat.le_of_ble_eq_true rfl) (Nat.le_of_ble_eq_true rfl) rfl ?_
  refine J_aload_n (pc' := 5) (q := 0) F dX4_init_4 rfl rfl ?_
  refine J_sipush (pc' := 8) (v := 4096) F dX4_init_5 (by decide) rfl ?_
  refine J_newI (pc' := 10) 4096 F E hA dX4_init_8 kw_51 (by decide) (by decide) (Nat.le_of_ble_eq_true rfl) (Nat.le_of_ble_eq_true rfl) (Nat.le_of_ble_eq_true rfl) rfl (fun q1 => ?_)
  refine J_ws (ws' := [(a, .inr (4, [.null, .null, .null, .null, .int 0, .int 0, .int 0, .int 0, .int 0, .int 0, .int 0])), (q1, .inl (cI, 4096, .inl (fun _ => 0)))]) rfl ?_
  refine J_putF (pc' := 13) (ws' := [(a, .inr (4, [.ref q1, .null, .null, .null, .int 0, .int 0, .int 0, .int 0, .int 0, .int 0, .int 0])), (q1, .inl (cI, 4096, .inl (fun _ => 0)))]) 0 0 F hNm dX4_init_10 inG_X4 tyX4 tyX4_ok nmX4 rfl rfl (by decide) rfl kw_92 rfl rfl (tyX4_ok 0 (by decide)) rfl rfl (Nat.le_of_ble_eq_true rfl) rfl rfl ?_
  refine J_aload_n (pc' := 14) (q := 0) F dX4_init_13 rfl rfl ?_
  refine J_sipush (pc' := 17) (v := 4096) F dX4_init_14 (by decide) rfl ?_
  refine J_newI (pc' := 19) 4096 F E hA dX4_init_17 kw_51 (by decide) (by decide) (Nat.le_of_ble_eq_true rfl) (Nat.le_of_ble_eq_true rfl) (Nat.le_of_ble_eq_true rfl) rfl (fun q2 => ?_)
  refine J_ws (ws' := [(a, .inr (4, [.ref q1, .null, .null, .null, .int 0, .int 0, .int 0, .int 0, .int 0, .int 0, .int 0])), (q1, .inl (cI, 4096, .inl (fun _ => 0))), (q2, .inl (cI, 4096, .inl (fun _ => 0)))]) rfl ?_
  refine J_putF (pc' := 22) (ws' := [(a, .inr (4, [.ref q1, .ref q2, .null, .null, .int 0, .int 0, .int 0, .int 0, .int 0, .int 0, .int 0])), (q1, .inl (cI, 4096, .inl (fun _ => 0))), (q2, .inl (cI, 4096, .inl (fun _ => 0)))]) 0 1 F hNm dX4_init_19 inG_X4 tyX4 tyX4_ok nmX4 rfl rfl (by decide) rfl kw_94 rfl rfl (tyX4_ok 1 (by decide)) rfl rfl (Nat.le_of_ble_eq_true rfl) rfl rfl ?_
  refine J_aload_n (pc' := 23) (q := 0) F dX4_init_22 rfl rfl ?_
  refine J_sipush (pc' := 26) (v := 20480) F dX4_init_23 (by decide) rfl ?_
  refine J_newI (pc' := 28) 20480 F E hA dX4_init_26 kw_51 (by decide) (by decide) (Nat.le_of_ble_eq_true rfl) (Nat.le_of_ble_eq_true rfl) (Nat.le_of_ble_eq_true rfl) rfl (fun q3 => ?_)
  refine J_ws (ws' := [(a, .inr (4, [.ref q1, .ref q2, .null, .null, .int 0, .int 0, .int 0, .int 0, .int 0, .int 0, .int 0])), (q1, .inl (cI, 4096, .inl (fun _ => 0))), (q2, .inl (cI, 4096, .inl (fun _ => 0))), (q3, .inl (cI, 20480, .inl (fun _ => 0)))]) rfl ?_
  refine J_putF (pc' := 31) (ws' := [(a, .inr (4, [.ref q1, .ref q2, .ref q3, .null, .int 0, .int 0, .int 0, .int 0, .int 0, .int 0, .int 0])), (q1, .inl (cI, 4096, .inl (fun _ => 0))), (q2, .inl (cI, 4096, .inl (fun _ => 0))), (q3, .inl (cI, 20480, .inl (fun _ => 0)))]) 0 2 F hNm dX4_init_28 inG_X4 tyX4 tyX4_ok nmX4 rfl rfl (by decide) rfl kw_96 rfl rfl (tyX4_ok 2 (by decide)) rfl rfl (Nat.le_of_ble_eq_true rfl) rfl rfl ?_
  refine J_aload_n (pc' := 32) (q := 0) F dX4_init_31 rfl rfl ?_
  refine J_iconst (pc' := 33) (v := 5) F dX4_init_32 (by decide) rfl ?_
  refine J_newI (pc' := 35) 5 F E hA dX4_init_33 kw_51 (by decide) (by decide) (Nat.le_of_ble_eq_true rfl) (Nat.le_of_ble_eq_true rfl) (Nat.le_of_ble_eq_true rfl) rfl (fun q4 => ?_)
  refine J_ws (ws' := [(a, .inr (4, [.ref q1, .ref q2, .ref q3, .null, .int 0, .int 0, .int 0, .int 0, .int 0, .int 0, .int 0])), (q1, .inl (cI, 4096, .inl (fun _ => 0))), (q2, .inl (cI, 4096, .inl (fun _ => 0))), (q3, .inl (cI, 20480, .inl (fun _ => 0))), (q4, .inl (cI, 5, .inl (fun _ => 0)))]) rfl ?_
  refine J_putF (pc' := 38) (ws' := [(a, .inr (4, [.ref q1, .ref q2, .ref q3, .ref q4, .int 0, .int 0, .int 0, .int 0, .int 0, .int 0, .int 0])), (q1, .inl (cI, 4096, .inl (fun _ => 0))), (q2, .inl (cI, 4096, .inl (fun _ => 0))), (q3, .inl (cI, 20480, .inl (fun _ => 0))), (q4, .inl (cI, 5, .inl (fun _ => 0)))]) 0 3 F hNm dX4_init_35 inG_X4 tyX4 tyX4_ok nmX4 rfl rfl (by decide) rfl kw_97 rfl rfl (tyX4_ok 3 (by decide)) rfl rfl (Nat.le_of_ble_eq_true rfl) rfl rfl ?_
  refine J_aload_n (pc' := 39) (q := 0) F dX4_init_38 rfl rfl ?_
  refine J_iconst (pc' := 40) (v := 0) F dX4_init_39 (by decide) rfl ?_
  refine J_put (pc' := 43) (ws' := [(a, .inr (4, [.ref q1, .ref q2, .ref q3, .ref q4, .int 0, .int 0, .int 0, .int 0, .int 0, .int 0, .int 0])), (q1, .inl (cI, 4096, .inl (fun _ => 0))), (q2, .inl (cI, 4096, .inl (fun _ => 0))), (q3, .inl (cI, 20480, .inl (fun _ => 0))), (q4, .inl (cI, 5, .inl (fun _ => 0)))]) 0 4 F dX4_init_40 inG_X4 tyX4 tyX4_ok nmX4 rfl rfl (by decide) rfl kw_98 rfl (tyX4_ok 4 (by decide)) rfl rfl (Nat.le_of_ble_eq_true rfl) rfl rfl ?_
  refine J_aload_n (pc' := 44) (q := 0) F dX4_init_43 rfl rfl ?_
  refine J_iconst (pc' := 45) (v := 0) F dX4_init_44 (by decide) rfl ?_
  refine J_put (pc' := 48) (ws' := [(a, .inr (4, [.ref q1, .ref q2, .ref q3, .ref q4, .int 0, .int 0, .int 0, .int 0, .int 0, .int 0, .int 0])), (q1, .inl (cI, 4096, .inl (fun _ => 0))), (q2, .inl (cI, 4096, .inl (fun _ => 0))), (q3, .inl (cI, 20480, .inl (fun _ => 0))), (q4, .inl (cI, 5, .inl (fun _ => 0)))]) 0 5 F dX4_init_45 inG_X4 tyX4 tyX4_ok nmX4 rfl rfl (by decide) rfl kw_99 rfl (tyX4_ok 5 (by decide)) rfl rfl (Nat.le_of_ble_eq_true rfl) rfl rfl ?_
  refine J_aload_n (pc' := 49) (q := 0) F dX4_init_48 rfl rfl ?_
  refine J_iconst (pc' := 50) (v := 0) F dX4_init_49 (by decide) rfl ?_
  refine J_put (pc' := 53) (ws' := [(a, .inr (4, [.ref q1, .ref q2, .ref q3, .ref q4, .int 0, .int 0, .int 0, .int 0, .int 0, .int 0, .int 0])), (q1, .inl (cI, 4096, .inl (fun _ => 0))), (q2, .inl (cI, 4096, .inl (fun _ => 0))), (q3, .inl (cI, 20480, .inl (fun _ => 0))), (q4, .inl (cI, 5, .inl (fun _ => 0)))]) 0 6 F dX4_init_50 inG_X4 tyX4 tyX4_ok nmX4 rfl rfl (by decide) rfl kw_101 rfl (tyX4_ok 6 (by decide)) rfl rfl (Nat.le_of_ble_eq_true rfl) rfl rfl ?_
  refine J_aload_n (pc' := 54) (q := 0) F dX4_init_53 rfl rfl ?_
  refine J_iconst (pc' := 55) (v := 0) F dX4_init_54 (by decide) rfl ?_
  refine J_put (pc' := 58) (ws' := [(a, .inr (4, [.ref q1, .ref q2, .ref q3, .ref q4, .int 0, .int 0, .int 0, .int 0, .int 0, .int 0, .int 0])), (q1, .inl (cI, 4096, .inl (fun _ => 0))), (q2, .inl (cI, 4096, .inl (fun _ => 0))), (q3, .inl (cI, 20480, .inl (fun _ => 0))), (q4, .inl (cI, 5, .inl (fun _ => 0)))]) 0 7 F dX4_init_55 inG_X4 tyX4 tyX4_ok nmX4 rfl rfl (by decide) rfl kw_103 rfl (tyX4_ok 7 (by decide)) rfl rfl (Nat.le_of_ble_eq_true rfl) rfl rfl ?_
  refine J_aload_n (pc' := 59) (q := 0) F dX4_init_58 rfl rfl ?_
  refine J_iconst (pc' := 60) (v := (-1)) F dX4_init_59 (by decide) rfl ?_
  refine J_put (pc' := 63) (ws' := [(a, .inr (4, [.ref q1, .ref q2, .ref q3, .ref q4, .int 0, .int 0, .int 0, .int 0, .int (-1), .int 0, .int 0])), (q1, .inl (cI, 4096, .inl (fun _ => 0))), (q2, .inl (cI, 4096, .inl (fun _ => 0))), (q3, .inl (cI, 20480, .inl (fun _ => 0))), (q4, .inl (cI, 5, .inl (fun _ => 0)))]) 0 8 F dX4_init_60 inG_X4 tyX4 tyX4_ok nmX4 rfl rfl (by decide) rfl kw_104 rfl (tyX4_ok 8 (by decide)) rfl rfl (Nat.le_of_ble_eq_true rfl) rfl rfl ?_
  refine J_aload_n (pc' := 64) (q := 0) F dX4_init_63 rfl rfl ?_
  refine J_iconst (pc' := 65) (v := 0) F dX4_init_64 (by decide) rfl ?_
  refine J_put (pc' := 68) (ws' := [(a, .inr (4, [.ref q1, .ref q2, .ref q3, .ref q4, .int 0, .int 0, .int 0, .int 0, .int (-1), .int 0, .int 0])), (q1, .inl (cI, 4096, .inl (fun _ => 0))), (q2, .inl (cI, 4096, .inl (fun _ => 0))), (q3, .inl (cI, 20480, .inl (fun _ => 0))), (q4, .inl (cI, 5, .inl (fun _ => 0)))]) 0 9 F dX4_init_65 inG_X4 tyX4 tyX4_ok nmX4 rfl rfl (by decide) rfl kw_105 rfl (tyX4_ok 9 (by decide)) rfl rfl (Nat.le_of_ble_eq_true rfl) rfl rfl ?_
  refine J_aload_n (pc' := 69) (q := 0) F dX4_init_68 rfl rfl ?_
  refine J_iconst (pc' := 70) (v := (-1)) F dX4_init_69 (by decide) rfl ?_
  refine J_put (pc' := 73) (ws' := [(a, .inr (4, [.ref q1, .ref q2, .ref q3, .ref q4, .int 0, .int 0, .int 0, .int 0, .int (-1), .int 0, .int (-1)])), (q1, .inl (cI, 4096, .inl (fun _ => 0))), (q2, .inl (cI, 4096, .inl (fun _ => 0))), (q3, .inl (cI, 20480, .inl (fun _ => 0))), (q4, .inl (cI, 5, .inl (fun _ => 0)))]) 0 10 F dX4_init_70 inG_X4 tyX4 tyX4_ok nmX4 rfl rfl (by decide) rfl kw_106 rfl (tyX4_ok 10 (by decide)) rfl rfl (Nat.le_of_ble_eq_true rfl) rfl rfl ?_
  exact J_vretN (fun j => [q1, q2, q3, q4].getD j 0) F hR dX4_init_73 rfl rfl rfl trivial
def sc0 (j : Nat) : Int32 := if j = 21 then -1 else if j = 23 then -1 else if j = 26 then -1 else 0
def mc0 (j : Nat) : Int32 := if j = 24 then -1 else 0
def ar0 (_ _ : Nat) : Int32 := 0
abbrev rm_X5_init : Room := { frames := 2, cells := 18, slots := 32852, locals := 32 }
set_option maxHeartbeats 4000000 in
set_option maxRecDepth 100000 in
theorem c_X5_init (l : Launch) (D : va_G) (cI cZ : ClassId) (z : Nat → Nat) (a : Nat) : cNv l yX5_init ww_X5_init rm_X5_init D cI cZ z (fun u : Nat → Nat => wC cI u sc0 ar0) [(a, .inr (5, [.null, .int 0, .null, .int 0, .null, .null, .int 0, .int 0, .int 0, .null, .null, .null]))] [.ref a] (fun u => u 0 = a) 18 32852 := by
  refine cNv.of (cc := cX5_init) (maxL := 1) (by decide) rfl rfl (Nat.le_of_ble_eq_true rfl) (fun X F E hA hNm hR => ?_)
  refine J_lv [0] (lv' := [(0, .ref a)]) rfl ?_
  refine J_aload_n (pc' := 1) (q := 0) F dX5_init_0 rfl rfl ?_
  refine J_objInit (pc' := 4) F E dX5_init_1 kw_20 kw_21 kw_22 (Nat.le_of_ble_eq_true rfl) (Nat.le_of_ble_eq_true rfl) rfl ?_
  refine J_aload_n (pc' := 5) (q := 0) F dX5_init_4 rfl rfl ?_
  refine J_bipush (pc' := 7) (v := 16) F dX5_init_5 (by decide) rfl ?_
  refine J_newI (pc' := 9) 16 F E hA dX5_init_7 kw_51 (by decide) (by decide) (Nat.le_of_ble_eq_true rfl) (Nat.le_of_ble_eq_true rfl) (Nat.le_of_ble_eq_true rfl) rfl (fun q1 => ?_)
  refine J_ws (ws' := [(a, .inr (5, [.null, .int 0, .null, .int 0, .null, .null, .int 0, .int 0, .int 0, .null, .null, .null])), (q1, .inl (cI, 16, .inl (fun _ => 0)))]) rfl ?_
  refine J_putF (pc' := 12) (ws' := [(a, .inr (5, [.ref q1, .int 0, .null, .int 0, .null, .null, .int 0, .int 0, .int 0, .null, .null, .null])), (q1, .inl (cI, 16, .inl (fun _ => 0)))]) 0 0 F hNm dX5_init_9 inG_X5 tyX5 tyX5_ok nmX5 rfl rfl (by decide) rfl kw_162 rfl rfl (tyX5_ok 0 (by decide)) rfl rfl (Nat.le_of_ble_eq_true rfl) rfl rfl ?_
  refine J_aload_n (pc' := 13) (q := 0) F dX5_init_12 rfl rfl ?_
  refine J_iconst (pc' := 14) (v := 0) F dX5_init_13 (by decide) rfl ?_
  refine J_put (pc' := 17) (ws' := [(a, .inr (5, [.ref q1, .int 0, .null, .int 0, .null, .null, .int 0, .int 0, .int 0, .null, .null, .null])), (q1, .inl (cI, 16, .inl (fun _ => 0)))]) 0 1 F dX5_init_14 inG_X5 tyX5 tyX5_ok nmX5 rfl rfl (by decide) rfl kw_163 rfl (tyX5_ok 1 (by decide)) rfl rfl (Nat.le_of_ble_eq_true rfl) rfl rfl ?_
  refine J_aload_n (pc' := 18) (q := 0) F dX5_init_17 rfl rfl ?_
  refine J_newC (pc' := 21) (ci := 2) (fs := [.null, .null, .null, .int 0, .int 0]) F E hA dX5_init_18 inG_X2 tyX2 tyX2_ok kw_23 kw_24 kw_2 rfl dfX2 (Nat.le_of_ble_eq_true rfl) (Nat.le_of_ble_eq_true rfl) rfl (fun q2 => ?_)
  refine J_dup (pc' := 22) F dX5_init_21 rfl rfl ?_
  refine J_goN (wf := (fun u : Nat → Nat => [(q2, .inr (2, [.ref (u 0), .ref (u 1), .ref (u 2), .int 0, .int 0])), ((u 0), .inl (cI, 3, .inl (fun _ => 0))), ((u 1), .inl (cI, 3, .inl (fun _ => 0))), ((u 2), .inl (cI, 3, .inl (fun _ => 0)))])) (w0 := [(q2, .inr (2, [.null, .null, .null, .int 0, .int 0]))]) (av := [.ref q2]) (rest := [.ref q2, .ref a]) (pc' := 25) (fun u : Nat → Nat => [(a, .inr (5, [.ref q1, .int 0, .null, .int 0, .null, .null, .int 0, .int 0, .int 0, .null, .null, .null])), (q1, .inl (cI, 16, .inl (fun _ => 0))), (q2, .inr (2, [.ref (u 0), .ref (u 1), .ref (u 2), .int 0, .int 0])), ((u 0), .inl (cI, 3, .inl (fun _ => 0))), ((u 1), .inl (cI, 3, .inl (fun _ => 0))), ((u 2), .inl (cI, 3, .inl (fun _ => 0)))]) F E hA (fun _ h => jlast_P h) jlast_D jlast_A (fun u => jOver_of (wr := [(a, .inr (5, [.ref q1, .int 0, .null, .int 0, .null, .null, .int 0, .int 0, .int 0, .null, .null, .null])), (q1, .inl (cI, 16, .inl (fun _ => 0)))]) [2] [0, 1] [0, 1, 2, 3, 4, 5] rfl rfl (by decide) (by decide) rfl (by decide)) (fun H locs hI hp => jrun_IN (As := []) F E (c_X2_init l D cI cZ z q2 H.size) rfl (by decide +kernel) kw_26 rfl kw_27 kw_2 oX2_init ⟨⟨rfl, rfl⟩, ⟨(Nat.le_of_ble_eq_true rfl), (Nat.le_of_ble_eq_true rfl)⟩, (Nat.le_of_ble_eq_true rfl), (Nat.le_of_ble_eq_true rfl)⟩ rfl rfl (Nat.le_of_ble_eq_true rfl) dX5_init_22 hp) rfl (fun u3 _ => ?_)
  refine J_ws (ws' := [(a, .inr (5, [.ref q1, .int 0, .null, .int 0, .null, .null, .int 0, .int 0, .int 0, .null, .null, .null])), (q1, .inl (cI, 16, .inl (fun _ => 0))), (q2, .inr (2, [.ref (u3 0), .ref (u3 1), .ref (u3 2), .int 0, .int 0])), ((u3 0), .inl (cI, 3, .inl (fun _ => 0))), ((u3 1), .inl (cI, 3, .inl (fun _ => 0))), ((u3 2), .inl (cI, 3, .inl (fun _ => 0)))]) rfl ?_
  refine J_putF (pc' := 28) (ws' := [(a, .inr (5, [.ref q1, .int 0, .ref q2, .int 0, .null, .null, .int 0, .int 0, .int 0, .null, .null, .null])), (q1, .inl (cI, 16, .inl (fun _ => 0))), (q2, .inr (2, [.ref (u3 0), .ref (u3 1), .ref (u3 2), .int 0, .int 0])), ((u3 0), .inl (cI, 3, .inl (fun _ => 0))), ((u3 1), .inl (cI, 3, .inl (fun _ => 0))), ((u3 2), .inl (cI, 3, .inl (fun _ => 0)))]) 0 2 F hNm dX5_init_25 inG_X5 tyX5 tyX5_ok nmX5 rfl rfl (by decide) rfl kw_164 rfl rfl (tyX5_ok 2 (by decide)) rfl rfl (Nat.le_of_ble_eq_true rfl) rfl rfl ?_
  refine J_aload_n (pc' := 29) (q := 0) F dX5_init_28 rfl rfl ?_
  refine J_iconst (pc' := 30) (v := 0) F dX5_init_29 (by decide) rfl ?_
  refine J_put (pc' := 33) (ws' := [(a, .inr (5, [.ref q1, .int 0, .ref q2, .int 0, .null, .null, .int 0, .int 0, .int 0, .null, .null, .null])), (q1, .inl (cI, 16, .inl (fun _ => 0))), (q2, .inr (2, [.ref (u3 0), .ref (u3 1), .ref (u3 2), .int 0, .int 0])), ((u3 0), .inl (cI, 3, .inl (fun _ => 0))), ((u3 1), .inl (cI, 3, .inl (fun _ => 0))), ((u3 2), .inl (cI, 3, .inl (fun _ => 0)))]) 0 3 F dX5_init_30 inG_X5 tyX5 tyX5_ok nmX5 rfl rfl (by decide) rfl kw_165 rfl (tyX5_ok 3 (by decide)) rfl rfl (Nat.le_of_ble_eq_true rfl) rfl rfl ?_
  refine J_aload_n (pc' := 34) (q := 0) F dX5_init_33 rfl rfl ?_
  refine J_newC (pc' := 37) (ci := 3) (fs := [.int 0, .int 0, .int 0, .int 0, .null, .int 0]) F E hA dX5_init_34 inG_X3 tyX3 tyX3_ok kw_52 kw_53 kw_3 rfl dfX3 (Nat.le_of_ble_eq_true rfl) (Nat.le_of_ble_eq_true rfl) rfl (fun q4 => ?_)
  refine J_dup (pc' := 38) F dX5_init_37 rfl rfl ?_
  refine J_goN (wf := (fun u : Nat → Nat => [(q4, .inr (3, [.int 0, .int 0, .int 0, .int 0, .ref (u 0), .int 0])), ((u 0), .inl (cI, 4, .inl (fun _ => 0)))])) (w0 := [(q4, .inr (3, [.int 0, .int 0, .int 0, .int 0, .null, .int 0]))]) (av := [.ref q4]) (rest := [.ref q4, .ref a]) (pc' := 41) (fun u : Nat → Nat => [(a, .inr (5, [.ref q1, .int 0, .ref q2, .int 0, .null, .null, .int 0, .int 0, .int 0, .null, .null, .null])), (q1, .inl (cI, 16, .inl (fun _ => 0))), (q2, .inr (2, [.ref (u3 0), .ref (u3 1), .ref (u3 2), .int 0, .int 0])), ((u3 0), .inl (cI, 3, .inl (fun _ => 0))), ((u3 1), .inl (cI, 3, .inl (fun _ => 0))), ((u3 2), .inl (cI, 3, .inl (fun _ => 0))), (q4, .inr (3, [.int 0, .int 0, .int 0, .int 0, .ref (u 0), .int 0])), ((u 0), .inl (cI, 4, .inl (fun _ => 0)))]) F E hA (fun _ h => jlast_P h) jlast_D jlast_A (fun u => jOver_of (wr := [(a, .inr (5, [.ref q1, .int 0, .ref q2, .int 0, .null, .null, .int 0, .int 0, .int 0, .null, .null, .null])), (q1, .inl (cI, 16, .inl (fun _ => 0))), (q2, .inr (2, [.ref (u3 0), .ref (u3 1), .ref (u3 2), .int 0, .int 0])), ((u3 0), .inl (cI, 3, .inl (fun _ => 0))), ((u3 1), .inl (cI, 3, .inl (fun _ => 0))), ((u3 2), .inl (cI, 3, .inl (fun _ => 0)))]) [6] [0, 1, 2, 3, 4, 5] [0, 1, 2, 3, 4, 5, 6, 7] rfl rfl (by decide) (by decide) rfl (by decide)) (fun H locs hI hp => jrun_IN (As := []) F E (c_X3_init l D cI cZ z q4 H.size) rfl (by decide +kernel) kw_55 rfl kw_56 kw_3 oX3_init ⟨⟨rfl, rfl⟩, ⟨(Nat.le_of_ble_eq_true rfl), (Nat.le_of_ble_eq_true rfl)⟩, (Nat.le_of_ble_eq_true rfl), (Nat.le_of_ble_eq_true rfl)⟩ rfl rfl (Nat.le_of_ble_eq_true rfl) dX5_init_38 hp) rfl (fun u5 _ => ?_)
  refine J_ws (ws' := [(a, .inr (5, [.ref q1, .int 0, .ref q2, .int 0, .null, .null, .int 0, .int 0, .int 0, .null, .null, .null])), (q1, .inl (cI, 16, .inl (fun _ => 0))), (q2, .inr (2, [.ref (u3 0), .ref (u3 1), .ref (u3 2), .int 0, .int 0])), ((u3 0), .inl (cI, 3, .inl (fun _ => 0))), ((u3 1), .inl (cI, 3, .inl (fun _ => 0))), ((u3 2), .inl (cI, 3, .inl (fun _ => 0))), (q4, .inr (3, [.int 0, .int 0, .int 0, .int 0, .ref (u5 0), .int 0])), ((u5 0), .inl (cI, 4, .inl (fun _ => 0)))]) rfl ?_
  refine J_putF (pc' := 44) (ws' := [(a, .inr (5, [.ref q1, .int 0, .ref q2, .int 0, .ref q4, .null, .int 0, .int 0, .int 0, .null, .null, .null])), (q1, .inl (cI, 16, .inl (fun _ => 0))), (q2, .inr (2, [.ref (u3 0), .ref (u3 1), .ref (u3 2), .int 0, .int 0])), ((u3 0), .inl (cI, 3, .inl (fun _ => 0))), ((u3 1), .inl (cI, 3, .inl (fun _ => 0))), ((u3 2), .inl (cI, 3, .inl (fun _ => 0))), (q4, .inr (3, [.int 0, .int 0, .int 0, .int 0, .ref (u5 0), .int 0])), ((u5 0), .inl (cI, 4, .inl (fun _ => 0)))]) 0 4 F hNm dX5_init_41 inG_X5 tyX5 tyX5_ok nmX5 rfl rfl (by decide) rfl kw_166 rfl rfl (tyX5_ok 4 (by decide)) rfl rfl (Nat.le_of_ble_eq_true rfl) rfl rfl ?_
  refine J_aload_n (pc' := 45) (q := 0) F dX5_init_44 rfl rfl ?_
  refine J_newC (pc' := 48) (ci := 3) (fs := [.int 0, .int 0, .int 0, .int 0, .null, .int 0]) F E hA dX5_init_45 inG_X3 tyX3 tyX3_ok kw_52 kw_53 kw_3 rfl dfX3 (Nat.le_of_ble_eq_true rfl) (Nat.le_of_ble_eq_true rfl) rfl (fun q6 => ?_)
  refine J_dup (pc' := 49) F dX5_init_48 rfl rfl ?_
  refine J_goN (wf := (fun u : Nat → Nat => [(q6, .inr (3, [.int 0, .int 0, .int 0, .int 0, .ref (u 0), .int 0])), ((u 0), .inl (cI, 4, .inl (fun _ => 0)))])) (w0 := [(q6, .inr (3, [.int 0, .int 0, .int 0, .int 0, .null, .int 0]))]) (av := [.ref q6]) (rest := [.ref q6, .ref a]) (pc' := 52) (fun u : Nat → Nat => [(a, .inr (5, [.ref q1, .int 0, .ref q2, .int 0, .ref q4, .null, .int 0, .int 0, .int 0, .null, .null, .null])), (q1, .inl (cI, 16, .inl (fun _ => 0))), (q2, .inr (2, [.ref (u3 0), .ref (u3 1), .ref (u3 2), .int 0, .int 0])), ((u3 0), .inl (cI, 3, .inl (fun _ => 0))), ((u3 1), .inl (cI, 3, .inl (fun _ => 0))), ((u3 2), .inl (cI, 3, .inl (fun _ => 0))), (q4, .inr (3, [.int 0, .int 0, .int 0, .int 0, .ref (u5 0), .int 0])), ((u5 0), .inl (cI, 4, .inl (fun _ => 0))), (q6, .inr (3, [.int 0, .int 0, .int 0, .int 0, .ref (u 0), .int 0])), ((u 0), .inl (cI, 4, .inl (fun _ => 0)))]) F E hA (fun _ h => jlast_P h) jlast_D jlast_A (fun u => jOver_of (wr := [(a, .inr (5, [.ref q1, .int 0, .ref q2, .int 0, .ref q4, .null, .int 0, .int 0, .int 0, .null, .null, .null])), (q1, .inl (cI, 16, .inl (fun _ => 0))), (q2, .inr (2, [.ref (u3 0), .ref (u3 1), .ref (u3 2), .int 0, .int 0])), ((u3 0), .inl (cI, 3, .inl (fun _ => 0))), ((u3 1), .inl (cI, 3, .inl (fun _ => 0))), ((u3 2), .inl (cI, 3, .inl (fun _ => 0))), (q4, .inr (3, [.int 0, .int 0, .int 0, .int 0, .ref (u5 0), .int 0])), ((u5 0), .inl (cI, 4, .inl (fun _ => 0)))]) [8] [0, 1, 2, 3, 4, 5, 6, 7] [0, 1, 2, 3, 4, 5, 6, 7, 8, 9] rfl rfl (by decide) (by decide) rfl (by decide)) (fun H locs hI hp => jrun_IN (As := []) F E (c_X3_init l D cI cZ z q6 H.size) rfl (by decide +kernel) kw_55 rfl kw_56 kw_3 oX3_init ⟨⟨rfl, rfl⟩, ⟨(Nat.le_of_ble_eq_true rfl), (Nat.le_of_ble_eq_true rfl)⟩, (Nat.le_of_ble_eq_true rfl), (Nat.le_of_ble_eq_true rfl)⟩ rfl rfl (Nat.le_of_ble_eq_true rfl) dX5_init_49 hp) rfl (fun u7 _ => ?_)
  refine J_ws (ws' := [(a, .inr (5, [.ref q1, .int 0, .ref q2, .int 0, .ref q4, .null, .int 0, .int 0, .int 0, .null, .null, .null])), (q1, .inl (cI, 16, .inl (fun _ => 0))), (q2, .inr (2, [.ref (u3 0), .ref (u3 1), .ref (u3 2), .int 0, .int 0])), ((u3 0), .inl (cI, 3, .inl (fun _ => 0))), ((u3 1), .inl (cI, 3, .inl (fun _ => 0))), ((u3 2), .inl (cI, 3, .inl (fun _ => 0))), (q4, .inr (3, [.int 0, .int 0, .int 0, .int 0, .ref (u5 0), .int 0])), ((u5 0), .inl (cI, 4, .inl (fun _ => 0))), (q6, .inr (3, [.int 0, .int 0, .int 0, .int 0, .ref (u7 0), .int 0])), ((u7 0), .inl (cI, 4, .inl (fun _ => 0)))]) rfl ?_
  refine J_putF (pc' := 55) (ws' := [(a, .inr (5, [.ref q1, .int 0, .ref q2, .int 0, .ref q4, .ref q6, .int 0, .int 0, .int 0, .null, .null, .null])), (q1, .inl (cI, 16, .inl (fun _ => 0))), (q2, .inr (2, [.ref (u3 0), .ref (u3 1), .ref (u3 2), .int 0, .int 0])), ((u3 0), .inl (cI, 3, .inl (fun _ => 0))), ((u3 1), .inl (cI, 3, .inl (fun _ => 0))), ((u3 2), .inl (cI, 3, .inl (fun _ => 0))), (q4, .inr (3, [.int 0, .int 0, .int 0, .int 0, .ref (u5 0), .int 0])), ((u5 0), .inl (cI, 4, .inl (fun _ => 0))), (q6, .inr (3, [.int 0, .int 0, .int 0, .int 0, .ref (u7 0), .int 0])), ((u7 0), .inl (cI, 4, .inl (fun _ => 0)))]) 0 5 F hNm dX5_init_52 inG_X5 tyX5 tyX5_ok nmX5 rfl rfl (by decide) rfl kw_167 rfl rfl (tyX5_ok 5 (by decide)) rfl rfl (Nat.le_of_ble_eq_true rfl) rfl rfl ?_
  refine J_aload_n (pc' := 56) (q := 0) F dX5_init_55 rfl rfl ?_
  refine J_iconst (pc' := 57) (v := 0) F dX5_init_56 (by decide) rfl ?_
  refine J_put (pc' := 60) (ws' := [(a, .inr (5, [.ref q1, .int 0, .ref q2, .int 0, .ref q4, .ref q6, .int 0, .int 0, .int 0, .null, .null, .null])), (q1, .inl (cI, 16, .inl (fun _ => 0))), (q2, .inr (2, [.ref (u3 0), .ref (u3 1), .ref (u3 2), .int 0, .int 0])), ((u3 0), .inl (cI, 3, .inl (fun _ => 0))), ((u3 1), .inl (cI, 3, .inl (fun _ => 0))), ((u3 2), .inl (cI, 3, .inl (fun _ => 0))), (q4, .inr (3, [.int 0, .int 0, .int 0, .int 0, .ref (u5 0), .int 0])), ((u5 0), .inl (cI, 4, .inl (fun _ => 0))), (q6, .inr (3, [.int 0, .int 0, .int 0, .int 0, .ref (u7 0), .int 0])), ((u7 0), .inl (cI, 4, .inl (fun _ => 0)))]) 0 6 F dX5_init_57 inG_X5 tyX5 tyX5_ok nmX5 rfl rfl (by decide) rfl kw_168 rfl (tyX5_ok 6 (by decide)) rfl rfl (Nat.le_of_ble_eq_true rfl) rfl rfl ?_
  refine J_aload_n (pc' := 61) (q := 0) F dX5_init_60 rfl rfl ?_
  refine J_iconst (pc' := 62) (v := 0) F dX5_init_61 (by decide) rfl ?_
  refine J_put (pc' := 65) (ws' := [(a, .inr (5, [.ref q1, .int 0, .ref q2, .int 0, .ref q4, .ref q6, .int 0, .int 0, .int 0, .null, .null, .null])), (q1, .inl (cI, 16, .inl (fun _ => 0))), (q2, .inr (2, [.ref (u3 0), .ref (u3 1), .ref (u3 2), .int 0, .int 0])), ((u3 0), .inl (cI, 3, .inl (fun _ => 0))), ((u3 1), .inl (cI, 3, .inl (fun _ => 0))), ((u3 2), .inl (cI, 3, .inl (fun _ => 0))), (q4, .inr (3, [.int 0, .int 0, .int 0, .int 0, .ref (u5 0), .int 0])), ((u5 0), .inl (cI, 4, .inl (fun _ => 0))), (q6, .inr (3, [.int 0, .int 0, .int 0, .int 0, .ref (u7 0), .int 0])), ((u7 0), .inl (cI, 4, .inl (fun _ => 0)))]) 0 7 F dX5_init_62 inG_X5 tyX5 tyX5_ok nmX5 rfl rfl (by decide) rfl kw_169 rfl (tyX5_ok 7 (by decide)) rfl rfl (Nat.le_of_ble_eq_true rfl) rfl rfl ?_
  refine J_aload_n (pc' := 66) (q := 0) F dX5_init_65 rfl rfl ?_
  refine J_iconst (pc' := 67) (v := 0) F dX5_init_66 (by decide) rfl ?_
  refine J_put (pc' := 70) (ws' := [(a, .inr (5, [.ref q1, .int 0, .ref q2, .int 0, .ref q4, .ref q6, .int 0, .int 0, .int 0, .null, .null, .null])), (q1, .inl (cI, 16, .inl (fun _ => 0))), (q2, .inr (2, [.ref (u3 0), .ref (u3 1), .ref (u3 2), .int 0, .int 0])), ((u3 0), .inl (cI, 3, .inl (fun _ => 0))), ((u3 1), .inl (cI, 3, .inl (fun _ => 0))), ((u3 2), .inl (cI, 3, .inl (fun _ => 0))), (q4, .inr (3, [.int 0, .int 0, .int 0, .int 0, .ref (u5 0), .int 0])), ((u5 0), .inl (cI, 4, .inl (fun _ => 0))), (q6, .inr (3, [.int 0, .int 0, .int 0, .int 0, .ref (u7 0), .int 0])), ((u7 0), .inl (cI, 4, .inl (fun _ => 0)))]) 0 8 F dX5_init_67 inG_X5 tyX5 tyX5_ok nmX5 rfl rfl (by decide) rfl kw_170 rfl (tyX5_ok 8 (by decide)) rfl rfl (Nat.le_of_ble_eq_true rfl) rfl rfl ?_
  refine J_aload_n (pc' := 71) (q := 0) F dX5_init_70 rfl rfl ?_
  refine J_newC (pc' := 74) (ci := 4) (fs := [.null, .null, .null, .null, .int 0, .int 0, .int 0, .int 0, .int 0, .int 0, .int 0]) F E hA dX5_init_71 inG_X4 tyX4 tyX4_ok kw_86 kw_87 kw_4 rfl dfX4 (Nat.le_of_ble_eq_true rfl) (Nat.le_of_ble_eq_true rfl) rfl (fun q8 => ?_)
  refine J_dup (pc' := 75) F dX5_init_74 rfl rfl ?_
  refine J_goN (wf := (fun u : Nat → Nat => [(q8, .inr (4, [.ref (u 0), .ref (u 1), .ref (u 2), .ref (u 3), .int 0, .int 0, .int 0, .int 0, .int (-1), .int 0, .int (-1)])), ((u 0), .inl (cI, 4096, .inl (fun _ => 0))), ((u 1), .inl (cI, 4096, .inl (fun _ => 0))), ((u 2), .inl (cI, 20480, .inl (fun _ => 0))), ((u 3), .inl (cI, 5, .inl (fun _ => 0)))])) (w0 := [(q8, .inr (4, [.null, .null, .null, .null, .int 0, .int 0, .int 0, .int 0, .int 0, .int 0, .int 0]))]) (av := [.ref q8]) (rest := [.ref q8, .ref a]) (pc' := 78) (fun u : Nat → Nat => [(a, .inr (5, [.ref q1, .int 0, .ref q2, .int 0, .ref q4, .ref q6, .int 0, .int 0, .int 0, .null, .null, .null])), (q1, .inl (cI, 16, .inl (fun _ => 0))), (q2, .inr (2, [.ref (u3 0), .ref (u3 1), .ref (u3 2), .int 0, .int 0])), ((u3 0), .inl (cI, 3, .inl (fun _ => 0))), ((u3 1), .inl (cI, 3, .inl (fun _ => 0))), ((u3 2), .inl (cI, 3, .inl (fun _ => 0))), (q4, .inr (3, [.int 0, .int 0, .int 0, .int 0, .ref (u5 0), .int 0])), ((u5 0), .inl (cI, 4, .inl (fun _ => 0))), (q6, .inr (3, [.int 0, .int 0, .int 0, .int 0, .ref (u7 0), .int 0])), ((u7 0), .inl (cI, 4, .inl (fun _ => 0))), (q8, .inr (4, [.ref (u 0), .ref (u 1), .ref (u 2), .ref (u 3), .int 0, .int 0, .int 0, .int 0, .int (-1), .int 0, .int (-1)])), ((u 0), .inl (cI, 4096, .inl (fun _ => 0))), ((u 1), .inl (cI, 4096, .inl (fun _ => 0))), ((u 2), .inl (cI, 20480, .inl (fun _ => 0))), ((u 3), .inl (cI, 5, .inl (fun _ => 0)))]) F E hA (fun _ h => jlast_P h) jlast_D jlast_A (fun u => jOver_of (wr := [(a, .inr (5, [.ref q1, .int 0, .ref q2, .int 0, .ref q4, .ref q6, .int 0, .int 0, .int 0, .null, .null, .null])), (q1, .inl (cI, 16, .inl (fun _ => 0))), (q2, .inr (2, [.ref (u3 0), .ref (u3 1), .ref (u3 2), .int 0, .int 0])), ((u3 0), .inl (cI, 3, .inl (fun _ => 0))), ((u3 1), .inl (cI, 3, .inl (fun _ => 0))), ((u3 2), .inl (cI, 3, .inl (fun _ => 0))), (q4, .inr (3, [.int 0, .int 0, .int 0, .int 0, .ref (u5 0), .int 0])), ((u5 0), .inl (cI, 4, .inl (fun _ => 0))), (q6, .inr (3, [.int 0, .int 0, .int 0, .int 0, .ref (u7 0), .int 0])), ((u7 0), .inl (cI, 4, .inl (fun _ => 0)))]) [10] [0, 1, 2, 3, 4, 5, 6, 7, 8, 9] [0, 1, 2, 3, 4, 5, 6, 7, 8, 9, 10, 11, 12, 13, 14] rfl rfl (by decide) (by decide) rfl (by decide)) (fun H locs hI hp => jrun_IN (As := []) F E (c_X4_init l D cI cZ z q8 H.size) rfl (by decide +kernel) kw_89 rfl kw_90 kw_4 oX4_init ⟨⟨rfl, rfl⟩, ⟨(Nat.le_of_ble_eq_true rfl), (Nat.le_of_ble_eq_true rfl)⟩, (Nat.le_of_ble_eq_true rfl), (Nat.le_of_ble_eq_true rfl)⟩ rfl rfl (Nat.le_of_ble_eq_true rfl) dX5_init_75 hp) rfl (fun u9 _ => ?_)
  refine J_ws (ws' := [(a, .inr (5, [.ref q1, .int 0, .ref q2, .int 0, .ref q4, .ref q6, .int 0, .int 0, .int 0, .null, .null, .null])), (q1, .inl (cI, 16, .inl (fun _ => 0))), (q2, .inr (2, [.ref (u3 0), .ref (u3 1), .ref (u3 2), .int 0, .int 0])), ((u3 0), .inl (cI, 3, .inl (fun _ => 0))), ((u3 1), .inl (cI, 3, .inl (fun _ => 0))), ((u3 2), .inl (cI, 3, .inl (fun _ => 0))), (q4, .inr (3, [.int 0, .int 0, .int 0, .int 0, .ref (u5 0), .int 0])), ((u5 0), .inl (cI, 4, .inl (fun _ => 0))), (q6, .inr (3, [.int 0, .int 0, .int 0, .int 0, .ref (u7 0), .int 0])), ((u7 0), .inl (cI, 4, .inl (fun _ => 0))), (q8, .inr (4, [.ref (u9 0), .ref (u9 1), .ref (u9 2), .ref (u9 3), .int 0, .int 0, .int 0, .int 0, .int (-1), .int 0, .int (-1)])), ((u9 0), .inl (cI, 4096, .inl (fun _ => 0))), ((u9 1), .inl (cI, 4096, .inl (fun _ => 0))), ((u9 2), .inl (cI, 20480, .inl (fun _ => 0))), ((u9 3), .inl (cI, 5, .inl (fun _ => 0)))]) rfl ?_
  refine J_putF (pc' := 81) (ws' := [(a, .inr (5, [.ref q1, .int 0, .ref q2, .int 0, .ref q4, .ref q6, .int 0, .int 0, .int 0, .ref q8, .null, .null])), (q1, .inl (cI, 16, .inl (fun _ => 0))), (q2, .inr (2, [.ref (u3 0), .ref (u3 1), .ref (u3 2), .int 0, .int 0])), ((u3 0), .inl (cI, 3, .inl (fun _ => 0))), ((u3 1), .inl (cI, 3, .inl (fun _ => 0))), ((u3 2), .inl (cI, 3, .inl (fun _ => 0))), (q4, .inr (3, [.int 0, .int 0, .int 0, .int 0, .ref (u5 0), .int 0])), ((u5 0), .inl (cI, 4, .inl (fun _ => 0))), (q6, .inr (3, [.int 0, .int 0, .int 0, .int 0, .ref (u7 0), .int 0])), ((u7 0), .inl (cI, 4, .inl (fun _ => 0))), (q8, .inr (4, [.ref (u9 0), .ref (u9 1), .ref (u9 2), .ref (u9 3), .int 0, .int 0, .int 0, .int 0, .int (-1), .int 0, .int (-1)])), ((u9 0), .inl (cI, 4096, .inl (fun _ => 0))), ((u9 1), .inl (cI, 4096, .inl (fun _ => 0))), ((u9 2), .inl (cI, 20480, .inl (fun _ => 0))), ((u9 3), .inl (cI, 5, .inl (fun _ => 0)))]) 0 9 F hNm dX5_init_78 inG_X5 tyX5 tyX5_ok nmX5 rfl rfl (by decide) rfl kw_171 rfl rfl (tyX5_ok 9 (by decide)) rfl rfl (Nat.le_of_ble_eq_true rfl) rfl rfl ?_
  refine J_aload_n (pc' := 82) (q := 0) F dX5_init_81 rfl rfl ?_
  refine J_newC (pc' := 85) (ci := 0) (fs := [.null, .null]) F E hA dX5_init_82 inG_X0 tyX0 tyX0_ok kw_130 kw_131 kw_5 rfl dfX0 (Nat.le_of_ble_eq_true rfl) (Nat.le_of_ble_eq_true rfl) rfl (fun q10 => ?_)
  refine J_dup (pc' := 86) F dX5_init_85 rfl rfl ?_
  refine J_goN (wf := (fun u : Nat → Nat => [(q10, .inr (0, [.ref (u 0), .ref (u 1)])), ((u 0), .inl (cI, 4096, .inl (fun _ => 0))), ((u 1), .inl (cI, 13, .inl (fun _ => 0)))])) (w0 := [(q10, .inr (0, [.null, .null]))]) (av := [.ref q10]) (rest := [.ref q10, .ref a]) (pc' := 89) (fun u : Nat → Nat => [(a, .inr (5, [.ref q1, .int 0, .ref q2, .int 0, .ref q4, .ref q6, .int 0, .int 0, .int 0, .ref q8, .null, .null])), (q1, .inl (cI, 16, .inl (fun _ => 0))), (q2, .inr (2, [.ref (u3 0), .ref (u3 1), .ref (u3 2), .int 0, .int 0])), ((u3 0), .inl (cI, 3, .inl (fun _ => 0))), ((u3 1), .inl (cI, 3, .inl (fun _ => 0))), ((u3 2), .inl (cI, 3, .inl (fun _ => 0))), (q4, .inr (3, [.int 0, .int 0, .int 0, .int 0, .ref (u5 0), .int 0])), ((u5 0), .inl (cI, 4, .inl (fun _ => 0))), (q6, .inr (3, [.int 0, .int 0, .int 0, .int 0, .ref (u7 0), .int 0])), ((u7 0), .inl (cI, 4, .inl (fun _ => 0))), (q8, .inr (4, [.ref (u9 0), .ref (u9 1), .ref (u9 2), .ref (u9 3), .int 0, .int 0, .int 0, .int 0, .int (-1), .int 0, .int (-1)])), ((u9 0), .inl (cI, 4096, .inl (fun _ => 0))), ((u9 1), .inl (cI, 4096, .inl (fun _ => 0))), ((u9 2), .inl (cI, 20480, .inl (fun _ => 0))), ((u9 3), .inl (cI, 5, .inl (fun _ => 0))), (q10, .inr (0, [.ref (u 0), .ref (u 1)])), ((u 0), .inl (cI, 4096, .inl (fun _ => 0))), ((u 1), .inl (cI, 13, .inl (fun _ => 0)))]) F E hA (fun _ h => jlast_P h) jlast_D jlast_A (fun u => jOver_of (wr := [(a, .inr (5, [.ref q1, .int 0, .ref q2, .int 0, .ref q4, .ref q6, .int 0, .int 0, .int 0, .ref q8, .null, .null])), (q1, .inl (cI, 16, .inl (fun _ => 0))), (q2, .inr (2, [.ref (u3 0), .ref (u3 1), .ref (u3 2), .int 0, .int 0])), ((u3 0), .inl (cI, 3, .inl (fun _ => 0))), ((u3 1), .inl (cI, 3, .inl (fun _ => 0))), ((u3 2), .inl (cI, 3, .inl (fun _ => 0))), (q4, .inr (3, [.int 0, .int 0, .int 0, .int 0, .ref (u5 0), .int 0])), ((u5 0), .inl (cI, 4, .inl (fun _ => 0))), (q6, .inr (3, [.int 0, .int 0, .int 0, .int 0, .ref (u7 0), .int 0])), ((u7 0), .inl (cI, 4, .inl (fun _ => 0))), (q8, .inr (4, [.ref (u9 0), .ref (u9 1), .ref (u9 2), .ref (u9 3), .int 0, .int 0, .int 0, .int 0, .int (-1), .int 0, .int (-1)])), ((u9 0), .inl (cI, 4096, .inl (fun _ => 0))), ((u9 1), .inl (cI, 4096, .inl (fun _ => 0))), ((u9 2), .inl (cI, 20480, .inl (fun _ => 0))), ((u9 3), .inl (cI, 5, .inl (fun _ => 0)))]) [15] [0, 1, 2, 3, 4, 5, 6, 7, 8, 9, 10, 11, 12, 13, 14] [0, 1, 2, 3, 4, 5, 6, 7, 8, 9, 10, 11, 12, 13, 14, 15, 16, 17] rfl rfl (by decide) (by decide) rfl (by decide)) (fun H locs hI hp => jrun_IN (As := []) F E (c_X0_init l D cI cZ z q10 H.size) rfl (by decide +kernel) kw_133 rfl kw_134 kw_5 oX0_init ⟨⟨rfl, rfl⟩, ⟨(Nat.le_of_ble_eq_true rfl), (Nat.le_of_ble_eq_true rfl)⟩, (Nat.le_of_ble_eq_true rfl), (Nat.le_of_ble_eq_true rfl)⟩ rfl rfl (Nat.le_of_ble_eq_true rfl) dX5_init_86 hp) rfl (fun u11 _ => ?_)
  refine J_ws (ws' := [(a, .inr (5, [.ref q1, .int 0, .ref q2, .int 0, .ref q4, .ref q6, .int 0, .int 0, .int 0, .ref q8, .null, .null])), (q1, .inl (cI, 16, .inl (fun _ => 0))), (q2, .inr (2, [.ref (u3 0), .ref (u3 1), .ref (u3 2), .int 0, .int 0])), ((u3 0), .inl (cI, 3, .inl (fun _ => 0))), ((u3 1), .inl (cI, 3, .inl (fun _ => 0))), ((u3 2), .inl (cI, 3, .inl (fun _ => 0))), (q4, .inr (3, [.int 0, .int 0, .int 0, .int 0, .ref (u5 0), .int 0])), ((u5 0), .inl (cI, 4, .inl (fun _ => 0))), (q6, .inr (3, [.int 0, .int 0, .int 0, .int 0, .ref (u7 0), .int 0])), ((u7 0), .inl (cI, 4, .inl (fun _ => 0))), (q8, .inr (4, [.ref (u9 0), .ref (u9 1), .ref (u9 2), .ref (u9 3), .int 0, .int 0, .int 0, .int 0, .int (-1), .int 0, .int (-1)])), ((u9 0), .inl (cI, 4096, .inl (fun _ => 0))), ((u9 1), .inl (cI, 4096, .inl (fun _ => 0))), ((u9 2), .inl (cI, 20480, .inl (fun _ => 0))), ((u9 3), .inl (cI, 5, .inl (fun _ => 0))), (q10, .inr (0, [.ref (u11 0), .ref (u11 1)])), ((u11 0), .inl (cI, 4096, .inl (fun _ => 0))), ((u11 1), .inl (cI, 13, .inl (fun _ => 0)))]) rfl ?_
  refine J_putF (pc' := 92) (ws' := [(a, .inr (5, [.ref q1, .int 0, .ref q2, .int 0, .ref q4, .ref q6, .int 0, .int 0, .int 0, .ref q8, .ref q10, .null])), (q1, .inl (cI, 16, .inl (fun _ => 0))), (q2, .inr (2, [.ref (u3 0), .ref (u3 1), .ref (u3 2), .int 0, .int 0])), ((u3 0), .inl (cI, 3, .inl (fun _ => 0))), ((u3 1), .inl (cI, 3, .inl (fun _ => 0))), ((u3 2), .inl (cI, 3, .inl (fun _ => 0))), (q4, .inr (3, [.int 0, .int 0, .int 0, .int 0, .ref (u5 0), .int 0])), ((u5 0), .inl (cI, 4, .inl (fun _ => 0))), (q6, .inr (3, [.int 0, .int 0, .int 0, .int 0, .ref (u7 0), .int 0])), ((u7 0), .inl (cI, 4, .inl (fun _ => 0))), (q8, .inr (4, [.ref (u9 0), .ref (u9 1), .ref (u9 2), .ref (u9 3), .int 0, .int 0, .int 0, .int 0, .int (-1), .int 0, .int (-1)])), ((u9 0), .inl (cI, 4096, .inl (fun _ => 0))), ((u9 1), .inl (cI, 4096, .inl (fun _ => 0))), ((u9 2), .inl (cI, 20480, .inl (fun _ => 0))), ((u9 3), .inl (cI, 5, .inl (fun _ => 0))), (q10, .inr (0, [.ref (u11 0), .ref (u11 1)])), ((u11 0), .inl (cI, 4096, .inl (fun _ => 0))), ((u11 1), .inl (cI, 13, .inl (fun _ => 0)))]) 0 10 F hNm dX5_init_89 inG_X5 tyX5 tyX5_ok nmX5 rfl rfl (by decide) rfl kw_172 rfl rfl (tyX5_ok 10 (by decide)) rfl rfl (Nat.le_of_ble_eq_true rfl) rfl rfl ?_
  refine J_aload_n (pc' := 93) (q := 0) F dX5_init_92 rfl rfl ?_
  refine J_newC (pc' := 96) (ci := 1) (fs := [.int 0, .int 0, .int 0]) F E hA dX5_init_93 inG_X1 tyX1 tyX1_ok kw_143 kw_144 kw_6 rfl dfX1 (Nat.le_of_ble_eq_true rfl) (Nat.le_of_ble_eq_true rfl) rfl (fun q12 => ?_)
  refine J_dup (pc' := 97) F dX5_init_96 rfl rfl ?_
  refine J_goN (wf := (fun u : Nat → Nat => [(q12, .inr (1, [.int 0, .int 0, .int (-1)]))])) (w0 := [(q12, .inr (1, [.int 0, .int 0, .int 0]))]) (av := [.ref q12]) (rest := [.ref q12, .ref a]) (pc' := 100) (fun u : Nat → Nat => [(a, .inr (5, [.ref q1, .int 0, .ref q2, .int 0, .ref q4, .ref q6, .int 0, .int 0, .int 0, .ref q8, .ref q10, .null])), (q1, .inl (cI, 16, .inl (fun _ => 0))), (q2, .inr (2, [.ref (u3 0), .ref (u3 1), .ref (u3 2), .int 0, .int 0])), ((u3 0), .inl (cI, 3, .inl (fun _ => 0))), ((u3 1), .inl (cI, 3, .inl (fun _ => 0))), ((u3 2), .inl (cI, 3, .inl (fun _ => 0))), (q4, .inr (3, [.int 0, .int 0, .int 0, .int 0, .ref (u5 0), .int 0])), ((u5 0), .inl (cI, 4, .inl (fun _ => 0))), (q6, .inr (3, [.int 0, .int 0, .int 0, .int 0, .ref (u7 0), .int 0])), ((u7 0), .inl (cI, 4, .inl (fun _ => 0))), (q8, .inr (4, [.ref (u9 0), .ref (u9 1), .ref (u9 2), .ref (u9 3), .int 0, .int 0, .int 0, .int 0, .int (-1), .int 0, .int (-1)])), ((u9 0), .inl (cI, 4096, .inl (fun _ => 0))), ((u9 1), .inl (cI, 4096, .inl (fun _ => 0))), ((u9 2), .inl (cI, 20480, .inl (fun _ => 0))), ((u9 3), .inl (cI, 5, .inl (fun _ => 0))), (q10, .inr (0, [.ref (u11 0), .ref (u11 1)])), ((u11 0), .inl (cI, 4096, .inl (fun _ => 0))), ((u11 1), .inl (cI, 13, .inl (fun _ => 0))), (q12, .inr (1, [.int 0, .int 0, .int (-1)]))]) F E hA (fun _ h => jlast_P h) jlast_D jlast_A (fun u => jOver_of (wr := [(a, .inr (5, [.ref q1, .int 0, .ref q2, .int 0, .ref q4, .ref q6, .int 0, .int 0, .int 0, .ref q8, .ref q10, .null])), (q1, .inl (cI, 16, .inl (fun _ => 0))), (q2, .inr (2, [.ref (u3 0), .ref (u3 1), .ref (u3 2), .int 0, .int 0])), ((u3 0), .inl (cI, 3, .inl (fun _ => 0))), ((u3 1), .inl (cI, 3, .inl (fun _ => 0))), ((u3 2), .inl (cI, 3, .inl (fun _ => 0))), (q4, .inr (3, [.int 0, .int 0, .int 0, .int 0, .ref (u5 0), .int 0])), ((u5 0), .inl (cI, 4, .inl (fun _ => 0))), (q6, .inr (3, [.int 0, .int 0, .int 0, .int 0, .ref (u7 0), .int 0])), ((u7 0), .inl (cI, 4, .inl (fun _ => 0))), (q8, .inr (4, [.ref (u9 0), .ref (u9 1), .ref (u9 2), .ref (u9 3), .int 0, .int 0, .int 0, .int 0, .int (-1), .int 0, .int (-1)])), ((u9 0), .inl (cI, 4096, .inl (fun _ => 0))), ((u9 1), .inl (cI, 4096, .inl (fun _ => 0))), ((u9 2), .inl (cI, 20480, .inl (fun _ => 0))), ((u9 3), .inl (cI, 5, .inl (fun _ => 0))), (q10, .inr (0, [.ref (u11 0), .ref (u11 1)])), ((u11 0), .inl (cI, 4096, .inl (fun _ => 0))), ((u11 1), .inl (cI, 13, .inl (fun _ => 0)))]) [18] [0, 1, 2, 3, 4, 5, 6, 7, 8, 9, 10, 11, 12, 13, 14, 15, 16, 17] [0, 1, 2, 3, 4, 5, 6, 7, 8, 9, 10, 11, 12, 13, 14, 15, 16, 17, 18] rfl rfl (by decide) (by decide) rfl (by decide)) (fun H locs hI hp => jrun_IN (As := []) F E (c_X1_init l D cI cZ z q12 H.size) rfl (by decide +kernel) kw_146 rfl kw_147 kw_6 oX1_init ⟨⟨rfl, rfl⟩, ⟨(Nat.le_of_ble_eq_true rfl), (Nat.le_of_ble_eq_true rfl)⟩, (Nat.le_of_ble_eq_true rfl), (Nat.le_of_ble_eq_true rfl)⟩ rfl rfl (Nat.le_of_ble_eq_true rfl) dX5_init_97 hp) rfl (fun u13 _ => ?_)
  refine J_ws (ws' := [(a, .inr (5, [.ref q1, .int 0, .ref q2, .int 0, .ref q4, .ref q6, .int 0, .int 0, .int 0, .ref q8, .ref q10, .null])), (q1, .inl (cI, 16, .inl (fun _ => 0))), (q2, .inr (2, [.ref (u3 0), .ref (u3 1), .ref (u3 2), .int 0, .int 0])), ((u3 0), .inl (cI, 3, .inl (fun _ => 0))), ((u3 1), .inl (cI, 3, .inl (fun _ => 0))), ((u3 2), .inl (cI, 3, .inl (fun _ => 0))), (q4, .inr (3, [.int 0, .int 0, .int 0, .int 0, .ref (u5 0), .int 0])), ((u5 0), .inl (cI, 4, .inl (fun _ => 0))), (q6, .inr (3, [.int 0, .int 0, .int 0, .int 0, .ref (u7 0), .int 0])), ((u7 0), .inl (cI, 4, .inl (fun _ => 0))), (q8, .inr (4, [.ref (u9 0), .ref (u9 1), .ref (u9 2), .ref (u9 3), .int 0, .int 0, .int 0, .int 0, .int (-1), .int 0, .int (-1)])), ((u9 0), .inl (cI, 4096, .inl (fun _ => 0))), ((u9 1), .inl (cI, 4096, .inl (fun _ => 0))), ((u9 2), .inl (cI, 20480, .inl (fun _ => 0))), ((u9 3), .inl (cI, 5, .inl (fun _ => 0))), (q10, .inr (0, [.ref (u11 0), .ref (u11 1)])), ((u11 0), .inl (cI, 4096, .inl (fun _ => 0))), ((u11 1), .inl (cI, 13, .inl (fun _ => 0))), (q12, .inr (1, [.int 0, .int 0, .int (-1)]))]) rfl ?_
  refine J_putF (pc' := 103) (ws' := [(a, .inr (5, [.ref q1, .int 0, .ref q2, .int 0, .ref q4, .ref q6, .int 0, .int 0, .int 0, .ref q8, .ref q10, .ref q12])), (q1, .inl (cI, 16, .inl (fun _ => 0))), (q2, .inr (2, [.ref (u3 0), .ref (u3 1), .ref (u3 2), .int 0, .int 0])), ((u3 0), .inl (cI, 3, .inl (fun _ => 0))), ((u3 1), .inl (cI, 3, .inl (fun _ => 0))), ((u3 2), .inl (cI, 3, .inl (fun _ => 0))), (q4, .inr (3, [.int 0, .int 0, .int 0, .int 0, .ref (u5 0), .int 0])), ((u5 0), .inl (cI, 4, .inl (fun _ => 0))), (q6, .inr (3, [.int 0, .int 0, .int 0, .int 0, .ref (u7 0), .int 0])), ((u7 0), .inl (cI, 4, .inl (fun _ => 0))), (q8, .inr (4, [.ref (u9 0), .ref (u9 1), .ref (u9 2), .ref (u9 3), .int 0, .int 0, .int 0, .int 0, .int (-1), .int 0, .int (-1)])), ((u9 0), .inl (cI, 4096, .inl (fun _ => 0))), ((u9 1), .inl (cI, 4096, .inl (fun _ => 0))), ((u9 2), .inl (cI, 20480, .inl (fun _ => 0))), ((u9 3), .inl (cI, 5, .inl (fun _ => 0))), (q10, .inr (0, [.ref (u11 0), .ref (u11 1)])), ((u11 0), .inl (cI, 4096, .inl (fun _ => 0))), ((u11 1), .inl (cI, 13, .inl (fun _ => 0))), (q12, .inr (1, [.int 0, .int 0, .int (-1)]))]) 0 11 F hNm dX5_init_100 inG_X5 tyX5 tyX5_ok nmX5 rfl rfl (by decide) rfl kw_173 rfl rfl (tyX5_ok 11 (by decide)) rfl rfl (Nat.le_of_ble_eq_true rfl) rfl rfl ?_
  exact J_vretN (fun j => [a, q1, q2, (u3 0), (u3 1), (u3 2), q4, (u5 0), q6, (u7 0), q8, (u9 0), (u9 1), (u9 2), (u9 3), q10, (u11 0), (u11 1), q12].getD j 0) F hR dX5_init_103 rfl rfl rfl rfl
abbrev rm_X6_init : Room := { frames := 1, cells := 10, slots := 24603, locals := 12 }
set_option maxHeartbeats 4000000 in
set_option maxRecDepth 100000 in
theorem c_X6_init (l : Launch) (D : va_G) (cI cZ : ClassId) (z : Nat → Nat) (a : Nat) : cNv l yX6_init ww_X6_init rm_X6_init D cI cZ z (fun u : Nat → Nat => wM cI cZ u mc0 ar0 0) [(a, .inr (6, [.null, .int 0, .int 0, .int 0, .int 0, .int 0, .int 0, .int 0, .int 0, .int 0, .null, .null, .null, .null, .null, .int 0, .int 0, .null, .null, .null, .int 0, .int 0, .int 0, .int 0, .int 0, .int 0, .int 0, .int 0, .int 0, .int 0, .null, .long 0]))] [.ref a] (fun u => u 0 = a) 10 24603 := by
  refine cNv.of (cc := cX6_init) (maxL := 1) (by decide) rfl rfl (Nat.le_of_ble_eq_true rfl) (fun X F E hA hNm hR => ?_)
  refine J_lv [0] (lv' := [(0, .ref a)]) rfl ?_
  refine J_aload_n (pc' := 1) (q := 0) F dX6_init_0 rfl rfl ?_
  refine J_objInit (pc' := 4) F E dX6_init_1 kw_578 kw_21 kw_22 (Nat.le_of_ble_eq_true rfl) (Nat.le_of_ble_eq_true rfl) rfl ?_
  refine J_aload_n (pc' := 5) (q := 0) F dX6_init_4 rfl rfl ?_
  refine J_bipush (pc' := 7) (v := 16) F dX6_init_5 (by decide) rfl ?_
  refine J_newI (pc' := 9) 16 F E hA dX6_init_7 kw_51 (by decide) (by decide) (Nat.le_of_ble_eq_true rfl) (Nat.le_of_ble_eq_true rfl) (Nat.le_of_ble_eq_true rfl) rfl (fun q1 => ?_)
  refine J_ws (ws' := [(a, .inr (6, [.null, .int 0, .int 0, .int 0, .int 0, .int 0, .int 0, .int 0, .int 0, .int 0, .null, .null, .null, .null, .null, .int 0, .int 0, .null, .null, .null, .int 0, .int 0, .int 0, .int 0, .int 0, .int 0, .int 0, .int 0, .int 0, .int 0, .null, .long 0])), (q1, .inl (cI, 16, .inl (fun _ => 0)))]) rfl ?_
  refine J_putF (pc' := 12) (ws' := [(a, .inr (6, [.ref q1, .int 0, .int 0, .int 0, .int 0, .int 0, .int 0, .int 0, .int 0, .int 0, .null, .null, .null, .null, .null, .int 0, .int 0, .null, .null, .null, .int 0, .int 0, .int 0, .int 0, .int 0, .int 0, .int 0, .int 0, .int 0, .int 0, .null, .long 0])), (q1, .inl (cI, 16, .inl (fun _ => 0)))]) 0 0 F hNm dX6_init_9 inG_X6 tyX6 tyX6_ok nmX6 rfl rfl (by decide) rfl kw_579 rfl rfl (tyX6_ok 0 (by decide)) rfl rfl (Nat.le_of_ble_eq_true rfl) rfl rfl ?_
  refine J_aload_n (pc' := 13) (q := 0) F dX6_init_12 rfl rfl ?_
  refine J_iconst (pc' := 14) (v := 3) F dX6_init_13 (by decide) rfl ?_
  refine J_newI (pc' := 16) 3 F E hA dX6_init_14 kw_51 (by decide) (by decide) (Nat.le_of_ble_eq_true rfl) (Nat.le_of_ble_eq_true rfl) (Nat.le_of_ble_eq_true rfl) rfl (fun q2 => ?_)
  refine J_ws (ws' := [(a, .inr (6, [.ref q1, .int 0, .int 0, .int 0, .int 0, .int 0, .int 0, .int 0, .int 0, .int 0, .null, .null, .null, .null, .null, .int 0, .int 0, .null, .null, .null, .int 0, .int 0, .int 0, .int 0, .int 0, .int 0, .int 0, .int 0, .int 0, .int 0, .null, .long 0])), (q1, .inl (cI, 16, .inl (fun _ => 0))), (q2, .inl (cI, 3, .inl (fun _ => 0)))]) rfl ?_
  refine J_putF (pc' := 19) (ws' := [(a, .inr (6, [.ref q1, .int 0, .int 0, .int 0, .int 0, .int 0, .int 0, .int 0, .int 0, .int 0, .ref q2, .null, .null, .null, .null, .int 0, .int 0, .null, .null, .null, .int 0, .int 0, .int 0, .int 0, .int 0, .int 0, .int 0, .int 0, .int 0, .int 0, .null, .long 0])), (q1, .inl (cI, 16, .inl (fun _ => 0))), (q2, .inl (cI, 3, .inl (fun _ => 0)))]) 0 10 F hNm dX6_init_16 inG_X6 tyX6 tyX6_ok nmX6 rfl rfl (by decide) rfl kw_589 rfl rfl (tyX6_ok 10 (by decide)) rfl rfl (Nat.le_of_ble_eq_true rfl) rfl rfl ?_
  refine J_aload_n (pc' := 20) (q := 0) F dX6_init_19 rfl rfl ?_
  refine J_sipush (pc' := 23) (v := 4096) F dX6_init_20 (by decide) rfl ?_
  refine J_newI (pc' := 25) 4096 F E hA dX6_init_23 kw_51 (by decide) (by decide) (Nat.le_of_ble_eq_true rfl) (Nat.le_of_ble_eq_true rfl) (Nat.le_of_ble_eq_true rfl) rfl (fun q3 => ?_)
  refine J_ws (ws' := [(a, .inr (6, [.ref q1, .int 0, .int 0, .int 0, .int 0, .int 0, .int 0, .int 0, .int 0, .int 0, .ref q2, .null, .null, .null, .null, .int 0, .int 0, .null, .null, .null, .int 0, .int 0, .int 0, .int 0, .int 0, .int 0, .int 0, .int 0, .int 0, .int 0, .null, .long 0])), (q1, .inl (cI, 16, .inl (fun _ => 0))), (q2, .inl (cI, 3, .inl (fun _ => 0))), (q3, .inl (cI, 4096, .inl (fun _ => 0)))]) rfl ?_
  refine J_putF (pc' := 28) (ws' := [(a, .inr (6, [.ref q1, .int 0, .int 0, .int 0, .int 0, .int 0, .int 0, .int 0, .int 0, .int 0, .ref q2, .ref q3, .null, .null, .null, .int 0, .int 0, .null, .null, .null, .int 0, .int 0, .int 0, .int 0, .int 0, .int 0, .int 0, .int 0, .int 0, .int 0, .null, .long 0])), (q1, .inl (cI, 16, .inl (fun _ => 0))), (q2, .inl (cI, 3, .inl (fun _ => 0))), (q3, .inl (cI, 4096, .inl (fun _ => 0)))]) 0 11 F hNm dX6_init_25 inG_X6 tyX6 tyX6_ok nmX6 rfl rfl (by decide) rfl kw_590 rfl rfl (tyX6_ok 11 (by decide)) rfl rfl (Nat.le_of_ble_eq_true rfl) rfl rfl ?_
  refine J_aload_n (pc' := 29) (q := 0) F dX6_init_28 rfl rfl ?_
  refine J_sipush (pc' := 32) (v := 4096) F dX6_init_29 (by decide) rfl ?_
  refine J_newI (pc' := 34) 4096 F E hA dX6_init_32 kw_51 (by decide) (by decide) (Nat.le_of_ble_eq_true rfl) (Nat.le_of_ble_eq_true rfl) (Nat.le_of_ble_eq_true rfl) rfl (fun q4 => ?_)
  refine J_ws (ws' := [(a, .inr (6, [.ref q1, .int 0, .int 0, .int 0, .int 0, .int 0, .int 0, .int 0, .int 0, .int 0, .ref q2, .ref q3, .null, .null, .null, .int 0, .int 0, .null, .null, .null, .int 0, .int 0, .int 0, .int 0, .int 0, .int 0, .int 0, .int 0, .int 0, .int 0, .null, .long 0])), (q1, .inl (cI, 16, .inl (fun _ => 0))), (q2, .inl (cI, 3, .inl (fun _ => 0))), (q3, .inl (cI, 4096, .inl (fun _ => 0))), (q4, .inl (cI, 4096, .inl (fun _ => 0)))]) rfl ?_
  refine J_putF (pc' := 37) (ws' := [(a, .inr (6, [.ref q1, .int 0, .int 0, .int 0, .int 0, .int 0, .int 0, .int 0, .int 0, .int 0, .ref q2, .ref q3, .ref q4, .null, .null, .int 0, .int 0, .null, .null, .null, .int 0, .int 0, .int 0, .int 0, .int 0, .int 0, .int 0, .int 0, .int 0, .int 0, .null, .long 0])), (q1, .inl (cI, 16, .inl (fun _ => 0))), (q2, .inl (cI, 3, .inl (fun _ => 0))), (q3, .inl (cI, 4096, .inl (fun _ => 0))), (q4, .inl (cI, 4096, .inl (fun _ => 0)))]) 0 12 F hNm dX6_init_34 inG_X6 tyX6 tyX6_ok nmX6 rfl rfl (by decide) rfl kw_591 rfl rfl (tyX6_ok 12 (by decide)) rfl rfl (Nat.le_of_ble_eq_true rfl) rfl rfl ?_
  refine J_aload_n (pc' := 38) (q := 0) F dX6_init_37 rfl rfl ?_
  refine J_sipush (pc' := 41) (v := 4096) F dX6_init_38 (by decide) rfl ?_
  refine J_newI (pc' := 43) 4096 F E hA dX6_init_41 kw_51 (by decide) (by decide) (Nat.le_of_ble_eq_true rfl) (Nat.le_of_ble_eq_true rfl) (Nat.le_of_ble_eq_true rfl) rfl (fun q5 => ?_)
  refine J_ws (ws' := [(a, .inr (6, [.ref q1, .int 0, .int 0, .int 0, .int 0, .int 0, .int 0, .int 0, .int 0, .int 0, .ref q2, .ref q3, .ref q4, .null, .null, .int 0, .int 0, .null, .null, .null, .int 0, .int 0, .int 0, .int 0, .int 0, .int 0, .int 0, .int 0, .int 0, .int 0, .null, .long 0])), (q1, .inl (cI, 16, .inl (fun _ => 0))), (q2, .inl (cI, 3, .inl (fun _ => 0))), (q3, .inl (cI, 4096, .inl (fun _ => 0))), (q4, .inl (cI, 4096, .inl (fun _ => 0))), (q5, .inl (cI, 4096, .inl (fun _ => 0)))]) rfl ?_
  refine J_putF (pc' := 46) (ws' := [(a, .inr (6, [.ref q1, .int 0, .int 0, .int 0, .int 0, .int 0, .int 0, .int 0, .int 0, .int 0, .ref q2, .ref q3, .ref q4, .ref q5, .null, .int 0, .int 0, .null, .null, .null, .int 0, .int 0, .int 0, .int 0, .int 0, .int 0, .int 0, .int 0, .int 0, .int 0, .null, .long 0])), (q1, .inl (cI, 16, .inl (fun _ => 0))), (q2, .inl (cI, 3, .inl (fun _ => 0))), (q3, .inl (cI, 4096, .inl (fun _ => 0))), (q4, .inl (cI, 4096, .inl (fun _ => 0))), (q5, .inl (cI, 4096, .inl (fun _ => 0)))]) 0 13 F hNm dX6_init_43 inG_X6 tyX6 tyX6_ok nmX6 rfl rfl (by decide) rfl kw_592 rfl rfl (tyX6_ok 13 (by decide)) rfl rfl (Nat.le_of_ble_eq_true rfl) rfl rfl ?_
  refine J_aload_n (pc' := 47) (q := 0) F dX6_init_46 rfl rfl ?_
  refine J_sipush (pc' := 50) (v := 4096) F dX6_init_47 (by decide) rfl ?_
  refine J_newZ (pc' := 52) 4096 F E hA dX6_init_50 kw_676 (by decide) (by decide) (Nat.le_of_ble_eq_true rfl) (Nat.le_of_ble_eq_true rfl) (Nat.le_of_ble_eq_true rfl) rfl (fun q6 => ?_)
  refine J_ws (ws' := [(a, .inr (6, [.ref q1, .int 0, .int 0, .int 0, .int 0, .int 0, .int 0, .int 0, .int 0, .int 0, .ref q2, .ref q3, .ref q4, .ref q5, .null, .int 0, .int 0, .null, .null, .null, .int 0, .int 0, .int 0, .int 0, .int 0, .int 0, .int 0, .int 0, .int 0, .int 0, .null, .long 0])), (q1, .inl (cI, 16, .inl (fun _ => 0))), (q2, .inl (cI, 3, .inl (fun _ => 0))), (q3, .inl (cI, 4096, .inl (fun _ => 0))), (q4, .inl (cI, 4096, .inl (fun _ => 0))), (q5, .inl (cI, 4096, .inl (fun _ => 0))), (q6, .inl (cZ, 4096, .inl (fun _ => 0)))]) rfl ?_
  refine J_putF (pc' := 55) (ws' := [(a, .inr (6, [.ref q1, .int 0, .int 0, .int 0, .int 0, .int 0, .int 0, .int 0, .int 0, .int 0, .ref q2, .ref q3, .ref q4, .ref q5, .ref q6, .int 0, .int 0, .null, .null, .null, .int 0, .int 0, .int 0, .int 0, .int 0, .int 0, .int 0, .int 0, .int 0, .int 0, .null, .long 0])), (q1, .inl (cI, 16, .inl (fun _ => 0))), (q2, .inl (cI, 3, .inl (fun _ => 0))), (q3, .inl (cI, 4096, .inl (fun _ => 0))), (q4, .inl (cI, 4096, .inl (fun _ => 0))), (q5, .inl (cI, 4096, .inl (fun _ => 0))), (q6, .inl (cZ, 4096, .inl (fun _ => 0)))]) 0 14 F hNm dX6_init_52 inG_X6 tyX6 tyX6_ok nmX6 rfl rfl (by decide) rfl kw_593 rfl rfl (tyX6_ok 14 (by decide)) rfl rfl (Nat.le_of_ble_eq_true rfl) rfl rfl ?_
  refine J_aload_n (pc' := 56) (q := 0) F dX6_init_55 rfl rfl ?_
  refine J_iconst (pc' := 57) (v := 4) F dX6_init_56 (by decide) rfl ?_
  refine J_newI (pc' := 59) 4 F E hA dX6_init_57 kw_51 (by decide) (by decide) (Nat.le_of_ble_eq_true rfl) (Nat.le_of_ble_eq_true rfl) (Nat.le_of_ble_eq_true rfl) rfl (fun q7 => ?_)
  refine J_ws (ws' := [(a, .inr (6, [.ref q1, .int 0, .int 0, .int 0, .int 0, .int 0, .int 0, .int 0, .int 0, .int 0, .ref q2, .ref q3, .ref q4, .ref q5, .ref q6, .int 0, .int 0, .null, .null, .null, .int 0, .int 0, .int 0, .int 0, .int 0, .int 0, .int 0, .int 0, .int 0, .int 0, .null, .long 0])), (q1, .inl (cI, 16, .inl (fun _ => 0))), (q2, .inl (cI, 3, .inl (fun _ => 0))), (q3, .inl (cI, 4096, .inl (fun _ => 0))), (q4, .inl (cI, 4096, .inl (fun _ => 0))), (q5, .inl (cI, 4096, .inl (fun _ => 0))), (q6, .inl (cZ, 4096, .inl (fun _ => 0))), (q7, .inl (cI, 4, .inl (fun _ => 0)))]) rfl ?_
  refine J_putF (pc' := 62) (ws' := [(a, .inr (6, [.ref q1, .int 0, .int 0, .int 0, .int 0, .int 0, .int 0, .int 0, .int 0, .int 0, .ref q2, .ref q3, .ref q4, .ref q5, .ref q6, .int 0, .int 0, .ref q7, .null, .null, .int 0, .int 0, .int 0, .int 0, .int 0, .int 0, .int 0, .int 0, .int 0, .int 0, .null, .long 0])), (q1, .inl (cI, 16, .inl (fun _ => 0))), (q2, .inl (cI, 3, .inl (fun _ => 0))), (q3, .inl (cI, 4096, .inl (fun _ => 0))), (q4, .inl (cI, 4096, .inl (fun _ => 0))), (q5, .inl (cI, 4096, .inl (fun _ => 0))), (q6, .inl (cZ, 4096, .inl (fun _ => 0))), (q7, .inl (cI, 4, .inl (fun _ => 0)))]) 0 17 F hNm dX6_init_59 inG_X6 tyX6 tyX6_ok nmX6 rfl rfl (by decide) rfl kw_596 rfl rfl (tyX6_ok 17 (by decide)) rfl rfl (Nat.le_of_ble_eq_true rfl) rfl rfl ?_
  refine J_aload_n (pc' := 63) (q := 0) F dX6_init_62 rfl rfl ?_
  refine J_sipush (pc' := 66) (v := 4096) F dX6_init_63 (by decide) rfl ?_
  refine J_newI (pc' := 68) 4096 F E hA dX6_init_66 kw_51 (by decide) (by decide) (Nat.le_of_ble_eq_true rfl) (Nat.le_of_ble_eq_true rfl) (Nat.le_of_ble_eq_true rfl) rfl (fun q8 => ?_)
  refine J_ws (ws' := [(a, .inr (6, [.ref q1, .int 0, .int 0, .int 0, .int 0, .int 0, .int 0, .int 0, .int 0, .int 0, .ref q2, .ref q3, .ref q4, .ref q5, .ref q6, .int 0, .int 0, .ref q7, .null, .null, .int 0, .int 0, .int 0, .int 0, .int 0, .int 0, .int 0, .int 0, .int 0, .int 0, .null, .long 0])), (q1, .inl (cI, 16, .inl (fun _ => 0))), (q2, .inl (cI, 3, .inl (fun _ => 0))), (q3, .inl (cI, 4096, .inl (fun _ => 0))), (q4, .inl (cI, 4096, .inl (fun _ => 0))), (q5, .inl (cI, 4096, .inl (fun _ => 0))), (q6, .inl (cZ, 4096, .inl (fun _ => 0))), (q7, .inl (cI, 4, .inl (fun _ => 0))), (q8, .inl (cI, 4096, .inl (fun _ => 0)))]) rfl ?_
  refine J_putF (pc' := 71) (ws' := [(a, .inr (6, [.ref q1, .int 0, .int 0, .int 0, .int 0, .int 0, .int 0, .int 0, .int 0, .int 0, .ref q2, .ref q3, .ref q4, .ref q5, .ref q6, .int 0, .int 0, .ref q7, .ref q8, .null, .int 0, .int 0, .int 0, .int 0, .int 0, .int 0, .int 0, .int 0, .int 0, .int 0, .null, .long 0])), (q1, .inl (cI, 16, .inl (fun _ => 0))), (q2, .inl (cI, 3, .inl (fun _ => 0))), (q3, .inl (cI, 4096, .inl (fun _ => 0))), (q4, .inl (cI, 4096, .inl (fun _ => 0))), (q5, .inl (cI, 4096, .inl (fun _ => 0))), (q6, .inl (cZ, 4096, .inl (fun _ => 0))), (q7, .inl (cI, 4, .inl (fun _ => 0))), (q8, .inl (cI, 4096, .inl (fun _ => 0)))]) 0 18 F hNm dX6_init_68 inG_X6 tyX6 tyX6_ok nmX6 rfl rfl (by decide) rfl kw_597 rfl rfl (tyX6_ok 18 (by decide)) rfl rfl (Nat.le_of_ble_eq_true rfl) rfl rfl ?_
  refine J_aload_n (pc' := 72) (q := 0) F dX6_init_71 rfl rfl ?_
  refine J_sipush (pc' := 75) (v := 4096) F dX6_init_72 (by decide) rfl ?_
  refine J_newI (pc' := 77) 4096 F E hA dX6_init_75 kw_51 (by decide) (by decide) (Nat.le_of_ble_eq_true rfl) (Nat.le_of_ble_eq_true rfl) (Nat.le_of_ble_eq_true rfl) rfl (fun q9 => ?_)
  refine J_ws (ws' := [(a, .inr (6, [.ref q1, .int 0, .int 0, .int 0, .int 0, .int 0, .int 0, .int 0, .int 0, .int 0, .ref q2, .ref q3, .ref q4, .ref q5, .ref q6, .int 0, .int 0, .ref q7, .ref q8, .null, .int 0, .int 0, .int 0, .int 0, .int 0, .int 0, .int 0, .int 0, .int 0, .int 0, .null, .long 0])), (q1, .inl (cI, 16, .inl (fun _ => 0))), (q2, .inl (cI, 3, .inl (fun _ => 0))), (q3, .inl (cI, 4096, .inl (fun _ => 0))), (q4, .inl (cI, 4096, .inl (fun _ => 0))), (q5, .inl (cI, 4096, .inl (fun _ => 0))), (q6, .inl (cZ, 4096, .inl (fun _ => 0))), (q7, .inl (cI, 4, .inl (fun _ => 0))), (q8, .inl (cI, 4096, .inl (fun _ => 0))), (q9, .inl (cI, 4096, .inl (fun _ => 0)))]) rfl ?_
  refine J_putF (pc' := 80) (ws' := [(a, .inr (6, [.ref q1, .int 0, .int 0, .int 0, .int 0, .int 0, .int 0, .int 0, .int 0, .int 0, .ref q2, .ref q3, .ref q4, .ref q5, .ref q6, .int 0, .int 0, .ref q7, .ref q8, .ref q9, .int 0, .int 0, .int 0, .int 0, .int 0, .int 0, .int 0, .int 0, .int 0, .int 0, .null, .long 0])), (q1, .inl (cI, 16, .inl (fun _ => 0))), (q2, .inl (cI, 3, .inl (fun _ => 0))), (q3, .inl (cI, 4096, .inl (fun _ => 0))), (q4, .inl (cI, 4096, .inl (fun _ => 0))), (q5, .inl (cI, 4096, .inl (fun _ => 0))), (q6, .inl (cZ, 4096, .inl (fun _ => 0))), (q7, .inl (cI, 4, .inl (fun _ => 0))), (q8, .inl (cI, 4096, .inl (fun _ => 0))), (q9, .inl (cI, 4096, .inl (fun _ => 0)))]) 0 19 F hNm dX6_init_77 inG_X6 tyX6 tyX6_ok nmX6 rfl rfl (by decide) rfl kw_598 rfl rfl (tyX6_ok 19 (by decide)) rfl rfl (Nat.le_of_ble_eq_true rfl) rfl rfl ?_
  refine J_aload_n (pc' := 81) (q := 0) F dX6_init_80 rfl rfl ?_
  refine J_iconst (pc' := 82) (v := 4) F dX6_init_81 (by decide) rfl ?_
  refine J_newI (pc' := 84) 4 F E hA dX6_init_82 kw_51 (by decide) (by decide) (Nat.le_of_ble_eq_true rfl) (Nat.le_of_ble_eq_true rfl) (Nat.le_of_ble_eq_true rfl) rfl (fun q10 => ?_)
  refine J_ws (ws' := [(a, .inr (6, [.ref q1, .int 0, .int 0, .int 0, .int 0, .int 0, .int 0, .int 0, .int 0, .int 0, .ref q2, .ref q3, .ref q4, .ref q5, .ref q6, .int 0, .int 0, .ref q7, .ref q8, .ref q9, .int 0, .int 0, .int 0, .int 0, .int 0, .int 0, .int 0, .int 0, .int 0, .int 0, .null, .long 0])), (q1, .inl (cI, 16, .inl (fun _ => 0))), (q2, .inl (cI, 3, .inl (fun _ => 0))), (q3, .inl (cI, 4096, .inl (fun _ => 0))), (q4, .inl (cI, 4096, .inl (fun _ => 0))), (q5, .inl (cI, 4096, .inl (fun _ => 0))), (q6, .inl (cZ, 4096, .inl (fun _ => 0))), (q7, .inl (cI, 4, .inl (fun _ => 0))), (q8, .inl (cI, 4096, .inl (fun _ => 0))), (q9, .inl (cI, 4096, .inl (fun _ => 0))), (q10, .inl (cI, 4, .inl (fun _ => 0)))]) rfl ?_
  refine J_putF (pc' := 87) (ws' := [(a, .inr (6, [.ref q1, .int 0, .int 0, .int 0, .int 0, .int 0, .int 0, .int 0, .int 0, .int 0, .ref q2, .ref q3, .ref q4, .ref q5, .ref q6, .int 0, .int 0, .ref q7, .ref q8, .ref q9, .int 0, .int 0, .int 0, .int 0, .int 0, .int 0, .int 0, .int 0, .int 0, .int 0, .ref q10, .long 0])), (q1, .inl (cI, 16, .inl (fun _ => 0))), (q2, .inl (cI, 3, .inl (fun _ => 0))), (q3, .inl (cI, 4096, .inl (fun _ => 0))), (q4, .inl (cI, 4096, .inl (fun _ => 0))), (q5, .inl (cI, 4096, .inl (fun _ => 0))), (q6, .inl (cZ, 4096, .inl (fun _ => 0))), (q7, .inl (cI, 4, .inl (fun _ => 0))), (q8, .inl (cI, 4096, .inl (fun _ => 0))), (q9, .inl (cI, 4096, .inl (fun _ => 0))), (q10, .inl (cI, 4, .inl (fun _ => 0)))]) 0 30 F hNm dX6_init_84 inG_X6 tyX6 tyX6_ok nmX6 rfl rfl (by decide) rfl kw_609 rfl rfl (tyX6_ok 30 (by decide)) rfl rfl (Nat.le_of_ble_eq_true rfl) rfl rfl ?_
  refine J_aload_n (pc' := 88) (q := 0) F dX6_init_87 rfl rfl ?_
  refine J_iconst (pc' := 89) (v := (-1)) F dX6_init_88 (by decide) rfl ?_
  refine J_put (pc' := 92) (ws' := [(a, .inr (6, [.ref q1, .int 0, .int 0, .int 0, .int 0, .int 0, .int 0, .int 0, .int 0, .int 0, .ref q2, .ref q3, .ref q4, .ref q5, .ref q6, .int 0, .int 0, .ref q7, .ref q8, .ref q9, .int 0, .int 0, .int 0, .int 0, .int (-1), .int 0, .int 0, .int 0, .int 0, .int 0, .ref q10, .long 0])), (q1, .inl (cI, 16, .inl (fun _ => 0))), (q2, .inl (cI, 3, .inl (fun _ => 0))), (q3, .inl (cI, 4096, .inl (fun _ => 0))), (q4, .inl (cI, 4096, .inl (fun _ => 0))), (q5, .inl (cI, 4096, .inl (fun _ => 0))), (q6, .inl (cZ, 4096, .inl (fun _ => 0))), (q7, .inl (cI, 4, .inl (fun _ => 0))), (q8, .inl (cI, 4096, .inl (fun _ => 0))), (q9, .inl (cI, 4096, .inl (fun _ => 0))), (q10, .inl (cI, 4, .inl (fun _ => 0)))]) 0 24 F dX6_init_89 inG_X6 tyX6 tyX6_ok nmX6 rfl rfl (by decide) rfl kw_603 rfl (tyX6_ok 24 (by decide)) rfl rfl (Nat.le_of_ble_eq_true rfl) rfl rfl ?_
  exact J_vretN (fun j => [a, q1, q2, q3, q4, q5, q6, q7, q8, q9, q10].getD j 0) F hR dX6_init_92 rfl rfl rfl rfl
theorem rel0 : RelB 0 (sc0, ar0) (mc0, ar0, 0) := by
  refine ⟨⟨0, rfl, rfl, by decide, fun k _ => ⟨rfl, 0, by decide, rfl⟩⟩, ⟨fun _ => 0, 0, 0, ⟨rfl, by decide, fun b _ => ⟨rfl, show (0 : Nat) < 5 by decide⟩, fun q => absurd rfl q⟩, rfl, fun b _ => ⟨rfl, show (0 : Nat) < 5 by decide⟩, rfl, rfl, by decide, ⟨0, 0, by decide, Nat.le_refl _, rfl, rfl⟩, fun s be hs _ _ q _ => ?_⟩, ⟨0, 0, fun _ => 0, rfl, rfl, by decide, Or.inl rfl, rfl, rfl, rfl, ⟨rfl, by decide, fun i hi => absurd hi (Nat.not_lt_zero _)⟩, ⟨rfl, by decide, fun i hi => absurd hi (Nat.not_lt_zero _)⟩⟩, ⟨Or.inl rfl, 0, Nat.le_refl _, rfl, rfl, Or.inl ⟨rfl, Or.inl rfl⟩⟩, rfl, 0, by decide, rfl, rfl⟩
  exact absurd (show nI s = -1 from q) (nI_m1 (by omega))
