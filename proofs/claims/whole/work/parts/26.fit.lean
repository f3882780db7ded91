/-! the class's Fit: rowsBehind and tellOf -/
def SH (x : Int32) (f : Nat → Int32) (bs : Nat → Nat) (T : Nat) : Prop := x = nI T ∧ T ≤ 4 ∧ ∀ i, i < T → f i = nI (bs i) ∧ bs i ≤ 12
abbrev rm_rb (d : Nat) : Room := { frames := 2 + d, cells := 0, slots := 0, locals := 75 + 29 * d }
theorem jroom_b (rm : Room) (d maxL : Nat) (h1 : rm.cells = 0 ∧ rm.slots = 0) (h2 : rm.frames ≤ 2) (h3 : maxL + rm.locals + 19 ≤ 75) : jRoom rm (rm_rb (d + 1)) maxL 0 0 := ⟨h1, ⟨by show rm.frames + 1 ≤ 2 + (d + 1); omega, by show 8 + (maxL + 11) + rm.locals ≤ 75 + 29 * (d + 1); omega⟩, Nat.zero_le _, Nat.zero_le _⟩
theorem jroom_r (d : Nat) : jRoom (rm_rb d) (rm_rb (d + 1)) 10 0 0 := ⟨⟨rfl, rfl⟩, ⟨by show 2 + d + 1 ≤ 2 + (d + 1); omega, by show 8 + (10 + 11) + (75 + 29 * d) ≤ 75 + 29 * (d + 1); omega⟩, Nat.zero_le _, Nat.zero_le _⟩
set_option maxHeartbeats 4000000 in
set_option maxRecDepth 100000 in
theorem c_X1_rowsBehind (l : Launch) (D : va_G) (cI cZ : ClassId) (z : Nat → Nat) (g : Nat → Nat) (sc : Nat → Int32) (ar : Nat → Nat → Int32) (kd : Nat → Nat) (li be : Nat) (bs : Nat → Nat) (T : Nat) (hC : CH sc ar kd li) (hbe : be < 2 ^ 31) (hSH : SH (sc 11) (ar 4) bs T) : ∀ (d p : Nat) (o : Option Nat), (∀ t, o = some t → t < 4096) → p < T → T - p ≤ d → cRi l yX1_rowsBehind ww_X1_rowsBehind (rm_rb d) D cI cZ z (wC cI g sc ar) [.ref (g 2), .ref (g 6), .int (nI be), .int (emb o), .int (nI p)] (fun r => r = nI (rbN (goN (hk kd) li be) bs T p o)) := by
  intro d
  induction d with
  | zero => intro p o _ hp hd; omega
  | succ d ih =>
    intro p o ho hp hd
    have hT4 := hSH.2.1
    refine cRi.of (cc := cX1_rowsBehind) (maxL := 10) (rt := .int) (by decide) rfl (Nat.le_of_ble_eq_true rfl) (fun X F E hR => ?_)
    cases o with
    | none =>
      refine J_lv [0, 1, 2, 3, 4] (lv' := [(0, .ref (g 2)), (1, .ref (g 6)), (2, .int (nI be)), (3, .int (-1)), (4, .int (nI p))]) rfl ?_
      refine J_iload_n (pc' := 1) (q := 3) F dX1_rowsBehind_0 rfl rfl ?_
      refine J_iconst (pc' := 2) (v := (-1)) F dX1_rowsBehind_1 (by decide) rfl ?_
      refine J_icmp_eq (tgt := 29) (pc' := 5) F dX1_rowsBehind_2 (by decide) rfl (fun _ => ?_) (fun c9 => absurd (by decide) c9)
      refine J_iconst (pc' := 30) (v := 0) F dX1_rowsBehind_29 (by decide) rfl ?_
      exact J_iretR F hR dX1_rowsBehind_30 rfl rfl
    | some t =>
      have ht := ho t rfl
      have hbt := bnt_le t
      have hbs := (hSH.2.2 p hp).2
      refine J_lv [0, 1, 2, 3, 4] (lv' := [(0, .ref (g 2)), (1, .ref (g 6)), (2, .int (nI be)), (3, .int (nI t)), (4, .int (nI p))]) rfl ?_
      refine J_iload_n (pc' := 1) (q := 3) F dX1_rowsBehind_0 rfl rfl ?_
      refine J_iconst (pc' := 2) (v := (-1)) F dX1_rowsBehind_1 (by decide) rfl ?_
      refine J_icmp_eq (tgt := 29) (pc' := 5) F dX1_rowsBehind_2 (by decide) rfl (fun kq2 => False.elim (nI_m1 (by omega) kq2)) (fun kq2 => ?_)
      refine J_iload (pc' := 7) (q := 4) F dX1_rowsBehind_5 rfl rfl ?_
      refine J_if_lt (tgt := 29) (pc' := 10) F dX1_rowsBehind_7 (by decide) rfl (fun kq7 => False.elim (nI_pos (by omega) kq7)) (fun kq7 => ?_)
      refine J_iload (pc' := 12) (q := 4) F dX1_rowsBehind_10 rfl rfl ?_
      refine J_aload_n (pc' := 13) (q := 1) F dX1_rowsBehind_12 rfl rfl ?_
      refine C_get_6_5 (v := sc 11) (pc' := 16) F dX1_rowsBehind_13 kw_71 rfl rfl ?_
      refine J_vali (y := nI T) hSH.1 ?_
      refine J_icmp_ge (tgt := 29) (pc' := 19) F dX1_rowsBehind_16 (by decide) rfl (fun kq16 => False.elim (nI_ge hp (by omega) kq16)) (fun kq16 => ?_)
      refine J_iload (pc' := 21) (q := 4) F dX1_rowsBehind_19 rfl rfl ?_
      refine J_aload_n (pc' := 22) (q := 1) F dX1_rowsBehind_21 rfl rfl ?_
      refine C_get_6_4 (pc' := 25) F dX1_rowsBehind_22 kw_68 rfl ?_
      refine C_len_4 (pc' := 26) F dX1_rowsBehind_25 rfl ?_
      refine J_icmp_lt (tgt := 31) (pc' := 29) F dX1_rowsBehind_26 (by decide) rfl (fun kq26 => ?_) (fun kq26 => False.elim (kq26 (nI_lt (b := 4) (by omega) (by decide))))
      refine J_iload_n (pc' := 32) (q := 3) F dX1_rowsBehind_31 rfl rfl ?_
      refine J_goRie (wc := []) (av := [.int (nI t)]) (rest := []) (v := zX5_bentBy (nI t)) (pc' := 35) F E (fun _ _ => jP_nil _ _) (fun H locs hI hp => jrun_SN F E (c_X5_bentBy l D cI cZ z (nI t)) kw_383 (by decide +kernel) rfl kw_384 kw_1 oX5_bentBy (jroom_b _ _ _ ⟨rfl, rfl⟩ (Nat.le_of_ble_eq_true rfl) (Nat.le_of_ble_eq_true rfl)) rfl (Nat.le_of_ble_eq_true rfl) dX1_rowsBehind_32 hp) rfl ?_
      refine J_vali (y := nI (bnt t)) (bent5 ht) ?_
      refine J_aload_n (pc' := 36) (q := 1) F dX1_rowsBehind_35 rfl rfl ?_
      refine C_get_6_4 (pc' := 39) F dX1_rowsBehind_36 kw_68 rfl ?_
      refine J_iload (pc' := 41) (q := 4) F dX1_rowsBehind_39 rfl rfl ?_
      refine C_ld_4 (f := ar 4) (q := p) (pc' := 42) F dX1_rowsBehind_41 rfl (nI_clamp (by omega)) (vp_in_nI (by omega) (by decide)) rfl ?_
      refine J_vali (y := nI (bs p)) (hSH.2.2 p hp).1 ?_
      refine J_icmp_eq (tgt := 47) (pc' := 45) F dX1_rowsBehind_42 (by decide) rfl (fun kq42 => ?_) (fun kq42 => ?_)
      · have hbp : bnt t = bs p := (nI_eq (by omega) (by omega)).mp kq42
        refine J_iload (pc' := 49) (q := 4) F dX1_rowsBehind_47 rfl rfl ?_
        refine J_iconst (pc' := 50) (v := 1) F dX1_rowsBehind_49 (by decide) rfl ?_
        refine J_iadd (pc' := 51) F dX1_rowsBehind_50 rfl ?_
        refine J_vali (y := nI (p + 1)) (nI_1 p) ?_
        refine J_aload_n (pc' := 52) (q := 1) F dX1_rowsBehind_51 rfl rfl ?_
        refine C_get_6_5 (v := sc 11) (pc' := 55) F dX1_rowsBehind_52 kw_71 rfl rfl ?_
        refine J_vali (y := nI T) hSH.1 ?_
        refine J_icmp_ne (tgt := 60) (pc' := 58) F dX1_rowsBehind_55 (by decide) rfl (fun kq55 => ?_) (fun kq55 => ?_)
        · have hpT : p + 1 < T := by
            have : p + 1 ≠ T := fun q => kq55 (by rw [q])
            omega
          refine J_iconst (pc' := 61) (v := 0) F dX1_rowsBehind_60 (by decide) rfl ?_
          refine J_vali (y := nI (fb_sm (fun j => rbN (goN (hk kd) li be) bs T (p + 1) ((goN (hk kd) li be) t (actN j))) 0)) rfl ?_
          refine J_istore (pc' := 63) [1, 2, 3, 4, 5, 0] [(0, .ref (g 2)), (1, .ref (g 6)), (2, .int (nI be)), (3, .int (nI t)), (4, .int (nI p)), (5, .int (nI (fb_sm (fun j => rbN (goN (hk kd) li be) bs T (p + 1) ((goN (hk kd) li be) t (actN j))) 0)))] F dX1_rowsBehind_61 (jL_of E (show 5 < 10 by decide)) rfl rfl ?_
          refine J_getsN (pc' := 66) F dX1_rowsBehind_63 (nm := "ACTS") (by decide +kernel) (fun _ _ _ h => h.2.2.2.2.2.2.1) rfl ?_
          refine J_astore (pc' := 68) [1, 2, 3, 4, 5, 6, 0] [(0, .ref (g 2)), (1, .ref (g 6)), (2, .int (nI be)), (3, .int (nI t)), (4, .int (nI p)), (5, .int (nI (fb_sm (fun j => rbN (goN (hk kd) li be) bs T (p + 1) ((goN (hk kd) li be) t (actN j))) 0))), (6, .ref (z 2))] F dX1_rowsBehind_66 (jL_of E (show 6 < 10 by decide)) rfl rfl ?_
          refine J_aload (pc' := 70) (q := 6) F dX1_rowsBehind_68 rfl rfl ?_
          refine J_tlen (v := 20) (pc' := 71) F dX1_rowsBehind_70 (fun _ _ _ h => h.2.2.2.2.2.2.2.1) rfl rfl ?_
          refine J_istore (pc' := 73) [1, 2, 3, 4, 5, 6, 7, 0] [(0, .ref (g 2)), (1, .ref (g 6)), (2, .int (nI be)), (3, .int (nI t)), (4, .int (nI p)), (5, .int (nI (fb_sm (fun j => rbN (goN (hk kd) li be) bs T (p + 1) ((goN (hk kd) li be) t (actN j))) 0))), (6, .ref (z 2)), (7, .int 20)] F dX1_rowsBehind_71 (jL_of E (show 7 < 10 by decide)) rfl rfl ?_
          refine J_iconst (pc' := 74) (v := 0) F dX1_rowsBehind_73 (by decide) rfl ?_
          refine J_istore (pc' := 76) [1, 2, 3, 4, 5, 6, 7, 8, 0] [(0, .ref (g 2)), (1, .ref (g 6)), (2, .int (nI be)), (3, .int (nI t)), (4, .int (nI p)), (5, .int (nI (fb_sm (fun j => rbN (goN (hk kd) li be) bs T (p + 1) ((goN (hk kd) li be) t (actN j))) 0))), (6, .ref (z 2)), (7, .int 20), (8, .int 0)] F dX1_rowsBehind_74 (jL_of E (show 8 < 10 by decide)) rfl rfl ?_
          have L76 : ∀ (N76 : Nat) (k : Nat), k ≤ 20 → 20 - k < N76 → J X false 0 0 76 [(0, .ref (g 2)), (1, .ref (g 6)), (2, .int (nI be)), (3, .int (nI t)), (4, .int (nI p)), (5, .int (nI (fb_sm (fun j => rbN (goN (hk kd) li be) bs T (p + 1) ((goN (hk kd) li be) t (actN j))) k))), (6, .ref (z 2)), (7, .int 20), (8, .int (nI k))] [] (wC cI g sc ar) := by
            intro N76
            induction N76 with
            | zero => intro _ _ hm; exact absurd hm (Nat.not_lt_zero _)
            | succ N76 ih76 =>
              intro k hk20 hm76
              refine J_iload (pc' := 78) (q := 8) F dX1_rowsBehind_76 rfl rfl ?_
              refine J_iload (pc' := 80) (q := 7) F dX1_rowsBehind_78 rfl rfl ?_
              refine J_icmp_ge (tgt := 119) (pc' := 83) F dX1_rowsBehind_80 (by decide) rfl (fun kq80 => ?_) (fun kq80 => ?_)
              · refine J_iload (pc' := 121) (q := 5) F dX1_rowsBehind_119 rfl rfl ?_
                exact J_iretR F hR dX1_rowsBehind_121 rfl (by show nI (fb_sm (fun j => rbN (goN (hk kd) li be) bs T (p + 1) ((goN (hk kd) li be) t (actN j))) k) = nI (if bnt t = bs p then _ else 0); rw [if_pos hbp, fitC_p hpT]; have e20 : k = 20 := (by have := (nI_leI (a := 20) (b := k) (by decide) (by omega)).mp kq80; omega); rw [e20])
              · have hkk : k < 20 := jin_lt (by decide) hk20 kq80
                refine J_aload (pc' := 85) (q := 6) F dX1_rowsBehind_83 rfl rfl ?_
                refine J_iload (pc' := 87) (q := 8) F dX1_rowsBehind_85 rfl rfl ?_
                refine J_tiald (v := .int (jAct k)) (pc' := 88) F dX1_rowsBehind_87 (fun _ _ _ h => h.2.2.2.2.2.2.2.1) (vp_in_nI hkk (by decide)) (by rw [(nI_clamp (by omega))]) rfl ?_
                refine J_vali (y := nI (actN k)) (jAct_N k hkk) ?_
                refine J_istore (pc' := 90) [1, 2, 3, 4, 5, 6, 7, 8, 9, 0] [(0, .ref (g 2)), (1, .ref (g 6)), (2, .int (nI be)), (3, .int (nI t)), (4, .int (nI p)), (5, .int (nI (fb_sm (fun j => rbN (goN (hk kd) li be) bs T (p + 1) ((goN (hk kd) li be) t (actN j))) k))), (6, .ref (z 2)), (7, .int 20), (8, .int (nI k)), (9, .int (nI (actN k)))] F dX1_rowsBehind_88 (jL_of E (show 9 < 10 by decide)) rfl rfl ?_
                refine J_iload (pc' := 92) (q := 5) F dX1_rowsBehind_90 rfl rfl ?_
                refine J_aload_n (pc' := 93) (q := 0) F dX1_rowsBehind_92 rfl rfl ?_
                refine J_aload_n (pc' := 94) (q := 1) F dX1_rowsBehind_93 rfl rfl ?_
                refine J_iload_n (pc' := 95) (q := 2) F dX1_rowsBehind_94 rfl rfl ?_
                refine J_aload_n (pc' := 96) (q := 0) F dX1_rowsBehind_95 rfl rfl ?_
                refine J_iload_n (pc' := 97) (q := 3) F dX1_rowsBehind_96 rfl rfl ?_
                refine J_iload (pc' := 99) (q := 9) F dX1_rowsBehind_97 rfl rfl ?_
                refine J_iload_n (pc' := 100) (q := 2) F dX1_rowsBehind_99 rfl rfl ?_
                refine J_goRie (wc := (wC cI g sc ar)) (av := [.ref (g 2), .int (nI t), .int (nI (actN k)), .int (nI be)]) (rest := [.int (nI be), .ref (g 6), .ref (g 2), .int (nI (fb_sm (fun j => rbN (goN (hk kd) li be) bs T (p + 1) ((goN (hk kd) li be) t (actN j))) k))]) (v := zX2_behind sc ar (nI t) (nI (actN k)) (nI be)) (pc' := 103) F E (fun _ h => h) (fun H locs hI hp => jrun_V (As := [.int (nI t), .int (nI (actN k)), .int (nI be)]) 2 F E (c_X2_behind l D cI cZ z g sc ar (nI t) (nI (actN k)) (nI be)) kw_518 kw_415 kw_416 rfl kw_417 kw_2 oX2_behind (jroom_b _ _ _ ⟨rfl, rfl⟩ (Nat.le_of_ble_eq_true rfl) (Nat.le_of_ble_eq_true rfl)) rfl rfl (Nat.le_of_ble_eq_true rfl) dX1_rowsBehind_100 rfl rfl (jI_P E hI) hp) rfl ?_
                refine J_vali (y := emb ((goN (hk kd) li be) t (actN k))) (behC hC ht (actN_A k hkk).1 hbe) ?_
                refine J_iload (pc' := 105) (q := 4) F dX1_rowsBehind_103 rfl rfl ?_
                refine J_iconst (pc' := 106) (v := 1) F dX1_rowsBehind_105 (by decide) rfl ?_
                refine J_iadd (pc' := 107) F dX1_rowsBehind_106 rfl ?_
                refine J_vali (y := nI (p + 1)) (nI_1 p) ?_
                refine J_goRie (wc := (wC cI g sc ar)) (av := [.ref (g 2), .ref (g 6), .int (nI be), .int (emb ((goN (hk kd) li be) t (actN k))), .int (nI (p + 1))]) (rest := [.int (nI (fb_sm (fun j => rbN (goN (hk kd) li be) bs T (p + 1) ((goN (hk kd) li be) t (actN j))) k))]) (v := nI (rbN (goN (hk kd) li be) bs T (p + 1) ((goN (hk kd) li be) t (actN k)))) (pc' := 110) F E (fun _ h => h) (fun H locs hI hp => jrun_S F E (ih (p + 1) ((goN (hk kd) li be) t (actN k)) (fun t9 h9 => goN_lt ht h9) (by omega) (by omega)) kw_519 kw_520 rfl kw_521 kw_6 oX1_rowsBehind (jroom_r d) rfl (Nat.le_of_ble_eq_true rfl) dX1_rowsBehind_107 hp) rfl ?_
                refine J_iadd (pc' := 111) F dX1_rowsBehind_110 rfl ?_
                refine J_vali (y := nI (fb_sm (fun j => rbN (goN (hk kd) li be) bs T (p + 1) ((goN (hk kd) li be) t (actN j))) (k + 1))) (nI_add _ _) ?_
                refine J_istore (pc' := 113) [1, 2, 3, 4, 5, 0, 6, 7, 8, 9] [(0, .ref (g 2)), (1, .ref (g 6)), (2, .int (nI be)), (3, .int (nI t)), (4, .int (nI p)), (5, .int (nI (fb_sm (fun j => rbN (goN (hk kd) li be) bs T (p + 1) ((goN (hk kd) li be) t (actN j))) (k + 1)))), (6, .ref (z 2)), (7, .int 20), (8, .int (nI k)), (9, .int (nI (actN k)))] F dX1_rowsBehind_111 (jL_of E (show 5 < 10 by decide)) rfl rfl ?_
                refine J_iinc (v := nI (k + 1)) (q := 8) (pc' := 116) [1, 2, 3, 4, 5, 6, 7, 8, 0, 9] [(0, .ref (g 2)), (1, .ref (g 6)), (2, .int (nI be)), (3, .int (nI t)), (4, .int (nI p)), (5, .int (nI (fb_sm (fun j => rbN (goN (hk kd) li be) bs T (p + 1) ((goN (hk kd) li be) t (actN j))) (k + 1)))), (6, .ref (z 2)), (7, .int 20), (8, .int (nI (k + 1))), (9, .int (nI (actN k)))] F dX1_rowsBehind_113 rfl (nI_inc k) (jL_of E (show 8 < 10 by decide)) rfl rfl ?_
                refine J_goto (tgt := 76) F dX1_rowsBehind_116 (by decide) ?_
                refine J_lv [0, 1, 2, 3, 4, 5, 6, 7, 8] (lv' := [(0, .ref (g 2)), (1, .ref (g 6)), (2, .int (nI be)), (3, .int (nI t)), (4, .int (nI p)), (5, .int (nI (fb_sm (fun j => rbN (goN (hk kd) li be) bs T (p + 1) ((goN (hk kd) li be) t (actN j))) (k + 1)))), (6, .ref (z 2)), (7, .int 20), (8, .int (nI (k + 1)))]) rfl ?_
                exact ih76 (k + 1) (by omega) (by omega)
          exact L76 _ 0 (Nat.zero_le _) (Nat.lt_succ_self _)
        · refine J_iconst (pc' := 59) (v := 1) F dX1_rowsBehind_58 (by decide) rfl ?_
          exact J_iretR F hR dX1_rowsBehind_59 rfl (by show (1 : Int32) = nI (if bnt t = bs p then _ else 0); rw [if_pos hbp, strL_nil (by have := (nI_eq (by omega) (by omega)).mp kq55; omega)]; rfl)
      · refine J_iconst (pc' := 46) (v := 0) F dX1_rowsBehind_45 (by decide) rfl ?_
        exact J_iretR F hR dX1_rowsBehind_46 rfl (by show (0 : Int32) = nI (if bnt t = bs p then _ else 0); rw [if_neg (fun q => kq42 (by rw [q]))]; rfl)
def fit3 (E : Nat → Nat → Option Nat) (bs : Nat → Nat) (T s : Nat) : Nat × Nat × Int32 := if T = 0 then (1, 0, -1) else fsC (rowA E bs T s) 20
theorem fs0 {R : Nat → Nat} {k : Nat} (h : R (actN k) = 0) : fsC R (k + 1) = fsC R k := by
  show fst3 R (actN k) (fsC R k) = _
  unfold fst3
  rw [h]
  rfl
theorem fs1 {R : Nat → Nat} {k : Nat} (h : 0 < R (actN k)) : fsC R (k + 1) = ((fsC R k).1 + R (actN k), (fsC R k).2.1 + 1, if (fsC R k).2.2 = -1 then nI (actN k) else (fsC R k).2.2) := by
  show fst3 R (actN k) (fsC R k) = _
  unfold fst3
  rw [if_pos h, if_pos h]
def frF (sc sc1 : Nat → Int32) : Prop := ∀ j, (j < 24 ∨ 27 ≤ j) → sc1 j = sc j
abbrev rm_X1_tellOf : Room := { frames := 7, cells := 0, slots := 0, locals := 220 }
set_option maxHeartbeats 4000000 in
set_option maxRecDepth 100000 in
theorem c_X1_tellOf (l : Launch) (D : va_G) (cI cZ : ClassId) (z : Nat → Nat) (g : Nat → Nat) (sc : Nat → Int32) (ar : Nat → Nat → Int32) (kd : Nat → Nat) (li be s : Nat) (bs : Nat → Nat) (T : Nat) (hC : CH sc ar kd li) (hbe : be < 2 ^ 31) (hSH : SH (sc 11) (ar 4) bs T) (hsv : sc 7 = nI s) (hss : s < 4096) : cWv l yX1_tellOf ww_X1_tellOf rm_X1_tellOf D cI cZ z (fC cI g) (wC cI g sc ar) [.ref (g 18), .ref (g 2), .ref (g 6), .int (nI be)] (fun v => v.2 = ar ∧ frF sc v.1 ∧ v.1 24 = nI (fit3 (goN (hk kd) li be) bs T s).1 ∧ v.1 25 = nI (fit3 (goN (hk kd) li be) bs T s).2.1 ∧ v.1 26 = (fit3 (goN (hk kd) li be) bs T s).2.2) := by
  refine cWv.of (cc := cX1_tellOf) (maxL := 9) (by decide) rfl (Nat.le_of_ble_eq_true rfl) (fun X F E hA hR => ?_)
  refine J_lv [0, 1, 2, 3] (lv' := [(0, .ref (g 18)), (1, .ref (g 2)), (2, .ref (g 6)), (3, .int (nI be))]) rfl ?_
  refine J_aload_n (pc' := 1) (q := 0) F dX1_tellOf_0 rfl rfl ?_
  refine J_aload_n (pc' := 2) (q := 2) F dX1_tellOf_1 rfl rfl ?_
  refine C_get_6_5 (v := sc 11) (pc' := 5) F dX1_tellOf_2 kw_71 rfl rfl ?_
  refine J_vali (y := nI T) hSH.1 ?_
  refine J_if_ne (tgt := 12) (pc' := 8) F dX1_tellOf_5 (by decide) rfl (fun kq5 => ?_) (fun kq5 => ?_)
  · refine J_iconst (pc' := 13) (v := 0) F dX1_tellOf_12 (by decide) rfl ?_
    refine C_put_18_0 (pc' := 16) F dX1_tellOf_13 kw_149 rfl ?_
    refine J_aload_n (pc' := 17) (q := 0) F dX1_tellOf_16 rfl rfl ?_
    refine J_iconst (pc' := 18) (v := 0) F dX1_tellOf_17 (by decide) rfl ?_
    refine C_put_18_1 (pc' := 21) F dX1_tellOf_18 kw_151 rfl ?_
    refine J_aload_n (pc' := 22) (q := 0) F dX1_tellOf_21 rfl rfl ?_
    refine J_iconst (pc' := 23) (v := (-1)) F dX1_tellOf_22 (by decide) rfl ?_
    refine C_put_18_2 (pc' := 26) F dX1_tellOf_23 kw_153 rfl ?_
    refine J_aload_n (pc' := 27) (q := 2) F dX1_tellOf_26 rfl rfl ?_
    refine C_get_6_5 (v := sc 11) (pc' := 30) F dX1_tellOf_27 kw_71 rfl rfl ?_
    refine J_vali (y := nI T) hSH.1 ?_
    refine J_if_ne (tgt := 34) (pc' := 33) F dX1_tellOf_30 (by decide) rfl (fun _ => ?_) (fun c9 => absurd c9 kq5)
    have hTn : ¬ T = 0 := fun q => kq5 (by rw [q]; rfl)
    refine J_getsN (pc' := 37) F dX1_tellOf_34 (nm := "ACTS") (by decide +kernel) (fun _ _ _ h => h.2.2.2.2.2.2.1) rfl ?_
    refine J_astore (pc' := 39) [1, 2, 3, 4, 0] [(0, .ref (g 18)), (1, .ref (g 2)), (2, .ref (g 6)), (3, .int (nI be)), (4, .ref (z 2))] F dX1_tellOf_37 (jL_of E (show 4 < 9 by decide)) rfl rfl ?_
    refine J_aload (pc' := 41) (q := 4) F dX1_tellOf_39 rfl rfl ?_
    refine J_tlen (v := 20) (pc' := 42) F dX1_tellOf_41 (fun _ _ _ h => h.2.2.2.2.2.2.2.1) rfl rfl ?_
    refine J_istore (pc' := 44) [1, 2, 3, 4, 5, 0] [(0, .ref (g 18)), (1, .ref (g 2)), (2, .ref (g 6)), (3, .int (nI be)), (4, .ref (z 2)), (5, .int 20)] F dX1_tellOf_42 (jL_of E (show 5 < 9 by decide)) rfl rfl ?_
    refine J_iconst (pc' := 45) (v := 0) F dX1_tellOf_44 (by decide) rfl ?_
    refine J_istore (pc' := 47) [1, 2, 3, 4, 5, 6, 0] [(0, .ref (g 18)), (1, .ref (g 2)), (2, .ref (g 6)), (3, .int (nI be)), (4, .ref (z 2)), (5, .int 20), (6, .int 0)] F dX1_tellOf_45 (jL_of E (show 6 < 9 by decide)) rfl rfl ?_
    have L47 : ∀ (N47 : Nat) (k : Nat) (sc1 : Nat → Int32), k ≤ 20 → frF sc sc1 → sc1 24 = nI (fsC (rowA (goN (hk kd) li be) bs T s) k).1 → sc1 25 = nI (fsC (rowA (goN (hk kd) li be) bs T s) k).2.1 → sc1 26 = (fsC (rowA (goN (hk kd) li be) bs T s) k).2.2 → 20 - k < N47 → J X true 0 0 47 [(0, .ref (g 18)), (1, .ref (g 2)), (2, .ref (g 6)), (3, .int (nI be)), (4, .ref (z 2)), (5, .int 20), (6, .int (nI k))] [] (wC cI g sc1 ar) := by
      intro N47
      induction N47 with
      | zero => intro _ _ _ _ _ _ _ hm; exact absurd hm (Nat.not_lt_zero _)
      | succ N47 ih47 =>
        intro k sc1 hk20 hfr h24 h25 h26 hm47
        refine J_iload (pc' := 49) (q := 6) F dX1_tellOf_47 rfl rfl ?_
        refine J_iload (pc' := 51) (q := 5) F dX1_tellOf_49 rfl rfl ?_
        refine J_icmp_ge (tgt := 134) (pc' := 54) F dX1_tellOf_51 (by decide) rfl (fun kq51 => ?_) (fun kq51 => ?_)
        · have e20 : k = 20 := (by have := (nI_leI (a := 20) (b := k) (by decide) (by omega)).mp kq51; omega)
          subst e20
          have hf3 : fit3 (goN (hk kd) li be) bs T s = fsC (rowA (goN (hk kd) li be) bs T s) 20 := by unfold fit3; rw [if_neg hTn]
          exact J_vretW (sc1, ar) F hR dX1_tellOf_134 rfl ⟨rfl, hfr, by rw [hf3]; exact h24, by rw [hf3]; exact h25, by rw [hf3]; exact h26⟩
        · have hkk : k < 20 := jin_lt (by decide) hk20 kq51
          have hC1 : CH sc1 ar kd li := ⟨by rw [hfr 6 (Or.inl (by decide))]; exact hC.1, hC.2⟩
          have hSH1 : SH (sc1 11) (ar 4) bs T := by rw [hfr 11 (Or.inl (by decide))]; exact hSH
          have hRl := rowA_le (goN (hk kd) li be) bs hSH.2.1 s
          refine J_aload (pc' := 56) (q := 4) F dX1_tellOf_54 rfl rfl ?_
          refine J_iload (pc' := 58) (q := 6) F dX1_tellOf_56 rfl rfl ?_
          refine J_tiald (v := .int (jAct k)) (pc' := 59) F dX1_tellOf_58 (fun _ _ _ h => h.2.2.2.2.2.2.2.1) (vp_in_nI hkk (by decide)) (by rw [(nI_clamp (by omega))]) rfl ?_
          refine J_vali (y := nI (actN k)) (jAct_N k hkk) ?_
          refine J_istore (pc' := 61) [1, 2, 3, 4, 5, 6, 7, 0] [(0, .ref (g 18)), (1, .ref (g 2)), (2, .ref (g 6)), (3, .int (nI be)), (4, .ref (z 2)), (5, .int 20), (6, .int (nI k)), (7, .int (nI (actN k)))] F dX1_tellOf_59 (jL_of E (show 7 < 9 by decide)) rfl rfl ?_
          refine J_aload_n (pc' := 62) (q := 1) F dX1_tellOf_61 rfl rfl ?_
          refine J_aload_n (pc' := 63) (q := 2) F dX1_tellOf_62 rfl rfl ?_
          refine J_iload_n (pc' := 64) (q := 3) F dX1_tellOf_63 rfl rfl ?_
          refine J_aload_n (pc' := 65) (q := 1) F dX1_tellOf_64 rfl rfl ?_
          refine J_aload_n (pc' := 66) (q := 2) F dX1_tellOf_65 rfl rfl ?_
          refine C_get_6_0 (v := sc1 7) (pc' := 69) F dX1_tellOf_66 kw_59 rfl rfl ?_
          refine J_vali (y := nI s) (by rw [hfr 7 (Or.inl (by decide))]; exact hsv) ?_
          refine J_iload (pc' := 71) (q := 7) F dX1_tellOf_69 rfl rfl ?_
          refine J_iload_n (pc' := 72) (q := 3) F dX1_tellOf_71 rfl rfl ?_
          refine J_goRie (wc := (wC cI g sc1 ar)) (av := [.ref (g 2), .int (nI s), .int (nI (actN k)), .int (nI be)]) (rest := [.int (nI be), .ref (g 6), .ref (g 2)]) (v := zX2_behind sc1 ar (nI s) (nI (actN k)) (nI be)) (pc' := 75) F E (fun _ h => h) (fun H locs hI hp => jrun_V (As := [.int (nI s), .int (nI (actN k)), .int (nI be)]) 2 F E (c_X2_behind l D cI cZ z g sc1 ar (nI s) (nI (actN k)) (nI be)) kw_518 kw_415 kw_416 rfl kw_417 kw_2 oX2_behind ⟨⟨rfl, rfl⟩, ⟨Nat.le_of_ble_eq_true rfl, Nat.le_of_ble_eq_true rfl⟩, Nat.zero_le _, Nat.zero_le _⟩ rfl rfl (Nat.le_of_ble_eq_true rfl) dX1_tellOf_72 rfl rfl (jI_P E hI) hp) rfl ?_
          refine J_vali (y := emb ((goN (hk kd) li be) s (actN k))) (behC hC1 hss (actN_A k hkk).1 hbe) ?_
          refine J_iconst (pc' := 76) (v := 0) F dX1_tellOf_75 (by decide) rfl ?_
          refine J_goRie (wc := (wC cI g sc1 ar)) (av := [.ref (g 2), .ref (g 6), .int (nI be), .int (emb ((goN (hk kd) li be) s (actN k))), .int 0]) (rest := []) (v := nI (rbN (goN (hk kd) li be) bs T 0 ((goN (hk kd) li be) s (actN k)))) (pc' := 79) F E (fun _ h => h) (fun H locs hI hp => jrun_S F E (c_X1_rowsBehind l D cI cZ z g sc1 ar kd li be bs T hC1 hbe hSH1 4 0 ((goN (hk kd) li be) s (actN k)) (fun t9 h9 => goN_lt hss h9) (by omega) (by have := hSH.2.1; omega)) kw_519 kw_520 rfl kw_521 kw_6 oX1_rowsBehind ⟨⟨rfl, rfl⟩, ⟨Nat.le_of_ble_eq_true rfl, Nat.le_of_ble_eq_true rfl⟩, Nat.zero_le _, Nat.zero_le _⟩ rfl (Nat.le_of_ble_eq_true rfl) dX1_tellOf_76 hp) rfl ?_
          refine J_vali (y := nI ((rowA (goN (hk kd) li be) bs T s) (actN k))) rfl ?_
          refine J_istore (pc' := 81) [1, 2, 3, 4, 5, 6, 7, 8, 0] [(0, .ref (g 18)), (1, .ref (g 2)), (2, .ref (g 6)), (3, .int (nI be)), (4, .ref (z 2)), (5, .int 20), (6, .int (nI k)), (7, .int (nI (actN k))), (8, .int (nI ((rowA (goN (hk kd) li be) bs T s) (actN k))))] F dX1_tellOf_79 (jL_of E (show 8 < 9 by decide)) rfl rfl ?_
          refine J_iload (pc' := 83) (q := 8) F dX1_tellOf_81 rfl rfl ?_
          refine J_if_le (tgt := 128) (pc' := 86) F dX1_tellOf_83 (by decide) rfl (fun kq83 => ?_) (fun kq83 => ?_)
          · refine J_iinc (v := nI (k + 1)) (q := 6) (pc' := 131) [1, 2, 3, 4, 5, 6, 0, 7, 8] [(0, .ref (g 18)), (1, .ref (g 2)), (2, .ref (g 6)), (3, .int (nI be)), (4, .ref (z 2)), (5, .int 20), (6, .int (nI (k + 1))), (7, .int (nI (actN k))), (8, .int (nI ((rowA (goN (hk kd) li be) bs T s) (actN k))))] F dX1_tellOf_128 rfl (nI_inc k) (jL_of E (show 6 < 9 by decide)) rfl rfl ?_
            refine J_goto (tgt := 47) F dX1_tellOf_131 (by decide) ?_
            refine J_lv [0, 1, 2, 3, 4, 5, 6] (lv' := [(0, .ref (g 18)), (1, .ref (g 2)), (2, .ref (g 6)), (3, .int (nI be)), (4, .ref (z 2)), (5, .int 20), (6, .int (nI (k + 1)))]) rfl ?_
            exact ih47 (k + 1) sc1 (by omega) hfr (by rw [fs0 (nI_le0 (by have := hRl (actN k); omega) kq83)]; exact h24) (by rw [fs0 (nI_le0 (by have := hRl (actN k); omega) kq83)]; exact h25) (by rw [fs0 (nI_le0 (by have := hRl (actN k); omega) kq83)]; exact h26) (by omega)
          · refine J_aload_n (pc' := 87) (q := 0) F dX1_tellOf_86 rfl rfl ?_
            refine J_dup (pc' := 88) F dX1_tellOf_87 rfl rfl ?_
            refine C_get_18_0 (v := sc1 24) (pc' := 91) F dX1_tellOf_88 kw_149 rfl rfl ?_
            refine J_iload (pc' := 93) (q := 8) F dX1_tellOf_91 rfl rfl ?_
            refine J_iadd (pc' := 94) F dX1_tellOf_93 rfl ?_
            refine C_put_18_0 (pc' := 97) F dX1_tellOf_94 kw_149 rfl ?_
            refine J_aload_n (pc' := 98) (q := 0) F dX1_tellOf_97 rfl rfl ?_
            refine J_dup (pc' := 99) F dX1_tellOf_98 rfl rfl ?_
            refine C_get_18_1 (v := sc1 25) (pc' := 102) F dX1_tellOf_99 kw_151 rfl rfl ?_
            refine J_iconst (pc' := 103) (v := 1) F dX1_tellOf_102 (by decide) rfl ?_
            refine J_iadd (pc' := 104) F dX1_tellOf_103 rfl ?_
            refine C_put_18_1 (pc' := 107) F dX1_tellOf_104 kw_151 rfl ?_
            refine J_aload_n (pc' := 108) (q := 0) F dX1_tellOf_107 rfl rfl ?_
            refine J_aload_n (pc' := 109) (q := 0) F dX1_tellOf_108 rfl rfl ?_
            refine C_get_18_2 (v := sc1 26) (pc' := 112) F dX1_tellOf_109 kw_153 rfl rfl ?_
            refine J_iconst (pc' := 113) (v := (-1)) F dX1_tellOf_112 (by decide) rfl ?_
            refine J_icmp_ne (tgt := 121) (pc' := 116) F dX1_tellOf_113 (by decide) rfl (fun kq113 => ?_) (fun kq113 => ?_)
            · refine J_aload_n (pc' := 122) (q := 0) F dX1_tellOf_121 rfl rfl ?_
              refine C_get_18_2 (v := sc1 26) (pc' := 125) F dX1_tellOf_122 kw_153 rfl rfl ?_
              refine C_put_18_2 (pc' := 128) F dX1_tellOf_125 kw_153 rfl ?_
              refine J_iinc (v := nI (k + 1)) (q := 6) (pc' := 131) [1, 2, 3, 4, 5, 6, 0, 7, 8] [(0, .ref (g 18)), (1, .ref (g 2)), (2, .ref (g 6)), (3, .int (nI be)), (4, .ref (z 2)), (5, .int 20), (6, .int (nI (k + 1))), (7, .int (nI (actN k))), (8, .int (nI ((rowA (goN (hk kd) li be) bs T s) (actN k))))] F dX1_tellOf_128 rfl (nI_inc k) (jL_of E (show 6 < 9 by decide)) rfl rfl ?_
              refine J_goto (tgt := 47) F dX1_tellOf_131 (by decide) ?_
              refine J_lv [0, 1, 2, 3, 4, 5, 6] (lv' := [(0, .ref (g 18)), (1, .ref (g 2)), (2, .ref (g 6)), (3, .int (nI be)), (4, .ref (z 2)), (5, .int 20), (6, .int (nI (k + 1)))]) rfl ?_
              have hRp : 0 < (rowA (goN (hk kd) li be) bs T s) (actN k) := by
                rcases Nat.eq_zero_or_pos ((rowA (goN (hk kd) li be) bs T s) (actN k)) with q | q
                · exact absurd (by rw [q]; exact i32_le_rfl 0) kq83
                · exact q
              exact ih47 (k + 1) (upd (upd (upd sc1 24 ((sc1 24) + (nI ((rowA (goN (hk kd) li be) bs T s) (actN k))))) 25 ((sc1 25) + 1)) 26 (sc1 26)) (by omega) (fun j hj => by rw [pk_un (by omega), pk_un (by omega), pk_un (by omega)]; exact hfr j hj) (by rw [fs1 hRp]; show sc1 24 + nI _ = nI _; rw [h24, nI_add]) (by rw [fs1 hRp]; show sc1 25 + 1 = nI _; rw [h25, nI_1]) (by rw [fs1 hRp]; show _ = if (fsC (rowA (goN (hk kd) li be) bs T s) k).2.2 = -1 then nI (actN k) else (fsC (rowA (goN (hk kd) li be) bs T s) k).2.2; rw [← h26, if_neg kq113]; rfl) (by omega)
            · refine J_iload (pc' := 118) (q := 7) F dX1_tellOf_116 rfl rfl ?_
              refine J_goto (tgt := 125) F dX1_tellOf_118 (by decide) ?_
              refine C_put_18_2 (pc' := 128) F dX1_tellOf_125 kw_153 rfl ?_
              refine J_iinc (v := nI (k + 1)) (q := 6) (pc' := 131) [1, 2, 3, 4, 5, 6, 0, 7, 8] [(0, .ref (g 18)), (1, .ref (g 2)), (2, .ref (g 6)), (3, .int (nI be)), (4, .ref (z 2)), (5, .int 20), (6, .int (nI (k + 1))), (7, .int (nI (actN k))), (8, .int (nI ((rowA (goN (hk kd) li be) bs T s) (actN k))))] F dX1_tellOf_128 rfl (nI_inc k) (jL_of E (show 6 < 9 by decide)) rfl rfl ?_
              refine J_goto (tgt := 47) F dX1_tellOf_131 (by decide) ?_
              refine J_lv [0, 1, 2, 3, 4, 5, 6] (lv' := [(0, .ref (g 18)), (1, .ref (g 2)), (2, .ref (g 6)), (3, .int (nI be)), (4, .ref (z 2)), (5, .int 20), (6, .int (nI (k + 1)))]) rfl ?_
              have hRp : 0 < (rowA (goN (hk kd) li be) bs T s) (actN k) := by
                rcases Nat.eq_zero_or_pos ((rowA (goN (hk kd) li be) bs T s) (actN k)) with q | q
                · exact absurd (by rw [q]; exact i32_le_rfl 0) kq83
                · exact q
              exact ih47 (k + 1) (upd (upd (upd sc1 24 ((sc1 24) + (nI ((rowA (goN (hk kd) li be) bs T s) (actN k))))) 25 ((sc1 25) + 1)) 26 (nI (actN k))) (by omega) (fun j hj => by rw [pk_un (by omega), pk_un (by omega), pk_un (by omega)]; exact hfr j hj) (by rw [fs1 hRp]; show sc1 24 + nI _ = nI _; rw [h24, nI_add]) (by rw [fs1 hRp]; show sc1 25 + 1 = nI _; rw [h25, nI_1]) (by rw [fs1 hRp]; show _ = if (fsC (rowA (goN (hk kd) li be) bs T s) k).2.2 = -1 then nI (actN k) else (fsC (rowA (goN (hk kd) li be) bs T s) k).2.2; rw [← h26, if_pos kq113]; rfl) (by omega)
    exact L47 _ 0 (upd (upd (upd sc 24 0) 25 0) 26 (-1)) (Nat.zero_le _) (fun j hj => by rw [pk_un (by omega), pk_un (by omega), pk_un (by omega)]) rfl rfl rfl (Nat.lt_succ_self _)
  · refine J_iconst (pc' := 9) (v := 1) F dX1_tellOf_8 (by decide) rfl ?_
    refine J_goto (tgt := 13) F dX1_tellOf_9 (by decide) ?_
    refine C_put_18_0 (pc' := 16) F dX1_tellOf_13 kw_149 rfl ?_
    refine J_aload_n (pc' := 17) (q := 0) F dX1_tellOf_16 rfl rfl ?_
    refine J_iconst (pc' := 18) (v := 0) F dX1_tellOf_17 (by decide) rfl ?_
    refine C_put_18_1 (pc' := 21) F dX1_tellOf_18 kw_151 rfl ?_
    refine J_aload_n (pc' := 22) (q := 0) F dX1_tellOf_21 rfl rfl ?_
    refine J_iconst (pc' := 23) (v := (-1)) F dX1_tellOf_22 (by decide) rfl ?_
    refine C_put_18_2 (pc' := 26) F dX1_tellOf_23 kw_153 rfl ?_
    refine J_aload_n (pc' := 27) (q := 2) F dX1_tellOf_26 rfl rfl ?_
    refine C_get_6_5 (v := sc 11) (pc' := 30) F dX1_tellOf_27 kw_71 rfl rfl ?_
    refine J_vali (y := nI T) hSH.1 ?_
    refine J_if_ne (tgt := 34) (pc' := 33) F dX1_tellOf_30 (by decide) rfl (fun c9 => absurd kq5 c9) (fun _ => ?_)
    have hT0 : T = 0 := (nI_eq (b := 0) (by have := hSH.2.1; omega) (by decide)).mp kq5
    subst hT0
    exact J_vretW ((upd (upd (upd sc 24 1) 25 0) 26 (-1)), ar) F hR dX1_tellOf_33 rfl ⟨rfl, fun j hj => by show (upd (upd (upd sc 24 1) 25 0) 26 (-1)) j = sc j; rw [pk_un (by omega), pk_un (by omega), pk_un (by omega)], rfl, rfl, rfl⟩
