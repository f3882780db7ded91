/-! the class's Easing: leaveHead and leastFrom -/
def frE (ar ar1 : Nat → Nat → Int32) : Prop := ∀ k, k ≠ 10 → k ≠ 11 → ar1 k = ar k
theorem frE.CH {sc : Nat → Int32} {ar ar1 : Nat → Nat → Int32} {kd : Nat → Nat} {li : Nat} (h : frE ar ar1) (hC : CH sc ar kd li) : CH sc ar1 kd li := by
  refine ⟨hC.1, hC.2.1, ?_, ?_⟩
  · rw [h 1 (by decide) (by decide)]; exact hC.2.2.1
  · rw [h 2 (by decide) (by decide), h 3 (by decide) (by decide)]; exact hC.2.2.2
theorem put5 {sc : Nat → Int32} {ar : Nat → Nat → Int32} {t j : Nat} (ht : t < 4096) (hj : j < 13) : fX0_put sc ar (nI t) (nI j) = if ar 10 t = -2 then (sc, va_up (va_up ar 10 (upd (ar 10) t (ar 11 j))) 11 (upd (ar 11) j (nI t))) else (sc, ar) := by
  unfold fX0_put
  rw [if_neg (nI_pos (by omega)), if_neg (show ¬ (4096 : Int32) ≤ nI t from nI_ge (b := 4096) ht (by decide)), if_neg (nI_pos (by omega)), if_pos (show nI j < (13 : Int32) from nI_lt (b := 13) hj (by decide)), nI_clamp (show t < 2 ^ 31 by omega), nI_clamp (show j < 2 ^ 31 by omega)]
theorem movC {sc : Nat → Int32} {ar : Nat → Nat → Int32} {kd : Nat → Nat} {li n a : Nat} (h : CH sc ar kd li) (hn : n < 4096) (ha : a < 42) : zX2_moved sc ar (nI n) (nI a) = emb (mvN (hk kd) n a) := by
  rw [moved5 hn ha, mvN_hk h.2.2.1]
theorem max5 {a b : Nat} (ha : a < 2 ^ 31) (hb : b < 2 ^ 31) : (if nI a < nI b then nI b else nI a) = nI (max a b) := by
  by_cases q : a < b
  · rw [if_pos (nI_lt q hb), Nat.max_eq_right (by omega)]
  · rw [if_neg (nI_nlt (by omega) ha), Nat.max_eq_left (by omega)]

abbrev rm_X0_leaveHead : Room := { frames := 2, cells := 0, slots := 0, locals := 51 }
set_option maxHeartbeats 4000000 in
set_option maxRecDepth 100000 in
theorem c_X0_leaveHead (l : Launch) (D : va_G) (cI cZ : ClassId) (z : Nat → Nat) (g : Nat → Nat) (sc : Nat → Int32) (ar : Nat → Nat → Int32) (kd : Nat → Nat) (li s b : Nat) (L : Nat → List Nat) (pd : Nat → Bool) (lv : Nat → Nat) (hC : CH sc ar kd li) (hb : b < 13) (hF : FI (hk kd) li s (ar 10) (ar 11) L pd lv b) (hne : ar 11 b ≠ -1) (h0 : ar 11 b ≠ 0) : cWv l yX0_leaveHead ww_X0_leaveHead rm_X0_leaveHead D cI cZ z (fC cI g) (wC cI g sc ar) [.ref (g 15), .ref (g 2), .int (nI b)] (fun v => ∃ ar' L' pd' lv', v = (sc, ar') ∧ frE ar ar' ∧ FI (hk kd) li s (ar' 10) (ar' 11) L' pd' lv' b ∧ fb_ct pd' 4096 = fb_ct pd 4096 + 1) := by
  refine cWv.of (cc := cX0_leaveHead) (maxL := 9) (by decide) rfl (Nat.le_of_ble_eq_true rfl) (fun X F E hA hR => ?_)
  refine J_lv [0, 1, 2] (lv' := [(0, .ref (g 15)), (1, .ref (g 2)), (2, .int (nI b))]) rfl ?_
  obtain ⟨c, hcc, hce, hFA⟩ := hF.pop hb hne h0
  have hli := hC.2.1
  refine J_iload_n (pc' := 1) (q := 2) F dX0_leaveHead_0 rfl rfl ?_
  refine J_if_lt (tgt := 22) (pc' := 4) F dX0_leaveHead_1 (by decide) rfl (fun kq1 => False.elim (nI_pos (by omega) kq1)) (fun kq1 => ?_)
  refine J_iload_n (pc' := 5) (q := 2) F dX0_leaveHead_4 rfl rfl ?_
  refine J_aload_n (pc' := 6) (q := 0) F dX0_leaveHead_5 rfl rfl ?_
  refine C_get_15_1 (pc' := 9) F dX0_leaveHead_6 kw_137 rfl ?_
  refine C_len_11 (pc' := 10) F dX0_leaveHead_9 rfl ?_
  refine J_icmp_ge (tgt := 22) (pc' := 13) F dX0_leaveHead_10 (by decide) rfl (fun kq10 => False.elim (nI_ge (b := 13) hb (by decide) kq10)) (fun kq10 => ?_)
  refine J_aload_n (pc' := 14) (q := 0) F dX0_leaveHead_13 rfl rfl ?_
  refine C_get_15_1 (pc' := 17) F dX0_leaveHead_14 kw_137 rfl ?_
  refine J_iload_n (pc' := 18) (q := 2) F dX0_leaveHead_17 rfl rfl ?_
  refine C_ld_11 (f := ar 11) (q := b) (pc' := 19) F dX0_leaveHead_18 rfl (nI_clamp (by omega)) (vp_in_nI hb (by decide)) rfl ?_
  refine J_vali (y := nI c) hce ?_
  refine J_goto (tgt := 23) F dX0_leaveHead_19 (by decide) ?_
  refine J_istore_n (pc' := 24) [1, 2, 3, 0] [(0, .ref (g 15)), (1, .ref (g 2)), (2, .int (nI b)), (3, .int (nI c))] F dX0_leaveHead_23 rfl (jL_of E (show 3 < 9 by decide)) rfl rfl ?_
  refine J_iload_n (pc' := 25) (q := 3) F dX0_leaveHead_24 rfl rfl ?_
  refine J_if_lt (tgt := 35) (pc' := 28) F dX0_leaveHead_25 (by decide) rfl (fun kq25 => False.elim (nI_pos (by omega) kq25)) (fun kq25 => ?_)
  refine J_iload_n (pc' := 29) (q := 3) F dX0_leaveHead_28 rfl rfl ?_
  refine J_sipush (pc' := 32) (v := 4096) F dX0_leaveHead_29 (by decide) rfl ?_
  refine J_icmp_lt (tgt := 36) (pc' := 35) F dX0_leaveHead_32 (by decide) rfl (fun kq32 => ?_) (fun kq32 => False.elim (kq32 (nI_lt (b := 4096) hcc (by decide))))
  refine J_aload_n (pc' := 37) (q := 0) F dX0_leaveHead_36 rfl rfl ?_
  refine C_get_15_1 (pc' := 40) F dX0_leaveHead_37 kw_137 rfl ?_
  refine J_iload_n (pc' := 41) (q := 2) F dX0_leaveHead_40 rfl rfl ?_
  refine J_aload_n (pc' := 42) (q := 0) F dX0_leaveHead_41 rfl rfl ?_
  refine C_get_15_0 (pc' := 45) F dX0_leaveHead_42 kw_136 rfl ?_
  refine J_iload_n (pc' := 46) (q := 3) F dX0_leaveHead_45 rfl rfl ?_
  refine C_ld_10 (f := ar 10) (q := c) (pc' := 47) F dX0_leaveHead_46 rfl (nI_clamp (by omega)) (vp_in_nI hcc (by decide)) rfl ?_
  refine C_st_11 (f := ar 11) (q := b) (pc' := 48) F dX0_leaveHead_47 rfl (nI_clamp (by omega)) (vp_in_nI hb (by decide)) rfl ?_
  refine J_getsN (pc' := 51) F dX0_leaveHead_48 (nm := "ACTS") (by decide +kernel) (fun _ _ _ h => h.2.2.2.2.2.2.1) rfl ?_
  refine J_astore (pc' := 53) [1, 2, 3, 4, 0] [(0, .ref (g 15)), (1, .ref (g 2)), (2, .int (nI b)), (3, .int (nI c)), (4, .ref (z 2))] F dX0_leaveHead_51 (jL_of E (show 4 < 9 by decide)) rfl rfl ?_
  refine J_aload (pc' := 55) (q := 4) F dX0_leaveHead_53 rfl rfl ?_
  refine J_tlen (v := 20) (pc' := 56) F dX0_leaveHead_55 (fun _ _ _ h => h.2.2.2.2.2.2.2.1) rfl rfl ?_
  refine J_istore (pc' := 58) [1, 2, 3, 4, 5, 0] [(0, .ref (g 15)), (1, .ref (g 2)), (2, .int (nI b)), (3, .int (nI c)), (4, .ref (z 2)), (5, .int 20)] F dX0_leaveHead_56 (jL_of E (show 5 < 9 by decide)) rfl rfl ?_
  refine J_iconst (pc' := 59) (v := 0) F dX0_leaveHead_58 (by decide) rfl ?_
  refine J_istore (pc' := 61) [1, 2, 3, 4, 5, 6, 0] [(0, .ref (g 15)), (1, .ref (g 2)), (2, .int (nI b)), (3, .int (nI c)), (4, .ref (z 2)), (5, .int 20), (6, .int 0)] F dX0_leaveHead_59 (jL_of E (show 6 < 9 by decide)) rfl rfl ?_
  have L61 : ∀ (N61 : Nat) (k : Nat) (ar1 : Nat → Nat → Int32) (L1 : Nat → List Nat) (lv1 : Nat → Nat), k ≤ 20 → frE ar ar1 → FA (hk kd) li s (ar1 10) (ar1 11) L1 pd lv1 b c k → 20 - k < N61 → J X true 0 0 61 [(0, .ref (g 15)), (1, .ref (g 2)), (2, .int (nI b)), (3, .int (nI c)), (4, .ref (z 2)), (5, .int 20), (6, .int (nI k))] [] (wC cI g sc ar1) := by
    intro N61
    induction N61 with
    | zero => intro _ _ _ _ _ _ _ hm; exact absurd hm (Nat.not_lt_zero _)
    | succ N61 ih61 =>
      intro k ar1 L1 lv1 hk20 hfr hFA1 hm61
      refine J_iload (pc' := 63) (q := 6) F dX0_leaveHead_61 rfl rfl ?_
      refine J_iload (pc' := 65) (q := 5) F dX0_leaveHead_63 rfl rfl ?_
      refine J_icmp_ge (tgt := 123) (pc' := 68) F dX0_leaveHead_65 (by decide) rfl (fun kq65 => ?_) (fun kq65 => ?_)
      · exact J_vretW (sc, ar1) F hR dX0_leaveHead_123 rfl ⟨ar1, L1, va_up pd c true, lv1, rfl, hfr, hFA1.done ((nI_leI (a := 20) (b := k) (by decide) (by omega)).mp kq65), ct_up hcc hFA1.2.2.2.2.2.2.2.1.2.2.2.2.1⟩
      · have hkk : k < 20 := jin_lt (by decide) hk20 kq65
        have hC1 := hfr.CH hC
        refine J_aload (pc' := 70) (q := 4) F dX0_leaveHead_68 rfl rfl ?_
        refine J_iload (pc' := 72) (q := 6) F dX0_leaveHead_70 rfl rfl ?_
        refine J_tiald (v := .int (jAct k)) (pc' := 73) F dX0_leaveHead_72 (fun _ _ _ h => h.2.2.2.2.2.2.2.1) (vp_in_nI hkk (by decide)) (by rw [(nI_clamp (by omega))]) rfl ?_
        refine J_vali (y := nI (actN k)) (jAct_N k hkk) ?_
        refine J_istore (pc' := 75) [1, 2, 3, 4, 5, 6, 7, 0] [(0, .ref (g 15)), (1, .ref (g 2)), (2, .int (nI b)), (3, .int (nI c)), (4, .ref (z 2)), (5, .int 20), (6, .int (nI k)), (7, .int (nI (actN k)))] F dX0_leaveHead_73 (jL_of E (show 7 < 9 by decide)) rfl rfl ?_
        refine J_aload_n (pc' := 76) (q := 1) F dX0_leaveHead_75 rfl rfl ?_
        refine J_iload_n (pc' := 77) (q := 3) F dX0_leaveHead_76 rfl rfl ?_
        refine J_iload (pc' := 79) (q := 7) F dX0_leaveHead_77 rfl rfl ?_
        refine J_goRie (wc := (wC cI g sc ar1)) (av := [.ref (g 2), .int (nI c), .int (nI (actN k))]) (rest := []) (v := zX2_moved sc ar1 (nI c) (nI (actN k))) (pc' := 82) F E (fun _ h => h) (fun H locs hI hp => jrun_V (As := [.int (nI c), .int (nI (actN k))]) 2 F E (c_X2_moved l D cI cZ z g sc ar1 (nI c) (nI (actN k))) kw_493 kw_419 kw_420 rfl kw_421 kw_2 oX2_moved ⟨⟨rfl, rfl⟩, ⟨Nat.le_of_ble_eq_true rfl, Nat.le_of_ble_eq_true rfl⟩, Nat.zero_le _, Nat.zero_le _⟩ rfl rfl (Nat.le_of_ble_eq_true rfl) dX0_leaveHead_79 rfl rfl (jI_P E hI) hp) rfl ?_
        refine J_vali (movC hC1 hcc (actN_A k hkk).1) ?_
        cases he : mvN (hk kd) c (actN k) with
        | none =>
          refine J_vali (y := -1) rfl ?_
          refine J_istore (pc' := 84) [1, 2, 3, 4, 5, 6, 7, 8, 0] [(0, .ref (g 15)), (1, .ref (g 2)), (2, .int (nI b)), (3, .int (nI c)), (4, .ref (z 2)), (5, .int 20), (6, .int (nI k)), (7, .int (nI (actN k))), (8, .int (-1))] F dX0_leaveHead_82 (jL_of E (show 8 < 9 by decide)) rfl rfl ?_
          refine J_iload (pc' := 86) (q := 8) F dX0_leaveHead_84 rfl rfl ?_
          refine J_iconst (pc' := 87) (v := (-1)) F dX0_leaveHead_86 (by decide) rfl ?_
          refine J_icmp_eq (tgt := 117) (pc' := 90) F dX0_leaveHead_87 (by decide) rfl (fun _ => ?_) (fun c9 => absurd (by decide) c9)
          refine J_iinc (v := nI (k + 1)) (q := 6) (pc' := 120) [1, 2, 3, 4, 5, 6, 0, 7, 8] [(0, .ref (g 15)), (1, .ref (g 2)), (2, .int (nI b)), (3, .int (nI c)), (4, .ref (z 2)), (5, .int 20), (6, .int (nI (k + 1))), (7, .int (nI (actN k))), (8, .int (-1))] F dX0_leaveHead_117 rfl (nI_inc k) (jL_of E (show 6 < 9 by decide)) rfl rfl ?_
          refine J_goto (tgt := 61) F dX0_leaveHead_120 (by decide) ?_
          refine J_lv [0, 1, 2, 3, 4, 5, 6] (lv' := [(0, .ref (g 15)), (1, .ref (g 2)), (2, .int (nI b)), (3, .int (nI c)), (4, .ref (z 2)), (5, .int 20), (6, .int (nI (k + 1)))]) rfl ?_
          exact ih61 (k + 1) ar1 L1 lv1 (by omega) hfr (hFA1.skip (fun t9 h9 _ => by rw [he] at h9; cases h9)) (by omega)
        | some t =>
          have ht : t < 4096 := mvN_lt hcc he
          have hbt := bnt_le t
          refine J_vali (y := nI t) rfl ?_
          refine J_istore (pc' := 84) [1, 2, 3, 4, 5, 6, 7, 8, 0] [(0, .ref (g 15)), (1, .ref (g 2)), (2, .int (nI b)), (3, .int (nI c)), (4, .ref (z 2)), (5, .int 20), (6, .int (nI k)), (7, .int (nI (actN k))), (8, .int (nI t))] F dX0_leaveHead_82 (jL_of E (show 8 < 9 by decide)) rfl rfl ?_
          refine J_iload (pc' := 86) (q := 8) F dX0_leaveHead_84 rfl rfl ?_
          refine J_iconst (pc' := 87) (v := (-1)) F dX0_leaveHead_86 (by decide) rfl ?_
          refine J_icmp_eq (tgt := 117) (pc' := 90) F dX0_leaveHead_87 (by decide) rfl (fun kq87 => False.elim (nI_m1 (by omega) kq87)) (fun kq87 => ?_)
          refine J_iload (pc' := 92) (q := 8) F dX0_leaveHead_90 rfl rfl ?_
          refine J_goRie (wc := []) (av := [.int (nI t)]) (rest := []) (v := zX5_listingBy (nI t)) (pc' := 95) F E (fun _ _ => jP_nil _ _) (fun H locs hI hp => jrun_SN F E (c_X5_listingBy l D cI cZ z (nI t)) kw_386 (by decide +kernel) rfl kw_387 kw_1 oX5_listingBy ⟨⟨rfl, rfl⟩, ⟨Nat.le_of_ble_eq_true rfl, Nat.le_of_ble_eq_true rfl⟩, Nat.zero_le _, Nat.zero_le _⟩ rfl (Nat.le_of_ble_eq_true rfl) dX0_leaveHead_92 hp) rfl ?_
          refine J_vali (y := nI (lst t)) (list5 ht) ?_
          refine J_aload_n (pc' := 96) (q := 1) F dX0_leaveHead_95 rfl rfl ?_
          refine C_get_2_4 (v := sc 6) (pc' := 99) F dX0_leaveHead_96 kw_38 rfl rfl ?_
          refine J_vali (y := nI li) hC.1 ?_
          refine J_icmp_gt (tgt := 117) (pc' := 102) F dX0_leaveHead_99 (by decide) rfl (fun kq99 => ?_) (fun kq99 => ?_)
          · refine J_iinc (v := nI (k + 1)) (q := 6) (pc' := 120) [1, 2, 3, 4, 5, 6, 0, 7, 8] [(0, .ref (g 15)), (1, .ref (g 2)), (2, .int (nI b)), (3, .int (nI c)), (4, .ref (z 2)), (5, .int 20), (6, .int (nI (k + 1))), (7, .int (nI (actN k))), (8, .int (nI t))] F dX0_leaveHead_117 rfl (nI_inc k) (jL_of E (show 6 < 9 by decide)) rfl rfl ?_
            refine J_goto (tgt := 61) F dX0_leaveHead_120 (by decide) ?_
            refine J_lv [0, 1, 2, 3, 4, 5, 6] (lv' := [(0, .ref (g 15)), (1, .ref (g 2)), (2, .int (nI b)), (3, .int (nI c)), (4, .ref (z 2)), (5, .int 20), (6, .int (nI (k + 1)))]) rfl ?_
            exact ih61 (k + 1) ar1 L1 lv1 (by omega) hfr (hFA1.skip (fun t9 h9 hl9 => by rw [he] at h9; cases h9; have := (nI_ltI (by omega) (by have := lst_le t; omega)).mp kq99; omega)) (by omega)
          · have hll : lst t ≤ li := by
              rcases Nat.lt_or_ge li (lst t) with q | q
              · exact absurd (nI_lt q (by have := lst_le t; omega)) kq99
              · exact q
            refine J_aload_n (pc' := 103) (q := 0) F dX0_leaveHead_102 rfl rfl ?_
            refine J_iload (pc' := 105) (q := 8) F dX0_leaveHead_103 rfl rfl ?_
            refine J_iload_n (pc' := 106) (q := 2) F dX0_leaveHead_105 rfl rfl ?_
            refine J_iload (pc' := 108) (q := 8) F dX0_leaveHead_106 rfl rfl ?_
            refine J_goRie (wc := []) (av := [.int (nI t)]) (rest := [.int (nI b), .int (nI t), .ref (g 15)]) (v := zX5_bentBy (nI t)) (pc' := 111) F E (fun _ _ => jP_nil _ _) (fun H locs hI hp => jrun_SN F E (c_X5_bentBy l D cI cZ z (nI t)) kw_383 (by decide +kernel) rfl kw_384 kw_1 oX5_bentBy ⟨⟨rfl, rfl⟩, ⟨Nat.le_of_ble_eq_true rfl, Nat.le_of_ble_eq_true rfl⟩, Nat.zero_le _, Nat.zero_le _⟩ rfl (Nat.le_of_ble_eq_true rfl) dX0_leaveHead_108 hp) rfl ?_
            refine J_vali (y := nI (bnt t)) (bent5 ht) ?_
            refine J_mmax (pc' := 114) F E dX0_leaveHead_111 kw_496 kw_280 kw_12 kw_281 (Nat.le_of_ble_eq_true rfl) (Nat.le_of_ble_eq_true rfl) (Nat.zero_le _) (Nat.zero_le _) rfl ?_
            refine J_vali (y := nI (max b (bnt t))) (max5 (by omega) (by omega)) ?_
            refine J_goWv (wf := (fC cI g)) (w0 := (wC cI g sc ar1)) (av := [.ref (g 15), .int (nI t), .int (nI (max b (bnt t)))]) (rest := []) (pc' := 117) (fC cI g) F E hA (fun _ h => h) id (jsubA_rf _) (fun _ => jOver_rf _ _ _) (fun H locs hI hp => jrun_V (As := [.int (nI t), .int (nI (max b (bnt t)))]) 15 F E (c_X0_put l D cI cZ z g sc ar1 (nI t) (nI (max b (bnt t))) H.size) kw_484 kw_485 kw_486 rfl kw_487 kw_5 oX0_put ⟨⟨rfl, rfl⟩, ⟨Nat.le_of_ble_eq_true rfl, Nat.le_of_ble_eq_true rfl⟩, Nat.zero_le _, Nat.zero_le _⟩ rfl rfl (Nat.le_of_ble_eq_true rfl) dX0_leaveHead_114 rfl rfl (jI_P E hI) hp) rfl (fun ur114 hr114 => ?_)
            subst hr114
            by_cases hu2 : ar1 10 t = -2
            · refine J_ws (ws' := (wC cI g sc (va_up (va_up ar1 10 (upd (ar1 10) t (ar1 11 (max b (bnt t))))) 11 (upd (ar1 11) (max b (bnt t)) (nI t))))) (by rw [put5 ht (by omega), if_pos hu2]) ?_
              refine J_iinc (v := nI (k + 1)) (q := 6) (pc' := 120) [1, 2, 3, 4, 5, 6, 0, 7, 8] [(0, .ref (g 15)), (1, .ref (g 2)), (2, .int (nI b)), (3, .int (nI c)), (4, .ref (z 2)), (5, .int 20), (6, .int (nI (k + 1))), (7, .int (nI (actN k))), (8, .int (nI t))] F dX0_leaveHead_117 rfl (nI_inc k) (jL_of E (show 6 < 9 by decide)) rfl rfl ?_
              refine J_goto (tgt := 61) F dX0_leaveHead_120 (by decide) ?_
              refine J_lv [0, 1, 2, 3, 4, 5, 6] (lv' := [(0, .ref (g 15)), (1, .ref (g 2)), (2, .int (nI b)), (3, .int (nI c)), (4, .ref (z 2)), (5, .int 20), (6, .int (nI (k + 1)))]) rfl ?_
              exact ih61 (k + 1) (va_up (va_up ar1 10 (upd (ar1 10) t (ar1 11 (max b (bnt t))))) 11 (upd (ar1 11) (max b (bnt t)) (nI t))) (va_up L1 (max b (bnt t)) (t :: L1 (max b (bnt t)))) (va_up lv1 t (max b (bnt t))) (by omega) (fun j h1 h2 => by rw [va_un h2, va_un h1]; exact hfr j h1 h2) (hFA1.new hkk he hll hu2) (by omega)
            · refine J_ws (ws' := (wC cI g sc ar1)) (by rw [put5 ht (by omega), if_neg hu2]) ?_
              have hlvl : lv1 t ≤ max b (bnt t) := by
                exact (hFA1.2.2.2.2.2.1 t ht hu2).2.2
              refine J_iinc (v := nI (k + 1)) (q := 6) (pc' := 120) [1, 2, 3, 4, 5, 6, 0, 7, 8] [(0, .ref (g 15)), (1, .ref (g 2)), (2, .int (nI b)), (3, .int (nI c)), (4, .ref (z 2)), (5, .int 20), (6, .int (nI (k + 1))), (7, .int (nI (actN k))), (8, .int (nI t))] F dX0_leaveHead_117 rfl (nI_inc k) (jL_of E (show 6 < 9 by decide)) rfl rfl ?_
              refine J_goto (tgt := 61) F dX0_leaveHead_120 (by decide) ?_
              refine J_lv [0, 1, 2, 3, 4, 5, 6] (lv' := [(0, .ref (g 15)), (1, .ref (g 2)), (2, .int (nI b)), (3, .int (nI c)), (4, .ref (z 2)), (5, .int 20), (6, .int (nI (k + 1)))]) rfl ?_
              exact ih61 (k + 1) ar1 L1 lv1 (by omega) hfr (hFA1.skip (fun t9 h9 _ => by rw [he] at h9; cases h9; exact ⟨hu2, hlvl⟩)) (by omega)
  exact L61 _ 0 (va_up ar 11 (upd (ar 11) b ((ar 10) c))) (va_up L b (L b).tail) lv (Nat.zero_le _) (fun k h1 h2 => by rw [va_un h2]) hFA (Nat.lt_succ_self _)
abbrev rm_X0_leastFrom : Room := { frames := 3, cells := 0, slots := 0, locals := 79 }
set_option maxHeartbeats 4000000 in
set_option maxRecDepth 100000 in
theorem c_X0_leastFrom (l : Launch) (D : va_G) (cI cZ : ClassId) (z : Nat → Nat) (g : Nat → Nat) (sc : Nat → Int32) (ar : Nat → Nat → Int32) (kd : Nat → Nat) (li s : Nat) (hC : CH sc ar kd li) (hss : s < 4096) : cWi l yX0_leastFrom ww_X0_leastFrom rm_X0_leastFrom D cI cZ z (fC cI g) (wC cI g sc ar) [.ref (g 15), .ref (g 2), .int (nI s)] (fun r v => ∃ ar', v = (sc, ar') ∧ frE ar ar' ∧ Lst (hk kd) li s r) := by
  refine cWi.of (cc := cX0_leastFrom) (maxL := 5) (rt := .int) (by decide) rfl (Nat.le_of_ble_eq_true rfl) (fun X F E hA hR => ?_)
  refine J_lv [0, 1, 2] (lv' := [(0, .ref (g 15)), (1, .ref (g 2)), (2, .int (nI s))]) rfl ?_
  refine J_aload_n (pc' := 1) (q := 0) F dX0_leastFrom_0 rfl rfl ?_
  refine C_get_15_0 (pc' := 4) F dX0_leastFrom_1 kw_136 rfl ?_
  refine J_bipush (pc' := 6) (v := (-2)) F dX0_leastFrom_4 (by decide) rfl ?_
  refine J_goWv (wf := (fC cI g)) (w0 := (wC cI g sc ar)) (av := [.ref (g 16), .int (-2)]) (rest := []) (pc' := 9) (fC cI g) F E hA (fun _ h => h) id (jsubA_rf _) (fun _ => jOver_rf _ _ _) (fun H locs hI hp => jrun_S F E (c_fill_10 l D cI cZ z g sc ar (-2) H.size) kw_483 kw_451 rfl kw_452 kw_14 oJ7_fill_53178 ⟨⟨rfl, rfl⟩, ⟨Nat.le_of_ble_eq_true rfl, Nat.le_of_ble_eq_true rfl⟩, Nat.zero_le _, Nat.zero_le _⟩ rfl (Nat.le_of_ble_eq_true rfl) dX0_leastFrom_6 hp) rfl (fun ur6 hr6 => ?_)
  subst hr6
  refine J_ws (ws' := (wC cI g sc (va_up ar 10 (fa_fill (fun _ => (-2)) (ar 10) 4096)))) rfl ?_
  refine J_aload_n (pc' := 10) (q := 0) F dX0_leastFrom_9 rfl rfl ?_
  refine C_get_15_1 (pc' := 13) F dX0_leastFrom_10 kw_137 rfl ?_
  refine J_iconst (pc' := 14) (v := (-1)) F dX0_leastFrom_13 (by decide) rfl ?_
  refine J_goWv (wf := (fC cI g)) (w0 := (wC cI g sc (va_up ar 10 (fa_fill (fun _ => (-2)) (ar 10) 4096)))) (av := [.ref (g 17), .int (-1)]) (rest := []) (pc' := 17) (fC cI g) F E hA (fun _ h => h) id (jsubA_rf _) (fun _ => jOver_rf _ _ _) (fun H locs hI hp => jrun_S F E (c_fill_11 l D cI cZ z g sc (va_up ar 10 (fa_fill (fun _ => (-2)) (ar 10) 4096)) (-1) H.size) kw_483 kw_451 rfl kw_452 kw_14 oJ7_fill_53178 ⟨⟨rfl, rfl⟩, ⟨Nat.le_of_ble_eq_true rfl, Nat.le_of_ble_eq_true rfl⟩, Nat.zero_le _, Nat.zero_le _⟩ rfl (Nat.le_of_ble_eq_true rfl) dX0_leastFrom_14 hp) rfl (fun ur14 hr14 => ?_)
  subst hr14
  refine J_ws (ws' := (wC cI g sc (va_up (va_up ar 10 (fa_fill (fun _ => (-2)) (ar 10) 4096)) 11 (fa_fill (fun _ => (-1)) (ar 11) 13)))) rfl ?_
  refine J_aload_n (pc' := 18) (q := 0) F dX0_leastFrom_17 rfl rfl ?_
  refine J_iload_n (pc' := 19) (q := 2) F dX0_leastFrom_18 rfl rfl ?_
  refine J_iconst (pc' := 20) (v := 0) F dX0_leastFrom_19 (by decide) rfl ?_
  refine J_goWv (wf := (fC cI g)) (w0 := (wC cI g sc (va_up (va_up ar 10 (fa_fill (fun _ => (-2)) (ar 10) 4096)) 11 (fa_fill (fun _ => (-1)) (ar 11) 13)))) (av := [.ref (g 15), .int (nI s), .int 0]) (rest := []) (pc' := 23) (fC cI g) F E hA (fun _ h => h) id (jsubA_rf _) (fun _ => jOver_rf _ _ _) (fun H locs hI hp => jrun_V (As := [.int (nI s), .int 0]) 15 F E (c_X0_put l D cI cZ z g sc (va_up (va_up ar 10 (fa_fill (fun _ => (-2)) (ar 10) 4096)) 11 (fa_fill (fun _ => (-1)) (ar 11) 13)) (nI s) 0 H.size) kw_484 kw_485 kw_486 rfl kw_487 kw_5 oX0_put ⟨⟨rfl, rfl⟩, ⟨Nat.le_of_ble_eq_true rfl, Nat.le_of_ble_eq_true rfl⟩, Nat.zero_le _, Nat.zero_le _⟩ rfl rfl (Nat.le_of_ble_eq_true rfl) dX0_leastFrom_20 rfl rfl (jI_P E hI) hp) rfl (fun ur20 hr20 => ?_)
  subst hr20
  have hp0 : fX0_put sc (va_up (va_up ar 10 (fa_fill (fun _ => (-2)) (ar 10) 4096)) 11 (fa_fill (fun _ => (-1)) (ar 11) 13)) (nI s) 0 = _ := put5 (j := 0) hss (by decide)
  rw [if_pos (show (va_up (va_up ar 10 (fa_fill (fun _ => (-2)) (ar 10) 4096)) 11 (fa_fill (fun _ => (-1)) (ar 11) 13)) 10 s = -2 from fill_in hss)] at hp0
  refine J_ws (ws' := (wC cI g sc (va_up (va_up (va_up (va_up ar 10 (fa_fill (fun _ => (-2)) (ar 10) 4096)) 11 (fa_fill (fun _ => (-1)) (ar 11) 13)) 10 (upd (fa_fill (fun _ => (-2)) (ar 10) 4096) s ((fa_fill (fun _ => (-1)) (ar 11) 13) 0))) 11 (upd (fa_fill (fun _ => (-1)) (ar 11) 13) 0 (nI s))))) (by rw [hp0]; rfl) ?_
  refine J_iconst (pc' := 24) (v := 0) F dX0_leastFrom_23 (by decide) rfl ?_
  refine J_istore_n (pc' := 25) [1, 2, 3, 0] [(0, .ref (g 15)), (1, .ref (g 2)), (2, .int (nI s)), (3, .int 0)] F dX0_leastFrom_24 rfl (jL_of E (show 3 < 5 by decide)) rfl rfl ?_
  have L25 : ∀ (N25 : Nat) (b : Nat) (ar1 : Nat → Nat → Int32) (L1 : Nat → List Nat) (pd1 : Nat → Bool) (lv1 : Nat → Nat), b ≤ 13 → frE ar ar1 → FI (hk kd) li s (ar1 10) (ar1 11) L1 pd1 lv1 b → 13 - b < N25 → J X true 0 0 25 [(0, .ref (g 15)), (1, .ref (g 2)), (3, .int (nI b))] [] (wC cI g sc ar1) := by
    intro N25
    induction N25 with
    | zero => intro _ _ _ _ _ _ _ _ hm; exact absurd hm (Nat.not_lt_zero _)
    | succ N25 ih25 =>
      intro b ar1 L1 pd1 lv1 hb13 hfr hFI hm25
      refine J_iload_n (pc' := 26) (q := 2) F dX0_leastFrom_25 rfl rfl ?_
      refine J_aload_n (pc' := 27) (q := 0) F dX0_leastFrom_26 rfl rfl ?_
      refine C_get_15_1 (pc' := 30) F dX0_leastFrom_27 kw_137 rfl ?_
      refine C_len_11 (pc' := 31) F dX0_leastFrom_30 rfl ?_
      refine J_icmp_ge (tgt := 84) (pc' := 34) F dX0_leastFrom_31 (by decide) rfl (fun kq31 => ?_) (fun kq31 => ?_)
      · refine J_iconst (pc' := 85) (v := (-1)) F dX0_leastFrom_84 (by decide) rfl ?_
        exact J_iretW (sc, ar1) F hR dX0_leastFrom_85 rfl rfl ⟨ar1, rfl, hfr, Or.inr ⟨rfl, fun j hj => hFI.none (by have := (nI_leI (a := 13) (b := b) (by decide) (by omega)).mp kq31; omega)⟩⟩
      · have hb1 : b < 13 := jin_lt (by decide) hb13 kq31
        refine J_iconst (pc' := 35) (v := 0) F dX0_leastFrom_34 (by decide) rfl ?_
        refine J_istore (pc' := 37) [1, 2, 3, 0] [(0, .ref (g 15)), (1, .ref (g 2)), (3, .int (nI b)), (4, .int 0)] F dX0_leastFrom_35 (jL_of E (show 4 < 5 by decide)) rfl rfl ?_
        have L37 : ∀ (N37 : Nat) (i : Nat) (ar2 : Nat → Nat → Int32) (L2 : Nat → List Nat) (pd2 : Nat → Bool) (lv2 : Nat → Nat), i ≤ 4096 → frE ar ar2 → FI (hk kd) li s (ar2 10) (ar2 11) L2 pd2 lv2 b → i ≤ fb_ct pd2 4096 → 4096 - i < N37 → J X true 0 0 37 [(0, .ref (g 15)), (1, .ref (g 2)), (3, .int (nI b)), (4, .int (nI i))] [] (wC cI g sc ar2) := by
          intro N37
          induction N37 with
          | zero => intro _ _ _ _ _ _ _ _ _ hm; exact absurd hm (Nat.not_lt_zero _)
          | succ N37 ih37 =>
            intro i ar2 L2 pd2 lv2 hi4 hfr2 hFI2 hct hm37
            refine J_iload (pc' := 39) (q := 3) F dX0_leastFrom_37 rfl rfl ?_
            refine J_sipush (pc' := 42) (v := 4096) F dX0_leastFrom_39 (by decide) rfl ?_
            refine J_icmp_ge (tgt := 78) (pc' := 45) F dX0_leastFrom_42 (by decide) rfl (fun kq42 => ?_) (fun kq42 => ?_)
            · refine J_iinc (v := nI (b + 1)) (q := 2) (pc' := 81) [1, 2, 0, 3] [(0, .ref (g 15)), (1, .ref (g 2)), (3, .int (nI (b + 1))), (4, .int (nI i))] F dX0_leastFrom_78 rfl (nI_inc b) (jL_of E (show 3 < 5 by decide)) rfl rfl ?_
              refine J_goto (tgt := 25) F dX0_leastFrom_81 (by decide) ?_
              refine J_lv [0, 1, 2] (lv' := [(0, .ref (g 15)), (1, .ref (g 2)), (3, .int (nI (b + 1)))]) rfl ?_
              exact ih25 (b + 1) ar2 L2 pd2 lv2 (by omega) hfr2 (hFI2.up hb1 (hFI2.full hb1 (by have := (nI_leI (a := 4096) (b := i) (by decide) (by omega)).mp kq42; omega))) (by omega)
            · have hi1 : i < 4096 := jin_lt (by decide) hi4 kq42
              refine J_aload_n (pc' := 46) (q := 0) F dX0_leastFrom_45 rfl rfl ?_
              refine C_get_15_1 (pc' := 49) F dX0_leastFrom_46 kw_137 rfl ?_
              refine J_iload_n (pc' := 50) (q := 2) F dX0_leastFrom_49 rfl rfl ?_
              refine C_ld_11 (f := ar2 11) (q := b) (pc' := 51) F dX0_leastFrom_50 rfl (nI_clamp (by omega)) (vp_in_nI hb1 (by decide)) rfl ?_
              refine J_iconst (pc' := 52) (v := (-1)) F dX0_leastFrom_51 (by decide) rfl ?_
              refine J_icmp_eq (tgt := 78) (pc' := 55) F dX0_leastFrom_52 (by decide) rfl (fun kq52 => ?_) (fun kq52 => ?_)
              · refine J_iinc (v := nI (b + 1)) (q := 2) (pc' := 81) [1, 2, 0, 3] [(0, .ref (g 15)), (1, .ref (g 2)), (3, .int (nI (b + 1))), (4, .int (nI i))] F dX0_leastFrom_78 rfl (nI_inc b) (jL_of E (show 3 < 5 by decide)) rfl rfl ?_
                refine J_goto (tgt := 25) F dX0_leastFrom_81 (by decide) ?_
                refine J_lv [0, 1, 2] (lv' := [(0, .ref (g 15)), (1, .ref (g 2)), (3, .int (nI (b + 1)))]) rfl ?_
                exact ih25 (b + 1) ar2 L2 pd2 lv2 (by omega) hfr2 (hFI2.up hb1 kq52) (by omega)
              · refine J_aload_n (pc' := 56) (q := 0) F dX0_leastFrom_55 rfl rfl ?_
                refine C_get_15_1 (pc' := 59) F dX0_leastFrom_56 kw_137 rfl ?_
                refine J_iload_n (pc' := 60) (q := 2) F dX0_leastFrom_59 rfl rfl ?_
                refine C_ld_11 (f := ar2 11) (q := b) (pc' := 61) F dX0_leastFrom_60 rfl (nI_clamp (by omega)) (vp_in_nI hb1 (by decide)) rfl ?_
                refine J_if_ne (tgt := 66) (pc' := 64) F dX0_leastFrom_61 (by decide) rfl (fun kq61 => ?_) (fun kq61 => ?_)
                · refine J_aload_n (pc' := 67) (q := 0) F dX0_leastFrom_66 rfl rfl ?_
                  refine J_aload_n (pc' := 68) (q := 1) F dX0_leastFrom_67 rfl rfl ?_
                  refine J_iload_n (pc' := 69) (q := 2) F dX0_leastFrom_68 rfl rfl ?_
                  refine J_goWv (wf := (fC cI g)) (w0 := (wC cI g sc ar2)) (av := [.ref (g 15), .ref (g 2), .int (nI b)]) (rest := []) (pc' := 72) (fC cI g) F E hA (fun _ h => h) id (jsubA_rf _) (fun _ => jOver_rf _ _ _) (fun H locs hI hp => jrun_V (As := [.ref (g 2), .int (nI b)]) 15 F E (c_X0_leaveHead l D cI cZ z g sc ar2 kd li s b L2 pd2 lv2 (hfr2.CH hC) hb1 hFI2 kq52 kq61 H.size) kw_488 kw_489 kw_490 rfl kw_491 kw_5 oX0_leaveHead ⟨⟨rfl, rfl⟩, ⟨Nat.le_of_ble_eq_true rfl, Nat.le_of_ble_eq_true rfl⟩, Nat.zero_le _, Nat.zero_le _⟩ rfl rfl (Nat.le_of_ble_eq_true rfl) dX0_leastFrom_69 rfl rfl (jI_P E hI) hp) rfl (fun ur69 hr69 => ?_)
                  obtain ⟨ar3, L3, pd3, lv3, rfl, hfr3, hFI3, hct3⟩ := hr69
                  refine J_ws (ws' := (wC cI g sc ar3)) rfl ?_
                  refine J_iinc (v := nI (i + 1)) (q := 3) (pc' := 75) [1, 2, 3, 0] [(0, .ref (g 15)), (1, .ref (g 2)), (3, .int (nI b)), (4, .int (nI (i + 1)))] F dX0_leastFrom_72 rfl (nI_inc i) (jL_of E (show 4 < 5 by decide)) rfl rfl ?_
                  refine J_goto (tgt := 37) F dX0_leastFrom_75 (by decide) ?_
                  exact ih37 (i + 1) ar3 L3 pd3 lv3 (by omega) (fun j h1 h2 => (hfr3 j h1 h2).trans (hfr2 j h1 h2)) hFI3 (by omega) (by omega)
                · refine J_iload_n (pc' := 65) (q := 2) F dX0_leastFrom_64 rfl rfl ?_
                  exact J_iretW (sc, ar2) F hR dX0_leastFrom_65 rfl rfl ⟨ar2, rfl, hfr2, hFI2.found hb1 kq61⟩
        exact L37 _ 0 ar1 L1 pd1 lv1 (Nat.zero_le _) hfr hFI (Nat.zero_le _) (Nat.lt_succ_self _)
  refine J_lv [0, 1, 3] (lv' := [(0, .ref (g 15)), (1, .ref (g 2)), (3, .int 0)]) rfl ?_
  exact L25 _ 0 (va_up (va_up (va_up (va_up ar 10 (fa_fill (fun _ => (-2)) (ar 10) 4096)) 11 (fa_fill (fun _ => (-1)) (ar 11) 13)) 10 (upd (fa_fill (fun _ => (-2)) (ar 10) 4096) s ((fa_fill (fun _ => (-1)) (ar 11) 13) 0))) 11 (upd (fa_fill (fun _ => (-1)) (ar 11) 13) 0 (nI s))) (va_up (fun _ => ([] : List Nat)) 0 [s]) (fun _ => false) (fun _ => 0) (by decide) (fun k h1 h2 => by rw [va_un h2, va_un h1, va_un h2, va_un h1]) (FI.start hss (fun n hn => fill_in hn) (fun j hj => fill_in hj)) (Nat.lt_succ_self _)
