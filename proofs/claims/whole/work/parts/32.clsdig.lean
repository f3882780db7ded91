/-! the class's digest -/
theorem wOut {sc : Nat → Int32} {ar : Nat → Nat → Int32} {h : Int64} {F : Nat × Nat × Int32} (h18 : sc 18 = nI (ctD (ar 6))) (h24 : sc 24 = nI F.1) (h25 : sc 25 = nI F.2.1) (h26 : sc 26 = F.2.2) : zX5_withOutlook sc ar h = syH h (ar 6) (ar 7) (sc 19) F := by
  unfold zX5_withOutlook syH
  rw [h18, h24, h25, h26]
  rfl
theorem frN.fit {sc sc1 sc2 : Nat → Int32} {ar ar1 : Nat → Nat → Int32} (h : frN sc ar sc1 ar1) (hf : frF sc1 sc2) : frN sc ar sc2 ar1 := ⟨fun j hj => (hf j (by omega)).trans (h.1 j hj), h.2⟩
theorem i32_nlt {a b : Int32} (h : ¬ a < b) : b ≤ a := by rw [fa_le]; rw [fa_lt] at h; omega
abbrev rm_X5_digest : Room := { frames := 9, cells := 0, slots := 0, locals := 268 }
set_option maxHeartbeats 4000000 in
set_option maxRecDepth 100000 in
theorem c_X5_digest (l : Launch) (D : va_G) (cI cZ : ClassId) (z : Nat → Nat) (g : Nat → Nat) (sc : Nat → Int32) (ar : Nat → Nat → Int32) (kd : Nat → Nat) (li s be : Nat) (hC : ¬ sc 1 = 0 → CH sc ar kd li) (hsv : sc 7 = nI s) (hss : s < 4096) (hbe : be < 2 ^ 31) (hbn : zX5_bendNow sc ar = nI be) (hKC : KC sc ar kd li) (bs : Nat → Nat) (T : Nat) (hSH : SH (sc 11) (ar 4) bs T) (Pn : Nat) (hP : sc 0 = nI Pn) (hP16 : Pn ≤ 16) : cWl l yX5_digest ww_X5_digest rm_X5_digest D cI cZ z (fC cI g) (wC cI g sc ar) [.ref (g 0)] (fun r v => ∃ sc1 ar1 Hq, v = (sc1, ar1) ∧ frN sc ar sc1 ar1 ∧ KC sc1 ar1 kd li ∧ ((sc 1 = 0 → Hq = 829) ∧ (¬ sc 1 = 0 → ∃ m f x, Sol (goN (hk kd) li be) (wtN kd) s m f ∧ IsMost m s x ∧ Hq = syH (zX5_withActs sc1 ar1 (zX5_withLighter sc1 ar1 829)) m f x (fit3 (goN (hk kd) li be) bs T s))) ∧ r = dig (fun k9 => zX5_count sc1 ar1 (nI k9)) 10 (dig (ar1 0) Pn Hq)) := by
  refine cWl.of (cc := cX5_digest) (maxL := 4) (by decide) rfl (Nat.le_of_ble_eq_true rfl) (fun X F E hA hR => ?_)
  refine J_lv [0] (lv' := [(0, .ref (g 0))]) rfl ?_
  refine J_ldc2 (pc' := 3) (v := 829) F dX5_digest_0 kw_554 rfl ?_
  refine J_lstore_n (pc' := 4) [1, 0] [(0, .ref (g 0)), (1, .long 829)] F dX5_digest_3 rfl (jL_of E (show 1 + 1 < 4 by decide)) rfl rfl ?_
  refine J_aload_n (pc' := 5) (q := 0) F dX5_digest_4 rfl rfl ?_
  refine C_get_0_3 (v := sc 1) (pc' := 8) F dX5_digest_5 kw_165 rfl rfl ?_
  refine J_if_eq (tgt := 37) (pc' := 11) F dX5_digest_8 (by decide) rfl (fun kq8 => ?_) (fun kq8 => ?_)
  · refine J_iconst (pc' := 38) (v := 0) F dX5_digest_37 (by decide) rfl ?_
    refine J_istore_n (pc' := 39) [1, 2, 0] [(0, .ref (g 0)), (1, .long 829), (3, .int 0)] F dX5_digest_38 rfl (jL_of E (show 3 < 4 by decide)) rfl rfl ?_
    have L39 : ∀ (N39 : Nat) (k : Nat) (sc1 : Nat → Int32) (ar1 : Nat → Nat → Int32) (Hq : Int64), k ≤ Pn → frN sc ar sc1 ar1 → KC sc1 ar1 kd li → ((sc 1 = 0 → Hq = 829) ∧ (¬ sc 1 = 0 → ∃ m f x, Sol (goN (hk kd) li be) (wtN kd) s m f ∧ IsMost m s x ∧ Hq = syH (zX5_withActs sc1 ar1 (zX5_withLighter sc1 ar1 829)) m f x (fit3 (goN (hk kd) li be) bs T s))) → Pn - k < N39 → J X true 0 0 39 [(0, .ref (g 0)), (1, .long (dig (ar1 0) k Hq)), (3, .int (nI k))] [] (wC cI g sc1 ar1) := by
      intro N39
      induction N39 with
      | zero => intro _ _ _ _ _ _ _ _ hm; exact absurd hm (Nat.not_lt_zero _)
      | succ N39 ih39 =>
        intro k sc1 ar1 Hq hkP hfg hKK hQ hm39
        refine J_iload_n (pc' := 40) (q := 2) F dX5_digest_39 rfl rfl ?_
        refine J_aload_n (pc' := 41) (q := 0) F dX5_digest_40 rfl rfl ?_
        refine C_get_0_1 (v := sc1 0) (pc' := 44) F dX5_digest_41 kw_163 rfl rfl ?_
        refine J_vali (y := nI Pn) (by rw [hfg.1 0 (by decide)]; exact hP) ?_
        refine J_icmp_ge (tgt := 76) (pc' := 47) F dX5_digest_44 (by decide) rfl (fun kq44 => ?_) (fun kq44 => ?_)
        · have ek : Pn = k := by have := (nI_leI (by omega) (by omega)).mp kq44; omega
          subst ek
          refine J_iconst (pc' := 77) (v := 0) F dX5_digest_76 (by decide) rfl ?_
          refine J_istore_n (pc' := 78) [1, 2, 0] [(0, .ref (g 0)), (1, .long (dig (ar1 0) Pn Hq)), (3, .int 0)] F dX5_digest_77 rfl (jL_of E (show 3 < 4 by decide)) rfl rfl ?_
          have L78 : ∀ (N78 : Nat) (j : Nat), j ≤ 10 → 10 - j < N78 → J X true 0 0 78 [(0, .ref (g 0)), (1, .long (dig (fun k9 => zX5_count sc1 ar1 (nI k9)) j (dig (ar1 0) Pn Hq))), (3, .int (nI j))] [] (wC cI g sc1 ar1) := by
            intro N78
            induction N78 with
            | zero => intro _ _ hm; exact absurd hm (Nat.not_lt_zero _)
            | succ N78 ih78 =>
              intro j hj10 hm78
              refine J_iload_n (pc' := 79) (q := 2) F dX5_digest_78 rfl rfl ?_
              refine J_bipush (pc' := 81) (v := 9) F dX5_digest_79 (by decide) rfl ?_
              refine J_icmp_gt (tgt := 103) (pc' := 84) F dX5_digest_81 (by decide) rfl (fun kq81 => ?_) (fun kq81 => ?_)
              · refine J_lload_n (pc' := 104) (q := 1) F dX5_digest_103 rfl rfl ?_
                have ej : j = 10 := by
                  rcases Nat.lt_or_ge j 10 with q | q
                  · exact absurd (show ¬ (9 : Int32) < nI j from nI_nlt (a := 9) (by omega) (by decide)) (by first | exact (fun q9 => q9 kq81) | exact (fun q9 => kq81 (i32_nlt q9)))
                  · omega
                subst ej
                exact J_lretW (sc1, ar1) F hR dX5_digest_104 rfl ⟨sc1, ar1, Hq, rfl, hfg, hKK, hQ, rfl⟩
              · have hjj : j < 10 := by
                  rcases Nat.lt_or_ge j 10 with q | q
                  · exact q
                  · exact absurd (show (9 : Int32) < nI j from nI_lt (a := 9) (by omega) (by omega)) (by assumption)
                refine J_ldc2 (pc' := 87) (v := 31) F dX5_digest_84 kw_559 rfl ?_
                refine J_lload_n (pc' := 88) (q := 1) F dX5_digest_87 rfl rfl ?_
                refine J_lmul (pc' := 89) F dX5_digest_88 rfl ?_
                refine J_aload_n (pc' := 90) (q := 0) F dX5_digest_89 rfl rfl ?_
                refine J_iload_n (pc' := 91) (q := 2) F dX5_digest_90 rfl rfl ?_
                refine J_goRie (wc := (wC cI g sc1 ar1)) (av := [.ref (g 0), .int (nI j)]) (rest := [.long (31 * (dig (fun k9 => zX5_count sc1 ar1 (nI k9)) j (dig (ar1 0) Pn Hq)))]) (v := zX5_count sc1 ar1 (nI j)) (pc' := 94) F E (fun _ h => h) (fun H locs hI hp => jrun_V (As := [.int (nI j)]) 0 F E (c_X5_count l D cI cZ z g sc1 ar1 (nI j)) kw_572 kw_547 kw_548 rfl kw_549 kw_1 oX5_count ⟨⟨rfl, rfl⟩, ⟨Nat.le_of_ble_eq_true rfl, Nat.le_of_ble_eq_true rfl⟩, Nat.zero_le _, Nat.zero_le _⟩ rfl rfl (Nat.le_of_ble_eq_true rfl) dX5_digest_91 rfl rfl (jI_P E hI) hp) rfl ?_
                refine J_i2l (pc' := 95) (v := ((zX5_count sc1 ar1 (nI j)) : Int32).toInt64) F dX5_digest_94 rfl rfl ?_
                refine J_ladd (pc' := 96) F dX5_digest_95 rfl ?_
                refine J_lstore_n (pc' := 97) [1, 0, 2] [(0, .ref (g 0)), (1, .long ((31 * (dig (fun k9 => zX5_count sc1 ar1 (nI k9)) j (dig (ar1 0) Pn Hq))) + (((zX5_count sc1 ar1 (nI j)) : Int32).toInt64))), (3, .int (nI j))] F dX5_digest_96 rfl (jL_of E (show 1 + 1 < 4 by decide)) rfl rfl ?_
                refine J_iinc (v := nI (j + 1)) (q := 2) (pc' := 100) [1, 2, 0] [(0, .ref (g 0)), (1, .long ((31 * (dig (fun k9 => zX5_count sc1 ar1 (nI k9)) j (dig (ar1 0) Pn Hq))) + (((zX5_count sc1 ar1 (nI j)) : Int32).toInt64))), (3, .int (nI (j + 1)))] F dX5_digest_97 rfl (nI_inc j) (jL_of E (show 3 < 4 by decide)) rfl rfl ?_
                refine J_goto (tgt := 78) F dX5_digest_100 (by decide) ?_
                exact ih78 (j + 1) (by omega) (by omega)
          exact L78 _ 0 (Nat.zero_le _) (Nat.lt_succ_self _)
        · have hkk : k < Pn := by
            rcases Nat.lt_or_ge k Pn with q | q
            · exact q
            · exact absurd (nI_le q (by omega)) kq44
          refine J_iload_n (pc' := 48) (q := 2) F dX5_digest_47 rfl rfl ?_
          refine J_aload_n (pc' := 49) (q := 0) F dX5_digest_48 rfl rfl ?_
          refine C_get_0_0 (pc' := 52) F dX5_digest_49 kw_162 rfl ?_
          refine C_len_0 (pc' := 53) F dX5_digest_52 rfl ?_
          refine J_icmp_ge (tgt := 76) (pc' := 56) F dX5_digest_53 (by decide) rfl (fun kq53 => False.elim ((show ¬ (16 : Int32) ≤ nI k from nI_ge (b := 16) (by omega) (by decide)) kq53)) (fun kq53 => ?_)
          refine J_ldc2 (pc' := 59) (v := 31) F dX5_digest_56 kw_559 rfl ?_
          refine J_lload_n (pc' := 60) (q := 1) F dX5_digest_59 rfl rfl ?_
          refine J_lmul (pc' := 61) F dX5_digest_60 rfl ?_
          refine J_aload_n (pc' := 62) (q := 0) F dX5_digest_61 rfl rfl ?_
          refine C_get_0_0 (pc' := 65) F dX5_digest_62 kw_162 rfl ?_
          refine J_iload_n (pc' := 66) (q := 2) F dX5_digest_65 rfl rfl ?_
          refine C_ld_0 (f := ar1 0) (q := k) (pc' := 67) F dX5_digest_66 rfl (nI_clamp (by omega)) (vp_in_nI (by omega) (by decide)) rfl ?_
          refine J_i2l (pc' := 68) (v := (((ar1 0) k) : Int32).toInt64) F dX5_digest_67 rfl rfl ?_
          refine J_ladd (pc' := 69) F dX5_digest_68 rfl ?_
          refine J_lstore_n (pc' := 70) [1, 0, 2] [(0, .ref (g 0)), (1, .long ((31 * (dig (ar1 0) k Hq)) + ((((ar1 0) k) : Int32).toInt64))), (3, .int (nI k))] F dX5_digest_69 rfl (jL_of E (show 1 + 1 < 4 by decide)) rfl rfl ?_
          refine J_iinc (v := nI (k + 1)) (q := 2) (pc' := 73) [1, 2, 0] [(0, .ref (g 0)), (1, .long ((31 * (dig (ar1 0) k Hq)) + ((((ar1 0) k) : Int32).toInt64))), (3, .int (nI (k + 1)))] F dX5_digest_70 rfl (nI_inc k) (jL_of E (show 3 < 4 by decide)) rfl rfl ?_
          refine J_goto (tgt := 39) F dX5_digest_73 (by decide) ?_
          exact ih39 (k + 1) sc1 ar1 Hq (by omega) hfg hKK hQ (by omega)
    exact L39 _ 0 sc ar 829 (Nat.zero_le _) (frN.rf sc ar) hKC ⟨fun _ => rfl, fun q => absurd kq8 q⟩ (Nat.lt_succ_self _)
  · refine J_aload_n (pc' := 12) (q := 0) F dX5_digest_11 rfl rfl ?_
    refine J_goWv (wf := (fC cI g)) (w0 := (wC cI g sc ar)) (av := [.ref (g 0)]) (rest := []) (pc' := 15) (fC cI g) F E hA (fun _ h => h) id (jsubA_rf _) (fun _ => jOver_rf _ _ _) (fun H locs hI hp => jrun_V (As := []) 0 F E (c_X5_lookAhead l D cI cZ z g sc ar kd li s be (hC kq8) hsv hss hbe hbn hKC H.size) kw_441 kw_443 kp_4 rfl kw_444 kw_1 oX5_lookAhead ⟨⟨rfl, rfl⟩, ⟨Nat.le_of_ble_eq_true rfl, Nat.le_of_ble_eq_true rfl⟩, Nat.zero_le _, Nat.zero_le _⟩ rfl rfl (Nat.le_of_ble_eq_true rfl) dX5_digest_12 rfl rfl (jI_P E hI) hp) rfl (fun ur12 hr12 => ?_)
    obtain ⟨sc3, ar3⟩ := ur12
    refine J_ws (ws' := (wC cI g sc3 ar3)) rfl ?_
    obtain ⟨hfn, h27, hO, hK⟩ := hr12
    have hfn : frN sc ar sc3 ar3 := hfn
    have hO : OutOK (goN (hk kd) li be) (wtN kd) s sc3 ar3 := hO
    have hK : KC sc3 ar3 kd li := hK
    refine J_aload_n (pc' := 16) (q := 0) F dX5_digest_15 rfl rfl ?_
    refine J_goWv (wf := (fC cI g)) (w0 := (wC cI g sc3 ar3)) (av := [.ref (g 0)]) (rest := []) (pc' := 19) (fC cI g) F E hA (fun _ h => h) id (jsubA_rf _) (fun _ => jOver_rf _ _ _) (fun H locs hI hp => jrun_V (As := []) 0 F E (c_X5_lookBack l D cI cZ z g sc3 ar3 kd li s be (hfn.CH (hC kq8)) (by rw [hfn.1 7 (by decide)]; exact hsv) hss hbe (hfn.bend.trans hbn) bs T (by rw [hfn.1 11 (by decide), hfn.2 4 (by decide)]; exact hSH) H.size) kw_509 kw_511 kp_5 rfl kw_512 kw_1 oX5_lookBack ⟨⟨rfl, rfl⟩, ⟨Nat.le_of_ble_eq_true rfl, Nat.le_of_ble_eq_true rfl⟩, Nat.zero_le _, Nat.zero_le _⟩ rfl rfl (Nat.le_of_ble_eq_true rfl) dX5_digest_16 rfl rfl (jI_P E hI) hp) rfl (fun ur16 hr16 => ?_)
    obtain ⟨sc4, ar4⟩ := ur16
    obtain ⟨hq1, hff, h24, h25, h26⟩ := hr16
    have hff : frF sc3 sc4 := hff
    have hq2 : ar4 = ar3 := hq1
    clear hq1
    subst hq2
    refine J_ws (ws' := (wC cI g sc4 ar4)) rfl ?_
    have h18 : sc4 18 = nI (ctD (ar4 6)) := by rw [hff 18 (by decide)]; exact hO.2.1
    refine J_aload_n (pc' := 20) (q := 0) F dX5_digest_19 rfl rfl ?_
    refine J_lload_n (pc' := 21) (q := 1) F dX5_digest_20 rfl rfl ?_
    refine J_goRle (wc := (wC cI g sc4 ar4)) (av := [.ref (g 0), .long 829]) (rest := []) (v := zX5_withLighter sc4 ar4 829) (pc' := 24) F E (fun _ h => h) (fun H locs hI hp => jrun_V (As := [.long 829]) 0 F E (c_X5_withLighter l D cI cZ z g sc4 ar4 829) kw_555 kw_557 kp_6 rfl kw_558 kw_1 oX5_withLighter ⟨⟨rfl, rfl⟩, ⟨Nat.le_of_ble_eq_true rfl, Nat.le_of_ble_eq_true rfl⟩, Nat.zero_le _, Nat.zero_le _⟩ rfl rfl (Nat.le_of_ble_eq_true rfl) dX5_digest_21 rfl rfl (jI_P E hI) hp) rfl ?_
    refine J_lstore_n (pc' := 25) [1, 0] [(0, .ref (g 0)), (1, .long (zX5_withLighter sc4 ar4 829))] F dX5_digest_24 rfl (jL_of E (show 1 + 1 < 4 by decide)) rfl rfl ?_
    refine J_aload_n (pc' := 26) (q := 0) F dX5_digest_25 rfl rfl ?_
    refine J_lload_n (pc' := 27) (q := 1) F dX5_digest_26 rfl rfl ?_
    refine J_goRle (wc := (wC cI g sc4 ar4)) (av := [.ref (g 0), .long (zX5_withLighter sc4 ar4 829)]) (rest := []) (v := zX5_withActs sc4 ar4 (zX5_withLighter sc4 ar4 829)) (pc' := 30) F E (fun _ h => h) (fun H locs hI hp => jrun_V (As := [.long (zX5_withLighter sc4 ar4 829)]) 0 F E (c_X5_withActs l D cI cZ z g sc4 ar4 (zX5_withLighter sc4 ar4 829)) kw_562 kw_564 kp_7 rfl kw_565 kw_1 oX5_withActs ⟨⟨rfl, rfl⟩, ⟨Nat.le_of_ble_eq_true rfl, Nat.le_of_ble_eq_true rfl⟩, Nat.zero_le _, Nat.zero_le _⟩ rfl rfl (Nat.le_of_ble_eq_true rfl) dX5_digest_27 rfl rfl (jI_P E hI) hp) rfl ?_
    refine J_lstore_n (pc' := 31) [1, 0] [(0, .ref (g 0)), (1, .long (zX5_withActs sc4 ar4 (zX5_withLighter sc4 ar4 829)))] F dX5_digest_30 rfl (jL_of E (show 1 + 1 < 4 by decide)) rfl rfl ?_
    refine J_aload_n (pc' := 32) (q := 0) F dX5_digest_31 rfl rfl ?_
    refine J_lload_n (pc' := 33) (q := 1) F dX5_digest_32 rfl rfl ?_
    refine J_goRle (wc := (wC cI g sc4 ar4)) (av := [.ref (g 0), .long (zX5_withActs sc4 ar4 (zX5_withLighter sc4 ar4 829))]) (rest := []) (v := zX5_withOutlook sc4 ar4 (zX5_withActs sc4 ar4 (zX5_withLighter sc4 ar4 829))) (pc' := 36) F E (fun _ h => h) (fun H locs hI hp => jrun_V (As := [.long (zX5_withActs sc4 ar4 (zX5_withLighter sc4 ar4 829))]) 0 F E (c_X5_withOutlook l D cI cZ z g sc4 ar4 (zX5_withActs sc4 ar4 (zX5_withLighter sc4 ar4 829))) kw_568 kw_570 kp_8 rfl kw_571 kw_1 oX5_withOutlook ⟨⟨rfl, rfl⟩, ⟨Nat.le_of_ble_eq_true rfl, Nat.le_of_ble_eq_true rfl⟩, Nat.zero_le _, Nat.zero_le _⟩ rfl rfl (Nat.le_of_ble_eq_true rfl) dX5_digest_33 rfl rfl (jI_P E hI) hp) rfl ?_
    refine J_lstore_n (pc' := 37) [1, 0] [(0, .ref (g 0)), (1, .long (zX5_withOutlook sc4 ar4 (zX5_withActs sc4 ar4 (zX5_withLighter sc4 ar4 829))))] F dX5_digest_36 rfl (jL_of E (show 1 + 1 < 4 by decide)) rfl rfl ?_
    refine J_iconst (pc' := 38) (v := 0) F dX5_digest_37 (by decide) rfl ?_
    refine J_istore_n (pc' := 39) [1, 2, 0] [(0, .ref (g 0)), (1, .long (zX5_withOutlook sc4 ar4 (zX5_withActs sc4 ar4 (zX5_withLighter sc4 ar4 829)))), (3, .int 0)] F dX5_digest_38 rfl (jL_of E (show 3 < 4 by decide)) rfl rfl ?_
    have L39 : ∀ (N39 : Nat) (k : Nat) (sc1 : Nat → Int32) (ar1 : Nat → Nat → Int32) (Hq : Int64), k ≤ Pn → frN sc ar sc1 ar1 → KC sc1 ar1 kd li → ((sc 1 = 0 → Hq = 829) ∧ (¬ sc 1 = 0 → ∃ m f x, Sol (goN (hk kd) li be) (wtN kd) s m f ∧ IsMost m s x ∧ Hq = syH (zX5_withActs sc1 ar1 (zX5_withLighter sc1 ar1 829)) m f x (fit3 (goN (hk kd) li be) bs T s))) → Pn - k < N39 → J X true 0 0 39 [(0, .ref (g 0)), (1, .long (dig (ar1 0) k Hq)), (3, .int (nI k))] [] (wC cI g sc1 ar1) := by
      intro N39
      induction N39 with
      | zero => intro _ _ _ _ _ _ _ _ hm; exact absurd hm (Nat.not_lt_zero _)
      | succ N39 ih39 =>
        intro k sc1 ar1 Hq hkP hfg hKK hQ hm39
        refine J_iload_n (pc' := 40) (q := 2) F dX5_digest_39 rfl rfl ?_
        refine J_aload_n (pc' := 41) (q := 0) F dX5_digest_40 rfl rfl ?_
        refine C_get_0_1 (v := sc1 0) (pc' := 44) F dX5_digest_41 kw_163 rfl rfl ?_
        refine J_vali (y := nI Pn) (by rw [hfg.1 0 (by decide)]; exact hP) ?_
        refine J_icmp_ge (tgt := 76) (pc' := 47) F dX5_digest_44 (by decide) rfl (fun kq44_2 => ?_) (fun kq44_2 => ?_)
        · have ek : Pn = k := by have := (nI_leI (by omega) (by omega)).mp kq44_2; omega
          subst ek
          refine J_iconst (pc' := 77) (v := 0) F dX5_digest_76 (by decide) rfl ?_
          refine J_istore_n (pc' := 78) [1, 2, 0] [(0, .ref (g 0)), (1, .long (dig (ar1 0) Pn Hq)), (3, .int 0)] F dX5_digest_77 rfl (jL_of E (show 3 < 4 by decide)) rfl rfl ?_
          have L78 : ∀ (N78 : Nat) (j : Nat), j ≤ 10 → 10 - j < N78 → J X true 0 0 78 [(0, .ref (g 0)), (1, .long (dig (fun k9 => zX5_count sc1 ar1 (nI k9)) j (dig (ar1 0) Pn Hq))), (3, .int (nI j))] [] (wC cI g sc1 ar1) := by
            intro N78
            induction N78 with
            | zero => intro _ _ hm; exact absurd hm (Nat.not_lt_zero _)
            | succ N78 ih78 =>
              intro j hj10 hm78
              refine J_iload_n (pc' := 79) (q := 2) F dX5_digest_78 rfl rfl ?_
              refine J_bipush (pc' := 81) (v := 9) F dX5_digest_79 (by decide) rfl ?_
              refine J_icmp_gt (tgt := 103) (pc' := 84) F dX5_digest_81 (by decide) rfl (fun kq81_2 => ?_) (fun kq81_2 => ?_)
              · refine J_lload_n (pc' := 104) (q := 1) F dX5_digest_103 rfl rfl ?_
                have ej : j = 10 := by
                  rcases Nat.lt_or_ge j 10 with q | q
                  · exact absurd (show ¬ (9 : Int32) < nI j from nI_nlt (a := 9) (by omega) (by decide)) (by first | exact (fun q9 => q9 kq81_2) | exact (fun q9 => kq81_2 (i32_nlt q9)))
                  · omega
                subst ej
                exact J_lretW (sc1, ar1) F hR dX5_digest_104 rfl ⟨sc1, ar1, Hq, rfl, hfg, hKK, hQ, rfl⟩
              · have hjj : j < 10 := by
                  rcases Nat.lt_or_ge j 10 with q | q
                  · exact q
                  · exact absurd (show (9 : Int32) < nI j from nI_lt (a := 9) (by omega) (by omega)) (by assumption)
                refine J_ldc2 (pc' := 87) (v := 31) F dX5_digest_84 kw_559 rfl ?_
                refine J_lload_n (pc' := 88) (q := 1) F dX5_digest_87 rfl rfl ?_
                refine J_lmul (pc' := 89) F dX5_digest_88 rfl ?_
                refine J_aload_n (pc' := 90) (q := 0) F dX5_digest_89 rfl rfl ?_
                refine J_iload_n (pc' := 91) (q := 2) F dX5_digest_90 rfl rfl ?_
                refine J_goRie (wc := (wC cI g sc1 ar1)) (av := [.ref (g 0), .int (nI j)]) (rest := [.long (31 * (dig (fun k9 => zX5_count sc1 ar1 (nI k9)) j (dig (ar1 0) Pn Hq)))]) (v := zX5_count sc1 ar1 (nI j)) (pc' := 94) F E (fun _ h => h) (fun H locs hI hp => jrun_V (As := [.int (nI j)]) 0 F E (c_X5_count l D cI cZ z g sc1 ar1 (nI j)) kw_572 kw_547 kw_548 rfl kw_549 kw_1 oX5_count ⟨⟨rfl, rfl⟩, ⟨Nat.le_of_ble_eq_true rfl, Nat.le_of_ble_eq_true rfl⟩, Nat.zero_le _, Nat.zero_le _⟩ rfl rfl (Nat.le_of_ble_eq_true rfl) dX5_digest_91 rfl rfl (jI_P E hI) hp) rfl ?_
                refine J_i2l (pc' := 95) (v := ((zX5_count sc1 ar1 (nI j)) : Int32).toInt64) F dX5_digest_94 rfl rfl ?_
                refine J_ladd (pc' := 96) F dX5_digest_95 rfl ?_
                refine J_lstore_n (pc' := 97) [1, 0, 2] [(0, .ref (g 0)), (1, .long ((31 * (dig (fun k9 => zX5_count sc1 ar1 (nI k9)) j (dig (ar1 0) Pn Hq))) + (((zX5_count sc1 ar1 (nI j)) : Int32).toInt64))), (3, .int (nI j))] F dX5_digest_96 rfl (jL_of E (show 1 + 1 < 4 by decide)) rfl rfl ?_
                refine J_iinc (v := nI (j + 1)) (q := 2) (pc' := 100) [1, 2, 0] [(0, .ref (g 0)), (1, .long ((31 * (dig (fun k9 => zX5_count sc1 ar1 (nI k9)) j (dig (ar1 0) Pn Hq))) + (((zX5_count sc1 ar1 (nI j)) : Int32).toInt64))), (3, .int (nI (j + 1)))] F dX5_digest_97 rfl (nI_inc j) (jL_of E (show 3 < 4 by decide)) rfl rfl ?_
                refine J_goto (tgt := 78) F dX5_digest_100 (by decide) ?_
                exact ih78 (j + 1) (by omega) (by omega)
          exact L78 _ 0 (Nat.zero_le _) (Nat.lt_succ_self _)
        · have hkk : k < Pn := by
            rcases Nat.lt_or_ge k Pn with q | q
            · exact q
            · exact absurd (nI_le q (by omega)) kq44_2
          refine J_iload_n (pc' := 48) (q := 2) F dX5_digest_47 rfl rfl ?_
          refine J_aload_n (pc' := 49) (q := 0) F dX5_digest_48 rfl rfl ?_
          refine C_get_0_0 (pc' := 52) F dX5_digest_49 kw_162 rfl ?_
          refine C_len_0 (pc' := 53) F dX5_digest_52 rfl ?_
          refine J_icmp_ge (tgt := 76) (pc' := 56) F dX5_digest_53 (by decide) rfl (fun kq53_2 => False.elim ((show ¬ (16 : Int32) ≤ nI k from nI_ge (b := 16) (by omega) (by decide)) kq53_2)) (fun kq53_2 => ?_)
          refine J_ldc2 (pc' := 59) (v := 31) F dX5_digest_56 kw_559 rfl ?_
          refine J_lload_n (pc' := 60) (q := 1) F dX5_digest_59 rfl rfl ?_
          refine J_lmul (pc' := 61) F dX5_digest_60 rfl ?_
          refine J_aload_n (pc' := 62) (q := 0) F dX5_digest_61 rfl rfl ?_
          refine C_get_0_0 (pc' := 65) F dX5_digest_62 kw_162 rfl ?_
          refine J_iload_n (pc' := 66) (q := 2) F dX5_digest_65 rfl rfl ?_
          refine C_ld_0 (f := ar1 0) (q := k) (pc' := 67) F dX5_digest_66 rfl (nI_clamp (by omega)) (vp_in_nI (by omega) (by decide)) rfl ?_
          refine J_i2l (pc' := 68) (v := (((ar1 0) k) : Int32).toInt64) F dX5_digest_67 rfl rfl ?_
          refine J_ladd (pc' := 69) F dX5_digest_68 rfl ?_
          refine J_lstore_n (pc' := 70) [1, 0, 2] [(0, .ref (g 0)), (1, .long ((31 * (dig (ar1 0) k Hq)) + ((((ar1 0) k) : Int32).toInt64))), (3, .int (nI k))] F dX5_digest_69 rfl (jL_of E (show 1 + 1 < 4 by decide)) rfl rfl ?_
          refine J_iinc (v := nI (k + 1)) (q := 2) (pc' := 73) [1, 2, 0] [(0, .ref (g 0)), (1, .long ((31 * (dig (ar1 0) k Hq)) + ((((ar1 0) k) : Int32).toInt64))), (3, .int (nI (k + 1)))] F dX5_digest_70 rfl (nI_inc k) (jL_of E (show 3 < 4 by decide)) rfl rfl ?_
          refine J_goto (tgt := 39) F dX5_digest_73 (by decide) ?_
          exact ih39 (k + 1) sc1 ar1 Hq (by omega) hfg hKK hQ (by omega)
    exact L39 _ 0 sc4 ar4 (zX5_withOutlook sc4 ar4 (zX5_withActs sc4 ar4 (zX5_withLighter sc4 ar4 829))) (Nat.zero_le _) (hfn.fit hff) (hK.fit hff) ⟨fun q => absurd q kq8, fun _ => ⟨ar4 6, ar4 7, sc4 19, hO.1, (by rw [hff 19 (by decide)]; exact hO.2.2), wOut h18 h24 h25 h26⟩⟩ (Nat.lt_succ_self _)
