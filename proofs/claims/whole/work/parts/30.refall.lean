/-! the reference's digest: the whole of it -/
abbrev rm_X6_digest : Room := { frames := 8, cells := 0, slots := 0, locals := 180 }
set_option maxHeartbeats 4000000 in
set_option maxRecDepth 100000 in
theorem c_X6_digest (l : Launch) (D : va_G) (cI cZ : ClassId) (z : Nat → Nat) (g : Nat → Nat) (sc : Nat → Int32) (ar : Nat → Nat → Int32) (hs : Int64) (kd : Nat → Nat) (li s be : Nat) (hM : MH sc ar kd li s) (hbe : be < 2 ^ 31) (hbn : zX6_bendNow sc ar hs = nI be) (bs : Nat → Nat) (T : Nat) (hSH : SH (sc 16) (ar 6) bs T) (Pn : Nat) (hP : sc 1 = nI Pn) (hP16 : Pn ≤ 16) : cWl l yX6_digest ww_X6_digest rm_X6_digest D cI cZ z (fM cI cZ g) (wM cI cZ g sc ar hs) [.ref (g 0)] (fun r u => ∃ ar' sc' h' Hq, u = (sc', ar', h') ∧ frG sc sc' ∧ frD ar ar' ∧ ((sc 2 = 0 → Hq = 829) ∧ (¬ sc 2 = 0 → ∃ m f x, Sol (goN (hk kd) li be) (wtN kd) s m f ∧ IsMost m s x ∧ Hq = syH (syL sc ar 829) m f x (fit3 (goN (hk kd) li be) bs T s))) ∧ r = dig (cntQ sc) 10 (dig (ar 0) Pn Hq)) := by
  refine cWl.of (cc := cX6_digest) (maxL := 2) (by decide) rfl (Nat.le_of_ble_eq_true rfl) (fun X F E hA hR => ?_)
  refine J_lv [0] (lv' := [(0, .ref (g 0))]) rfl ?_
  refine J_aload_n (pc' := 1) (q := 0) F dX6_digest_0 rfl rfl ?_
  refine J_ldc2 (pc' := 4) (v := 829) F dX6_digest_1 kw_879 rfl ?_
  refine M_put_0_31 (pc' := 7) F dX6_digest_4 kw_610 rfl ?_
  refine J_aload_n (pc' := 8) (q := 0) F dX6_digest_7 rfl rfl ?_
  refine M_get_0_2 (v := sc 2) (pc' := 11) F dX6_digest_8 kw_581 rfl rfl ?_
  refine J_if_eq (tgt := 18) (pc' := 14) F dX6_digest_11 (by decide) rfl (fun kq11 => ?_) (fun kq11 => ?_)
  · refine J_iconst (pc' := 19) (v := 0) F dX6_digest_18 (by decide) rfl ?_
    refine J_istore_n (pc' := 20) [1, 0] [(0, .ref (g 0)), (1, .int 0)] F dX6_digest_19 rfl (jL_of E (show 1 < 2 by decide)) rfl rfl ?_
    have L20 : ∀ (N20 : Nat) (k : Nat) (sc1 : Nat → Int32) (ar1 : Nat → Nat → Int32) (Hq : Int64), k ≤ Pn → frG sc sc1 → frD ar ar1 → ((sc 2 = 0 → Hq = 829) ∧ (¬ sc 2 = 0 → ∃ m f x, Sol (goN (hk kd) li be) (wtN kd) s m f ∧ IsMost m s x ∧ Hq = syH (syL sc ar 829) m f x (fit3 (goN (hk kd) li be) bs T s))) → Pn - k < N20 → J X true 0 0 20 [(0, .ref (g 0)), (1, .int (nI k))] [] (wM cI cZ g sc1 ar1 (dig (ar 0) k Hq)) := by
      intro N20
      induction N20 with
      | zero => intro _ _ _ _ _ _ _ _ hm; exact absurd hm (Nat.not_lt_zero _)
      | succ N20 ih20 =>
        intro k sc1 ar1 Hq hkP hfg hfd hQ hm20
        refine J_iload_n (pc' := 21) (q := 1) F dX6_digest_20 rfl rfl ?_
        refine J_aload_n (pc' := 22) (q := 0) F dX6_digest_21 rfl rfl ?_
        refine M_get_0_1 (v := sc1 1) (pc' := 25) F dX6_digest_22 kw_580 rfl rfl ?_
        refine J_vali (y := nI Pn) (by rw [hfg 1 (Or.inl (by decide))]; exact hP) ?_
        refine J_icmp_ge (tgt := 45) (pc' := 28) F dX6_digest_25 (by decide) rfl (fun kq25 => ?_) (fun kq25 => ?_)
        · have ek : k = Pn := by have := (nI_leI (by omega) (by omega)).mp kq25; omega
          refine J_ws (ws' := (wM cI cZ g sc1 ar1 (dig (ar 0) Pn Hq))) (by rw [ek]) ?_
          refine J_iconst (pc' := 46) (v := 0) F dX6_digest_45 (by decide) rfl ?_
          refine J_istore_n (pc' := 47) [1, 0] [(0, .ref (g 0)), (1, .int 0)] F dX6_digest_46 rfl (jL_of E (show 1 < 2 by decide)) rfl rfl ?_
          have L47 : ∀ (N47 : Nat) (j : Nat), j ≤ 10 → 10 - j < N47 → J X true 0 0 47 [(0, .ref (g 0)), (1, .int (nI j))] [] (wM cI cZ g sc1 ar1 (dig (cntQ sc) j (dig (ar 0) Pn Hq))) := by
            intro N47
            induction N47 with
            | zero => intro _ _ hm; exact absurd hm (Nat.not_lt_zero _)
            | succ N47 ih47 =>
              intro j hj10 hm47
              refine J_iload_n (pc' := 48) (q := 1) F dX6_digest_47 rfl rfl ?_
              refine J_bipush (pc' := 50) (v := 10) F dX6_digest_48 (by decide) rfl ?_
              refine J_icmp_ge (tgt := 69) (pc' := 53) F dX6_digest_50 (by decide) rfl (fun kq50 => ?_) (fun kq50 => ?_)
              · refine J_aload_n (pc' := 70) (q := 0) F dX6_digest_69 rfl rfl ?_
                refine M_get_0_31 (v := dig (cntQ sc) j (dig (ar 0) Pn Hq)) (pc' := 73) F dX6_digest_70 kw_610 rfl rfl ?_
                have ej : j = 10 := by have := (nI_leI (a := 10) (b := j) (by decide) (by omega)).mp kq50; omega
                subst ej
                exact J_lretW (sc1, ar1, dig (cntQ sc) 10 (dig (ar 0) Pn Hq)) F hR dX6_digest_73 rfl ⟨ar1, sc1, _, Hq, rfl, hfg, hfd, hQ, rfl⟩
              · have hjj : j < 10 := jin_lt (by decide) hj10 kq50
                refine J_aload_n (pc' := 54) (q := 0) F dX6_digest_53 rfl rfl ?_
                refine J_aload_n (pc' := 55) (q := 0) F dX6_digest_54 rfl rfl ?_
                refine J_iload_n (pc' := 56) (q := 1) F dX6_digest_55 rfl rfl ?_
                refine J_goRie (wc := (wM cI cZ g sc1 ar1 (dig (cntQ sc) j (dig (ar 0) Pn Hq)))) (av := [.ref (g 0), .int (nI j)]) (rest := [.ref (g 0)]) (v := zX6_countOf sc1 ar1 (dig (cntQ sc) j (dig (ar 0) Pn Hq)) (nI j)) (pc' := 59) F E (fun _ h => h) (fun H locs hI hp => jrun_V (As := [.int (nI j)]) 0 F E (c_X6_countOf l D cI cZ z g sc1 ar1 (dig (cntQ sc) j (dig (ar 0) Pn Hq)) (nI j)) kw_871 kw_873 kp_26 rfl kw_874 kw_7 oX6_countOf ⟨⟨rfl, rfl⟩, ⟨Nat.le_of_ble_eq_true rfl, Nat.le_of_ble_eq_true rfl⟩, Nat.zero_le _, Nat.zero_le _⟩ rfl rfl (Nat.le_of_ble_eq_true rfl) dX6_digest_56 rfl rfl (jI_P E hI) hp) rfl ?_
                refine J_vali (y := cntQ sc j) (cntQ_eq hfg j) ?_
                refine J_i2l (pc' := 60) (v := ((cntQ sc j) : Int32).toInt64) F dX6_digest_59 rfl rfl ?_
                refine J_goWv (wf := (fM cI cZ g)) (w0 := (wM cI cZ g sc1 ar1 (dig (cntQ sc) j (dig (ar 0) Pn Hq)))) (av := [.ref (g 0), .long (((cntQ sc j) : Int32).toInt64)]) (rest := []) (pc' := 63) (fM cI cZ g) F E hA (fun _ h => h) id (jsubA_rf _) (fun _ => jOver_rf _ _ _) (fun H locs hI hp => jrun_V (As := [.long (((cntQ sc j) : Int32).toInt64)]) 0 F E (c_X6_say l D cI cZ z g sc1 ar1 (dig (cntQ sc) j (dig (ar 0) Pn Hq)) (((cntQ sc j) : Int32).toInt64) H.size) kw_885 kw_887 kp_28 rfl kw_888 kw_7 oX6_say ⟨⟨rfl, rfl⟩, ⟨Nat.le_of_ble_eq_true rfl, Nat.le_of_ble_eq_true rfl⟩, Nat.zero_le _, Nat.zero_le _⟩ rfl rfl (Nat.le_of_ble_eq_true rfl) dX6_digest_60 rfl rfl (jI_P E hI) hp) rfl (fun ur60 hr60 => ?_)
                obtain rfl := hr60
                refine J_ws (ws' := (wM cI cZ g sc1 ar1 (dig (cntQ sc) (j + 1) (dig (ar 0) Pn Hq)))) rfl ?_
                refine J_iinc (v := nI (j + 1)) (q := 1) (pc' := 66) [1, 0] [(0, .ref (g 0)), (1, .int (nI (j + 1)))] F dX6_digest_63 rfl (nI_inc j) (jL_of E (show 1 < 2 by decide)) rfl rfl ?_
                refine J_goto (tgt := 47) F dX6_digest_66 (by decide) ?_
                exact ih47 (j + 1) (by omega) (by omega)
          exact L47 _ 0 (Nat.zero_le _) (Nat.lt_succ_self _)
        · have hkk : k < Pn := by
            rcases Nat.lt_or_ge k Pn with q | q
            · exact q
            · exact absurd (nI_le q (by omega)) kq25
          refine J_aload_n (pc' := 29) (q := 0) F dX6_digest_28 rfl rfl ?_
          refine J_aload_n (pc' := 30) (q := 0) F dX6_digest_29 rfl rfl ?_
          refine M_get_0_0 (pc' := 33) F dX6_digest_30 kw_579 rfl ?_
          refine J_iload_n (pc' := 34) (q := 1) F dX6_digest_33 rfl rfl ?_
          refine M_ld_0 (f := ar1 0) (q := k) (pc' := 35) F dX6_digest_34 rfl (nI_clamp (by omega)) (vp_in_nI (by omega) (by decide)) rfl ?_
          refine J_vali (y := ar 0 k) (by rw [hfd 0 (Or.inl (by decide))]) ?_
          refine J_i2l (pc' := 36) (v := ((ar 0 k) : Int32).toInt64) F dX6_digest_35 rfl rfl ?_
          refine J_goWv (wf := (fM cI cZ g)) (w0 := (wM cI cZ g sc1 ar1 (dig (ar 0) k Hq))) (av := [.ref (g 0), .long (((ar 0 k) : Int32).toInt64)]) (rest := []) (pc' := 39) (fM cI cZ g) F E hA (fun _ h => h) id (jsubA_rf _) (fun _ => jOver_rf _ _ _) (fun H locs hI hp => jrun_V (As := [.long (((ar 0 k) : Int32).toInt64)]) 0 F E (c_X6_say l D cI cZ z g sc1 ar1 (dig (ar 0) k Hq) (((ar 0 k) : Int32).toInt64) H.size) kw_885 kw_887 kp_28 rfl kw_888 kw_7 oX6_say ⟨⟨rfl, rfl⟩, ⟨Nat.le_of_ble_eq_true rfl, Nat.le_of_ble_eq_true rfl⟩, Nat.zero_le _, Nat.zero_le _⟩ rfl rfl (Nat.le_of_ble_eq_true rfl) dX6_digest_36 rfl rfl (jI_P E hI) hp) rfl (fun ur36 hr36 => ?_)
          obtain rfl := hr36
          refine J_ws (ws' := (wM cI cZ g sc1 ar1 (dig (ar 0) (k + 1) Hq))) rfl ?_
          refine J_iinc (v := nI (k + 1)) (q := 1) (pc' := 42) [1, 0] [(0, .ref (g 0)), (1, .int (nI (k + 1)))] F dX6_digest_39 rfl (nI_inc k) (jL_of E (show 1 < 2 by decide)) rfl rfl ?_
          refine J_goto (tgt := 20) F dX6_digest_42 (by decide) ?_
          exact ih20 (k + 1) sc1 ar1 Hq (by omega) hfg hfd hQ (by omega)
    exact L20 _ 0 sc ar 829 (Nat.zero_le _) (fun _ _ => rfl) (fun _ _ => rfl) ⟨fun _ => rfl, fun q => absurd kq11 q⟩ (Nat.lt_succ_self _)
  · refine J_aload_n (pc' := 15) (q := 0) F dX6_digest_14 rfl rfl ?_
    refine J_goWv (wf := (fM cI cZ g)) (w0 := (wM cI cZ g sc ar 829)) (av := [.ref (g 0)]) (rest := []) (pc' := 18) (fM cI cZ g) F E hA (fun _ h => h) id (jsubA_rf _) (fun _ => jOver_rf _ _ _) (fun H locs hI hp => jrun_V (As := []) 0 F E (c_X6_sayHold l D cI cZ z g sc ar 829 kd li s be hM hbe ((bnQ _ _ _ _ _).trans hbn) bs T hSH H.size) kw_880 kw_882 kp_27 rfl kw_883 kw_7 oX6_sayHold ⟨⟨rfl, rfl⟩, ⟨Nat.le_of_ble_eq_true rfl, Nat.le_of_ble_eq_true rfl⟩, Nat.zero_le _, Nat.zero_le _⟩ rfl rfl (Nat.le_of_ble_eq_true rfl) dX6_digest_15 rfl rfl (jI_P E hI) hp) rfl (fun ur15 hr15 => ?_)
    obtain ⟨ar5, sc5, m5, f5, x5, rfl, hfg5, hfd5, hS5, hx5⟩ := hr15
    refine J_ws (ws' := (wM cI cZ g sc5 ar5 (syH (syL sc ar 829) m5 f5 x5 (fit3 (goN (hk kd) li be) bs T s)))) rfl ?_
    refine J_iconst (pc' := 19) (v := 0) F dX6_digest_18 (by decide) rfl ?_
    refine J_istore_n (pc' := 20) [1, 0] [(0, .ref (g 0)), (1, .int 0)] F dX6_digest_19 rfl (jL_of E (show 1 < 2 by decide)) rfl rfl ?_
    have L20 : ∀ (N20 : Nat) (k : Nat) (sc1 : Nat → Int32) (ar1 : Nat → Nat → Int32) (Hq : Int64), k ≤ Pn → frG sc sc1 → frD ar ar1 → ((sc 2 = 0 → Hq = 829) ∧ (¬ sc 2 = 0 → ∃ m f x, Sol (goN (hk kd) li be) (wtN kd) s m f ∧ IsMost m s x ∧ Hq = syH (syL sc ar 829) m f x (fit3 (goN (hk kd) li be) bs T s))) → Pn - k < N20 → J X true 0 0 20 [(0, .ref (g 0)), (1, .int (nI k))] [] (wM cI cZ g sc1 ar1 (dig (ar 0) k Hq)) := by
      intro N20
      induction N20 with
      | zero => intro _ _ _ _ _ _ _ _ hm; exact absurd hm (Nat.not_lt_zero _)
      | succ N20 ih20 =>
        intro k sc1 ar1 Hq hkP hfg hfd hQ hm20
        refine J_iload_n (pc' := 21) (q := 1) F dX6_digest_20 rfl rfl ?_
        refine J_aload_n (pc' := 22) (q := 0) F dX6_digest_21 rfl rfl ?_
        refine M_get_0_1 (v := sc1 1) (pc' := 25) F dX6_digest_22 kw_580 rfl rfl ?_
        refine J_vali (y := nI Pn) (by rw [hfg 1 (Or.inl (by decide))]; exact hP) ?_
        refine J_icmp_ge (tgt := 45) (pc' := 28) F dX6_digest_25 (by decide) rfl (fun kq25_2 => ?_) (fun kq25_2 => ?_)
        · have ek : k = Pn := by have := (nI_leI (by omega) (by omega)).mp kq25_2; omega
          refine J_ws (ws' := (wM cI cZ g sc1 ar1 (dig (ar 0) Pn Hq))) (by rw [ek]) ?_
          refine J_iconst (pc' := 46) (v := 0) F dX6_digest_45 (by decide) rfl ?_
          refine J_istore_n (pc' := 47) [1, 0] [(0, .ref (g 0)), (1, .int 0)] F dX6_digest_46 rfl (jL_of E (show 1 < 2 by decide)) rfl rfl ?_
          have L47 : ∀ (N47 : Nat) (j : Nat), j ≤ 10 → 10 - j < N47 → J X true 0 0 47 [(0, .ref (g 0)), (1, .int (nI j))] [] (wM cI cZ g sc1 ar1 (dig (cntQ sc) j (dig (ar 0) Pn Hq))) := by
            intro N47
            induction N47 with
            | zero => intro _ _ hm; exact absurd hm (Nat.not_lt_zero _)
            | succ N47 ih47 =>
              intro j hj10 hm47
              refine J_iload_n (pc' := 48) (q := 1) F dX6_digest_47 rfl rfl ?_
              refine J_bipush (pc' := 50) (v := 10) F dX6_digest_48 (by decide) rfl ?_
              refine J_icmp_ge (tgt := 69) (pc' := 53) F dX6_digest_50 (by decide) rfl (fun kq50_2 => ?_) (fun kq50_2 => ?_)
              · refine J_aload_n (pc' := 70) (q := 0) F dX6_digest_69 rfl rfl ?_
                refine M_get_0_31 (v := dig (cntQ sc) j (dig (ar 0) Pn Hq)) (pc' := 73) F dX6_digest_70 kw_610 rfl rfl ?_
                have ej : j = 10 := by have := (nI_leI (a := 10) (b := j) (by decide) (by omega)).mp kq50_2; omega
                subst ej
                exact J_lretW (sc1, ar1, dig (cntQ sc) 10 (dig (ar 0) Pn Hq)) F hR dX6_digest_73 rfl ⟨ar1, sc1, _, Hq, rfl, hfg, hfd, hQ, rfl⟩
              · have hjj : j < 10 := jin_lt (by decide) hj10 kq50_2
                refine J_aload_n (pc' := 54) (q := 0) F dX6_digest_53 rfl rfl ?_
                refine J_aload_n (pc' := 55) (q := 0) F dX6_digest_54 rfl rfl ?_
                refine J_iload_n (pc' := 56) (q := 1) F dX6_digest_55 rfl rfl ?_
                refine J_goRie (wc := (wM cI cZ g sc1 ar1 (dig (cntQ sc) j (dig (ar 0) Pn Hq)))) (av := [.ref (g 0), .int (nI j)]) (rest := [.ref (g 0)]) (v := zX6_countOf sc1 ar1 (dig (cntQ sc) j (dig (ar 0) Pn Hq)) (nI j)) (pc' := 59) F E (fun _ h => h) (fun H locs hI hp => jrun_V (As := [.int (nI j)]) 0 F E (c_X6_countOf l D cI cZ z g sc1 ar1 (dig (cntQ sc) j (dig (ar 0) Pn Hq)) (nI j)) kw_871 kw_873 kp_26 rfl kw_874 kw_7 oX6_countOf ⟨⟨rfl, rfl⟩, ⟨Nat.le_of_ble_eq_true rfl, Nat.le_of_ble_eq_true rfl⟩, Nat.zero_le _, Nat.zero_le _⟩ rfl rfl (Nat.le_of_ble_eq_true rfl) dX6_digest_56 rfl rfl (jI_P E hI) hp) rfl ?_
                refine J_vali (y := cntQ sc j) (cntQ_eq hfg j) ?_
                refine J_i2l (pc' := 60) (v := ((cntQ sc j) : Int32).toInt64) F dX6_digest_59 rfl rfl ?_
                refine J_goWv (wf := (fM cI cZ g)) (w0 := (wM cI cZ g sc1 ar1 (dig (cntQ sc) j (dig (ar 0) Pn Hq)))) (av := [.ref (g 0), .long (((cntQ sc j) : Int32).toInt64)]) (rest := []) (pc' := 63) (fM cI cZ g) F E hA (fun _ h => h) id (jsubA_rf _) (fun _ => jOver_rf _ _ _) (fun H locs hI hp => jrun_V (As := [.long (((cntQ sc j) : Int32).toInt64)]) 0 F E (c_X6_say l D cI cZ z g sc1 ar1 (dig (cntQ sc) j (dig (ar 0) Pn Hq)) (((cntQ sc j) : Int32).toInt64) H.size) kw_885 kw_887 kp_28 rfl kw_888 kw_7 oX6_say ⟨⟨rfl, rfl⟩, ⟨Nat.le_of_ble_eq_true rfl, Nat.le_of_ble_eq_true rfl⟩, Nat.zero_le _, Nat.zero_le _⟩ rfl rfl (Nat.le_of_ble_eq_true rfl) dX6_digest_60 rfl rfl (jI_P E hI) hp) rfl (fun ur60_2 hr60_2 => ?_)
                obtain rfl := hr60_2
                refine J_ws (ws' := (wM cI cZ g sc1 ar1 (dig (cntQ sc) (j + 1) (dig (ar 0) Pn Hq)))) rfl ?_
                refine J_iinc (v := nI (j + 1)) (q := 1) (pc' := 66) [1, 0] [(0, .ref (g 0)), (1, .int (nI (j + 1)))] F dX6_digest_63 rfl (nI_inc j) (jL_of E (show 1 < 2 by decide)) rfl rfl ?_
                refine J_goto (tgt := 47) F dX6_digest_66 (by decide) ?_
                exact ih47 (j + 1) (by omega) (by omega)
          exact L47 _ 0 (Nat.zero_le _) (Nat.lt_succ_self _)
        · have hkk : k < Pn := by
            rcases Nat.lt_or_ge k Pn with q | q
            · exact q
            · exact absurd (nI_le q (by omega)) kq25_2
          refine J_aload_n (pc' := 29) (q := 0) F dX6_digest_28 rfl rfl ?_
          refine J_aload_n (pc' := 30) (q := 0) F dX6_digest_29 rfl rfl ?_
          refine M_get_0_0 (pc' := 33) F dX6_digest_30 kw_579 rfl ?_
          refine J_iload_n (pc' := 34) (q := 1) F dX6_digest_33 rfl rfl ?_
          refine M_ld_0 (f := ar1 0) (q := k) (pc' := 35) F dX6_digest_34 rfl (nI_clamp (by omega)) (vp_in_nI (by omega) (by decide)) rfl ?_
          refine J_vali (y := ar 0 k) (by rw [hfd 0 (Or.inl (by decide))]) ?_
          refine J_i2l (pc' := 36) (v := ((ar 0 k) : Int32).toInt64) F dX6_digest_35 rfl rfl ?_
          refine J_goWv (wf := (fM cI cZ g)) (w0 := (wM cI cZ g sc1 ar1 (dig (ar 0) k Hq))) (av := [.ref (g 0), .long (((ar 0 k) : Int32).toInt64)]) (rest := []) (pc' := 39) (fM cI cZ g) F E hA (fun _ h => h) id (jsubA_rf _) (fun _ => jOver_rf _ _ _) (fun H locs hI hp => jrun_V (As := [.long (((ar 0 k) : Int32).toInt64)]) 0 F E (c_X6_say l D cI cZ z g sc1 ar1 (dig (ar 0) k Hq) (((ar 0 k) : Int32).toInt64) H.size) kw_885 kw_887 kp_28 rfl kw_888 kw_7 oX6_say ⟨⟨rfl, rfl⟩, ⟨Nat.le_of_ble_eq_true rfl, Nat.le_of_ble_eq_true rfl⟩, Nat.zero_le _, Nat.zero_le _⟩ rfl rfl (Nat.le_of_ble_eq_true rfl) dX6_digest_36 rfl rfl (jI_P E hI) hp) rfl (fun ur36_2 hr36_2 => ?_)
          obtain rfl := hr36_2
          refine J_ws (ws' := (wM cI cZ g sc1 ar1 (dig (ar 0) (k + 1) Hq))) rfl ?_
          refine J_iinc (v := nI (k + 1)) (q := 1) (pc' := 42) [1, 0] [(0, .ref (g 0)), (1, .int (nI (k + 1)))] F dX6_digest_39 rfl (nI_inc k) (jL_of E (show 1 < 2 by decide)) rfl rfl ?_
          refine J_goto (tgt := 20) F dX6_digest_42 (by decide) ?_
          exact ih20 (k + 1) sc1 ar1 Hq (by omega) hfg hfd hQ (by omega)
    exact L20 _ 0 sc5 ar5 (syH (syL sc ar 829) m5 f5 x5 (fit3 (goN (hk kd) li be) bs T s)) (Nat.zero_le _) hfg5 hfd5 ⟨fun q => absurd q kq11, fun _ => ⟨m5, f5, x5, hS5, hx5, rfl⟩⟩ (Nat.lt_succ_self _)
