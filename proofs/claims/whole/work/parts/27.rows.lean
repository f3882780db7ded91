/-! the reference's counts of rows: stepAll, rowsFrom, layFits -/
def frR (ar ar1 : Nat → Nat → Int32) : Prop := ∀ k, k ≠ 7 → k ≠ 8 → ar1 k = ar k
theorem frR.MH {sc : Nat → Int32} {ar ar1 : Nat → Nat → Int32} {kd : Nat → Nat} {li s : Nat} (h : frR ar ar1) (hM : MH sc ar kd li s) : MH sc ar1 kd li s := ⟨hM.1, hM.2.1, hM.2.2.1, hM.2.2.2.1, by rw [h 1 (by decide) (by decide)]; exact hM.2.2.2.2⟩
theorem frR.trans {ar ar1 ar2 : Nat → Nat → Int32} (h1 : frR ar ar1) (h2 : frR ar1 ar2) : frR ar ar2 := fun k a b => (h2 k a b).trans (h1 k a b)
theorem dgr_s (E : Nat → Nat → Option Nat) (b : Nat) (F : Nat → Nat) (n A : Nat) : dgr E b F n (A + 1) = dgr E b F n A + if isA A = true then shr E b F n A else 0 := rfl
theorem tot0 {N : Nat → Nat} (h : ∀ n, n < 4096 → N n = 0) (F : Nat → Nat) : tot N F = 0 := by
  unfold tot
  rw [fb_sm_cong (g := fun _ => 0) (fun k hk => by rw [h k hk, Nat.zero_mul]), fb_sm_const]
theorem tot_1 (N : Nat → Nat) : tot N (fun _ => 1) = fb_sm N 4096 := by
  unfold tot
  exact fb_sm_cong (fun k _ => Nat.mul_one _)
theorem tot_le {N F G : Nat → Nat} {c : Nat} (h : ∀ n, F n ≤ c * G n) : tot N F ≤ c * tot N G := by
  have h1 : tot N F ≤ fb_sm (fun n => c * (N n * G n)) 4096 := fb_sm_le (fun k _ => by
    have := Nat.mul_le_mul_left (N k) (h k)
    rw [Nat.mul_left_comm] at this
    exact this)
  have h2 : ∀ m, fb_sm (fun n => c * (N n * G n)) m = c * fb_sm (fun n => N n * G n) m := by
    intro m
    induction m with
    | zero => rfl
    | succ m ih => rw [fb_sm_succ, fb_sm_succ, ih, Nat.mul_add]
  rw [h2] at h1
  exact h1
abbrev rm_X6_stepAll : Room := { frames := 4, cells := 0, slots := 0, locals := 87 }
set_option maxHeartbeats 4000000 in
set_option maxRecDepth 100000 in
theorem c_X6_stepAll (l : Launch) (D : va_G) (cI cZ : ClassId) (z : Nat → Nat) (g : Nat → Nat) (sc : Nat → Int32) (ar : Nat → Nat → Int32) (hs : Int64) (kd : Nat → Nat) (li s be b : Nat) (N : Nat → Nat) (hM : MH sc ar kd li s) (hbe : be < 2 ^ 31) (hbn : zX6_bendNow sc ar hs = nI be) (hb12 : b ≤ 12) (hN : ∀ n, n < 4096 → ar 7 n = nI (N n)) (hB : tot N (fun _ => 1) < 2 ^ 31) : cWv l yX6_stepAll ww_X6_stepAll rm_X6_stepAll D cI cZ z (fM cI cZ g) (wM cI cZ g sc ar hs) [.ref (g 0), .int (nI b)] (fun u => ∃ ar' N', u = (sc, ar', hs) ∧ frR ar ar' ∧ (∀ n, n < 4096 → ar' 7 n = nI (N' n)) ∧ ∀ F : Nat → Nat, tot N' F = tot N (fun n => dgr (goN (hk kd) li be) b F n 42)) := by
  refine cWv.of (cc := cX6_stepAll) (maxL := 5) (by decide) rfl (Nat.le_of_ble_eq_true rfl) (fun X F E hA hR => ?_)
  refine J_lv [0, 1] (lv' := [(0, .ref (g 0)), (1, .int (nI b))]) rfl ?_
  refine J_iconst (pc' := 1) (v := 0) F dX6_stepAll_0 (by decide) rfl ?_
  refine J_istore_n (pc' := 2) [1, 2, 0] [(0, .ref (g 0)), (1, .int (nI b)), (2, .int 0)] F dX6_stepAll_1 rfl (jL_of E (show 2 < 5 by decide)) rfl rfl ?_
  have L2 : ∀ (N2 : Nat) (i : Nat) (ar1 : Nat → Nat → Int32), i ≤ 4096 → ((∀ k, k ≠ 8 → ar1 k = ar k) ∧ ∀ j, j < i → ar1 8 j = 0) → 4096 - i < N2 → J X true 0 0 2 [(0, .ref (g 0)), (1, .int (nI b)), (2, .int (nI i))] [] (wM cI cZ g sc ar1 hs) := by
    intro N2
    induction N2 with
    | zero => intro _ _ _ _ hm; exact absurd hm (Nat.not_lt_zero _)
    | succ N2 ih2 =>
      intro i ar1 hi hinv hm2
      refine J_iload_n (pc' := 3) (q := 2) F dX6_stepAll_2 rfl rfl ?_
      refine J_sipush (pc' := 6) (v := 4096) F dX6_stepAll_3 (by decide) rfl ?_
      refine J_icmp_ge (tgt := 22) (pc' := 9) F dX6_stepAll_6 (by decide) rfl (fun kq6 => ?_) (fun kq6 => ?_)
      · refine J_iconst (pc' := 23) (v := 0) F dX6_stepAll_22 (by decide) rfl ?_
        refine J_istore_n (pc' := 24) [1, 2, 0] [(0, .ref (g 0)), (1, .int (nI b)), (2, .int 0)] F dX6_stepAll_23 rfl (jL_of E (show 2 < 5 by decide)) rfl rfl ?_
        have L24 : ∀ (N24 : Nat) (kk : Nat) (ar1 : Nat → Nat → Int32) (N1 : Nat → Nat), kk ≤ 4096 → (∀ k, k ≠ 8 → ar1 k = ar k) → (∀ n, n < 4096 → ar1 8 n = nI (N1 n)) → (∀ F : Nat → Nat, tot N1 F = fb_sm (fun k9 => N k9 * dgr (goN (hk kd) li be) b F k9 42) kk) → 4096 - kk < N24 → J X true 0 0 24 [(0, .ref (g 0)), (1, .int (nI b)), (2, .int (nI kk))] [] (wM cI cZ g sc ar1 hs) := by
          intro N24
          induction N24 with
          | zero => intro _ _ _ _ _ _ _ hm; exact absurd hm (Nat.not_lt_zero _)
          | succ N24 ih24 =>
            intro kk ar1 N1 hk4 hf1 hN1 hT1 hm24
            refine J_iload_n (pc' := 25) (q := 2) F dX6_stepAll_24 rfl rfl ?_
            refine J_sipush (pc' := 28) (v := 4096) F dX6_stepAll_25 (by decide) rfl ?_
            refine J_icmp_ge (tgt := 103) (pc' := 31) F dX6_stepAll_28 (by decide) rfl (fun kq28 => ?_) (fun kq28 => ?_)
            · have hk9 : kk = 4096 := by
                have := (nI_leI (a := 4096) (b := kk) (by decide) (by omega)).mp kq28
                omega
              refine J_iconst (pc' := 104) (v := 0) F dX6_stepAll_103 (by decide) rfl ?_
              refine J_istore_n (pc' := 105) [1, 2, 0] [(0, .ref (g 0)), (1, .int (nI b)), (2, .int 0)] F dX6_stepAll_104 rfl (jL_of E (show 2 < 5 by decide)) rfl rfl ?_
              have L105 : ∀ (N105 : Nat) (i : Nat) (ar3 : Nat → Nat → Int32), i ≤ 4096 → (∀ k, k ≠ 7 → ar3 k = ar1 k) → (∀ j, j < i → ar3 7 j = ar1 8 j) → 4096 - i < N105 → J X true 0 0 105 [(0, .ref (g 0)), (1, .int (nI b)), (2, .int (nI i))] [] (wM cI cZ g sc ar3 hs) := by
                intro N105
                induction N105 with
                | zero => intro _ _ _ _ _ hm; exact absurd hm (Nat.not_lt_zero _)
                | succ N105 ih105 =>
                  intro i ar3 hi hf3 hc3 hm105
                  refine J_iload_n (pc' := 106) (q := 2) F dX6_stepAll_105 rfl rfl ?_
                  refine J_sipush (pc' := 109) (v := 4096) F dX6_stepAll_106 (by decide) rfl ?_
                  refine J_icmp_ge (tgt := 130) (pc' := 112) F dX6_stepAll_109 (by decide) rfl (fun kq109 => ?_) (fun kq109 => ?_)
                  · have hi4 : i = 4096 := by
                      have := (nI_leI (a := 4096) (b := i) (by decide) (by omega)).mp kq109
                      omega
                    subst hi4
                    exact J_vretW (sc, ar3, hs) F hR dX6_stepAll_130 rfl ⟨ar3, N1, rfl, fun k h7 h8 => (hf3 k h7).trans (hf1 k h8), fun n hn => (hc3 n hn).trans (hN1 n hn), fun F => by rw [hT1 F, hk9]; rfl⟩
                  · have hlt : i < 4096 := jin_lt (by decide) hi kq109
                    refine J_aload_n (pc' := 113) (q := 0) F dX6_stepAll_112 rfl rfl ?_
                    refine M_get_0_18 (pc' := 116) F dX6_stepAll_113 kw_597 rfl ?_
                    refine J_iload_n (pc' := 117) (q := 2) F dX6_stepAll_116 rfl rfl ?_
                    refine J_aload_n (pc' := 118) (q := 0) F dX6_stepAll_117 rfl rfl ?_
                    refine M_get_0_19 (pc' := 121) F dX6_stepAll_118 kw_598 rfl ?_
                    refine J_iload_n (pc' := 122) (q := 2) F dX6_stepAll_121 rfl rfl ?_
                    refine M_ld_8 (f := ar3 8) (q := i) (pc' := 123) F dX6_stepAll_122 rfl (nI_clamp (by omega)) (vp_in_nI hlt (by decide)) rfl ?_
                    refine M_st_7 (f := ar3 7) (q := i) (pc' := 124) F dX6_stepAll_123 rfl (nI_clamp (by omega)) (vp_in_nI hlt (by decide)) rfl ?_
                    refine J_iinc (v := nI (i + 1)) (q := 2) (pc' := 127) [1, 2, 0] [(0, .ref (g 0)), (1, .int (nI b)), (2, .int (nI (i + 1)))] F dX6_stepAll_124 rfl (nI_inc i) (jL_of E (show 2 < 5 by decide)) rfl rfl ?_
                    refine J_goto (tgt := 105) F dX6_stepAll_127 (by decide) ?_
                    exact ih105 (i + 1) (va_up ar3 7 (upd (ar3 7) i ((ar3 8) i))) (by omega) (fun k h7 => by rw [va_un h7]; exact hf3 k h7) (fun j hj => by rw [va_us]; by_cases q : j = i; (subst q; rw [pk_us, hf3 8 (by decide)]); (rw [pk_un q]; exact hc3 j (by omega))) (by omega)
              exact L105 _ 0 ar1 (Nat.zero_le _) (fun _ _ => rfl) (fun j hj => absurd hj (Nat.not_lt_zero _)) (Nat.lt_succ_self _)
            · have hkk : kk < 4096 := jin_lt (by decide) hk4 kq28
              refine J_iconst (pc' := 32) (v := 0) F dX6_stepAll_31 (by decide) rfl ?_
              refine J_istore_n (pc' := 33) [1, 2, 3, 0] [(0, .ref (g 0)), (1, .int (nI b)), (2, .int (nI kk)), (3, .int 0)] F dX6_stepAll_32 rfl (jL_of E (show 3 < 5 by decide)) rfl rfl ?_
              have L33 : ∀ (N33 : Nat) (a : Nat) (ar2 : Nat → Nat → Int32) (N2 : Nat → Nat), a ≤ 42 → (∀ k, k ≠ 8 → ar2 k = ar k) → (∀ n, n < 4096 → ar2 8 n = nI (N2 n)) → (∀ F : Nat → Nat, tot N2 F = fb_sm (fun k9 => N k9 * dgr (goN (hk kd) li be) b F k9 42) kk + N kk * dgr (goN (hk kd) li be) b F kk a) → 42 - a < N33 → J X true 0 0 33 [(0, .ref (g 0)), (1, .int (nI b)), (2, .int (nI kk)), (3, .int (nI a))] [] (wM cI cZ g sc ar2 hs) := by
                intro N33
                induction N33 with
                | zero => intro _ _ _ _ _ _ _ hm; exact absurd hm (Nat.not_lt_zero _)
                | succ N33 ih33 =>
                  intro a ar2 N2 ha42 hf2 hN2 hT2 hm33
                  refine J_iload_n (pc' := 34) (q := 3) F dX6_stepAll_33 rfl rfl ?_
                  refine J_bipush (pc' := 36) (v := 42) F dX6_stepAll_34 (by decide) rfl ?_
                  refine J_icmp_ge (tgt := 97) (pc' := 39) F dX6_stepAll_36 (by decide) rfl (fun kq36 => ?_) (fun kq36 => ?_)
                  · refine J_iinc (v := nI (kk + 1)) (q := 2) (pc' := 100) [1, 2, 0, 3] [(0, .ref (g 0)), (1, .int (nI b)), (2, .int (nI (kk + 1))), (3, .int (nI a))] F dX6_stepAll_97 rfl (nI_inc kk) (jL_of E (show 2 < 5 by decide)) rfl rfl ?_
                    refine J_goto (tgt := 24) F dX6_stepAll_100 (by decide) ?_
                    refine J_lv [0, 1, 2] (lv' := [(0, .ref (g 0)), (1, .int (nI b)), (2, .int (nI (kk + 1)))]) rfl ?_
                    exact ih24 (kk + 1) ar2 N2 (by omega) hf2 hN2 (fun F => by rw [hT2 F, fb_sm_succ, show a = 42 from by have := (nI_leI (a := 42) (b := a) (by decide) (by omega)).mp kq36; omega]) (by omega)
                  · have haa : a < 42 := jin_lt (by decide) ha42 kq36
                    have hM2 : MH sc ar2 kd li s := ⟨hM.1, hM.2.1, hM.2.2.1, hM.2.2.2.1, by rw [hf2 1 (by decide)]; exact hM.2.2.2.2⟩
                    refine J_aload_n (pc' := 40) (q := 0) F dX6_stepAll_39 rfl rfl ?_
                    refine M_get_0_18 (pc' := 43) F dX6_stepAll_40 kw_597 rfl ?_
                    refine J_iload_n (pc' := 44) (q := 2) F dX6_stepAll_43 rfl rfl ?_
                    refine M_ld_7 (f := ar2 7) (q := kk) (pc' := 45) F dX6_stepAll_44 rfl (nI_clamp (by omega)) (vp_in_nI hkk (by decide)) rfl ?_
                    refine J_vali (y := nI (N kk)) (by rw [hf2 7 (by decide)]; exact hN kk hkk) ?_
                    refine J_if_le (tgt := 97) (pc' := 48) F dX6_stepAll_45 (by decide) rfl (fun kq45 => ?_) (fun kq45 => ?_)
                    · refine J_iinc (v := nI (kk + 1)) (q := 2) (pc' := 100) [1, 2, 0, 3] [(0, .ref (g 0)), (1, .int (nI b)), (2, .int (nI (kk + 1))), (3, .int (nI a))] F dX6_stepAll_97 rfl (nI_inc kk) (jL_of E (show 2 < 5 by decide)) rfl rfl ?_
                      refine J_goto (tgt := 24) F dX6_stepAll_100 (by decide) ?_
                      refine J_lv [0, 1, 2] (lv' := [(0, .ref (g 0)), (1, .int (nI b)), (2, .int (nI (kk + 1)))]) rfl ?_
                      exact ih24 (kk + 1) ar2 N2 (by omega) hf2 hN2 (fun F => by rw [hT2 F, fb_sm_succ, nI_le0 (by have := tot_part (N := N) (F := fun _ => 1) hkk; omega) kq45, Nat.zero_mul, Nat.zero_mul]) (by omega)
                    · refine J_aload_n (pc' := 49) (q := 0) F dX6_stepAll_48 rfl rfl ?_
                      refine J_iload_n (pc' := 50) (q := 2) F dX6_stepAll_49 rfl rfl ?_
                      refine J_iload_n (pc' := 51) (q := 3) F dX6_stepAll_50 rfl rfl ?_
                      refine J_aload_n (pc' := 52) (q := 0) F dX6_stepAll_51 rfl rfl ?_
                      refine J_goRie (wc := (wM cI cZ g sc ar2 hs)) (av := [.ref (g 0)]) (rest := [.int (nI a), .int (nI kk), .ref (g 0)]) (v := zX6_bendNow sc ar2 hs) (pc' := 55) F E (fun _ h => h) (fun H locs hI hp => jrun_V (As := []) 0 F E (c_X6_bendNow l D cI cZ z g sc ar2 hs ) kw_754 kw_756 kp_13 rfl kw_757 kw_7 oX6_bendNow ⟨⟨rfl, rfl⟩, ⟨Nat.le_of_ble_eq_true rfl, Nat.le_of_ble_eq_true rfl⟩, Nat.zero_le _, Nat.zero_le _⟩ rfl rfl (Nat.le_of_ble_eq_true rfl) dX6_stepAll_52 rfl rfl (jI_P E hI) hp) rfl ?_
                      refine J_vali (y := nI be) hbn ?_
                      refine J_goRie (wc := (wM cI cZ g sc ar2 hs)) (av := [.ref (g 0), .int (nI kk), .int (nI a), .int (nI be)]) (rest := []) (v := zX6_goes sc ar2 hs (nI kk) (nI a) (nI be)) (pc' := 58) F E (fun _ h => h) (fun H locs hI hp => jrun_V (As := [.int (nI kk), .int (nI a), .int (nI be)]) 0 F E (c_X6_goes l D cI cZ z g sc ar2 hs (nI kk) (nI a) (nI be)) kw_770 kw_772 kp_15 rfl kw_773 kw_7 oX6_goes ⟨⟨rfl, rfl⟩, ⟨Nat.le_of_ble_eq_true rfl, Nat.le_of_ble_eq_true rfl⟩, Nat.zero_le _, Nat.zero_le _⟩ rfl rfl (Nat.le_of_ble_eq_true rfl) dX6_stepAll_55 rfl rfl (jI_P E hI) hp) rfl ?_
                      refine J_vali (goesM hM2 hkk haa hbe) ?_
                      cases he : (if isA a = true then (goN (hk kd) li be) kk a else none) with
                      | none =>
                        refine J_vali (y := -1) rfl ?_
                        refine J_istore (pc' := 60) [1, 2, 3, 4, 0] [(0, .ref (g 0)), (1, .int (nI b)), (2, .int (nI kk)), (3, .int (nI a)), (4, .int (-1))] F dX6_stepAll_58 (jL_of E (show 4 < 5 by decide)) rfl rfl ?_
                        refine J_iload (pc' := 62) (q := 4) F dX6_stepAll_60 rfl rfl ?_
                        refine J_iconst (pc' := 63) (v := (-1)) F dX6_stepAll_62 (by decide) rfl ?_
                        refine J_icmp_eq (tgt := 91) (pc' := 66) F dX6_stepAll_63 (by decide) rfl (fun _ => ?_) (fun c9 => absurd (by decide) c9)
                        refine J_iinc (v := nI (a + 1)) (q := 3) (pc' := 94) [1, 2, 3, 0, 4] [(0, .ref (g 0)), (1, .int (nI b)), (2, .int (nI kk)), (3, .int (nI (a + 1))), (4, .int (-1))] F dX6_stepAll_91 rfl (nI_inc a) (jL_of E (show 3 < 5 by decide)) rfl rfl ?_
                        refine J_goto (tgt := 33) F dX6_stepAll_94 (by decide) ?_
                        refine J_lv [0, 1, 2, 3] (lv' := [(0, .ref (g 0)), (1, .int (nI b)), (2, .int (nI kk)), (3, .int (nI (a + 1)))]) rfl ?_
                        exact ih33 (a + 1) ar2 N2 (by omega) hf2 hN2 (fun F => by rw [hT2 F, dgr_s]; by_cases q : isA a = true; (rw [if_pos q] at he ⊢; unfold shr; rw [he, Nat.add_zero]); (rw [if_neg q, Nat.add_zero])) (by omega)
                      | some t =>
                        have hAa : isA a = true := by
                          by_cases q : isA a = true
                          · exact q
                          · rw [if_neg q] at he; cases he
                        have he2 : (goN (hk kd) li be) kk a = some t := by rw [if_pos hAa] at he; exact he
                        have ht : t < 4096 := goN_lt hkk he2
                        have hbt := bnt_le t
                        refine J_vali (y := nI t) rfl ?_
                        refine J_istore (pc' := 60) [1, 2, 3, 4, 0] [(0, .ref (g 0)), (1, .int (nI b)), (2, .int (nI kk)), (3, .int (nI a)), (4, .int (nI t))] F dX6_stepAll_58 (jL_of E (show 4 < 5 by decide)) rfl rfl ?_
                        refine J_iload (pc' := 62) (q := 4) F dX6_stepAll_60 rfl rfl ?_
                        refine J_iconst (pc' := 63) (v := (-1)) F dX6_stepAll_62 (by decide) rfl ?_
                        refine J_icmp_eq (tgt := 91) (pc' := 66) F dX6_stepAll_63 (by decide) rfl (fun kq63 => False.elim (nI_m1 (by omega) kq63)) (fun kq63 => ?_)
                        refine J_iload (pc' := 68) (q := 4) F dX6_stepAll_66 rfl rfl ?_
                        refine J_goRie (wc := []) (av := [.int (nI t)]) (rest := []) (v := zX6_bentOf (nI t)) (pc' := 71) F E (fun _ _ => jP_nil _ _) (fun H locs hI hp => jrun_S F E (c_X6_bentOf l D cI cZ z (nI t)) kw_745 kw_746 rfl kw_747 kw_7 oX6_bentOf ⟨⟨rfl, rfl⟩, ⟨Nat.le_of_ble_eq_true rfl, Nat.le_of_ble_eq_true rfl⟩, Nat.zero_le _, Nat.zero_le _⟩ rfl (Nat.le_of_ble_eq_true rfl) dX6_stepAll_68 hp) rfl ?_
                        refine J_vali (y := nI (bnt t)) (bent6 ht) ?_
                        refine J_iload_n (pc' := 72) (q := 1) F dX6_stepAll_71 rfl rfl ?_
                        refine J_icmp_ne (tgt := 91) (pc' := 75) F dX6_stepAll_72 (by decide) rfl (fun kq72 => ?_) (fun kq72 => ?_)
                        · refine J_iinc (v := nI (a + 1)) (q := 3) (pc' := 94) [1, 2, 3, 0, 4] [(0, .ref (g 0)), (1, .int (nI b)), (2, .int (nI kk)), (3, .int (nI (a + 1))), (4, .int (nI t))] F dX6_stepAll_91 rfl (nI_inc a) (jL_of E (show 3 < 5 by decide)) rfl rfl ?_
                          refine J_goto (tgt := 33) F dX6_stepAll_94 (by decide) ?_
                          refine J_lv [0, 1, 2, 3] (lv' := [(0, .ref (g 0)), (1, .int (nI b)), (2, .int (nI kk)), (3, .int (nI (a + 1)))]) rfl ?_
                          exact ih33 (a + 1) ar2 N2 (by omega) hf2 hN2 (fun F => by rw [hT2 F, dgr_s, if_pos hAa]; unfold shr; rw [he2]; show _ = _ + N kk * (_ + if bnt t = b then F t else 0); rw [if_neg (fun q => kq72 (by rw [q])), Nat.add_zero]) (by omega)
                        · have hbb : bnt t = b := (nI_eq (by omega) (by omega)).mp kq72
                          refine J_aload_n (pc' := 76) (q := 0) F dX6_stepAll_75 rfl rfl ?_
                          refine M_get_0_19 (pc' := 79) F dX6_stepAll_76 kw_598 rfl ?_
                          refine J_iload (pc' := 81) (q := 4) F dX6_stepAll_79 rfl rfl ?_
                          refine J_dup2 (pc' := 82) F dX6_stepAll_81 rfl rfl rfl ?_
                          refine M_ld_8 (f := ar2 8) (q := t) (pc' := 83) F dX6_stepAll_82 rfl (nI_clamp (by omega)) (vp_in_nI ht (by decide)) rfl ?_
                          refine J_vali (y := nI (N2 t)) (hN2 t ht) ?_
                          refine J_aload_n (pc' := 84) (q := 0) F dX6_stepAll_83 rfl rfl ?_
                          refine M_get_0_18 (pc' := 87) F dX6_stepAll_84 kw_597 rfl ?_
                          refine J_iload_n (pc' := 88) (q := 2) F dX6_stepAll_87 rfl rfl ?_
                          refine M_ld_7 (f := ar2 7) (q := kk) (pc' := 89) F dX6_stepAll_88 rfl (nI_clamp (by omega)) (vp_in_nI hkk (by decide)) rfl ?_
                          refine J_vali (y := nI (N kk)) (by rw [hf2 7 (by decide)]; exact hN kk hkk) ?_
                          refine J_iadd (pc' := 90) F dX6_stepAll_89 rfl ?_
                          refine J_vali (y := nI (N2 t + N kk)) (nI_add _ _) ?_
                          refine M_st_8 (f := ar2 8) (q := t) (pc' := 91) F dX6_stepAll_90 rfl (nI_clamp (by omega)) (vp_in_nI ht (by decide)) rfl ?_
                          refine J_iinc (v := nI (a + 1)) (q := 3) (pc' := 94) [1, 2, 3, 0, 4] [(0, .ref (g 0)), (1, .int (nI b)), (2, .int (nI kk)), (3, .int (nI (a + 1))), (4, .int (nI t))] F dX6_stepAll_91 rfl (nI_inc a) (jL_of E (show 3 < 5 by decide)) rfl rfl ?_
                          refine J_goto (tgt := 33) F dX6_stepAll_94 (by decide) ?_
                          refine J_lv [0, 1, 2, 3] (lv' := [(0, .ref (g 0)), (1, .int (nI b)), (2, .int (nI kk)), (3, .int (nI (a + 1)))]) rfl ?_
                          exact ih33 (a + 1) (va_up ar2 8 (upd (ar2 8) t (nI (N2 t + N kk)))) (fun j => if j = t then N2 j + N kk else N2 j) (by omega) (fun k h8 => by rw [va_un h8]; exact hf2 k h8) (fun n hn => by rw [va_us]; by_cases q : n = t; (subst q; rw [pk_us, if_pos rfl]); (rw [pk_un q, if_neg q]; exact hN2 n hn)) (fun F => by rw [tot_up ht, hT2 F, dgr_s, if_pos hAa]; unfold shr; rw [he2]; show _ = _ + N kk * (_ + if bnt t = b then F t else 0); rw [if_pos hbb, Nat.mul_add, Nat.add_assoc]) (by omega)
              exact L33 _ 0 ar1 N1 (Nat.zero_le _) hf1 hN1 (fun F => by rw [hT1 F]; show _ = _ + N kk * 0; rw [Nat.mul_zero, Nat.add_zero]) (Nat.lt_succ_self _)
        have hi4 : i = 4096 := by
          have := (nI_leI (a := 4096) (b := i) (by decide) (by omega)).mp kq6
          omega
        subst hi4
        exact L24 _ 0 ar1 (fun _ => 0) (Nat.zero_le _) hinv.1 (fun n hn => hinv.2 n hn) (fun F => tot0 (fun _ _ => rfl) F) (Nat.lt_succ_self _)
      · have hlt : i < 4096 := jin_lt (by decide) hi kq6
        refine J_aload_n (pc' := 10) (q := 0) F dX6_stepAll_9 rfl rfl ?_
        refine M_get_0_19 (pc' := 13) F dX6_stepAll_10 kw_598 rfl ?_
        refine J_iload_n (pc' := 14) (q := 2) F dX6_stepAll_13 rfl rfl ?_
        refine J_iconst (pc' := 15) (v := 0) F dX6_stepAll_14 (by decide) rfl ?_
        refine M_st_8 (f := ar1 8) (q := i) (pc' := 16) F dX6_stepAll_15 rfl (nI_clamp (by omega)) (vp_in_nI hlt (by decide)) rfl ?_
        refine J_iinc (v := nI (i + 1)) (q := 2) (pc' := 19) [1, 2, 0] [(0, .ref (g 0)), (1, .int (nI b)), (2, .int (nI (i + 1)))] F dX6_stepAll_16 rfl (nI_inc i) (jL_of E (show 2 < 5 by decide)) rfl rfl ?_
        refine J_goto (tgt := 2) F dX6_stepAll_19 (by decide) ?_
        exact ih2 (i + 1) (va_up ar1 8 (upd (ar1 8) i 0)) (by omega) ⟨fun k h8 => by rw [va_un h8]; exact hinv.1 k h8, fun j hj => by rw [va_us]; by_cases q : j = i; (subst q; exact pk_us); (rw [pk_un q]; exact hinv.2 j (by omega))⟩ (by omega)
  exact L2 _ 0 ar (Nat.zero_le _) ⟨fun _ _ => rfl, fun j hj => absurd hj (Nat.not_lt_zero _)⟩ (Nat.lt_succ_self _)
abbrev rm_X6_rowsFrom : Room := { frames := 5, cells := 0, slots := 0, locals := 111 }
set_option maxHeartbeats 4000000 in
set_option maxRecDepth 100000 in
theorem c_X6_rowsFrom (l : Launch) (D : va_G) (cI cZ : ClassId) (z : Nat → Nat) (g : Nat → Nat) (sc : Nat → Int32) (ar : Nat → Nat → Int32) (hs : Int64) (kd : Nat → Nat) (li s be t0 : Nat) (bs : Nat → Nat) (T : Nat) (hM : MH sc ar kd li s) (hbe : be < 2 ^ 31) (hbn : zX6_bendNow sc ar hs = nI be) (hSH : SH (sc 16) (ar 6) bs T) (hT1 : 1 ≤ T) (ht0 : t0 < 4096) : cWi l yX6_rowsFrom ww_X6_rowsFrom rm_X6_rowsFrom D cI cZ z (fM cI cZ g) (wM cI cZ g sc ar hs) [.ref (g 0), .int (nI t0), .int 1] (fun r u => ∃ ar', u = (sc, ar', hs) ∧ frR ar ar' ∧ r = nI (fitC (goN (hk kd) li be) (strL bs T 1) t0)) := by
  refine cWi.of (cc := cX6_rowsFrom) (maxL := 5) (rt := .int) (by decide) rfl (Nat.le_of_ble_eq_true rfl) (fun X F E hA hR => ?_)
  refine J_lv [0, 1, 2] (lv' := [(0, .ref (g 0)), (1, .int (nI t0)), (2, .int 1)]) rfl ?_
  have hT4 := hSH.2.1
  refine J_iconst (pc' := 1) (v := 0) F dX6_rowsFrom_0 (by decide) rfl ?_
  refine J_istore_n (pc' := 2) [1, 2, 3, 0] [(0, .ref (g 0)), (1, .int (nI t0)), (2, .int 1), (3, .int 0)] F dX6_rowsFrom_1 rfl (jL_of E (show 3 < 5 by decide)) rfl rfl ?_
  have L2 : ∀ (N2 : Nat) (i : Nat) (ar1 : Nat → Nat → Int32), i ≤ 4096 → ((∀ k, k ≠ 7 → ar1 k = ar k) ∧ ∀ j, j < i → ar1 7 j = 0) → 4096 - i < N2 → J X true 0 0 2 [(0, .ref (g 0)), (1, .int (nI t0)), (2, .int 1), (3, .int (nI i))] [] (wM cI cZ g sc ar1 hs) := by
    intro N2
    induction N2 with
    | zero => intro _ _ _ _ hm; exact absurd hm (Nat.not_lt_zero _)
    | succ N2 ih2 =>
      intro i ar1 hi hinv hm2
      refine J_iload_n (pc' := 3) (q := 3) F dX6_rowsFrom_2 rfl rfl ?_
      refine J_sipush (pc' := 6) (v := 4096) F dX6_rowsFrom_3 (by decide) rfl ?_
      refine J_icmp_ge (tgt := 22) (pc' := 9) F dX6_rowsFrom_6 (by decide) rfl (fun kq6 => ?_) (fun kq6 => ?_)
      · refine J_aload_n (pc' := 23) (q := 0) F dX6_rowsFrom_22 rfl rfl ?_
        refine M_get_0_18 (pc' := 26) F dX6_rowsFrom_23 kw_597 rfl ?_
        refine J_iload_n (pc' := 27) (q := 1) F dX6_rowsFrom_26 rfl rfl ?_
        refine J_iconst (pc' := 28) (v := 1) F dX6_rowsFrom_27 (by decide) rfl ?_
        refine M_st_7 (f := ar1 7) (q := t0) (pc' := 29) F dX6_rowsFrom_28 rfl (nI_clamp (by omega)) (vp_in_nI ht0 (by decide)) rfl ?_
        refine J_iload_n (pc' := 30) (q := 2) F dX6_rowsFrom_29 rfl rfl ?_
        refine J_istore_n (pc' := 31) [1, 2, 3, 0] [(0, .ref (g 0)), (1, .int (nI t0)), (2, .int 1), (3, .int 1)] F dX6_rowsFrom_30 rfl (jL_of E (show 3 < 5 by decide)) rfl rfl ?_
        have L31 : ∀ (N31 : Nat) (p : Nat) (ar2 : Nat → Nat → Int32) (N2 : Nat → Nat), 1 ≤ p → p ≤ T → frR ar ar2 → (∀ n, n < 4096 → ar2 7 n = nI (N2 n)) → tot N2 (fitC (goN (hk kd) li be) (strL bs T p)) = (fitC (goN (hk kd) li be) (strL bs T 1) t0) → tot N2 (fun _ => 1) ≤ 42 ^ (p - 1) → T - p < N31 → J X true 0 0 31 [(0, .ref (g 0)), (3, .int (nI p))] [] (wM cI cZ g sc ar2 hs) := by
          intro N31
          induction N31 with
          | zero => intro _ _ _ _ _ _ _ _ _ hm; exact absurd hm (Nat.not_lt_zero _)
          | succ N31 ih31 =>
            intro p ar2 N2 hp1 hpT0 hfr2 hN2 hS2 hB2 hm31
            refine J_iload_n (pc' := 32) (q := 1) F dX6_rowsFrom_31 rfl rfl ?_
            refine J_aload_n (pc' := 33) (q := 0) F dX6_rowsFrom_32 rfl rfl ?_
            refine M_get_0_16 (v := sc 16) (pc' := 36) F dX6_rowsFrom_33 kw_595 rfl rfl ?_
            refine J_vali (y := nI T) hSH.1 ?_
            refine J_icmp_ge (tgt := 55) (pc' := 39) F dX6_rowsFrom_36 (by decide) rfl (fun kq36 => ?_) (fun kq36 => ?_)
            · have hpe : p = T := by
                have := (nI_leI (by omega) (by omega)).mp kq36
                omega
              refine J_iconst (pc' := 56) (v := 0) F dX6_rowsFrom_55 (by decide) rfl ?_
              refine J_vali (y := nI (fb_sm N2 0)) rfl ?_
              refine J_istore_n (pc' := 57) [1, 0] [(0, .ref (g 0)), (3, .int (nI (fb_sm N2 0)))] F dX6_rowsFrom_56 rfl (jL_of E (show 3 < 5 by decide)) rfl rfl ?_
              refine J_iconst (pc' := 58) (v := 0) F dX6_rowsFrom_57 (by decide) rfl ?_
              refine J_istore (pc' := 60) [1, 2, 0] [(0, .ref (g 0)), (3, .int (nI (fb_sm N2 0))), (4, .int 0)] F dX6_rowsFrom_58 (jL_of E (show 4 < 5 by decide)) rfl rfl ?_
              have L60 : ∀ (N60 : Nat) (i : Nat), i ≤ 4096 → 4096 - i < N60 → J X true 0 0 60 [(0, .ref (g 0)), (3, .int (nI (fb_sm N2 i))), (4, .int (nI i))] [] (wM cI cZ g sc ar2 hs) := by
                intro N60
                induction N60 with
                | zero => intro _ _ hm; exact absurd hm (Nat.not_lt_zero _)
                | succ N60 ih60 =>
                  intro i hi hm60
                  refine J_iload (pc' := 62) (q := 2) F dX6_rowsFrom_60 rfl rfl ?_
                  refine J_sipush (pc' := 65) (v := 4096) F dX6_rowsFrom_62 (by decide) rfl ?_
                  refine J_icmp_ge (tgt := 84) (pc' := 68) F dX6_rowsFrom_65 (by decide) rfl (fun kq65 => ?_) (fun kq65 => ?_)
                  · refine J_iload_n (pc' := 85) (q := 1) F dX6_rowsFrom_84 rfl rfl ?_
                    have hi4 : i = 4096 := by
                      have := (nI_leI (a := 4096) (b := i) (by decide) (by omega)).mp kq65
                      omega
                    subst hi4
                    exact J_iretW (sc, ar2, hs) F hR dX6_rowsFrom_85 rfl rfl ⟨ar2, rfl, hfr2, by rw [← hS2, strL_nil (by omega)]; exact congrArg nI (tot_1 N2).symm⟩
                  · have hlt : i < 4096 := jin_lt (by decide) hi kq65
                    refine J_iload_n (pc' := 69) (q := 1) F dX6_rowsFrom_68 rfl rfl ?_
                    refine J_aload_n (pc' := 70) (q := 0) F dX6_rowsFrom_69 rfl rfl ?_
                    refine M_get_0_18 (pc' := 73) F dX6_rowsFrom_70 kw_597 rfl ?_
                    refine J_iload (pc' := 75) (q := 2) F dX6_rowsFrom_73 rfl rfl ?_
                    refine M_ld_7 (f := ar2 7) (q := i) (pc' := 76) F dX6_rowsFrom_75 rfl (nI_clamp (by omega)) (vp_in_nI hlt (by decide)) rfl ?_
                    refine J_vali (y := nI (N2 i)) (hN2 i hlt) ?_
                    refine J_iadd (pc' := 77) F dX6_rowsFrom_76 rfl ?_
                    refine J_vali (y := nI (fb_sm N2 (i + 1))) (nI_add _ _) ?_
                    refine J_istore_n (pc' := 78) [1, 0, 2] [(0, .ref (g 0)), (3, .int (nI (fb_sm N2 (i + 1)))), (4, .int (nI i))] F dX6_rowsFrom_77 rfl (jL_of E (show 3 < 5 by decide)) rfl rfl ?_
                    refine J_iinc (v := nI (i + 1)) (q := 2) (pc' := 81) [1, 2, 0] [(0, .ref (g 0)), (3, .int (nI (fb_sm N2 (i + 1)))), (4, .int (nI (i + 1)))] F dX6_rowsFrom_78 rfl (nI_inc i) (jL_of E (show 4 < 5 by decide)) rfl rfl ?_
                    refine J_goto (tgt := 60) F dX6_rowsFrom_81 (by decide) ?_
                    exact ih60 (i + 1) (by omega) (by omega)
              exact L60 _ 0 (Nat.zero_le _) (Nat.lt_succ_self _)
            · have hpT : p < T := by
                rcases Nat.lt_or_ge p T with q | q
                · exact q
                · exact absurd (nI_le q (by omega)) kq36
              have hB31 : tot N2 (fun _ => 1) < 2 ^ 31 := Nat.lt_of_le_of_lt hB2 (Nat.lt_of_le_of_lt (Nat.pow_le_pow_right (by decide) (show p - 1 ≤ 3 by omega)) (by decide))
              refine J_aload_n (pc' := 40) (q := 0) F dX6_rowsFrom_39 rfl rfl ?_
              refine J_aload_n (pc' := 41) (q := 0) F dX6_rowsFrom_40 rfl rfl ?_
              refine M_get_0_17 (pc' := 44) F dX6_rowsFrom_41 kw_596 rfl ?_
              refine J_iload_n (pc' := 45) (q := 1) F dX6_rowsFrom_44 rfl rfl ?_
              refine M_ld_6 (f := ar2 6) (q := p) (pc' := 46) F dX6_rowsFrom_45 rfl (nI_clamp (by omega)) (vp_in_nI (by omega) (by decide)) rfl ?_
              refine J_vali (y := nI (bs p)) (by rw [hfr2 6 (by decide) (by decide)]; exact (hSH.2.2 p hpT).1) ?_
              refine J_goWv (wf := (fM cI cZ g)) (w0 := (wM cI cZ g sc ar2 hs)) (av := [.ref (g 0), .int (nI (bs p))]) (rest := []) (pc' := 49) (fM cI cZ g) F E hA (fun _ h => h) id (jsubA_rf _) (fun _ => jOver_rf _ _ _) (fun H locs hI hp => jrun_V (As := [.int (nI (bs p))]) 0 F E (c_X6_stepAll l D cI cZ z g sc ar2 hs kd li s be (bs p) N2 (hfr2.MH hM) hbe hbn (hSH.2.2 p hpT).2 hN2 hB31 H.size) kw_839 kw_841 kp_24 rfl kw_842 kw_7 oX6_stepAll ⟨⟨rfl, rfl⟩, ⟨Nat.le_of_ble_eq_true rfl, Nat.le_of_ble_eq_true rfl⟩, Nat.zero_le _, Nat.zero_le _⟩ rfl rfl (Nat.le_of_ble_eq_true rfl) dX6_rowsFrom_46 rfl rfl (jI_P E hI) hp) rfl (fun ur46 hr46 => ?_)
              obtain ⟨ar3, N3, rfl, hfr3, hN3, hT3⟩ := hr46
              refine J_ws (ws' := (wM cI cZ g sc ar3 hs)) rfl ?_
              refine J_iinc (v := nI (p + 1)) (q := 1) (pc' := 52) [1, 0] [(0, .ref (g 0)), (3, .int (nI (p + 1)))] F dX6_rowsFrom_49 rfl (nI_inc p) (jL_of E (show 3 < 5 by decide)) rfl rfl ?_
              refine J_goto (tgt := 31) F dX6_rowsFrom_52 (by decide) ?_
              exact ih31 (p + 1) ar3 N3 (by omega) (by omega) (hfr2.trans hfr3) hN3 (by rw [hT3, ← hS2, strL_cons hpT]; exact congrArg (tot N2) (funext fun n => (fitC_cons (goN (hk kd) li be) (bs p) (strL bs T (p + 1)) n).symm)) (by rw [hT3]; have h42 := tot_le (N := N2) (F := fun n => dgr (goN (hk kd) li be) (bs p) (fun _ => 1) n 42) (G := fun _ => 1) (c := 42) (fun n => dgr_le (fun _ => Nat.le_refl 1) n 42); rw [show p + 1 - 1 = (p - 1) + 1 by omega, Nat.pow_succ]; omega) (by omega)
        refine J_lv [0, 3] (lv' := [(0, .ref (g 0)), (3, .int 1)]) rfl ?_
        have hi4 : i = 4096 := by
          have := (nI_leI (a := 4096) (b := i) (by decide) (by omega)).mp kq6
          omega
        subst hi4
        exact L31 _ 1 (va_up ar1 7 (upd (ar1 7) t0 1)) (fun k => if k = t0 then 1 else 0) (Nat.le_refl _) hT1 (fun k h7 _ => by rw [va_un h7]; exact hinv.1 k h7) (fun n hn => by rw [va_us]; by_cases q : n = t0; (subst q; rw [pk_us, if_pos rfl]; rfl); (rw [pk_un q, if_neg q]; exact hinv.2 n hn)) (tot_delta ht0) (by rw [tot_delta ht0]; decide) (Nat.lt_succ_self _)
      · have hlt : i < 4096 := jin_lt (by decide) hi kq6
        refine J_aload_n (pc' := 10) (q := 0) F dX6_rowsFrom_9 rfl rfl ?_
        refine M_get_0_18 (pc' := 13) F dX6_rowsFrom_10 kw_597 rfl ?_
        refine J_iload_n (pc' := 14) (q := 3) F dX6_rowsFrom_13 rfl rfl ?_
        refine J_iconst (pc' := 15) (v := 0) F dX6_rowsFrom_14 (by decide) rfl ?_
        refine M_st_7 (f := ar1 7) (q := i) (pc' := 16) F dX6_rowsFrom_15 rfl (nI_clamp (by omega)) (vp_in_nI hlt (by decide)) rfl ?_
        refine J_iinc (v := nI (i + 1)) (q := 3) (pc' := 19) [1, 2, 3, 0] [(0, .ref (g 0)), (1, .int (nI t0)), (2, .int 1), (3, .int (nI (i + 1)))] F dX6_rowsFrom_16 rfl (nI_inc i) (jL_of E (show 3 < 5 by decide)) rfl rfl ?_
        refine J_goto (tgt := 2) F dX6_rowsFrom_19 (by decide) ?_
        exact ih2 (i + 1) (va_up ar1 7 (upd (ar1 7) i 0)) (by omega) ⟨fun k h8 => by rw [va_un h8]; exact hinv.1 k h8, fun j hj => by rw [va_us]; by_cases q : j = i; (subst q; exact pk_us); (rw [pk_un q]; exact hinv.2 j (by omega))⟩ (by omega)
  exact L2 _ 0 ar (Nat.zero_le _) ⟨fun _ _ => rfl, fun j hj => absurd hj (Nat.not_lt_zero _)⟩ (Nat.lt_succ_self _)
theorem fsmz {R : Nat → Nat} {a : Nat} (h : (if isA a = true then R a else 0) = 0) : fsM R (a + 1) = fsM R a := by
  show (if isA a = true then fst3 R a (fsM R a) else fsM R a) = _
  by_cases q : isA a = true
  · rw [if_pos q] at h ⊢
    unfold fst3
    rw [h]
    rfl
  · rw [if_neg q]
theorem fsmp {R : Nat → Nat} {a : Nat} (h : 0 < (if isA a = true then R a else 0)) : fsM R (a + 1) = ((fsM R a).1 + (if isA a = true then R a else 0), (fsM R a).2.1 + 1, if (fsM R a).2.2 = -1 then nI a else (fsM R a).2.2) := by
  show (if isA a = true then fst3 R a (fsM R a) else fsM R a) = _
  by_cases q : isA a = true
  · rw [if_pos q] at h ⊢
    unfold fst3
    rw [if_pos h, if_pos h, if_pos q]
  · rw [if_neg q] at h; exact absurd h (Nat.lt_irrefl 0)
def frG (sc sc1 : Nat → Int32) : Prop := ∀ j, (j < 20 ∨ 23 ≤ j) → sc1 j = sc j
abbrev rm_X6_layFits : Room := { frames := 6, cells := 0, slots := 0, locals := 135 }
set_option maxHeartbeats 4000000 in
set_option maxRecDepth 100000 in
theorem c_X6_layFits (l : Launch) (D : va_G) (cI cZ : ClassId) (z : Nat → Nat) (g : Nat → Nat) (sc : Nat → Int32) (ar : Nat → Nat → Int32) (hs : Int64) (kd : Nat → Nat) (li s be : Nat) (bs : Nat → Nat) (T : Nat) (hM : MH sc ar kd li s) (hbe : be < 2 ^ 31) (hbn : zX6_bendNow sc ar hs = nI be) (hSH : SH (sc 16) (ar 6) bs T) : cWv l yX6_layFits ww_X6_layFits rm_X6_layFits D cI cZ z (fM cI cZ g) (wM cI cZ g sc ar hs) [.ref (g 0)] (fun u => ∃ ar' sc', u = (sc', ar', hs) ∧ frG sc sc' ∧ frR ar ar' ∧ sc' 20 = nI (fit3 (goN (hk kd) li be) bs T s).1 ∧ sc' 21 = nI (fit3 (goN (hk kd) li be) bs T s).2.1 ∧ sc' 22 = (fit3 (goN (hk kd) li be) bs T s).2.2) := by
  refine cWv.of (cc := cX6_layFits) (maxL := 4) (by decide) rfl (Nat.le_of_ble_eq_true rfl) (fun X F E hA hR => ?_)
  refine J_lv [0] (lv' := [(0, .ref (g 0))]) rfl ?_
  refine J_aload_n (pc' := 1) (q := 0) F dX6_layFits_0 rfl rfl ?_
  refine J_aload_n (pc' := 2) (q := 0) F dX6_layFits_1 rfl rfl ?_
  refine M_get_0_16 (v := sc 16) (pc' := 5) F dX6_layFits_2 kw_595 rfl rfl ?_
  refine J_vali (y := nI T) hSH.1 ?_
  refine J_if_ne (tgt := 12) (pc' := 8) F dX6_layFits_5 (by decide) rfl (fun kq5 => ?_) (fun kq5 => ?_)
  · have hTn : ¬ T = 0 := fun q => kq5 (by rw [q]; rfl)
    refine J_iconst (pc' := 13) (v := 0) F dX6_layFits_12 (by decide) rfl ?_
    refine M_put_0_20 (pc' := 16) F dX6_layFits_13 kw_599 rfl ?_
    refine J_aload_n (pc' := 17) (q := 0) F dX6_layFits_16 rfl rfl ?_
    refine J_iconst (pc' := 18) (v := 0) F dX6_layFits_17 (by decide) rfl ?_
    refine M_put_0_21 (pc' := 21) F dX6_layFits_18 kw_600 rfl ?_
    refine J_aload_n (pc' := 22) (q := 0) F dX6_layFits_21 rfl rfl ?_
    refine J_iconst (pc' := 23) (v := (-1)) F dX6_layFits_22 (by decide) rfl ?_
    refine M_put_0_22 (pc' := 26) F dX6_layFits_23 kw_601 rfl ?_
    refine J_iconst (pc' := 27) (v := 0) F dX6_layFits_26 (by decide) rfl ?_
    refine J_istore_n (pc' := 28) [1, 0] [(0, .ref (g 0)), (1, .int 0)] F dX6_layFits_27 rfl (jL_of E (show 1 < 4 by decide)) rfl rfl ?_
    have L28 : ∀ (N28 : Nat) (a : Nat) (sc1 : Nat → Int32) (ar1 : Nat → Nat → Int32), a ≤ 42 → frG sc sc1 → frR ar ar1 → sc1 20 = nI (fsM (rowA (goN (hk kd) li be) bs T s) a).1 → sc1 21 = nI (fsM (rowA (goN (hk kd) li be) bs T s) a).2.1 → sc1 22 = (fsM (rowA (goN (hk kd) li be) bs T s) a).2.2 → 42 - a < N28 → J X true 0 0 28 [(0, .ref (g 0)), (1, .int (nI a))] [] (wM cI cZ g sc1 ar1 hs) := by
      intro N28
      induction N28 with
      | zero => intro _ _ _ _ _ _ _ _ _ hm; exact absurd hm (Nat.not_lt_zero _)
      | succ N28 ih28 =>
        intro a sc1 ar1 ha42 hfr hfa h20 h21 h22 hm28
        refine J_iload_n (pc' := 29) (q := 1) F dX6_layFits_28 rfl rfl ?_
        refine J_bipush (pc' := 31) (v := 42) F dX6_layFits_29 (by decide) rfl ?_
        refine J_icmp_ge (tgt := 142) (pc' := 34) F dX6_layFits_31 (by decide) rfl (fun kq31 => ?_) (fun kq31 => ?_)
        · have e42 : a = 42 := by have := (nI_leI (a := 42) (b := a) (by decide) (by omega)).mp kq31; omega
          subst e42
          have hf3 : fit3 (goN (hk kd) li be) bs T s = fsM (rowA (goN (hk kd) li be) bs T s) 42 := by unfold fit3; rw [if_neg hTn, fsM_42]
          exact J_vretW (sc1, ar1, hs) F hR dX6_layFits_142 rfl ⟨ar1, sc1, rfl, hfr, hfa, by rw [hf3]; exact h20, by rw [hf3]; exact h21, by rw [hf3]; exact h22⟩
        · refine J_aload_n (pc' := 35) (q := 0) F dX6_layFits_34 rfl rfl ?_
          refine M_get_0_16 (v := sc1 16) (pc' := 38) F dX6_layFits_35 kw_595 rfl rfl ?_
          refine J_vali (y := nI T) (by first | exact hSH.1 | (rw [hfr 16 (Or.inl (by decide))]; exact hSH.1)) ?_
          refine J_if_le (tgt := 142) (pc' := 41) F dX6_layFits_38 (by decide) rfl (fun kq38 => False.elim (hTn (nI_le0 (by have := hSH.2.1; omega) kq38))) (fun kq38 => ?_)
          have haa : a < 42 := jin_lt (by decide) ha42 kq31
          have hM1 : MH sc1 ar1 kd li s := by
            have h := hfa.MH hM
            exact ⟨by rw [hfr 5 (Or.inl (by decide))]; exact h.1, h.2.1, by rw [hfr 4 (Or.inl (by decide))]; exact h.2.2.1, h.2.2.2⟩
          have hSH1 : SH (sc1 16) (ar1 6) bs T := by rw [hfr 16 (Or.inl (by decide)), hfa 6 (by decide) (by decide)]; exact hSH
          have hbn1 : zX6_bendNow sc1 ar1 hs = nI be := by
            unfold zX6_bendNow at hbn ⊢
            rw [hfr 8 (Or.inl (by decide)), hfr 3 (Or.inl (by decide))]; exact hbn
          have hRl := rowA_le (goN (hk kd) li be) bs hSH.2.1 s
          refine J_aload_n (pc' := 42) (q := 0) F dX6_layFits_41 rfl rfl ?_
          refine J_aload_n (pc' := 43) (q := 0) F dX6_layFits_42 rfl rfl ?_
          refine M_get_0_5 (v := sc1 5) (pc' := 46) F dX6_layFits_43 kw_584 rfl rfl ?_
          refine J_vali (y := nI s) hM1.1 ?_
          refine J_iload_n (pc' := 47) (q := 1) F dX6_layFits_46 rfl rfl ?_
          refine J_aload_n (pc' := 48) (q := 0) F dX6_layFits_47 rfl rfl ?_
          refine J_goRie (wc := (wM cI cZ g sc1 ar1 hs)) (av := [.ref (g 0)]) (rest := [.int (nI a), .int (nI s), .ref (g 0)]) (v := zX6_bendNow sc1 ar1 hs) (pc' := 51) F E (fun _ h => h) (fun H locs hI hp => jrun_V (As := []) 0 F E (c_X6_bendNow l D cI cZ z g sc1 ar1 hs ) kw_754 kw_756 kp_13 rfl kw_757 kw_7 oX6_bendNow ⟨⟨rfl, rfl⟩, ⟨Nat.le_of_ble_eq_true rfl, Nat.le_of_ble_eq_true rfl⟩, Nat.zero_le _, Nat.zero_le _⟩ rfl rfl (Nat.le_of_ble_eq_true rfl) dX6_layFits_48 rfl rfl (jI_P E hI) hp) rfl ?_
          refine J_vali (y := nI be) hbn1 ?_
          refine J_goRie (wc := (wM cI cZ g sc1 ar1 hs)) (av := [.ref (g 0), .int (nI s), .int (nI a), .int (nI be)]) (rest := []) (v := zX6_goes sc1 ar1 hs (nI s) (nI a) (nI be)) (pc' := 54) F E (fun _ h => h) (fun H locs hI hp => jrun_V (As := [.int (nI s), .int (nI a), .int (nI be)]) 0 F E (c_X6_goes l D cI cZ z g sc1 ar1 hs (nI s) (nI a) (nI be)) kw_770 kw_772 kp_15 rfl kw_773 kw_7 oX6_goes ⟨⟨rfl, rfl⟩, ⟨Nat.le_of_ble_eq_true rfl, Nat.le_of_ble_eq_true rfl⟩, Nat.zero_le _, Nat.zero_le _⟩ rfl rfl (Nat.le_of_ble_eq_true rfl) dX6_layFits_51 rfl rfl (jI_P E hI) hp) rfl ?_
          refine J_vali (goesM hM1 hM.2.1 haa hbe) ?_
          cases he : (if isA a = true then (goN (hk kd) li be) s a else none) with
          | none =>
            refine J_vali (y := -1) rfl ?_
            refine J_istore_n (pc' := 55) [1, 2, 0] [(0, .ref (g 0)), (1, .int (nI a)), (2, .int (-1))] F dX6_layFits_54 rfl (jL_of E (show 2 < 4 by decide)) rfl rfl ?_
            refine J_iload_n (pc' := 56) (q := 2) F dX6_layFits_55 rfl rfl ?_
            refine J_iconst (pc' := 57) (v := (-1)) F dX6_layFits_56 (by decide) rfl ?_
            refine J_icmp_eq (tgt := 82) (pc' := 60) F dX6_layFits_57 (by decide) rfl (fun _ => ?_) (fun c9 => absurd (by decide) c9)
            refine J_iconst (pc' := 83) (v := 0) F dX6_layFits_82 (by decide) rfl ?_
            refine J_vali (y := nI (if isA a = true then (rowA (goN (hk kd) li be) bs T s) a else 0)) (by show (0 : Int32) = nI (if isA a = true then (rowA (goN (hk kd) li be) bs T s) a else 0); by_cases q : isA a = true; (rw [if_pos q] at he ⊢; unfold rowA shr; rw [he]; rfl); (rw [if_neg q]; rfl)) ?_
            refine J_istore_n (pc' := 84) [1, 2, 3, 0] [(0, .ref (g 0)), (1, .int (nI a)), (2, .int (-1)), (3, .int (nI (if isA a = true then (rowA (goN (hk kd) li be) bs T s) a else 0)))] F dX6_layFits_83 rfl (jL_of E (show 3 < 4 by decide)) rfl rfl ?_
            refine J_aload_n (pc' := 85) (q := 0) F dX6_layFits_84 rfl rfl ?_
            refine J_dup (pc' := 86) F dX6_layFits_85 rfl rfl ?_
            refine M_get_0_20 (v := sc1 20) (pc' := 89) F dX6_layFits_86 kw_599 rfl rfl ?_
            refine J_iload_n (pc' := 90) (q := 3) F dX6_layFits_89 rfl rfl ?_
            refine J_iadd (pc' := 91) F dX6_layFits_90 rfl ?_
            refine M_put_0_20 (pc' := 94) F dX6_layFits_91 kw_599 rfl ?_
            refine J_aload_n (pc' := 95) (q := 0) F dX6_layFits_94 rfl rfl ?_
            refine J_dup (pc' := 96) F dX6_layFits_95 rfl rfl ?_
            refine M_get_0_21 (v := sc1 21) (pc' := 99) F dX6_layFits_96 kw_600 rfl rfl ?_
            refine J_iload_n (pc' := 100) (q := 3) F dX6_layFits_99 rfl rfl ?_
            refine J_if_le (tgt := 107) (pc' := 103) F dX6_layFits_100 (by decide) rfl (fun kq100 => ?_) (fun kq100 => ?_)
            · refine J_iconst (pc' := 108) (v := 0) F dX6_layFits_107 (by decide) rfl ?_
              refine J_iadd (pc' := 109) F dX6_layFits_108 rfl ?_
              refine M_put_0_21 (pc' := 112) F dX6_layFits_109 kw_600 rfl ?_
              refine J_aload_n (pc' := 113) (q := 0) F dX6_layFits_112 rfl rfl ?_
              refine J_iload_n (pc' := 114) (q := 3) F dX6_layFits_113 rfl rfl ?_
              refine J_if_le (tgt := 129) (pc' := 117) F dX6_layFits_114 (by decide) rfl (fun _ => ?_) (fun c9 => absurd kq100 c9)
              refine J_aload_n (pc' := 130) (q := 0) F dX6_layFits_129 rfl rfl ?_
              refine M_get_0_22 (v := sc1 22) (pc' := 133) F dX6_layFits_130 kw_601 rfl rfl ?_
              refine M_put_0_22 (pc' := 136) F dX6_layFits_133 kw_601 rfl ?_
              refine J_iinc (v := nI (a + 1)) (q := 1) (pc' := 139) [1, 0, 2, 3] [(0, .ref (g 0)), (1, .int (nI (a + 1))), (2, .int (-1)), (3, .int (nI (if isA a = true then (rowA (goN (hk kd) li be) bs T s) a else 0)))] F dX6_layFits_136 rfl (nI_inc a) (jL_of E (show 1 < 4 by decide)) rfl rfl ?_
              refine J_goto (tgt := 28) F dX6_layFits_139 (by decide) ?_
              refine J_lv [0, 1] (lv' := [(0, .ref (g 0)), (1, .int (nI (a + 1)))]) rfl ?_
              have hz0 : (if isA a = true then (rowA (goN (hk kd) li be) bs T s) a else 0) = 0 := nI_le0 (by have := hRl a; split <;> omega) kq100
              exact ih28 (a + 1) (upd (upd (upd sc1 20 ((sc1 20) + (nI (if isA a = true then (rowA (goN (hk kd) li be) bs T s) a else 0)))) 21 ((sc1 21) + 0)) 22 (sc1 22)) ar1 (by omega) (fun j hj => by rw [pk_un (by omega), pk_un (by omega), pk_un (by omega)]; exact hfr j hj) hfa (by rw [fsmz hz0]; show sc1 20 + nI (if isA a = true then (rowA (goN (hk kd) li be) bs T s) a else 0) = _; rw [hz0, h20]; exact (nI_add _ 0).trans (congrArg nI (Nat.add_zero _))) (by rw [fsmz hz0]; show sc1 21 + 0 = _; rw [h21]; exact (nI_add _ 0).trans (congrArg nI (Nat.add_zero _))) (by rw [fsmz hz0]; exact h22) (by omega)
            · refine J_iconst (pc' := 104) (v := 1) F dX6_layFits_103 (by decide) rfl ?_
              refine J_goto (tgt := 108) F dX6_layFits_104 (by decide) ?_
              refine J_iadd (pc' := 109) F dX6_layFits_108 rfl ?_
              refine M_put_0_21 (pc' := 112) F dX6_layFits_109 kw_600 rfl ?_
              refine J_aload_n (pc' := 113) (q := 0) F dX6_layFits_112 rfl rfl ?_
              refine J_iload_n (pc' := 114) (q := 3) F dX6_layFits_113 rfl rfl ?_
              refine J_if_le (tgt := 129) (pc' := 117) F dX6_layFits_114 (by decide) rfl (fun c9 => absurd c9 kq100) (fun _ => ?_)
              refine J_aload_n (pc' := 118) (q := 0) F dX6_layFits_117 rfl rfl ?_
              refine M_get_0_22 (v := sc1 22) (pc' := 121) F dX6_layFits_118 kw_601 rfl rfl ?_
              refine J_iconst (pc' := 122) (v := (-1)) F dX6_layFits_121 (by decide) rfl ?_
              refine J_icmp_ne (tgt := 129) (pc' := 125) F dX6_layFits_122 (by decide) rfl (fun kq122 => ?_) (fun kq122 => ?_)
              · refine J_aload_n (pc' := 130) (q := 0) F dX6_layFits_129 rfl rfl ?_
                refine M_get_0_22 (v := sc1 22) (pc' := 133) F dX6_layFits_130 kw_601 rfl rfl ?_
                refine M_put_0_22 (pc' := 136) F dX6_layFits_133 kw_601 rfl ?_
                refine J_iinc (v := nI (a + 1)) (q := 1) (pc' := 139) [1, 0, 2, 3] [(0, .ref (g 0)), (1, .int (nI (a + 1))), (2, .int (-1)), (3, .int (nI (if isA a = true then (rowA (goN (hk kd) li be) bs T s) a else 0)))] F dX6_layFits_136 rfl (nI_inc a) (jL_of E (show 1 < 4 by decide)) rfl rfl ?_
                refine J_goto (tgt := 28) F dX6_layFits_139 (by decide) ?_
                refine J_lv [0, 1] (lv' := [(0, .ref (g 0)), (1, .int (nI (a + 1)))]) rfl ?_
                have hzp : 0 < (if isA a = true then (rowA (goN (hk kd) li be) bs T s) a else 0) := by
                  rcases Nat.eq_zero_or_pos (if isA a = true then (rowA (goN (hk kd) li be) bs T s) a else 0) with q | q
                  · exact absurd (by rw [q]; exact i32_le_rfl 0) kq100
                  · exact q
                exact ih28 (a + 1) (upd (upd (upd sc1 20 ((sc1 20) + (nI (if isA a = true then (rowA (goN (hk kd) li be) bs T s) a else 0)))) 21 ((sc1 21) + 1)) 22 (sc1 22)) ar1 (by omega) (fun j hj => by rw [pk_un (by omega), pk_un (by omega), pk_un (by omega)]; exact hfr j hj) hfa (by rw [fsmp hzp]; show sc1 20 + nI (if isA a = true then (rowA (goN (hk kd) li be) bs T s) a else 0) = nI _; rw [h20, nI_add]) (by rw [fsmp hzp]; show sc1 21 + 1 = nI _; rw [h21, nI_1]) (by rw [fsmp hzp]; show _ = if (fsM (rowA (goN (hk kd) li be) bs T s) a).2.2 = -1 then nI a else (fsM (rowA (goN (hk kd) li be) bs T s) a).2.2; rw [← h22, if_neg kq122]; rfl) (by omega)
              · refine J_iload_n (pc' := 126) (q := 1) F dX6_layFits_125 rfl rfl ?_
                refine J_goto (tgt := 133) F dX6_layFits_126 (by decide) ?_
                refine M_put_0_22 (pc' := 136) F dX6_layFits_133 kw_601 rfl ?_
                refine J_iinc (v := nI (a + 1)) (q := 1) (pc' := 139) [1, 0, 2, 3] [(0, .ref (g 0)), (1, .int (nI (a + 1))), (2, .int (-1)), (3, .int (nI (if isA a = true then (rowA (goN (hk kd) li be) bs T s) a else 0)))] F dX6_layFits_136 rfl (nI_inc a) (jL_of E (show 1 < 4 by decide)) rfl rfl ?_
                refine J_goto (tgt := 28) F dX6_layFits_139 (by decide) ?_
                refine J_lv [0, 1] (lv' := [(0, .ref (g 0)), (1, .int (nI (a + 1)))]) rfl ?_
                have hzp : 0 < (if isA a = true then (rowA (goN (hk kd) li be) bs T s) a else 0) := by
                  rcases Nat.eq_zero_or_pos (if isA a = true then (rowA (goN (hk kd) li be) bs T s) a else 0) with q | q
                  · exact absurd (by rw [q]; exact i32_le_rfl 0) kq100
                  · exact q
                exact ih28 (a + 1) (upd (upd (upd sc1 20 ((sc1 20) + (nI (if isA a = true then (rowA (goN (hk kd) li be) bs T s) a else 0)))) 21 ((sc1 21) + 1)) 22 (nI a)) ar1 (by omega) (fun j hj => by rw [pk_un (by omega), pk_un (by omega), pk_un (by omega)]; exact hfr j hj) hfa (by rw [fsmp hzp]; show sc1 20 + nI (if isA a = true then (rowA (goN (hk kd) li be) bs T s) a else 0) = nI _; rw [h20, nI_add]) (by rw [fsmp hzp]; show sc1 21 + 1 = nI _; rw [h21, nI_1]) (by rw [fsmp hzp]; show _ = if (fsM (rowA (goN (hk kd) li be) bs T s) a).2.2 = -1 then nI a else (fsM (rowA (goN (hk kd) li be) bs T s) a).2.2; rw [← h22, if_pos kq122]; rfl) (by omega)
          | some t =>
            have hAa : isA a = true := by
              by_cases q : isA a = true
              · exact q
              · rw [if_neg q] at he; cases he
            have he2 : (goN (hk kd) li be) s a = some t := by rw [if_pos hAa] at he; exact he
            have ht : t < 4096 := goN_lt hM.2.1 he2
            have hbt := bnt_le t
            refine J_vali (y := nI t) rfl ?_
            refine J_istore_n (pc' := 55) [1, 2, 0] [(0, .ref (g 0)), (1, .int (nI a)), (2, .int (nI t))] F dX6_layFits_54 rfl (jL_of E (show 2 < 4 by decide)) rfl rfl ?_
            refine J_iload_n (pc' := 56) (q := 2) F dX6_layFits_55 rfl rfl ?_
            refine J_iconst (pc' := 57) (v := (-1)) F dX6_layFits_56 (by decide) rfl ?_
            refine J_icmp_eq (tgt := 82) (pc' := 60) F dX6_layFits_57 (by decide) rfl (fun kq57 => False.elim (nI_m1 (by omega) kq57)) (fun kq57 => ?_)
            refine J_iload_n (pc' := 61) (q := 2) F dX6_layFits_60 rfl rfl ?_
            refine J_goRie (wc := []) (av := [.int (nI t)]) (rest := []) (v := zX6_bentOf (nI t)) (pc' := 64) F E (fun _ _ => jP_nil _ _) (fun H locs hI hp => jrun_S F E (c_X6_bentOf l D cI cZ z (nI t)) kw_745 kw_746 rfl kw_747 kw_7 oX6_bentOf ⟨⟨rfl, rfl⟩, ⟨Nat.le_of_ble_eq_true rfl, Nat.le_of_ble_eq_true rfl⟩, Nat.zero_le _, Nat.zero_le _⟩ rfl (Nat.le_of_ble_eq_true rfl) dX6_layFits_61 hp) rfl ?_
            refine J_vali (y := nI (bnt t)) (bent6 ht) ?_
            refine J_aload_n (pc' := 65) (q := 0) F dX6_layFits_64 rfl rfl ?_
            refine M_get_0_17 (pc' := 68) F dX6_layFits_65 kw_596 rfl ?_
            refine J_iconst (pc' := 69) (v := 0) F dX6_layFits_68 (by decide) rfl ?_
            refine M_ld_6 (f := ar1 6) (q := 0) (pc' := 70) F dX6_layFits_69 rfl rfl (by unfold vp_in; decide) rfl ?_
            refine J_vali (y := nI (bs 0)) (hSH1.2.2 0 (by omega)).1 ?_
            refine J_icmp_ne (tgt := 82) (pc' := 73) F dX6_layFits_70 (by decide) rfl (fun kq70 => ?_) (fun kq70 => ?_)
            · refine J_iconst (pc' := 83) (v := 0) F dX6_layFits_82 (by decide) rfl ?_
              refine J_vali (y := nI (if isA a = true then (rowA (goN (hk kd) li be) bs T s) a else 0)) (by show (0 : Int32) = nI (if isA a = true then (rowA (goN (hk kd) li be) bs T s) a else 0); rw [if_pos hAa]; unfold rowA shr; rw [he2]; show (0 : Int32) = nI (if bnt t = bs 0 then _ else 0); rw [if_neg (fun q => kq70 (by rw [q]))]; rfl) ?_
              refine J_istore_n (pc' := 84) [1, 2, 3, 0] [(0, .ref (g 0)), (1, .int (nI a)), (2, .int (nI t)), (3, .int (nI (if isA a = true then (rowA (goN (hk kd) li be) bs T s) a else 0)))] F dX6_layFits_83 rfl (jL_of E (show 3 < 4 by decide)) rfl rfl ?_
              refine J_aload_n (pc' := 85) (q := 0) F dX6_layFits_84 rfl rfl ?_
              refine J_dup (pc' := 86) F dX6_layFits_85 rfl rfl ?_
              refine M_get_0_20 (v := sc1 20) (pc' := 89) F dX6_layFits_86 kw_599 rfl rfl ?_
              refine J_iload_n (pc' := 90) (q := 3) F dX6_layFits_89 rfl rfl ?_
              refine J_iadd (pc' := 91) F dX6_layFits_90 rfl ?_
              refine M_put_0_20 (pc' := 94) F dX6_layFits_91 kw_599 rfl ?_
              refine J_aload_n (pc' := 95) (q := 0) F dX6_layFits_94 rfl rfl ?_
              refine J_dup (pc' := 96) F dX6_layFits_95 rfl rfl ?_
              refine M_get_0_21 (v := sc1 21) (pc' := 99) F dX6_layFits_96 kw_600 rfl rfl ?_
              refine J_iload_n (pc' := 100) (q := 3) F dX6_layFits_99 rfl rfl ?_
              refine J_if_le (tgt := 107) (pc' := 103) F dX6_layFits_100 (by decide) rfl (fun kq100_2 => ?_) (fun kq100_2 => ?_)
              · refine J_iconst (pc' := 108) (v := 0) F dX6_layFits_107 (by decide) rfl ?_
                refine J_iadd (pc' := 109) F dX6_layFits_108 rfl ?_
                refine M_put_0_21 (pc' := 112) F dX6_layFits_109 kw_600 rfl ?_
                refine J_aload_n (pc' := 113) (q := 0) F dX6_layFits_112 rfl rfl ?_
                refine J_iload_n (pc' := 114) (q := 3) F dX6_layFits_113 rfl rfl ?_
                refine J_if_le (tgt := 129) (pc' := 117) F dX6_layFits_114 (by decide) rfl (fun _ => ?_) (fun c9 => absurd kq100_2 c9)
                refine J_aload_n (pc' := 130) (q := 0) F dX6_layFits_129 rfl rfl ?_
                refine M_get_0_22 (v := sc1 22) (pc' := 133) F dX6_layFits_130 kw_601 rfl rfl ?_
                refine M_put_0_22 (pc' := 136) F dX6_layFits_133 kw_601 rfl ?_
                refine J_iinc (v := nI (a + 1)) (q := 1) (pc' := 139) [1, 0, 2, 3] [(0, .ref (g 0)), (1, .int (nI (a + 1))), (2, .int (nI t)), (3, .int (nI (if isA a = true then (rowA (goN (hk kd) li be) bs T s) a else 0)))] F dX6_layFits_136 rfl (nI_inc a) (jL_of E (show 1 < 4 by decide)) rfl rfl ?_
                refine J_goto (tgt := 28) F dX6_layFits_139 (by decide) ?_
                refine J_lv [0, 1] (lv' := [(0, .ref (g 0)), (1, .int (nI (a + 1)))]) rfl ?_
                have hz0 : (if isA a = true then (rowA (goN (hk kd) li be) bs T s) a else 0) = 0 := nI_le0 (by have := hRl a; split <;> omega) kq100_2
                exact ih28 (a + 1) (upd (upd (upd sc1 20 ((sc1 20) + (nI (if isA a = true then (rowA (goN (hk kd) li be) bs T s) a else 0)))) 21 ((sc1 21) + 0)) 22 (sc1 22)) ar1 (by omega) (fun j hj => by rw [pk_un (by omega), pk_un (by omega), pk_un (by omega)]; exact hfr j hj) hfa (by rw [fsmz hz0]; show sc1 20 + nI (if isA a = true then (rowA (goN (hk kd) li be) bs T s) a else 0) = _; rw [hz0, h20]; exact (nI_add _ 0).trans (congrArg nI (Nat.add_zero _))) (by rw [fsmz hz0]; show sc1 21 + 0 = _; rw [h21]; exact (nI_add _ 0).trans (congrArg nI (Nat.add_zero _))) (by rw [fsmz hz0]; exact h22) (by omega)
              · refine J_iconst (pc' := 104) (v := 1) F dX6_layFits_103 (by decide) rfl ?_
                refine J_goto (tgt := 108) F dX6_layFits_104 (by decide) ?_
                refine J_iadd (pc' := 109) F dX6_layFits_108 rfl ?_
                refine M_put_0_21 (pc' := 112) F dX6_layFits_109 kw_600 rfl ?_
                refine J_aload_n (pc' := 113) (q := 0) F dX6_layFits_112 rfl rfl ?_
                refine J_iload_n (pc' := 114) (q := 3) F dX6_layFits_113 rfl rfl ?_
                refine J_if_le (tgt := 129) (pc' := 117) F dX6_layFits_114 (by decide) rfl (fun c9 => absurd c9 kq100_2) (fun _ => ?_)
                refine J_aload_n (pc' := 118) (q := 0) F dX6_layFits_117 rfl rfl ?_
                refine M_get_0_22 (v := sc1 22) (pc' := 121) F dX6_layFits_118 kw_601 rfl rfl ?_
                refine J_iconst (pc' := 122) (v := (-1)) F dX6_layFits_121 (by decide) rfl ?_
                refine J_icmp_ne (tgt := 129) (pc' := 125) F dX6_layFits_122 (by decide) rfl (fun kq122_2 => ?_) (fun kq122_2 => ?_)
                · refine J_aload_n (pc' := 130) (q := 0) F dX6_layFits_129 rfl rfl ?_
                  refine M_get_0_22 (v := sc1 22) (pc' := 133) F dX6_layFits_130 kw_601 rfl rfl ?_
                  refine M_put_0_22 (pc' := 136) F dX6_layFits_133 kw_601 rfl ?_
                  refine J_iinc (v := nI (a + 1)) (q := 1) (pc' := 139) [1, 0, 2, 3] [(0, .ref (g 0)), (1, .int (nI (a + 1))), (2, .int (nI t)), (3, .int (nI (if isA a = true then (rowA (goN (hk kd) li be) bs T s) a else 0)))] F dX6_layFits_136 rfl (nI_inc a) (jL_of E (show 1 < 4 by decide)) rfl rfl ?_
                  refine J_goto (tgt := 28) F dX6_layFits_139 (by decide) ?_
                  refine J_lv [0, 1] (lv' := [(0, .ref (g 0)), (1, .int (nI (a + 1)))]) rfl ?_
                  have hzp : 0 < (if isA a = true then (rowA (goN (hk kd) li be) bs T s) a else 0) := by
                    rcases Nat.eq_zero_or_pos (if isA a = true then (rowA (goN (hk kd) li be) bs T s) a else 0) with q | q
                    · exact absurd (by rw [q]; exact i32_le_rfl 0) kq100_2
                    · exact q
                  exact ih28 (a + 1) (upd (upd (upd sc1 20 ((sc1 20) + (nI (if isA a = true then (rowA (goN (hk kd) li be) bs T s) a else 0)))) 21 ((sc1 21) + 1)) 22 (sc1 22)) ar1 (by omega) (fun j hj => by rw [pk_un (by omega), pk_un (by omega), pk_un (by omega)]; exact hfr j hj) hfa (by rw [fsmp hzp]; show sc1 20 + nI (if isA a = true then (rowA (goN (hk kd) li be) bs T s) a else 0) = nI _; rw [h20, nI_add]) (by rw [fsmp hzp]; show sc1 21 + 1 = nI _; rw [h21, nI_1]) (by rw [fsmp hzp]; show _ = if (fsM (rowA (goN (hk kd) li be) bs T s) a).2.2 = -1 then nI a else (fsM (rowA (goN (hk kd) li be) bs T s) a).2.2; rw [← h22, if_neg kq122_2]; rfl) (by omega)
                · refine J_iload_n (pc' := 126) (q := 1) F dX6_layFits_125 rfl rfl ?_
                  refine J_goto (tgt := 133) F dX6_layFits_126 (by decide) ?_
                  refine M_put_0_22 (pc' := 136) F dX6_layFits_133 kw_601 rfl ?_
                  refine J_iinc (v := nI (a + 1)) (q := 1) (pc' := 139) [1, 0, 2, 3] [(0, .ref (g 0)), (1, .int (nI (a + 1))), (2, .int (nI t)), (3, .int (nI (if isA a = true then (rowA (goN (hk kd) li be) bs T s) a else 0)))] F dX6_layFits_136 rfl (nI_inc a) (jL_of E (show 1 < 4 by decide)) rfl rfl ?_
                  refine J_goto (tgt := 28) F dX6_layFits_139 (by decide) ?_
                  refine J_lv [0, 1] (lv' := [(0, .ref (g 0)), (1, .int (nI (a + 1)))]) rfl ?_
                  have hzp : 0 < (if isA a = true then (rowA (goN (hk kd) li be) bs T s) a else 0) := by
                    rcases Nat.eq_zero_or_pos (if isA a = true then (rowA (goN (hk kd) li be) bs T s) a else 0) with q | q
                    · exact absurd (by rw [q]; exact i32_le_rfl 0) kq100_2
                    · exact q
                  exact ih28 (a + 1) (upd (upd (upd sc1 20 ((sc1 20) + (nI (if isA a = true then (rowA (goN (hk kd) li be) bs T s) a else 0)))) 21 ((sc1 21) + 1)) 22 (nI a)) ar1 (by omega) (fun j hj => by rw [pk_un (by omega), pk_un (by omega), pk_un (by omega)]; exact hfr j hj) hfa (by rw [fsmp hzp]; show sc1 20 + nI (if isA a = true then (rowA (goN (hk kd) li be) bs T s) a else 0) = nI _; rw [h20, nI_add]) (by rw [fsmp hzp]; show sc1 21 + 1 = nI _; rw [h21, nI_1]) (by rw [fsmp hzp]; show _ = if (fsM (rowA (goN (hk kd) li be) bs T s) a).2.2 = -1 then nI a else (fsM (rowA (goN (hk kd) li be) bs T s) a).2.2; rw [← h22, if_pos kq122_2]; rfl) (by omega)
            · refine J_aload_n (pc' := 74) (q := 0) F dX6_layFits_73 rfl rfl ?_
              refine J_iload_n (pc' := 75) (q := 2) F dX6_layFits_74 rfl rfl ?_
              refine J_iconst (pc' := 76) (v := 1) F dX6_layFits_75 (by decide) rfl ?_
              refine J_goWi (wf := (fM cI cZ g)) (w0 := (wM cI cZ g sc1 ar1 hs)) (av := [.ref (g 0), .int (nI t), .int 1]) (rest := []) (pc' := 79) (fM cI cZ g) F E hA (fun _ h => h) id (jsubA_rf _) (fun _ => jOver_rf _ _ _) (fun H locs hI hp => jrun_V (As := [.int (nI t), .int 1]) 0 F E (c_X6_rowsFrom l D cI cZ z g sc1 ar1 hs kd li s be t bs T hM1 hbe hbn1 hSH1 (by omega) ht H.size) kw_835 kw_837 kp_23 rfl kw_838 kw_7 oX6_rowsFrom ⟨⟨rfl, rfl⟩, ⟨Nat.le_of_ble_eq_true rfl, Nat.le_of_ble_eq_true rfl⟩, Nat.zero_le _, Nat.zero_le _⟩ rfl rfl (Nat.le_of_ble_eq_true rfl) dX6_layFits_76 rfl rfl (jI_P E hI) hp) rfl (fun r76 ur76 hr76 => ?_)
              obtain ⟨ar3, rfl, hfr3, rfl⟩ := hr76
              refine J_ws (ws' := (wM cI cZ g sc1 ar3 hs)) rfl ?_
              refine J_goto (tgt := 83) F dX6_layFits_79 (by decide) ?_
              refine J_vali (y := nI (if isA a = true then (rowA (goN (hk kd) li be) bs T s) a else 0)) (by rw [if_pos hAa]; unfold rowA shr; rw [he2]; show nI _ = nI (if bnt t = bs 0 then _ else 0); rw [if_pos ((nI_eq (by omega) (by have := (hSH.2.2 0 (by omega)).2; omega)).mp kq70)]) ?_
              refine J_istore_n (pc' := 84) [1, 2, 3, 0] [(0, .ref (g 0)), (1, .int (nI a)), (2, .int (nI t)), (3, .int (nI (if isA a = true then (rowA (goN (hk kd) li be) bs T s) a else 0)))] F dX6_layFits_83 rfl (jL_of E (show 3 < 4 by decide)) rfl rfl ?_
              refine J_aload_n (pc' := 85) (q := 0) F dX6_layFits_84 rfl rfl ?_
              refine J_dup (pc' := 86) F dX6_layFits_85 rfl rfl ?_
              refine M_get_0_20 (v := sc1 20) (pc' := 89) F dX6_layFits_86 kw_599 rfl rfl ?_
              refine J_iload_n (pc' := 90) (q := 3) F dX6_layFits_89 rfl rfl ?_
              refine J_iadd (pc' := 91) F dX6_layFits_90 rfl ?_
              refine M_put_0_20 (pc' := 94) F dX6_layFits_91 kw_599 rfl ?_
              refine J_aload_n (pc' := 95) (q := 0) F dX6_layFits_94 rfl rfl ?_
              refine J_dup (pc' := 96) F dX6_layFits_95 rfl rfl ?_
              refine M_get_0_21 (v := sc1 21) (pc' := 99) F dX6_layFits_96 kw_600 rfl rfl ?_
              refine J_iload_n (pc' := 100) (q := 3) F dX6_layFits_99 rfl rfl ?_
              refine J_if_le (tgt := 107) (pc' := 103) F dX6_layFits_100 (by decide) rfl (fun kq100_3 => ?_) (fun kq100_3 => ?_)
              · refine J_iconst (pc' := 108) (v := 0) F dX6_layFits_107 (by decide) rfl ?_
                refine J_iadd (pc' := 109) F dX6_layFits_108 rfl ?_
                refine M_put_0_21 (pc' := 112) F dX6_layFits_109 kw_600 rfl ?_
                refine J_aload_n (pc' := 113) (q := 0) F dX6_layFits_112 rfl rfl ?_
                refine J_iload_n (pc' := 114) (q := 3) F dX6_layFits_113 rfl rfl ?_
                refine J_if_le (tgt := 129) (pc' := 117) F dX6_layFits_114 (by decide) rfl (fun _ => ?_) (fun c9 => absurd kq100_3 c9)
                refine J_aload_n (pc' := 130) (q := 0) F dX6_layFits_129 rfl rfl ?_
                refine M_get_0_22 (v := sc1 22) (pc' := 133) F dX6_layFits_130 kw_601 rfl rfl ?_
                refine M_put_0_22 (pc' := 136) F dX6_layFits_133 kw_601 rfl ?_
                refine J_iinc (v := nI (a + 1)) (q := 1) (pc' := 139) [1, 0, 2, 3] [(0, .ref (g 0)), (1, .int (nI (a + 1))), (2, .int (nI t)), (3, .int (nI (if isA a = true then (rowA (goN (hk kd) li be) bs T s) a else 0)))] F dX6_layFits_136 rfl (nI_inc a) (jL_of E (show 1 < 4 by decide)) rfl rfl ?_
                refine J_goto (tgt := 28) F dX6_layFits_139 (by decide) ?_
                refine J_lv [0, 1] (lv' := [(0, .ref (g 0)), (1, .int (nI (a + 1)))]) rfl ?_
                have hz0 : (if isA a = true then (rowA (goN (hk kd) li be) bs T s) a else 0) = 0 := nI_le0 (by have := hRl a; split <;> omega) kq100_3
                exact ih28 (a + 1) (upd (upd (upd sc1 20 ((sc1 20) + (nI (if isA a = true then (rowA (goN (hk kd) li be) bs T s) a else 0)))) 21 ((sc1 21) + 0)) 22 (sc1 22)) ar3 (by omega) (fun j hj => by rw [pk_un (by omega), pk_un (by omega), pk_un (by omega)]; exact hfr j hj) (hfa.trans hfr3) (by rw [fsmz hz0]; show sc1 20 + nI (if isA a = true then (rowA (goN (hk kd) li be) bs T s) a else 0) = _; rw [hz0, h20]; exact (nI_add _ 0).trans (congrArg nI (Nat.add_zero _))) (by rw [fsmz hz0]; show sc1 21 + 0 = _; rw [h21]; exact (nI_add _ 0).trans (congrArg nI (Nat.add_zero _))) (by rw [fsmz hz0]; exact h22) (by omega)
              · refine J_iconst (pc' := 104) (v := 1) F dX6_layFits_103 (by decide) rfl ?_
                refine J_goto (tgt := 108) F dX6_layFits_104 (by decide) ?_
                refine J_iadd (pc' := 109) F dX6_layFits_108 rfl ?_
                refine M_put_0_21 (pc' := 112) F dX6_layFits_109 kw_600 rfl ?_
                refine J_aload_n (pc' := 113) (q := 0) F dX6_layFits_112 rfl rfl ?_
                refine J_iload_n (pc' := 114) (q := 3) F dX6_layFits_113 rfl rfl ?_
                refine J_if_le (tgt := 129) (pc' := 117) F dX6_layFits_114 (by decide) rfl (fun c9 => absurd c9 kq100_3) (fun _ => ?_)
                refine J_aload_n (pc' := 118) (q := 0) F dX6_layFits_117 rfl rfl ?_
                refine M_get_0_22 (v := sc1 22) (pc' := 121) F dX6_layFits_118 kw_601 rfl rfl ?_
                refine J_iconst (pc' := 122) (v := (-1)) F dX6_layFits_121 (by decide) rfl ?_
                refine J_icmp_ne (tgt := 129) (pc' := 125) F dX6_layFits_122 (by decide) rfl (fun kq122_3 => ?_) (fun kq122_3 => ?_)
                · refine J_aload_n (pc' := 130) (q := 0) F dX6_layFits_129 rfl rfl ?_
                  refine M_get_0_22 (v := sc1 22) (pc' := 133) F dX6_layFits_130 kw_601 rfl rfl ?_
                  refine M_put_0_22 (pc' := 136) F dX6_layFits_133 kw_601 rfl ?_
                  refine J_iinc (v := nI (a + 1)) (q := 1) (pc' := 139) [1, 0, 2, 3] [(0, .ref (g 0)), (1, .int (nI (a + 1))), (2, .int (nI t)), (3, .int (nI (if isA a = true then (rowA (goN (hk kd) li be) bs T s) a else 0)))] F dX6_layFits_136 rfl (nI_inc a) (jL_of E (show 1 < 4 by decide)) rfl rfl ?_
                  refine J_goto (tgt := 28) F dX6_layFits_139 (by decide) ?_
                  refine J_lv [0, 1] (lv' := [(0, .ref (g 0)), (1, .int (nI (a + 1)))]) rfl ?_
                  have hzp : 0 < (if isA a = true then (rowA (goN (hk kd) li be) bs T s) a else 0) := by
                    rcases Nat.eq_zero_or_pos (if isA a = true then (rowA (goN (hk kd) li be) bs T s) a else 0) with q | q
                    · exact absurd (by rw [q]; exact i32_le_rfl 0) kq100_3
                    · exact q
                  exact ih28 (a + 1) (upd (upd (upd sc1 20 ((sc1 20) + (nI (if isA a = true then (rowA (goN (hk kd) li be) bs T s) a else 0)))) 21 ((sc1 21) + 1)) 22 (sc1 22)) ar3 (by omega) (fun j hj => by rw [pk_un (by omega), pk_un (by omega), pk_un (by omega)]; exact hfr j hj) (hfa.trans hfr3) (by rw [fsmp hzp]; show sc1 20 + nI (if isA a = true then (rowA (goN (hk kd) li be) bs T s) a else 0) = nI _; rw [h20, nI_add]) (by rw [fsmp hzp]; show sc1 21 + 1 = nI _; rw [h21, nI_1]) (by rw [fsmp hzp]; show _ = if (fsM (rowA (goN (hk kd) li be) bs T s) a).2.2 = -1 then nI a else (fsM (rowA (goN (hk kd) li be) bs T s) a).2.2; rw [← h22, if_neg kq122_3]; rfl) (by omega)
                · refine J_iload_n (pc' := 126) (q := 1) F dX6_layFits_125 rfl rfl ?_
                  refine J_goto (tgt := 133) F dX6_layFits_126 (by decide) ?_
                  refine M_put_0_22 (pc' := 136) F dX6_layFits_133 kw_601 rfl ?_
                  refine J_iinc (v := nI (a + 1)) (q := 1) (pc' := 139) [1, 0, 2, 3] [(0, .ref (g 0)), (1, .int (nI (a + 1))), (2, .int (nI t)), (3, .int (nI (if isA a = true then (rowA (goN (hk kd) li be) bs T s) a else 0)))] F dX6_layFits_136 rfl (nI_inc a) (jL_of E (show 1 < 4 by decide)) rfl rfl ?_
                  refine J_goto (tgt := 28) F dX6_layFits_139 (by decide) ?_
                  refine J_lv [0, 1] (lv' := [(0, .ref (g 0)), (1, .int (nI (a + 1)))]) rfl ?_
                  have hzp : 0 < (if isA a = true then (rowA (goN (hk kd) li be) bs T s) a else 0) := by
                    rcases Nat.eq_zero_or_pos (if isA a = true then (rowA (goN (hk kd) li be) bs T s) a else 0) with q | q
                    · exact absurd (by rw [q]; exact i32_le_rfl 0) kq100_3
                    · exact q
                  exact ih28 (a + 1) (upd (upd (upd sc1 20 ((sc1 20) + (nI (if isA a = true then (rowA (goN (hk kd) li be) bs T s) a else 0)))) 21 ((sc1 21) + 1)) 22 (nI a)) ar3 (by omega) (fun j hj => by rw [pk_un (by omega), pk_un (by omega), pk_un (by omega)]; exact hfr j hj) (hfa.trans hfr3) (by rw [fsmp hzp]; show sc1 20 + nI (if isA a = true then (rowA (goN (hk kd) li be) bs T s) a else 0) = nI _; rw [h20, nI_add]) (by rw [fsmp hzp]; show sc1 21 + 1 = nI _; rw [h21, nI_1]) (by rw [fsmp hzp]; show _ = if (fsM (rowA (goN (hk kd) li be) bs T s) a).2.2 = -1 then nI a else (fsM (rowA (goN (hk kd) li be) bs T s) a).2.2; rw [← h22, if_pos kq122_3]; rfl) (by omega)
    exact L28 _ 0 (upd (upd (upd sc 20 0) 21 0) 22 (-1)) ar (Nat.zero_le _) (fun j hj => by rw [pk_un (by omega), pk_un (by omega), pk_un (by omega)]) (fun _ _ _ => rfl) rfl rfl rfl (Nat.lt_succ_self _)
  · have hT0 : T = 0 := (nI_eq (b := 0) (by have := hSH.2.1; omega) (by decide)).mp kq5
    refine J_iconst (pc' := 9) (v := 1) F dX6_layFits_8 (by decide) rfl ?_
    refine J_goto (tgt := 13) F dX6_layFits_9 (by decide) ?_
    refine M_put_0_20 (pc' := 16) F dX6_layFits_13 kw_599 rfl ?_
    refine J_aload_n (pc' := 17) (q := 0) F dX6_layFits_16 rfl rfl ?_
    refine J_iconst (pc' := 18) (v := 0) F dX6_layFits_17 (by decide) rfl ?_
    refine M_put_0_21 (pc' := 21) F dX6_layFits_18 kw_600 rfl ?_
    refine J_aload_n (pc' := 22) (q := 0) F dX6_layFits_21 rfl rfl ?_
    refine J_iconst (pc' := 23) (v := (-1)) F dX6_layFits_22 (by decide) rfl ?_
    refine M_put_0_22 (pc' := 26) F dX6_layFits_23 kw_601 rfl ?_
    refine J_iconst (pc' := 27) (v := 0) F dX6_layFits_26 (by decide) rfl ?_
    refine J_istore_n (pc' := 28) [1, 0] [(0, .ref (g 0)), (1, .int 0)] F dX6_layFits_27 rfl (jL_of E (show 1 < 4 by decide)) rfl rfl ?_
    refine J_iload_n (pc' := 29) (q := 1) F dX6_layFits_28 rfl rfl ?_
    refine J_bipush (pc' := 31) (v := 42) F dX6_layFits_29 (by decide) rfl ?_
    refine J_icmp_ge (tgt := 142) (pc' := 34) F dX6_layFits_31 (by decide) rfl (fun c9 => absurd c9 (by decide)) (fun _ => ?_)
    refine J_aload_n (pc' := 35) (q := 0) F dX6_layFits_34 rfl rfl ?_
    refine M_get_0_16 (v := sc 16) (pc' := 38) F dX6_layFits_35 kw_595 rfl rfl ?_
    refine J_vali (y := nI T) (by first | exact hSH.1 | (rw [hfr 16 (Or.inl (by decide))]; exact hSH.1)) ?_
    refine J_if_le (tgt := 142) (pc' := 41) F dX6_layFits_38 (by decide) rfl (fun kq38_2 => ?_) (fun kq38_2 => False.elim (kq38_2 (by rw [hT0]; exact i32_le_rfl 0)))
    exact J_vretW ((upd (upd (upd sc 20 1) 21 0) 22 (-1)), ar, hs) F hR dX6_layFits_142 rfl ⟨ar, _, rfl, fun j hj => by rw [pk_un (by omega), pk_un (by omega), pk_un (by omega)], fun _ _ _ => rfl, by unfold fit3; rw [if_pos hT0]; rfl, by unfold fit3; rw [if_pos hT0]; rfl, by unfold fit3; rw [if_pos hT0]; rfl⟩
