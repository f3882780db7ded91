/-! the class's Outlook: leave and lookFrom -/
def frK (sc : Nat → Int32) (ar : Nat → Nat → Int32) (sc1 : Nat → Int32) (ar1 : Nat → Nat → Int32) (rd : Int32) (s be : Nat) : Prop := (∀ j, (j < 17 ∨ 24 ≤ j) → sc1 j = sc j) ∧ (∀ k, (k < 6 ∨ 10 ≤ k) → ar1 k = ar k) ∧ sc1 20 = rd ∧ sc1 21 = nI s ∧ sc1 22 = nI (tns s) ∧ sc1 23 = nI be
theorem frK.CH {sc sc1 : Nat → Int32} {ar ar1 : Nat → Nat → Int32} {rd : Int32} {s be : Nat} {kd : Nat → Nat} {li : Nat} (h : frK sc ar sc1 ar1 rd s be) (hC : CH sc ar kd li) : CH sc1 ar1 kd li := by
  refine ⟨by rw [h.1 6 (Or.inl (by decide))]; exact hC.1, hC.2.1, ?_, ?_⟩
  · rw [h.2.1 1 (Or.inl (by decide))]; exact hC.2.2.1
  · rw [h.2.1 2 (Or.inl (by decide)), h.2.1 3 (Or.inl (by decide))]; exact hC.2.2.2
theorem frK.L {sc sc1 sc2 : Nat → Int32} {ar ar1 ar2 : Nat → Nat → Int32} {rd : Int32} {s be : Nat} (h : frK sc ar sc1 ar1 rd s be) (h2 : frL sc1 ar1 sc2 ar2) : frK sc ar sc2 ar2 rd s be :=
  ⟨fun j hj => (h2.1 j (by omega) (by omega) (by omega)).trans (h.1 j hj), fun k hk => (h2.2 k hk).trans (h.2.1 k hk), (h2.1 20 (by decide) (by decide) (by decide)).trans h.2.2.1, (h2.1 21 (by decide) (by decide) (by decide)).trans h.2.2.2.1, (h2.1 22 (by decide) (by decide) (by decide)).trans h.2.2.2.2.1, (h2.1 23 (by decide) (by decide) (by decide)).trans h.2.2.2.2.2⟩
def IsMost (m : Nat → Int32) (s : Nat) (x : Int32) : Prop := ∃ k, x = nI k ∧ k ≤ 18 ∧ (∀ n, n < 4096 → m n ≠ -1 → tns s ≤ tns n + k) ∧ ∃ n, n < 4096 ∧ m n ≠ -1 ∧ tns n + k = tns s
def OutOK (E : Nat → Nat → Option Nat) (w : Nat → Nat) (s : Nat) (sc : Nat → Int32) (ar : Nat → Nat → Int32) : Prop := Sol E w s (ar 6) (ar 7) ∧ sc 18 = nI (ctD (ar 6)) ∧ IsMost (ar 6) s (sc 19)
theorem OI.out {E : Nat → Nat → Option Nat} {w : Nat → Nat} {s : Nat} (hs : s < 4096) {sc : Nat → Int32} {ar : Nat → Nat → Int32} {lf : Nat → Bool} {u p : Nat} (h : OI E w s sc ar lf u p) (hz : ∀ j, j < 5 → cW (ar 9) j = 0) : OutOK E w s sc ar := by
  obtain ⟨a1, a2, a3, k, a4, a5, a6, a7⟩ := h
  obtain ⟨b1, b2⟩ := a1.all hz
  refine ⟨b1, ?_, k, a4, a5, fun n hn hd => a6 n hn ((b2 n hn).mpr hd), ?_⟩
  · rw [a3]
    unfold ctD
    rw [fb_ct_cong (q := fun n => !decide (ar 6 n = -1)) (fun n hn => ?_)]
    have := b2 n hn
    cases e : lf n with
    | true => have := this.mp e; simp [this]
    | false =>
      have : ¬ ar 6 n ≠ -1 := fun q => by rw [this.mpr q] at e; cases e
      simp only [ne_eq, Decidable.not_not] at this
      simp [this]
  · rcases a7 with r | ⟨n, hn, hl, r⟩
    · exact ⟨s, hs, by rw [b1.2.2.1.1]; exact m0_ne, by omega⟩
    · exact ⟨n, hn, (b2 n hn).mp hl, r⟩
theorem sm_zero {wi : Nat → Int32} (h : fb_sm (cW wi) 5 = 0) : ∀ j, j < 5 → cW wi j = 0 := fb_sm_zero h
theorem sm_le {E : Nat → Nat → Option Nat} {w : Nat → Nat} {s : Nat} {m f wq wi : Nat → Int32} {lf : Nat → Bool} {u p : Nat} (h : LqI E w s m f wq wi lf u p) : fb_sm (cW wi) 5 ≤ 5 * 4096 := fb_sm_bound (fun j hj => (h.2.1 j hj).2.1)
theorem OI.next {E : Nat → Nat → Option Nat} {w : Nat → Nat} {s : Nat} {sc : Nat → Int32} {ar : Nat → Nat → Int32} {lf : Nat → Bool} {u p n0 : Nat} (h : OI E w s sc ar lf u p) (hn : cW (ar 9) (u % 5) = n0) (hp : n0 ≤ p) : OI E w s (upd sc 17 (sc 17 - nI n0)) (va_up ar 9 (upd (ar 9) (u % 5) 0)) lf (u + 1) 0 := by
  obtain ⟨a1, a2, a3, a4⟩ := h
  subst hn
  have hj : u % 5 < 5 := Nat.mod_lt _ (by decide)
  refine ⟨a1.next hp, ?_, ?_, ?_⟩
  · rw [pk_us, a2, va_us]
    have e : cW (upd (ar 9) (u % 5) 0) = fun k => if k = u % 5 then 0 else cW (ar 9) k := by
      funext k
      by_cases e : k = u % 5
      · rw [if_pos e, e]; unfold cW; rw [pk_us]; rfl
      · rw [if_neg e, cW_upd_ne e]
    rw [e]
    have h1 := fb_sm_upd (cW (ar 9)) 0 hj
    rw [pk_sub (by omega)]
    exact congrArg nI (by omega)
  · rw [pk_un (by decide)]; exact a3
  · rw [pk_un (by decide)]; exact a4
theorem fill_in {α : Type} {v : α} {g : Nat → α} {N j : Nat} (h : j < N) : fa_fill (fun _ => v) g N j = v := fa_fill_in (f := fun _ => v) h
theorem reach0 {E : Nat → Nat → Option Nat} {w : Nat → Nat} {s : Nat} (hG : Gr E w s) {sc : Nat → Int32} {ar : Nat → Nat → Int32} (h6 : ∀ n, n < 4096 → ar 6 n = -1) (h7 : ∀ n, n < 4096 → ar 7 n = -1) (h9 : ∀ j, j < 5 → ar 9 j = 0) (h17 : sc 17 = 0) (h18 : sc 18 = 0) (h19 : sc 19 = 0) :
    OI E w s (fX4_reach sc ar (nI s) 0 (-1)).1 (fX4_reach sc ar (nI s) 0 (-1)).2 (fun _ => false) 0 0 ∧ (∀ j, j ≠ 17 → (fX4_reach sc ar (nI s) 0 (-1)).1 j = sc j) ∧ ∀ k, (k < 6 ∨ 10 ≤ k) → (fX4_reach sc ar (nI s) 0 (-1)).2 k = ar k := by
  have hs := hG.1
  unfold fX4_reach
  rw [if_neg (nI_pos (by omega)), if_neg (show ¬ (4096 : Int32) ≤ nI s from nI_ge (b := 4096) hs (by decide)), if_pos (show (0 : Int32) ≤ 0 from i32_le_rfl 0), nI_clamp (show s < 2 ^ 31 by omega), if_pos (h6 s hs), show ((0 : Int32) - 0 / 5 * 5) = 0 from by decide, show (0 : Int32).toNatClampNeg = 0 from rfl, h9 0 (by decide), if_neg (show ¬ (4096 : Int32) ≤ 0 from by decide), show ((0 : Int32) * 4096 + 0).toNatClampNeg = 0 from rfl]
  have hst := LqI.start hG (wq := ar 8) h6 h7 h9
  refine ⟨⟨hst, ?_, ?_, ?_⟩, fun j hj => pk_un hj, fun k hk => ?_⟩
  · show upd sc 17 (sc 17 + 1) 17 = nI (fb_sm (cW (upd (ar 9) 0 (0 + 1))) 5)
    have e : cW (upd (ar 9) 0 (0 + 1)) = fun k => if k = 0 then 1 else cW (ar 9) k := by
      funext k
      by_cases e : k = 0
      · rw [if_pos e, e]; unfold cW; rw [pk_us]; rfl
      · rw [if_neg e, cW_upd_ne e]
    have h1 := fb_sm_upd (cW (ar 9)) 1 (i := 0) (n := 5) (by decide)
    have h0 : fb_sm (cW (ar 9)) 5 = 0 := by
      have hz : ∀ j, j < 5 → cW (ar 9) j ≤ 0 := fun j hj => by unfold cW; rw [h9 j hj]; decide
      have := fb_sm_bound hz
      omega
    have hc0 : cW (ar 9) 0 = 0 := by unfold cW; rw [h9 0 (by decide)]; rfl
    rw [pk_us, h17, e, show fb_sm (fun k => if k = 0 then 1 else cW (ar 9) k) 5 = 1 by omega]
    rfl
  · show upd sc 17 (sc 17 + 1) 18 = nI (fb_ct (fun _ => false) 4096)
    rw [pk_un (by decide), h18, fb_ct_zero.mpr (fun _ _ => rfl)]; rfl
  · show MO (fun _ => false) s (upd sc 17 (sc 17 + 1) 19)
    rw [pk_un (by decide), h19]
    exact ⟨0, rfl, by decide, fun _ _ q => (by cases q), Or.inl rfl⟩
  · show (va_up (va_up (va_up (va_up ar 6 _) 7 _) 8 _) 9 _) k = _
    rw [va_un (by omega), va_un (by omega), va_un (by omega), va_un (by omega)]

abbrev rm_X4_leave : Room := { frames := 3, cells := 0, slots := 0, locals := 75 }
set_option maxHeartbeats 4000000 in
set_option maxRecDepth 100000 in
theorem c_X4_leave (l : Launch) (D : va_G) (cI cZ : ClassId) (z : Nat → Nat) (g : Nat → Nat) (sc : Nat → Int32) (ar : Nat → Nat → Int32) (kd : Nat → Nat) (li s be u p c : Nat) (lf : Nat → Bool) (hC : CH sc ar kd li) (hss : s < 4096) (hbe : be < 2 ^ 31) (hO : OI (goN (hk kd) li be) (wtN kd) s sc ar lf u p) (hpp : p < cW (ar 9) (u % 5)) (hcc : c < 4096) (hq : ar 8 (u % 5 * 4096 + p) = nI c) (huu : u ≤ 16384) (hkt : sc 22 = nI (tns s)) : cWv l yX4_leave ww_X4_leave rm_X4_leave D cI cZ z (fC cI g) (wC cI g sc ar) [.ref (g 10), .ref (g 2), .int (nI c), .int (nI u), .int (nI be)] (fun v => ∃ lf', frL sc ar v.1 v.2 ∧ OI (goN (hk kd) li be) (wtN kd) s v.1 v.2 lf' u (p + 1) ∧ v.2 9 (u % 5) = ar 9 (u % 5)) := by
  refine cWv.of (cc := cX4_leave) (maxL := 11) (by decide) rfl (Nat.le_of_ble_eq_true rfl) (fun X F E hA hR => ?_)
  refine J_lv [0, 1, 2, 3, 4] (lv' := [(0, .ref (g 10)), (1, .ref (g 2)), (2, .int (nI c)), (3, .int (nI u)), (4, .int (nI be))]) rfl ?_
  refine J_iload_n (pc' := 1) (q := 2) F dX4_leave_0 rfl rfl ?_
  refine J_if_lt (tgt := 21) (pc' := 4) F dX4_leave_1 (by decide) rfl (fun kq1 => False.elim (nI_pos (by omega) kq1)) (fun kq1 => ?_)
  refine J_iload_n (pc' := 5) (q := 2) F dX4_leave_4 rfl rfl ?_
  refine J_sipush (pc' := 8) (v := 4096) F dX4_leave_5 (by decide) rfl ?_
  refine J_icmp_ge (tgt := 21) (pc' := 11) F dX4_leave_8 (by decide) rfl (fun kq8 => False.elim (nI_ge (b := 4096) hcc (by decide) kq8)) (fun kq8 => ?_)
  refine J_aload_n (pc' := 12) (q := 0) F dX4_leave_11 rfl rfl ?_
  refine C_get_10_0 (pc' := 15) F dX4_leave_12 kw_92 rfl ?_
  refine J_iload_n (pc' := 16) (q := 2) F dX4_leave_15 rfl rfl ?_
  refine C_ld_6 (f := ar 6) (q := c) (pc' := 17) F dX4_leave_16 rfl (nI_clamp (by omega)) (vp_in_nI hcc (by decide)) rfl ?_
  refine J_iload_n (pc' := 18) (q := 3) F dX4_leave_17 rfl rfl ?_
  refine J_icmp_eq (tgt := 22) (pc' := 21) F dX4_leave_18 (by decide) rfl (fun kq18 => ?_) (fun kq18 => ?_)
  · refine J_aload_n (pc' := 23) (q := 0) F dX4_leave_22 rfl rfl ?_
    refine J_dup (pc' := 24) F dX4_leave_23 rfl rfl ?_
    refine C_get_10_5 (v := sc 18) (pc' := 27) F dX4_leave_24 kw_99 rfl rfl ?_
    refine J_iconst (pc' := 28) (v := 1) F dX4_leave_27 (by decide) rfl ?_
    refine J_iadd (pc' := 29) F dX4_leave_28 rfl ?_
    refine C_put_10_5 (pc' := 32) F dX4_leave_29 kw_99 rfl ?_
    refine J_aload_n (pc' := 33) (q := 0) F dX4_leave_32 rfl rfl ?_
    refine J_aload_n (pc' := 34) (q := 0) F dX4_leave_33 rfl rfl ?_
    refine C_get_10_6 (v := sc 19) (pc' := 37) F dX4_leave_34 kw_101 rfl rfl ?_
    refine J_aload_n (pc' := 38) (q := 0) F dX4_leave_37 rfl rfl ?_
    refine C_get_10_9 (v := sc 22) (pc' := 41) F dX4_leave_38 kw_105 rfl rfl ?_
    refine J_vali (y := nI (tns s)) hkt ?_
    refine J_iload_n (pc' := 42) (q := 2) F dX4_leave_41 rfl rfl ?_
    refine J_goRie (wc := []) (av := [.int (nI c)]) (rest := [.int (nI (tns s)), .int (sc 19), .ref (g 10)]) (v := zX5_tonsOf (nI c)) (pc' := 45) F E (fun _ _ => jP_nil _ _) (fun H locs hI hp => jrun_SN F E (c_X5_tonsOf l D cI cZ z (nI c)) kw_354 (by decide +kernel) rfl kw_355 kw_1 oX5_tonsOf ⟨⟨rfl, rfl⟩, ⟨Nat.le_of_ble_eq_true rfl, Nat.le_of_ble_eq_true rfl⟩, Nat.zero_le _, Nat.zero_le _⟩ rfl (Nat.le_of_ble_eq_true rfl) dX4_leave_42 hp) rfl ?_
    refine J_vali (y := nI (tns c)) (tons5 hcc) ?_
    refine J_isub (pc' := 46) F dX4_leave_45 rfl ?_
    refine J_mmax (pc' := 49) F E dX4_leave_46 kw_462 kw_280 kw_12 kw_281 (Nat.le_of_ble_eq_true rfl) (Nat.le_of_ble_eq_true rfl) (Nat.zero_le _) (Nat.zero_le _) rfl ?_
    refine C_put_10_6 (pc' := 52) F dX4_leave_49 kw_101 rfl ?_
    refine J_getsN (pc' := 55) F dX4_leave_52 (nm := "ACTS") (by decide +kernel) (fun _ _ _ h => h.2.2.2.2.2.2.1) rfl ?_
    refine J_astore (pc' := 57) [1, 2, 3, 4, 5, 0] [(0, .ref (g 10)), (1, .ref (g 2)), (2, .int (nI c)), (3, .int (nI u)), (4, .int (nI be)), (5, .ref (z 2))] F dX4_leave_55 (jL_of E (show 5 < 11 by decide)) rfl rfl ?_
    refine J_aload (pc' := 59) (q := 5) F dX4_leave_57 rfl rfl ?_
    refine J_tlen (v := 20) (pc' := 60) F dX4_leave_59 (fun _ _ _ h => h.2.2.2.2.2.2.2.1) rfl rfl ?_
    refine J_istore (pc' := 62) [1, 2, 3, 4, 5, 6, 0] [(0, .ref (g 10)), (1, .ref (g 2)), (2, .int (nI c)), (3, .int (nI u)), (4, .int (nI be)), (5, .ref (z 2)), (6, .int 20)] F dX4_leave_60 (jL_of E (show 6 < 11 by decide)) rfl rfl ?_
    refine J_iconst (pc' := 63) (v := 0) F dX4_leave_62 (by decide) rfl ?_
    refine J_istore (pc' := 65) [1, 2, 3, 4, 5, 6, 7, 0] [(0, .ref (g 10)), (1, .ref (g 2)), (2, .int (nI c)), (3, .int (nI u)), (4, .int (nI be)), (5, .ref (z 2)), (6, .int 20), (7, .int 0)] F dX4_leave_63 (jL_of E (show 7 < 11 by decide)) rfl rfl ?_
    have L65 : ∀ (N65 : Nat) (k : Nat) (sc1 : Nat → Int32) (ar1 : Nat → Nat → Int32), k ≤ 20 → frL sc ar sc1 ar1 → OA (goN (hk kd) li be) (wtN kd) s sc1 ar1 lf u p c k → ar1 9 (u % 5) = ar 9 (u % 5) → 20 - k < N65 → J X true 0 0 65 [(0, .ref (g 10)), (1, .ref (g 2)), (2, .int (nI c)), (3, .int (nI u)), (4, .int (nI be)), (5, .ref (z 2)), (6, .int 20), (7, .int (nI k))] [] (wC cI g sc1 ar1) := by
      intro N65
      induction N65 with
      | zero => intro _ _ _ _ _ _ _ hm; exact absurd hm (Nat.not_lt_zero _)
      | succ N65 ih65 =>
        intro k sc1 ar1 hk20 hfr hOA h9 hm65
        refine J_iload (pc' := 67) (q := 7) F dX4_leave_65 rfl rfl ?_
        refine J_iload (pc' := 69) (q := 6) F dX4_leave_67 rfl rfl ?_
        refine J_icmp_ge (tgt := 141) (pc' := 72) F dX4_leave_69 (by decide) rfl (fun kq69 => ?_) (fun kq69 => ?_)
        · exact J_vretW (sc1, ar1) F hR dX4_leave_141 rfl ⟨va_up lf c true, hfr, hOA.done ((nI_leI (a := 20) (b := k) (by decide) (by omega)).mp kq69), h9⟩
        · have hkk : k < 20 := jin_lt (by decide) hk20 kq69
          have hC1 := hfr.CH hC
          have hGr := gr_of (s := s) hC.2.2.1 li be hss
          have hLab := hOA.1.1.labM hcc (by rw [hOA.1.2.2.2.2.1.2.1]; exact nI_m1 (by omega)) (actN k)
          refine J_aload (pc' := 74) (q := 5) F dX4_leave_72 rfl rfl ?_
          refine J_iload (pc' := 76) (q := 7) F dX4_leave_74 rfl rfl ?_
          refine J_tiald (v := .int (jAct k)) (pc' := 77) F dX4_leave_76 (fun _ _ _ h => h.2.2.2.2.2.2.2.1) (vp_in_nI hkk (by decide)) (by rw [(nI_clamp (by omega))]) rfl ?_
          refine J_vali (y := nI (actN k)) (jAct_N k hkk) ?_
          refine J_istore (pc' := 79) [1, 2, 3, 4, 5, 6, 7, 8, 0] [(0, .ref (g 10)), (1, .ref (g 2)), (2, .int (nI c)), (3, .int (nI u)), (4, .int (nI be)), (5, .ref (z 2)), (6, .int 20), (7, .int (nI k)), (8, .int (nI (actN k)))] F dX4_leave_77 (jL_of E (show 8 < 11 by decide)) rfl rfl ?_
          refine J_aload_n (pc' := 80) (q := 1) F dX4_leave_79 rfl rfl ?_
          refine J_iload_n (pc' := 81) (q := 2) F dX4_leave_80 rfl rfl ?_
          refine J_iload (pc' := 83) (q := 8) F dX4_leave_81 rfl rfl ?_
          refine J_iload (pc' := 85) (q := 4) F dX4_leave_83 rfl rfl ?_
          refine J_goRie (wc := (wC cI g sc1 ar1)) (av := [.ref (g 2), .int (nI c), .int (nI (actN k)), .int (nI be)]) (rest := []) (v := zX2_behind sc1 ar1 (nI c) (nI (actN k)) (nI be)) (pc' := 88) F E (fun _ h => h) (fun H locs hI hp => jrun_V (As := [.int (nI c), .int (nI (actN k)), .int (nI be)]) 2 F E (c_X2_behind l D cI cZ z g sc1 ar1 (nI c) (nI (actN k)) (nI be)) kw_465 kw_415 kw_416 rfl kw_417 kw_2 oX2_behind ⟨⟨rfl, rfl⟩, ⟨Nat.le_of_ble_eq_true rfl, Nat.le_of_ble_eq_true rfl⟩, Nat.zero_le _, Nat.zero_le _⟩ rfl rfl (Nat.le_of_ble_eq_true rfl) dX4_leave_85 rfl rfl (jI_P E hI) hp) rfl ?_
          refine J_vali (behC hC1 hcc (actN_A k hkk).1 hbe) ?_
          cases he : goN (hk kd) li be c (actN k) with
          | none =>
            refine J_vali (y := -1) rfl ?_
            refine J_istore (pc' := 90) [1, 2, 3, 4, 5, 6, 7, 8, 9, 0] [(0, .ref (g 10)), (1, .ref (g 2)), (2, .int (nI c)), (3, .int (nI u)), (4, .int (nI be)), (5, .ref (z 2)), (6, .int 20), (7, .int (nI k)), (8, .int (nI (actN k))), (9, .int (-1))] F dX4_leave_88 (jL_of E (show 9 < 11 by decide)) rfl rfl ?_
            refine J_iload (pc' := 92) (q := 9) F dX4_leave_90 rfl rfl ?_
            refine J_iconst (pc' := 93) (v := (-1)) F dX4_leave_92 (by decide) rfl ?_
            refine J_icmp_eq (tgt := 135) (pc' := 96) F dX4_leave_93 (by decide) rfl (fun _ => ?_) (fun c9 => absurd (by decide) c9)
            refine J_iinc (v := nI (k + 1)) (q := 7) (pc' := 138) [1, 2, 3, 4, 5, 6, 7, 0, 8, 9] [(0, .ref (g 10)), (1, .ref (g 2)), (2, .int (nI c)), (3, .int (nI u)), (4, .int (nI be)), (5, .ref (z 2)), (6, .int 20), (7, .int (nI (k + 1))), (8, .int (nI (actN k))), (9, .int (-1))] F dX4_leave_135 rfl (nI_inc k) (jL_of E (show 7 < 11 by decide)) rfl rfl ?_
            refine J_goto (tgt := 65) F dX4_leave_138 (by decide) ?_
            refine J_lv [0, 1, 2, 3, 4, 5, 6, 7] (lv' := [(0, .ref (g 10)), (1, .ref (g 2)), (2, .int (nI c)), (3, .int (nI u)), (4, .int (nI be)), (5, .ref (z 2)), (6, .int 20), (7, .int (nI (k + 1)))]) rfl ?_
            exact ih65 (k + 1) sc1 ar1 (by omega) hfr ⟨hOA.1.skip he, hOA.2⟩ h9 (by omega)
          | some t =>
            have ht : t < 4096 := goN_lt hcc he
            refine J_vali (y := nI t) rfl ?_
            refine J_istore (pc' := 90) [1, 2, 3, 4, 5, 6, 7, 8, 9, 0] [(0, .ref (g 10)), (1, .ref (g 2)), (2, .int (nI c)), (3, .int (nI u)), (4, .int (nI be)), (5, .ref (z 2)), (6, .int 20), (7, .int (nI k)), (8, .int (nI (actN k))), (9, .int (nI t))] F dX4_leave_88 (jL_of E (show 9 < 11 by decide)) rfl rfl ?_
            refine J_iload (pc' := 92) (q := 9) F dX4_leave_90 rfl rfl ?_
            refine J_iconst (pc' := 93) (v := (-1)) F dX4_leave_92 (by decide) rfl ?_
            refine J_icmp_eq (tgt := 135) (pc' := 96) F dX4_leave_93 (by decide) rfl (fun kq93 => False.elim (nI_m1 (by omega) kq93)) (fun kq93 => ?_)
            refine J_aload_n (pc' := 97) (q := 0) F dX4_leave_96 rfl rfl ?_
            refine C_get_10_1 (pc' := 100) F dX4_leave_97 kw_94 rfl ?_
            refine J_iload_n (pc' := 101) (q := 2) F dX4_leave_100 rfl rfl ?_
            refine C_ld_7 (f := ar1 7) (q := c) (pc' := 102) F dX4_leave_101 rfl (nI_clamp (by omega)) (vp_in_nI hcc (by decide)) rfl ?_
            refine J_iconst (pc' := 103) (v := (-1)) F dX4_leave_102 (by decide) rfl ?_
            refine J_icmp_ne (tgt := 111) (pc' := 106) F dX4_leave_103 (by decide) rfl (fun kq103 => ?_) (fun kq103 => ?_)
            · refine J_aload_n (pc' := 112) (q := 0) F dX4_leave_111 rfl rfl ?_
              refine C_get_10_1 (pc' := 115) F dX4_leave_112 kw_94 rfl ?_
              refine J_iload_n (pc' := 116) (q := 2) F dX4_leave_115 rfl rfl ?_
              refine C_ld_7 (f := ar1 7) (q := c) (pc' := 117) F dX4_leave_116 rfl (nI_clamp (by omega)) (vp_in_nI hcc (by decide)) rfl ?_
              refine J_vali (y := lab s (ar1 7) c (actN k)) (by rw [hLab, if_neg kq103]) ?_
              refine J_istore (pc' := 119) [1, 2, 3, 4, 5, 6, 7, 8, 9, 10, 0] [(0, .ref (g 10)), (1, .ref (g 2)), (2, .int (nI c)), (3, .int (nI u)), (4, .int (nI be)), (5, .ref (z 2)), (6, .int 20), (7, .int (nI k)), (8, .int (nI (actN k))), (9, .int (nI t)), (10, .int (lab s (ar1 7) c (actN k)))] F dX4_leave_117 (jL_of E (show 10 < 11 by decide)) rfl rfl ?_
              refine J_aload_n (pc' := 120) (q := 0) F dX4_leave_119 rfl rfl ?_
              refine J_iload (pc' := 122) (q := 9) F dX4_leave_120 rfl rfl ?_
              refine J_iload_n (pc' := 123) (q := 3) F dX4_leave_122 rfl rfl ?_
              refine J_aload_n (pc' := 124) (q := 1) F dX4_leave_123 rfl rfl ?_
              refine J_iload (pc' := 126) (q := 8) F dX4_leave_124 rfl rfl ?_
              refine J_goRie (wc := (wC cI g sc1 ar1)) (av := [.ref (g 2), .int (nI (actN k))]) (rest := [.int (nI u), .int (nI t), .ref (g 10)]) (v := zX2_minutesOf sc1 ar1 (nI (actN k))) (pc' := 129) F E (fun _ h => h) (fun H locs hI hp => jrun_V (As := [.int (nI (actN k))]) 2 F E (c_X2_minutesOf l D cI cZ z g sc1 ar1 (nI (actN k))) kw_466 kw_434 kw_435 rfl kw_436 kw_2 oX2_minutesOf ⟨⟨rfl, rfl⟩, ⟨Nat.le_of_ble_eq_true rfl, Nat.le_of_ble_eq_true rfl⟩, Nat.zero_le _, Nat.zero_le _⟩ rfl rfl (Nat.le_of_ble_eq_true rfl) dX4_leave_126 rfl rfl (jI_P E hI) hp) rfl ?_
              refine J_vali (y := nI (wtN kd (actN k))) (min5 hC1.2.2.2 (actN_A k hkk).1) ?_
              refine J_iadd (pc' := 130) F dX4_leave_129 rfl ?_
              refine J_vali (y := nI (u + wtN kd (actN k))) (nI_add _ _) ?_
              refine J_iload (pc' := 132) (q := 10) F dX4_leave_130 rfl rfl ?_
              refine J_goWv (wf := (fC cI g)) (w0 := (wC cI g sc1 ar1)) (av := [.ref (g 10), .int (nI t), .int (nI (u + wtN kd (actN k))), .int (lab s (ar1 7) c (actN k))]) (rest := []) (pc' := 135) (fC cI g) F E hA (fun _ h => h) id (jsubA_rf _) (fun _ => jOver_rf _ _ _) (fun H locs hI hp => jrun_V (As := [.int (nI t), .int (nI (u + wtN kd (actN k))), .int (lab s (ar1 7) c (actN k))]) 10 F E (c_X4_reach l D cI cZ z g sc1 ar1 (nI t) (nI (u + wtN kd (actN k))) (lab s (ar1 7) c (actN k)) (fun j hj => by rw [(hOA.1.2.1 j hj).1]; exact nI_pos (by have := (hOA.1.2.1 j hj).2.1; omega)) H.size) kw_453 kw_454 kw_455 rfl kw_456 kw_4 oX4_reach ⟨⟨rfl, rfl⟩, ⟨Nat.le_of_ble_eq_true rfl, Nat.le_of_ble_eq_true rfl⟩, Nat.zero_le _, Nat.zero_le _⟩ rfl rfl (Nat.le_of_ble_eq_true rfl) dX4_leave_132 rfl rfl (jI_P E hI) hp) rfl (fun ur132 hr132 => ?_)
              subst hr132
              have hro := reach_OA hGr hOA hkk he rfl
              refine J_ws (ws' := (wC cI g ((fX4_reach sc1 ar1 (nI t) (nI (u + wtN kd (actN k))) (lab s (ar1 7) c (actN k))).1) ((fX4_reach sc1 ar1 (nI t) (nI (u + wtN kd (actN k))) (lab s (ar1 7) c (actN k))).2))) rfl ?_
              refine J_iinc (v := nI (k + 1)) (q := 7) (pc' := 138) [1, 2, 3, 4, 5, 6, 7, 0, 8, 9, 10] [(0, .ref (g 10)), (1, .ref (g 2)), (2, .int (nI c)), (3, .int (nI u)), (4, .int (nI be)), (5, .ref (z 2)), (6, .int 20), (7, .int (nI (k + 1))), (8, .int (nI (actN k))), (9, .int (nI t)), (10, .int (lab s (ar1 7) c (actN k)))] F dX4_leave_135 rfl (nI_inc k) (jL_of E (show 7 < 11 by decide)) rfl rfl ?_
              refine J_goto (tgt := 65) F dX4_leave_138 (by decide) ?_
              refine J_lv [0, 1, 2, 3, 4, 5, 6, 7] (lv' := [(0, .ref (g 10)), (1, .ref (g 2)), (2, .int (nI c)), (3, .int (nI u)), (4, .int (nI be)), (5, .ref (z 2)), (6, .int 20), (7, .int (nI (k + 1)))]) rfl ?_
              exact ih65 (k + 1) ((fX4_reach sc1 ar1 (nI t) (nI (u + wtN kd (actN k))) (lab s (ar1 7) c (actN k))).1) ((fX4_reach sc1 ar1 (nI t) (nI (u + wtN kd (actN k))) (lab s (ar1 7) c (actN k))).2) (by omega) (hfr.trans hro.2.1) hro.1 (hro.2.2.trans h9) (by omega)
            · refine J_iload (pc' := 108) (q := 8) F dX4_leave_106 rfl rfl ?_
              refine J_goto (tgt := 117) F dX4_leave_108 (by decide) ?_
              refine J_vali (y := lab s (ar1 7) c (actN k)) (by rw [hLab, if_pos kq103]) ?_
              refine J_istore (pc' := 119) [1, 2, 3, 4, 5, 6, 7, 8, 9, 10, 0] [(0, .ref (g 10)), (1, .ref (g 2)), (2, .int (nI c)), (3, .int (nI u)), (4, .int (nI be)), (5, .ref (z 2)), (6, .int 20), (7, .int (nI k)), (8, .int (nI (actN k))), (9, .int (nI t)), (10, .int (lab s (ar1 7) c (actN k)))] F dX4_leave_117 (jL_of E (show 10 < 11 by decide)) rfl rfl ?_
              refine J_aload_n (pc' := 120) (q := 0) F dX4_leave_119 rfl rfl ?_
              refine J_iload (pc' := 122) (q := 9) F dX4_leave_120 rfl rfl ?_
              refine J_iload_n (pc' := 123) (q := 3) F dX4_leave_122 rfl rfl ?_
              refine J_aload_n (pc' := 124) (q := 1) F dX4_leave_123 rfl rfl ?_
              refine J_iload (pc' := 126) (q := 8) F dX4_leave_124 rfl rfl ?_
              refine J_goRie (wc := (wC cI g sc1 ar1)) (av := [.ref (g 2), .int (nI (actN k))]) (rest := [.int (nI u), .int (nI t), .ref (g 10)]) (v := zX2_minutesOf sc1 ar1 (nI (actN k))) (pc' := 129) F E (fun _ h => h) (fun H locs hI hp => jrun_V (As := [.int (nI (actN k))]) 2 F E (c_X2_minutesOf l D cI cZ z g sc1 ar1 (nI (actN k))) kw_466 kw_434 kw_435 rfl kw_436 kw_2 oX2_minutesOf ⟨⟨rfl, rfl⟩, ⟨Nat.le_of_ble_eq_true rfl, Nat.le_of_ble_eq_true rfl⟩, Nat.zero_le _, Nat.zero_le _⟩ rfl rfl (Nat.le_of_ble_eq_true rfl) dX4_leave_126 rfl rfl (jI_P E hI) hp) rfl ?_
              refine J_vali (y := nI (wtN kd (actN k))) (min5 hC1.2.2.2 (actN_A k hkk).1) ?_
              refine J_iadd (pc' := 130) F dX4_leave_129 rfl ?_
              refine J_vali (y := nI (u + wtN kd (actN k))) (nI_add _ _) ?_
              refine J_iload (pc' := 132) (q := 10) F dX4_leave_130 rfl rfl ?_
              refine J_goWv (wf := (fC cI g)) (w0 := (wC cI g sc1 ar1)) (av := [.ref (g 10), .int (nI t), .int (nI (u + wtN kd (actN k))), .int (lab s (ar1 7) c (actN k))]) (rest := []) (pc' := 135) (fC cI g) F E hA (fun _ h => h) id (jsubA_rf _) (fun _ => jOver_rf _ _ _) (fun H locs hI hp => jrun_V (As := [.int (nI t), .int (nI (u + wtN kd (actN k))), .int (lab s (ar1 7) c (actN k))]) 10 F E (c_X4_reach l D cI cZ z g sc1 ar1 (nI t) (nI (u + wtN kd (actN k))) (lab s (ar1 7) c (actN k)) (fun j hj => by rw [(hOA.1.2.1 j hj).1]; exact nI_pos (by have := (hOA.1.2.1 j hj).2.1; omega)) H.size) kw_453 kw_454 kw_455 rfl kw_456 kw_4 oX4_reach ⟨⟨rfl, rfl⟩, ⟨Nat.le_of_ble_eq_true rfl, Nat.le_of_ble_eq_true rfl⟩, Nat.zero_le _, Nat.zero_le _⟩ rfl rfl (Nat.le_of_ble_eq_true rfl) dX4_leave_132 rfl rfl (jI_P E hI) hp) rfl (fun ur132_2 hr132_2 => ?_)
              subst hr132_2
              have hro := reach_OA hGr hOA hkk he rfl
              refine J_ws (ws' := (wC cI g ((fX4_reach sc1 ar1 (nI t) (nI (u + wtN kd (actN k))) (lab s (ar1 7) c (actN k))).1) ((fX4_reach sc1 ar1 (nI t) (nI (u + wtN kd (actN k))) (lab s (ar1 7) c (actN k))).2))) rfl ?_
              refine J_iinc (v := nI (k + 1)) (q := 7) (pc' := 138) [1, 2, 3, 4, 5, 6, 7, 0, 8, 9, 10] [(0, .ref (g 10)), (1, .ref (g 2)), (2, .int (nI c)), (3, .int (nI u)), (4, .int (nI be)), (5, .ref (z 2)), (6, .int 20), (7, .int (nI (k + 1))), (8, .int (nI (actN k))), (9, .int (nI t)), (10, .int (lab s (ar1 7) c (actN k)))] F dX4_leave_135 rfl (nI_inc k) (jL_of E (show 7 < 11 by decide)) rfl rfl ?_
              refine J_goto (tgt := 65) F dX4_leave_138 (by decide) ?_
              refine J_lv [0, 1, 2, 3, 4, 5, 6, 7] (lv' := [(0, .ref (g 10)), (1, .ref (g 2)), (2, .int (nI c)), (3, .int (nI u)), (4, .int (nI be)), (5, .ref (z 2)), (6, .int 20), (7, .int (nI (k + 1)))]) rfl ?_
              exact ih65 (k + 1) ((fX4_reach sc1 ar1 (nI t) (nI (u + wtN kd (actN k))) (lab s (ar1 7) c (actN k))).1) ((fX4_reach sc1 ar1 (nI t) (nI (u + wtN kd (actN k))) (lab s (ar1 7) c (actN k))).2) (by omega) (hfr.trans hro.2.1) hro.1 (hro.2.2.trans h9) (by omega)
    exact L65 _ 0 (upd (upd sc 18 ((sc 18) + 1)) 19 (if (sc 19) < ((nI (tns s)) - (nI (tns c))) then ((nI (tns s)) - (nI (tns c))) else (sc 19))) ar (Nat.zero_le _) ⟨fun j h1 h2 h3 => by rw [pk_un h3, pk_un h2], fun _ _ => rfl⟩ (hO.take hpp hcc hq kq18 (by omega) rfl rfl rfl) rfl (Nat.lt_succ_self _)
  · exact J_vretW (sc, ar) F hR dX4_leave_21 rfl ⟨lf, frL.rf _ _, ⟨hO.1.stale hcc hq kq18, hO.2⟩, rfl⟩
abbrev rm_X4_lookFrom : Room := { frames := 4, cells := 0, slots := 0, locals := 105 }
set_option maxHeartbeats 4000000 in
set_option maxRecDepth 100000 in
theorem c_X4_lookFrom (l : Launch) (D : va_G) (cI cZ : ClassId) (z : Nat → Nat) (g : Nat → Nat) (sc : Nat → Int32) (ar : Nat → Nat → Int32) (kd : Nat → Nat) (li s be : Nat) (x4 : Int32) (hC : CH sc ar kd li) (hss : s < 4096) (hbe : be < 2 ^ 31) (hca : x4 = sc 20 → nI s = sc 21 → nI be = sc 23 → OutOK (goN (hk kd) li be) (wtN kd) s sc ar) : cWv l yX4_lookFrom ww_X4_lookFrom rm_X4_lookFrom D cI cZ z (fC cI g) (wC cI g sc ar) [.ref (g 10), .ref (g 2), .int (nI s), .int (nI be), .int x4] (fun v => (∀ j, (j < 17 ∨ 24 ≤ j) → v.1 j = sc j) ∧ (∀ k, (k < 6 ∨ 10 ≤ k) → v.2 k = ar k) ∧ v.1 20 = x4 ∧ v.1 21 = nI s ∧ v.1 23 = nI be ∧ OutOK (goN (hk kd) li be) (wtN kd) s v.1 v.2) := by
  refine cWv.of (cc := cX4_lookFrom) (maxL := 9) (by decide) rfl (Nat.le_of_ble_eq_true rfl) (fun X F E hA hR => ?_)
  refine J_lv [0, 1, 2, 3, 4] (lv' := [(0, .ref (g 10)), (1, .ref (g 2)), (2, .int (nI s)), (3, .int (nI be)), (4, .int x4)]) rfl ?_
  have hGr := gr_of (s := s) hC.2.2.1 li be hss
  refine J_iload (pc' := 2) (q := 4) F dX4_lookFrom_0 rfl rfl ?_
  refine J_aload_n (pc' := 3) (q := 0) F dX4_lookFrom_2 rfl rfl ?_
  refine C_get_10_7 (v := sc 20) (pc' := 6) F dX4_lookFrom_3 kw_103 rfl rfl ?_
  refine J_icmp_ne (tgt := 26) (pc' := 9) F dX4_lookFrom_6 (by decide) rfl (fun kq6 => ?_) (fun kq6 => ?_)
  · refine J_aload_n (pc' := 27) (q := 0) F dX4_lookFrom_26 rfl rfl ?_
    refine J_iload (pc' := 29) (q := 4) F dX4_lookFrom_27 rfl rfl ?_
    refine C_put_10_7 (pc' := 32) F dX4_lookFrom_29 kw_103 rfl ?_
    refine J_aload_n (pc' := 33) (q := 0) F dX4_lookFrom_32 rfl rfl ?_
    refine J_iload_n (pc' := 34) (q := 2) F dX4_lookFrom_33 rfl rfl ?_
    refine C_put_10_8 (pc' := 37) F dX4_lookFrom_34 kw_104 rfl ?_
    refine J_aload_n (pc' := 38) (q := 0) F dX4_lookFrom_37 rfl rfl ?_
    refine J_iload_n (pc' := 39) (q := 2) F dX4_lookFrom_38 rfl rfl ?_
    refine J_goRie (wc := []) (av := [.int (nI s)]) (rest := [.ref (g 10)]) (v := zX5_tonsOf (nI s)) (pc' := 42) F E (fun _ _ => jP_nil _ _) (fun H locs hI hp => jrun_SN F E (c_X5_tonsOf l D cI cZ z (nI s)) kw_354 (by decide +kernel) rfl kw_355 kw_1 oX5_tonsOf ⟨⟨rfl, rfl⟩, ⟨Nat.le_of_ble_eq_true rfl, Nat.le_of_ble_eq_true rfl⟩, Nat.zero_le _, Nat.zero_le _⟩ rfl (Nat.le_of_ble_eq_true rfl) dX4_lookFrom_39 hp) rfl ?_
    refine J_vali (y := nI (tns s)) (tons5 hss) ?_
    refine C_put_10_9 (pc' := 45) F dX4_lookFrom_42 kw_105 rfl ?_
    refine J_aload_n (pc' := 46) (q := 0) F dX4_lookFrom_45 rfl rfl ?_
    refine J_iload_n (pc' := 47) (q := 3) F dX4_lookFrom_46 rfl rfl ?_
    refine C_put_10_10 (pc' := 50) F dX4_lookFrom_47 kw_106 rfl ?_
    refine J_aload_n (pc' := 51) (q := 0) F dX4_lookFrom_50 rfl rfl ?_
    refine C_get_10_0 (pc' := 54) F dX4_lookFrom_51 kw_92 rfl ?_
    refine J_iconst (pc' := 55) (v := (-1)) F dX4_lookFrom_54 (by decide) rfl ?_
    refine J_goWv (wf := (fC cI g)) (w0 := (wC cI g (upd (upd (upd (upd sc 20 x4) 21 (nI s)) 22 (nI (tns s))) 23 (nI be)) ar)) (av := [.ref (g 11), .int (-1)]) (rest := []) (pc' := 58) (fC cI g) F E hA (fun _ h => h) id (jsubA_rf _) (fun _ => jOver_rf _ _ _) (fun H locs hI hp => jrun_S F E (c_fill_6 l D cI cZ z g (upd (upd (upd (upd sc 20 x4) 21 (nI s)) 22 (nI (tns s))) 23 (nI be)) ar (-1) H.size) kw_450 kw_451 rfl kw_452 kw_14 oJ7_fill_53178 ⟨⟨rfl, rfl⟩, ⟨Nat.le_of_ble_eq_true rfl, Nat.le_of_ble_eq_true rfl⟩, Nat.zero_le _, Nat.zero_le _⟩ rfl (Nat.le_of_ble_eq_true rfl) dX4_lookFrom_55 hp) rfl (fun ur55 hr55 => ?_)
    subst hr55
    refine J_ws (ws' := (wC cI g (upd (upd (upd (upd sc 20 x4) 21 (nI s)) 22 (nI (tns s))) 23 (nI be)) (va_up ar 6 (fa_fill (fun _ => (-1)) (ar 6) 4096)))) rfl ?_
    refine J_aload_n (pc' := 59) (q := 0) F dX4_lookFrom_58 rfl rfl ?_
    refine C_get_10_1 (pc' := 62) F dX4_lookFrom_59 kw_94 rfl ?_
    refine J_iconst (pc' := 63) (v := (-1)) F dX4_lookFrom_62 (by decide) rfl ?_
    refine J_goWv (wf := (fC cI g)) (w0 := (wC cI g (upd (upd (upd (upd sc 20 x4) 21 (nI s)) 22 (nI (tns s))) 23 (nI be)) (va_up ar 6 (fa_fill (fun _ => (-1)) (ar 6) 4096)))) (av := [.ref (g 12), .int (-1)]) (rest := []) (pc' := 66) (fC cI g) F E hA (fun _ h => h) id (jsubA_rf _) (fun _ => jOver_rf _ _ _) (fun H locs hI hp => jrun_S F E (c_fill_7 l D cI cZ z g (upd (upd (upd (upd sc 20 x4) 21 (nI s)) 22 (nI (tns s))) 23 (nI be)) (va_up ar 6 (fa_fill (fun _ => (-1)) (ar 6) 4096)) (-1) H.size) kw_450 kw_451 rfl kw_452 kw_14 oJ7_fill_53178 ⟨⟨rfl, rfl⟩, ⟨Nat.le_of_ble_eq_true rfl, Nat.le_of_ble_eq_true rfl⟩, Nat.zero_le _, Nat.zero_le _⟩ rfl (Nat.le_of_ble_eq_true rfl) dX4_lookFrom_63 hp) rfl (fun ur63 hr63 => ?_)
    subst hr63
    refine J_ws (ws' := (wC cI g (upd (upd (upd (upd sc 20 x4) 21 (nI s)) 22 (nI (tns s))) 23 (nI be)) (va_up (va_up ar 6 (fa_fill (fun _ => (-1)) (ar 6) 4096)) 7 (fa_fill (fun _ => (-1)) (ar 7) 4096)))) rfl ?_
    refine J_aload_n (pc' := 67) (q := 0) F dX4_lookFrom_66 rfl rfl ?_
    refine C_get_10_3 (pc' := 70) F dX4_lookFrom_67 kw_97 rfl ?_
    refine J_iconst (pc' := 71) (v := 0) F dX4_lookFrom_70 (by decide) rfl ?_
    refine J_goWv (wf := (fC cI g)) (w0 := (wC cI g (upd (upd (upd (upd sc 20 x4) 21 (nI s)) 22 (nI (tns s))) 23 (nI be)) (va_up (va_up ar 6 (fa_fill (fun _ => (-1)) (ar 6) 4096)) 7 (fa_fill (fun _ => (-1)) (ar 7) 4096)))) (av := [.ref (g 14), .int 0]) (rest := []) (pc' := 74) (fC cI g) F E hA (fun _ h => h) id (jsubA_rf _) (fun _ => jOver_rf _ _ _) (fun H locs hI hp => jrun_S F E (c_fill_9 l D cI cZ z g (upd (upd (upd (upd sc 20 x4) 21 (nI s)) 22 (nI (tns s))) 23 (nI be)) (va_up (va_up ar 6 (fa_fill (fun _ => (-1)) (ar 6) 4096)) 7 (fa_fill (fun _ => (-1)) (ar 7) 4096)) 0 H.size) kw_450 kw_451 rfl kw_452 kw_14 oJ7_fill_53178 ⟨⟨rfl, rfl⟩, ⟨Nat.le_of_ble_eq_true rfl, Nat.le_of_ble_eq_true rfl⟩, Nat.zero_le _, Nat.zero_le _⟩ rfl (Nat.le_of_ble_eq_true rfl) dX4_lookFrom_71 hp) rfl (fun ur71 hr71 => ?_)
    subst hr71
    refine J_ws (ws' := (wC cI g (upd (upd (upd (upd sc 20 x4) 21 (nI s)) 22 (nI (tns s))) 23 (nI be)) (va_up (va_up (va_up ar 6 (fa_fill (fun _ => (-1)) (ar 6) 4096)) 7 (fa_fill (fun _ => (-1)) (ar 7) 4096)) 9 (fa_fill (fun _ => 0) (ar 9) 5)))) rfl ?_
    refine J_aload_n (pc' := 75) (q := 0) F dX4_lookFrom_74 rfl rfl ?_
    refine J_iconst (pc' := 76) (v := 0) F dX4_lookFrom_75 (by decide) rfl ?_
    refine C_put_10_4 (pc' := 79) F dX4_lookFrom_76 kw_98 rfl ?_
    refine J_aload_n (pc' := 80) (q := 0) F dX4_lookFrom_79 rfl rfl ?_
    refine J_iconst (pc' := 81) (v := 0) F dX4_lookFrom_80 (by decide) rfl ?_
    refine C_put_10_5 (pc' := 84) F dX4_lookFrom_81 kw_99 rfl ?_
    refine J_aload_n (pc' := 85) (q := 0) F dX4_lookFrom_84 rfl rfl ?_
    refine J_iconst (pc' := 86) (v := 0) F dX4_lookFrom_85 (by decide) rfl ?_
    refine C_put_10_6 (pc' := 89) F dX4_lookFrom_86 kw_101 rfl ?_
    refine J_aload_n (pc' := 90) (q := 0) F dX4_lookFrom_89 rfl rfl ?_
    refine J_iload_n (pc' := 91) (q := 2) F dX4_lookFrom_90 rfl rfl ?_
    refine J_iconst (pc' := 92) (v := 0) F dX4_lookFrom_91 (by decide) rfl ?_
    refine J_iconst (pc' := 93) (v := (-1)) F dX4_lookFrom_92 (by decide) rfl ?_
    refine J_goWv (wf := (fC cI g)) (w0 := (wC cI g (upd (upd (upd (upd (upd (upd (upd sc 20 x4) 21 (nI s)) 22 (nI (tns s))) 23 (nI be)) 17 0) 18 0) 19 0) (va_up (va_up (va_up ar 6 (fa_fill (fun _ => (-1)) (ar 6) 4096)) 7 (fa_fill (fun _ => (-1)) (ar 7) 4096)) 9 (fa_fill (fun _ => 0) (ar 9) 5)))) (av := [.ref (g 10), .int (nI s), .int 0, .int (-1)]) (rest := []) (pc' := 96) (fC cI g) F E hA (fun _ h => h) id (jsubA_rf _) (fun _ => jOver_rf _ _ _) (fun H locs hI hp => jrun_V (As := [.int (nI s), .int 0, .int (-1)]) 10 F E (c_X4_reach l D cI cZ z g (upd (upd (upd (upd (upd (upd (upd sc 20 x4) 21 (nI s)) 22 (nI (tns s))) 23 (nI be)) 17 0) 18 0) 19 0) (va_up (va_up (va_up ar 6 (fa_fill (fun _ => (-1)) (ar 6) 4096)) 7 (fa_fill (fun _ => (-1)) (ar 7) 4096)) 9 (fa_fill (fun _ => 0) (ar 9) 5)) (nI s) 0 (-1) (fun j hj => by rw [show (va_up (va_up (va_up ar 6 (fa_fill (fun _ => (-1)) (ar 6) 4096)) 7 (fa_fill (fun _ => (-1)) (ar 7) 4096)) 9 (fa_fill (fun _ => 0) (ar 9) 5)) 9 j = 0 from fill_in hj]; decide) H.size) kw_453 kw_454 kw_455 rfl kw_456 kw_4 oX4_reach ⟨⟨rfl, rfl⟩, ⟨Nat.le_of_ble_eq_true rfl, Nat.le_of_ble_eq_true rfl⟩, Nat.zero_le _, Nat.zero_le _⟩ rfl rfl (Nat.le_of_ble_eq_true rfl) dX4_lookFrom_93 rfl rfl (jI_P E hI) hp) rfl (fun ur93 hr93 => ?_)
    subst hr93
    have hr0 := reach0 (sc := (upd (upd (upd (upd (upd (upd (upd sc 20 x4) 21 (nI s)) 22 (nI (tns s))) 23 (nI be)) 17 0) 18 0) 19 0)) (ar := (va_up (va_up (va_up ar 6 (fa_fill (fun _ => (-1)) (ar 6) 4096)) 7 (fa_fill (fun _ => (-1)) (ar 7) 4096)) 9 (fa_fill (fun _ => 0) (ar 9) 5))) hGr (fun n hn => fill_in hn) (fun n hn => fill_in hn) (fun n hn => fill_in hn) rfl rfl rfl
    refine J_ws (ws' := (wC cI g ((fX4_reach (upd (upd (upd (upd (upd (upd (upd sc 20 x4) 21 (nI s)) 22 (nI (tns s))) 23 (nI be)) 17 0) 18 0) 19 0) (va_up (va_up (va_up ar 6 (fa_fill (fun _ => (-1)) (ar 6) 4096)) 7 (fa_fill (fun _ => (-1)) (ar 7) 4096)) 9 (fa_fill (fun _ => 0) (ar 9) 5)) (nI s) 0 (-1)).1) ((fX4_reach (upd (upd (upd (upd (upd (upd (upd sc 20 x4) 21 (nI s)) 22 (nI (tns s))) 23 (nI be)) 17 0) 18 0) 19 0) (va_up (va_up (va_up ar 6 (fa_fill (fun _ => (-1)) (ar 6) 4096)) 7 (fa_fill (fun _ => (-1)) (ar 7) 4096)) 9 (fa_fill (fun _ => 0) (ar 9) 5)) (nI s) 0 (-1)).2))) rfl ?_
    have hfk : frK sc ar (fX4_reach (upd (upd (upd (upd (upd (upd (upd sc 20 x4) 21 (nI s)) 22 (nI (tns s))) 23 (nI be)) 17 0) 18 0) 19 0) (va_up (va_up (va_up ar 6 (fa_fill (fun _ => (-1)) (ar 6) 4096)) 7 (fa_fill (fun _ => (-1)) (ar 7) 4096)) 9 (fa_fill (fun _ => 0) (ar 9) 5)) (nI s) 0 (-1)).1 (fX4_reach (upd (upd (upd (upd (upd (upd (upd sc 20 x4) 21 (nI s)) 22 (nI (tns s))) 23 (nI be)) 17 0) 18 0) 19 0) (va_up (va_up (va_up ar 6 (fa_fill (fun _ => (-1)) (ar 6) 4096)) 7 (fa_fill (fun _ => (-1)) (ar 7) 4096)) 9 (fa_fill (fun _ => 0) (ar 9) 5)) (nI s) 0 (-1)).2 x4 s be := by
      refine ⟨fun j hj => ?_, fun k hk => ?_, ?_, ?_, ?_, ?_⟩
      · rw [hr0.2.1 j (by omega), pk_un (by omega), pk_un (by omega), pk_un (by omega), pk_un (by omega), pk_un (by omega), pk_un (by omega), pk_un (by omega)]
      · rw [hr0.2.2 k hk, va_un (by omega), va_un (by omega), va_un (by omega)]
      · exact hr0.2.1 20 (by decide)
      · exact hr0.2.1 21 (by decide)
      · exact hr0.2.1 22 (by decide)
      · exact hr0.2.1 23 (by decide)
    refine J_iconst (pc' := 97) (v := 0) F dX4_lookFrom_96 (by decide) rfl ?_
    refine J_istore (pc' := 99) [1, 2, 3, 4, 5, 0] [(0, .ref (g 10)), (1, .ref (g 2)), (2, .int (nI s)), (3, .int (nI be)), (4, .int x4), (5, .int 0)] F dX4_lookFrom_97 (jL_of E (show 5 < 9 by decide)) rfl rfl ?_
    have L99 : ∀ (N99 : Nat) (u : Nat) (sc1 : Nat → Int32) (ar1 : Nat → Nat → Int32) (lf : Nat → Bool), u ≤ 16385 → frK sc ar sc1 ar1 x4 s be → OI (goN (hk kd) li be) (wtN kd) s sc1 ar1 lf u 0 → 16385 - u < N99 → J X true 0 0 99 [(0, .ref (g 10)), (1, .ref (g 2)), (3, .int (nI be)), (5, .int (nI u))] [] (wC cI g sc1 ar1) := by
      intro N99
      induction N99 with
      | zero => intro _ _ _ _ _ _ _ hm; exact absurd hm (Nat.not_lt_zero _)
      | succ N99 ih99 =>
        intro u sc1 ar1 lf hu hfr hOI hm99
        refine J_iload (pc' := 101) (q := 3) F dX4_lookFrom_99 rfl rfl ?_
        refine J_sipush (pc' := 104) (v := 16384) F dX4_lookFrom_101 (by decide) rfl ?_
        refine J_icmp_gt (tgt := 198) (pc' := 107) F dX4_lookFrom_104 (by decide) rfl (fun kq104 => ?_) (fun kq104 => ?_)
        · exact J_vretW (sc1, ar1) F hR dX4_lookFrom_198 rfl ⟨hfr.1, hfr.2.1, hfr.2.2.1, hfr.2.2.2.1, hfr.2.2.2.2.2, hOI.out hss (hOI.1.late ((nI_ltI (a := 16384) (b := u) (by decide) (by omega)).mp kq104))⟩
        · refine J_aload_n (pc' := 108) (q := 0) F dX4_lookFrom_107 rfl rfl ?_
          refine C_get_10_4 (v := sc1 17) (pc' := 111) F dX4_lookFrom_108 kw_98 rfl rfl ?_
          refine J_if_le (tgt := 198) (pc' := 114) F dX4_lookFrom_111 (by decide) rfl (fun kq111 => ?_) (fun kq111 => ?_)
          · exact J_vretW (sc1, ar1) F hR dX4_lookFrom_198 rfl ⟨hfr.1, hfr.2.1, hfr.2.2.1, hfr.2.2.2.1, hfr.2.2.2.2.2, hOI.out hss (sm_zero (nI_le0 (by have := sm_le hOI.1; omega) (by rw [← hOI.2.1]; exact kq111)))⟩
          · have hu4 : u ≤ 16384 := by
              rcases Nat.lt_or_ge 16384 u with q | q
              · exact absurd ((nI_ltI (a := 16384) (b := u) (by decide) (by omega)).mpr q) kq104
              · exact q
            have hu5 : u % 5 < 5 := Nat.mod_lt _ (by decide)
            have hw5 := hOI.1.2.1 (u % 5) hu5
            refine J_iload (pc' := 116) (q := 3) F dX4_lookFrom_114 rfl rfl ?_
            refine J_iconst (pc' := 117) (v := 5) F dX4_lookFrom_116 (by decide) rfl ?_
            refine J_irem (pc' := 118) F dX4_lookFrom_117 (by decide) rfl ?_
            refine J_vali (y := nI (u % 5)) (pk_rem (d := 5) (by omega) (by decide) (by decide)) ?_
            refine J_istore (pc' := 120) [1, 2, 3, 4, 0] [(0, .ref (g 10)), (1, .ref (g 2)), (3, .int (nI be)), (5, .int (nI u)), (6, .int (nI (u % 5)))] F dX4_lookFrom_118 (jL_of E (show 6 < 9 by decide)) rfl rfl ?_
            refine J_aload_n (pc' := 121) (q := 0) F dX4_lookFrom_120 rfl rfl ?_
            refine C_get_10_3 (pc' := 124) F dX4_lookFrom_121 kw_97 rfl ?_
            refine J_iload (pc' := 126) (q := 4) F dX4_lookFrom_124 rfl rfl ?_
            refine C_ld_9 (f := ar1 9) (q := (u % 5)) (pc' := 127) F dX4_lookFrom_126 rfl (nI_clamp (by omega)) (vp_in_nI hu5 (by decide)) rfl ?_
            refine J_vali (y := nI (cW (ar1 9) (u % 5))) hw5.1 ?_
            refine J_sipush (pc' := 130) (v := 4096) F dX4_lookFrom_127 (by decide) rfl ?_
            refine J_mmin (pc' := 133) F E dX4_lookFrom_130 kw_457 kw_283 kw_12 kw_284 (Nat.le_of_ble_eq_true rfl) (Nat.le_of_ble_eq_true rfl) (Nat.zero_le _) (Nat.zero_le _) rfl ?_
            refine J_vali (y := nI (cW (ar1 9) (u % 5))) (if_neg (fun q => by have := (nI_ltI (a := 4096) (by decide) (by have := hw5.2.1; omega)).mp q; have := hw5.2.1; omega)) ?_
            refine J_istore (pc' := 135) [1, 2, 3, 4, 5, 0] [(0, .ref (g 10)), (1, .ref (g 2)), (3, .int (nI be)), (5, .int (nI u)), (6, .int (nI (u % 5))), (7, .int (nI (cW (ar1 9) (u % 5))))] F dX4_lookFrom_133 (jL_of E (show 7 < 9 by decide)) rfl rfl ?_
            refine J_iconst (pc' := 136) (v := 0) F dX4_lookFrom_135 (by decide) rfl ?_
            refine J_istore (pc' := 138) [1, 2, 3, 4, 5, 6, 0] [(0, .ref (g 10)), (1, .ref (g 2)), (3, .int (nI be)), (5, .int (nI u)), (6, .int (nI (u % 5))), (7, .int (nI (cW (ar1 9) (u % 5)))), (8, .int 0)] F dX4_lookFrom_136 (jL_of E (show 8 < 9 by decide)) rfl rfl ?_
            have L138 : ∀ (N138 : Nat) (p : Nat) (sc2 : Nat → Int32) (ar2 : Nat → Nat → Int32) (lf2 : Nat → Bool), p ≤ (cW (ar1 9) (u % 5)) → frK sc ar sc2 ar2 x4 s be → OI (goN (hk kd) li be) (wtN kd) s sc2 ar2 lf2 u p → ar2 9 (u % 5) = ar1 9 (u % 5) → (cW (ar1 9) (u % 5)) - p < N138 → J X true 0 0 138 [(0, .ref (g 10)), (1, .ref (g 2)), (3, .int (nI be)), (5, .int (nI u)), (6, .int (nI (u % 5))), (7, .int (nI (cW (ar1 9) (u % 5)))), (8, .int (nI p))] [] (wC cI g sc2 ar2) := by
              intro N138
              induction N138 with
              | zero => intro _ _ _ _ _ _ _ _ hm; exact absurd hm (Nat.not_lt_zero _)
              | succ N138 ih138 =>
                intro p sc2 ar2 lf2 hp0 hfr2 hOI2 h92 hm138
                refine J_iload (pc' := 140) (q := 6) F dX4_lookFrom_138 rfl rfl ?_
                refine J_iload (pc' := 142) (q := 5) F dX4_lookFrom_140 rfl rfl ?_
                refine J_icmp_ge (tgt := 173) (pc' := 145) F dX4_lookFrom_142 (by decide) rfl (fun kq142 => ?_) (fun kq142 => ?_)
                · have hn0 : (cW (ar1 9) (u % 5)) ≤ p := by
                    rcases Nat.lt_or_ge p (cW (ar1 9) (u % 5)) with q | q
                    · exact absurd kq142 (nI_ge q (by have := hw5.2.1; omega))
                    · exact q
                  refine J_aload_n (pc' := 174) (q := 0) F dX4_lookFrom_173 rfl rfl ?_
                  refine C_get_10_3 (pc' := 177) F dX4_lookFrom_174 kw_97 rfl ?_
                  refine J_iload (pc' := 179) (q := 4) F dX4_lookFrom_177 rfl rfl ?_
                  refine J_iconst (pc' := 180) (v := 0) F dX4_lookFrom_179 (by decide) rfl ?_
                  refine C_st_9 (f := ar2 9) (q := (u % 5)) (pc' := 181) F dX4_lookFrom_180 rfl (nI_clamp (by omega)) (vp_in_nI hu5 (by decide)) rfl ?_
                  refine J_aload_n (pc' := 182) (q := 0) F dX4_lookFrom_181 rfl rfl ?_
                  refine J_dup (pc' := 183) F dX4_lookFrom_182 rfl rfl ?_
                  refine C_get_10_4 (v := sc2 17) (pc' := 186) F dX4_lookFrom_183 kw_98 rfl rfl ?_
                  refine J_iload (pc' := 188) (q := 5) F dX4_lookFrom_186 rfl rfl ?_
                  refine J_isub (pc' := 189) F dX4_lookFrom_188 rfl ?_
                  refine C_put_10_4 (pc' := 192) F dX4_lookFrom_189 kw_98 rfl ?_
                  refine J_iinc (v := nI (u + 1)) (q := 3) (pc' := 195) [1, 2, 3, 0, 4, 5, 6] [(0, .ref (g 10)), (1, .ref (g 2)), (3, .int (nI be)), (5, .int (nI (u + 1))), (6, .int (nI (u % 5))), (7, .int (nI (cW (ar1 9) (u % 5)))), (8, .int (nI p))] F dX4_lookFrom_192 rfl (nI_inc u) (jL_of E (show 5 < 9 by decide)) rfl rfl ?_
                  refine J_goto (tgt := 99) F dX4_lookFrom_195 (by decide) ?_
                  refine J_lv [0, 1, 2, 3] (lv' := [(0, .ref (g 10)), (1, .ref (g 2)), (3, .int (nI be)), (5, .int (nI (u + 1)))]) rfl ?_
                  exact ih99 (u + 1) (upd sc2 17 ((sc2 17) - (nI (cW (ar1 9) (u % 5))))) (va_up ar2 9 (upd (ar2 9) (u % 5) 0)) lf2 (by omega) ⟨fun j hj => by rw [pk_un (by omega)]; exact hfr2.1 j hj, fun k hk => by rw [va_un (by omega)]; exact hfr2.2.1 k hk, hfr2.2.2.1, hfr2.2.2.2.1, hfr2.2.2.2.2.1, hfr2.2.2.2.2.2⟩ (hOI2.next (by unfold cW; rw [h92]) hn0) (by omega)
                · have hpp : p < (cW (ar1 9) (u % 5)) := by
                    rcases Nat.lt_or_ge p (cW (ar1 9) (u % 5)) with q | q
                    · exact q
                    · exact absurd (nI_le q (by have := hw5.2.1; omega)) kq142
                  have hpp2 : p < cW (ar2 9) (u % 5) := by unfold cW; rw [h92]; exact hpp
                  obtain ⟨c, hcc, hcq, -, -⟩ := (hOI2.1.2.1 (u % 5) hu5).2.2.1 p hpp2
                  have hp4 : p < 4096 := by have := hw5.2.1; omega
                  refine J_aload_n (pc' := 146) (q := 0) F dX4_lookFrom_145 rfl rfl ?_
                  refine J_aload_n (pc' := 147) (q := 1) F dX4_lookFrom_146 rfl rfl ?_
                  refine J_aload_n (pc' := 148) (q := 0) F dX4_lookFrom_147 rfl rfl ?_
                  refine C_get_10_2 (pc' := 151) F dX4_lookFrom_148 kw_96 rfl ?_
                  refine J_iload (pc' := 153) (q := 4) F dX4_lookFrom_151 rfl rfl ?_
                  refine J_sipush (pc' := 156) (v := 4096) F dX4_lookFrom_153 (by decide) rfl ?_
                  refine J_imul (pc' := 157) F dX4_lookFrom_156 rfl ?_
                  refine J_iload (pc' := 159) (q := 6) F dX4_lookFrom_157 rfl rfl ?_
                  refine J_iadd (pc' := 160) F dX4_lookFrom_159 rfl ?_
                  refine C_ld_8 (f := ar2 8) (q := (u % 5 * 4096 + p)) (pc' := 161) F dX4_lookFrom_160 rfl (by rw [show (4096 : Int32) = nI 4096 from rfl, pk_mul, nI_add]; exact nI_clamp (by omega)) (by rw [show (4096 : Int32) = nI 4096 from rfl, pk_mul, nI_add]; exact vp_in_nI (by omega) (by decide)) rfl ?_
                  refine J_vali (y := nI c) hcq ?_
                  refine J_iload (pc' := 163) (q := 3) F dX4_lookFrom_161 rfl rfl ?_
                  refine J_iload_n (pc' := 164) (q := 2) F dX4_lookFrom_163 rfl rfl ?_
                  refine J_goWv (wf := (fC cI g)) (w0 := (wC cI g sc2 ar2)) (av := [.ref (g 10), .ref (g 2), .int (nI c), .int (nI u), .int (nI be)]) (rest := []) (pc' := 167) (fC cI g) F E hA (fun _ h => h) id (jsubA_rf _) (fun _ => jOver_rf _ _ _) (fun H locs hI hp => jrun_V (As := [.ref (g 2), .int (nI c), .int (nI u), .int (nI be)]) 10 F E (c_X4_leave l D cI cZ z g sc2 ar2 kd li s be u p c lf2 (hfr2.CH hC) hss hbe hOI2 hpp2 hcc hcq hu4 hfr2.2.2.2.2.1 H.size) kw_458 kw_459 kw_460 rfl kw_461 kw_4 oX4_leave ⟨⟨rfl, rfl⟩, ⟨Nat.le_of_ble_eq_true rfl, Nat.le_of_ble_eq_true rfl⟩, Nat.zero_le _, Nat.zero_le _⟩ rfl rfl (Nat.le_of_ble_eq_true rfl) dX4_lookFrom_164 rfl rfl (jI_P E hI) hp) rfl (fun ur164 hr164 => ?_)
                  obtain ⟨lf3, hf3, hO3, h93⟩ := hr164
                  obtain ⟨sc3, ar3⟩ := ur164
                  refine J_ws (ws' := (wC cI g sc3 ar3)) rfl ?_
                  refine J_iinc (v := nI (p + 1)) (q := 6) (pc' := 170) [1, 2, 3, 4, 5, 6, 0] [(0, .ref (g 10)), (1, .ref (g 2)), (3, .int (nI be)), (5, .int (nI u)), (6, .int (nI (u % 5))), (7, .int (nI (cW (ar1 9) (u % 5)))), (8, .int (nI (p + 1)))] F dX4_lookFrom_167 rfl (nI_inc p) (jL_of E (show 8 < 9 by decide)) rfl rfl ?_
                  refine J_goto (tgt := 138) F dX4_lookFrom_170 (by decide) ?_
                  exact ih138 (p + 1) sc3 ar3 lf3 (by omega) (hfr2.L hf3) hO3 (h93.trans h92) (by omega)
            exact L138 _ 0 sc1 ar1 lf (Nat.zero_le _) hfr hOI rfl (Nat.lt_succ_self _)
    refine J_lv [0, 1, 3, 5] (lv' := [(0, .ref (g 10)), (1, .ref (g 2)), (3, .int (nI be)), (5, .int 0)]) rfl ?_
    exact L99 _ 0 ((fX4_reach (upd (upd (upd (upd (upd (upd (upd sc 20 x4) 21 (nI s)) 22 (nI (tns s))) 23 (nI be)) 17 0) 18 0) 19 0) (va_up (va_up (va_up ar 6 (fa_fill (fun _ => (-1)) (ar 6) 4096)) 7 (fa_fill (fun _ => (-1)) (ar 7) 4096)) 9 (fa_fill (fun _ => 0) (ar 9) 5)) (nI s) 0 (-1)).1) ((fX4_reach (upd (upd (upd (upd (upd (upd (upd sc 20 x4) 21 (nI s)) 22 (nI (tns s))) 23 (nI be)) 17 0) 18 0) 19 0) (va_up (va_up (va_up ar 6 (fa_fill (fun _ => (-1)) (ar 6) 4096)) 7 (fa_fill (fun _ => (-1)) (ar 7) 4096)) 9 (fa_fill (fun _ => 0) (ar 9) 5)) (nI s) 0 (-1)).2) (fun _ => false) (by decide) hfk hr0.1 (Nat.lt_succ_self _)
  · refine J_iload_n (pc' := 10) (q := 2) F dX4_lookFrom_9 rfl rfl ?_
    refine J_aload_n (pc' := 11) (q := 0) F dX4_lookFrom_10 rfl rfl ?_
    refine C_get_10_8 (v := sc 21) (pc' := 14) F dX4_lookFrom_11 kw_104 rfl rfl ?_
    refine J_icmp_ne (tgt := 26) (pc' := 17) F dX4_lookFrom_14 (by decide) rfl (fun kq14 => ?_) (fun kq14 => ?_)
    · refine J_aload_n (pc' := 27) (q := 0) F dX4_lookFrom_26 rfl rfl ?_
      refine J_iload (pc' := 29) (q := 4) F dX4_lookFrom_27 rfl rfl ?_
      refine C_put_10_7 (pc' := 32) F dX4_lookFrom_29 kw_103 rfl ?_
      refine J_aload_n (pc' := 33) (q := 0) F dX4_lookFrom_32 rfl rfl ?_
      refine J_iload_n (pc' := 34) (q := 2) F dX4_lookFrom_33 rfl rfl ?_
      refine C_put_10_8 (pc' := 37) F dX4_lookFrom_34 kw_104 rfl ?_
      refine J_aload_n (pc' := 38) (q := 0) F dX4_lookFrom_37 rfl rfl ?_
      refine J_iload_n (pc' := 39) (q := 2) F dX4_lookFrom_38 rfl rfl ?_
      refine J_goRie (wc := []) (av := [.int (nI s)]) (rest := [.ref (g 10)]) (v := zX5_tonsOf (nI s)) (pc' := 42) F E (fun _ _ => jP_nil _ _) (fun H locs hI hp => jrun_SN F E (c_X5_tonsOf l D cI cZ z (nI s)) kw_354 (by decide +kernel) rfl kw_355 kw_1 oX5_tonsOf ⟨⟨rfl, rfl⟩, ⟨Nat.le_of_ble_eq_true rfl, Nat.le_of_ble_eq_true rfl⟩, Nat.zero_le _, Nat.zero_le _⟩ rfl (Nat.le_of_ble_eq_true rfl) dX4_lookFrom_39 hp) rfl ?_
      refine J_vali (y := nI (tns s)) (tons5 hss) ?_
      refine C_put_10_9 (pc' := 45) F dX4_lookFrom_42 kw_105 rfl ?_
      refine J_aload_n (pc' := 46) (q := 0) F dX4_lookFrom_45 rfl rfl ?_
      refine J_iload_n (pc' := 47) (q := 3) F dX4_lookFrom_46 rfl rfl ?_
      refine C_put_10_10 (pc' := 50) F dX4_lookFrom_47 kw_106 rfl ?_
      refine J_aload_n (pc' := 51) (q := 0) F dX4_lookFrom_50 rfl rfl ?_
      refine C_get_10_0 (pc' := 54) F dX4_lookFrom_51 kw_92 rfl ?_
      refine J_iconst (pc' := 55) (v := (-1)) F dX4_lookFrom_54 (by decide) rfl ?_
      refine J_goWv (wf := (fC cI g)) (w0 := (wC cI g (upd (upd (upd (upd sc 20 x4) 21 (nI s)) 22 (nI (tns s))) 23 (nI be)) ar)) (av := [.ref (g 11), .int (-1)]) (rest := []) (pc' := 58) (fC cI g) F E hA (fun _ h => h) id (jsubA_rf _) (fun _ => jOver_rf _ _ _) (fun H locs hI hp => jrun_S F E (c_fill_6 l D cI cZ z g (upd (upd (upd (upd sc 20 x4) 21 (nI s)) 22 (nI (tns s))) 23 (nI be)) ar (-1) H.size) kw_450 kw_451 rfl kw_452 kw_14 oJ7_fill_53178 ⟨⟨rfl, rfl⟩, ⟨Nat.le_of_ble_eq_true rfl, Nat.le_of_ble_eq_true rfl⟩, Nat.zero_le _, Nat.zero_le _⟩ rfl (Nat.le_of_ble_eq_true rfl) dX4_lookFrom_55 hp) rfl (fun ur55_2 hr55_2 => ?_)
      subst hr55_2
      refine J_ws (ws' := (wC cI g (upd (upd (upd (upd sc 20 x4) 21 (nI s)) 22 (nI (tns s))) 23 (nI be)) (va_up ar 6 (fa_fill (fun _ => (-1)) (ar 6) 4096)))) rfl ?_
      refine J_aload_n (pc' := 59) (q := 0) F dX4_lookFrom_58 rfl rfl ?_
      refine C_get_10_1 (pc' := 62) F dX4_lookFrom_59 kw_94 rfl ?_
      refine J_iconst (pc' := 63) (v := (-1)) F dX4_lookFrom_62 (by decide) rfl ?_
      refine J_goWv (wf := (fC cI g)) (w0 := (wC cI g (upd (upd (upd (upd sc 20 x4) 21 (nI s)) 22 (nI (tns s))) 23 (nI be)) (va_up ar 6 (fa_fill (fun _ => (-1)) (ar 6) 4096)))) (av := [.ref (g 12), .int (-1)]) (rest := []) (pc' := 66) (fC cI g) F E hA (fun _ h => h) id (jsubA_rf _) (fun _ => jOver_rf _ _ _) (fun H locs hI hp => jrun_S F E (c_fill_7 l D cI cZ z g (upd (upd (upd (upd sc 20 x4) 21 (nI s)) 22 (nI (tns s))) 23 (nI be)) (va_up ar 6 (fa_fill (fun _ => (-1)) (ar 6) 4096)) (-1) H.size) kw_450 kw_451 rfl kw_452 kw_14 oJ7_fill_53178 ⟨⟨rfl, rfl⟩, ⟨Nat.le_of_ble_eq_true rfl, Nat.le_of_ble_eq_true rfl⟩, Nat.zero_le _, Nat.zero_le _⟩ rfl (Nat.le_of_ble_eq_true rfl) dX4_lookFrom_63 hp) rfl (fun ur63_2 hr63_2 => ?_)
      subst hr63_2
      refine J_ws (ws' := (wC cI g (upd (upd (upd (upd sc 20 x4) 21 (nI s)) 22 (nI (tns s))) 23 (nI be)) (va_up (va_up ar 6 (fa_fill (fun _ => (-1)) (ar 6) 4096)) 7 (fa_fill (fun _ => (-1)) (ar 7) 4096)))) rfl ?_
      refine J_aload_n (pc' := 67) (q := 0) F dX4_lookFrom_66 rfl rfl ?_
      refine C_get_10_3 (pc' := 70) F dX4_lookFrom_67 kw_97 rfl ?_
      refine J_iconst (pc' := 71) (v := 0) F dX4_lookFrom_70 (by decide) rfl ?_
      refine J_goWv (wf := (fC cI g)) (w0 := (wC cI g (upd (upd (upd (upd sc 20 x4) 21 (nI s)) 22 (nI (tns s))) 23 (nI be)) (va_up (va_up ar 6 (fa_fill (fun _ => (-1)) (ar 6) 4096)) 7 (fa_fill (fun _ => (-1)) (ar 7) 4096)))) (av := [.ref (g 14), .int 0]) (rest := []) (pc' := 74) (fC cI g) F E hA (fun _ h => h) id (jsubA_rf _) (fun _ => jOver_rf _ _ _) (fun H locs hI hp => jrun_S F E (c_fill_9 l D cI cZ z g (upd (upd (upd (upd sc 20 x4) 21 (nI s)) 22 (nI (tns s))) 23 (nI be)) (va_up (va_up ar 6 (fa_fill (fun _ => (-1)) (ar 6) 4096)) 7 (fa_fill (fun _ => (-1)) (ar 7) 4096)) 0 H.size) kw_450 kw_451 rfl kw_452 kw_14 oJ7_fill_53178 ⟨⟨rfl, rfl⟩, ⟨Nat.le_of_ble_eq_true rfl, Nat.le_of_ble_eq_true rfl⟩, Nat.zero_le _, Nat.zero_le _⟩ rfl (Nat.le_of_ble_eq_true rfl) dX4_lookFrom_71 hp) rfl (fun ur71_2 hr71_2 => ?_)
      subst hr71_2
      refine J_ws (ws' := (wC cI g (upd (upd (upd (upd sc 20 x4) 21 (nI s)) 22 (nI (tns s))) 23 (nI be)) (va_up (va_up (va_up ar 6 (fa_fill (fun _ => (-1)) (ar 6) 4096)) 7 (fa_fill (fun _ => (-1)) (ar 7) 4096)) 9 (fa_fill (fun _ => 0) (ar 9) 5)))) rfl ?_
      refine J_aload_n (pc' := 75) (q := 0) F dX4_lookFrom_74 rfl rfl ?_
      refine J_iconst (pc' := 76) (v := 0) F dX4_lookFrom_75 (by decide) rfl ?_
      refine C_put_10_4 (pc' := 79) F dX4_lookFrom_76 kw_98 rfl ?_
      refine J_aload_n (pc' := 80) (q := 0) F dX4_lookFrom_79 rfl rfl ?_
      refine J_iconst (pc' := 81) (v := 0) F dX4_lookFrom_80 (by decide) rfl ?_
      refine C_put_10_5 (pc' := 84) F dX4_lookFrom_81 kw_99 rfl ?_
      refine J_aload_n (pc' := 85) (q := 0) F dX4_lookFrom_84 rfl rfl ?_
      refine J_iconst (pc' := 86) (v := 0) F dX4_lookFrom_85 (by decide) rfl ?_
      refine C_put_10_6 (pc' := 89) F dX4_lookFrom_86 kw_101 rfl ?_
      refine J_aload_n (pc' := 90) (q := 0) F dX4_lookFrom_89 rfl rfl ?_
      refine J_iload_n (pc' := 91) (q := 2) F dX4_lookFrom_90 rfl rfl ?_
      refine J_iconst (pc' := 92) (v := 0) F dX4_lookFrom_91 (by decide) rfl ?_
      refine J_iconst (pc' := 93) (v := (-1)) F dX4_lookFrom_92 (by decide) rfl ?_
      refine J_goWv (wf := (fC cI g)) (w0 := (wC cI g (upd (upd (upd (upd (upd (upd (upd sc 20 x4) 21 (nI s)) 22 (nI (tns s))) 23 (nI be)) 17 0) 18 0) 19 0) (va_up (va_up (va_up ar 6 (fa_fill (fun _ => (-1)) (ar 6) 4096)) 7 (fa_fill (fun _ => (-1)) (ar 7) 4096)) 9 (fa_fill (fun _ => 0) (ar 9) 5)))) (av := [.ref (g 10), .int (nI s), .int 0, .int (-1)]) (rest := []) (pc' := 96) (fC cI g) F E hA (fun _ h => h) id (jsubA_rf _) (fun _ => jOver_rf _ _ _) (fun H locs hI hp => jrun_V (As := [.int (nI s), .int 0, .int (-1)]) 10 F E (c_X4_reach l D cI cZ z g (upd (upd (upd (upd (upd (upd (upd sc 20 x4) 21 (nI s)) 22 (nI (tns s))) 23 (nI be)) 17 0) 18 0) 19 0) (va_up (va_up (va_up ar 6 (fa_fill (fun _ => (-1)) (ar 6) 4096)) 7 (fa_fill (fun _ => (-1)) (ar 7) 4096)) 9 (fa_fill (fun _ => 0) (ar 9) 5)) (nI s) 0 (-1) (fun j hj => by rw [show (va_up (va_up (va_up ar 6 (fa_fill (fun _ => (-1)) (ar 6) 4096)) 7 (fa_fill (fun _ => (-1)) (ar 7) 4096)) 9 (fa_fill (fun _ => 0) (ar 9) 5)) 9 j = 0 from fill_in hj]; decide) H.size) kw_453 kw_454 kw_455 rfl kw_456 kw_4 oX4_reach ⟨⟨rfl, rfl⟩, ⟨Nat.le_of_ble_eq_true rfl, Nat.le_of_ble_eq_true rfl⟩, Nat.zero_le _, Nat.zero_le _⟩ rfl rfl (Nat.le_of_ble_eq_true rfl) dX4_lookFrom_93 rfl rfl (jI_P E hI) hp) rfl (fun ur93_2 hr93_2 => ?_)
      subst hr93_2
      have hr0 := reach0 (sc := (upd (upd (upd (upd (upd (upd (upd sc 20 x4) 21 (nI s)) 22 (nI (tns s))) 23 (nI be)) 17 0) 18 0) 19 0)) (ar := (va_up (va_up (va_up ar 6 (fa_fill (fun _ => (-1)) (ar 6) 4096)) 7 (fa_fill (fun _ => (-1)) (ar 7) 4096)) 9 (fa_fill (fun _ => 0) (ar 9) 5))) hGr (fun n hn => fill_in hn) (fun n hn => fill_in hn) (fun n hn => fill_in hn) rfl rfl rfl
      refine J_ws (ws' := (wC cI g ((fX4_reach (upd (upd (upd (upd (upd (upd (upd sc 20 x4) 21 (nI s)) 22 (nI (tns s))) 23 (nI be)) 17 0) 18 0) 19 0) (va_up (va_up (va_up ar 6 (fa_fill (fun _ => (-1)) (ar 6) 4096)) 7 (fa_fill (fun _ => (-1)) (ar 7) 4096)) 9 (fa_fill (fun _ => 0) (ar 9) 5)) (nI s) 0 (-1)).1) ((fX4_reach (upd (upd (upd (upd (upd (upd (upd sc 20 x4) 21 (nI s)) 22 (nI (tns s))) 23 (nI be)) 17 0) 18 0) 19 0) (va_up (va_up (va_up ar 6 (fa_fill (fun _ => (-1)) (ar 6) 4096)) 7 (fa_fill (fun _ => (-1)) (ar 7) 4096)) 9 (fa_fill (fun _ => 0) (ar 9) 5)) (nI s) 0 (-1)).2))) rfl ?_
      have hfk : frK sc ar (fX4_reach (upd (upd (upd (upd (upd (upd (upd sc 20 x4) 21 (nI s)) 22 (nI (tns s))) 23 (nI be)) 17 0) 18 0) 19 0) (va_up (va_up (va_up ar 6 (fa_fill (fun _ => (-1)) (ar 6) 4096)) 7 (fa_fill (fun _ => (-1)) (ar 7) 4096)) 9 (fa_fill (fun _ => 0) (ar 9) 5)) (nI s) 0 (-1)).1 (fX4_reach (upd (upd (upd (upd (upd (upd (upd sc 20 x4) 21 (nI s)) 22 (nI (tns s))) 23 (nI be)) 17 0) 18 0) 19 0) (va_up (va_up (va_up ar 6 (fa_fill (fun _ => (-1)) (ar 6) 4096)) 7 (fa_fill (fun _ => (-1)) (ar 7) 4096)) 9 (fa_fill (fun _ => 0) (ar 9) 5)) (nI s) 0 (-1)).2 x4 s be := by
        refine ⟨fun j hj => ?_, fun k hk => ?_, ?_, ?_, ?_, ?_⟩
        · rw [hr0.2.1 j (by omega), pk_un (by omega), pk_un (by omega), pk_un (by omega), pk_un (by omega), pk_un (by omega), pk_un (by omega), pk_un (by omega)]
        · rw [hr0.2.2 k hk, va_un (by omega), va_un (by omega), va_un (by omega)]
        · exact hr0.2.1 20 (by decide)
        · exact hr0.2.1 21 (by decide)
        · exact hr0.2.1 22 (by decide)
        · exact hr0.2.1 23 (by decide)
      refine J_iconst (pc' := 97) (v := 0) F dX4_lookFrom_96 (by decide) rfl ?_
      refine J_istore (pc' := 99) [1, 2, 3, 4, 5, 0] [(0, .ref (g 10)), (1, .ref (g 2)), (2, .int (nI s)), (3, .int (nI be)), (4, .int x4), (5, .int 0)] F dX4_lookFrom_97 (jL_of E (show 5 < 9 by decide)) rfl rfl ?_
      have L99 : ∀ (N99 : Nat) (u : Nat) (sc1 : Nat → Int32) (ar1 : Nat → Nat → Int32) (lf : Nat → Bool), u ≤ 16385 → frK sc ar sc1 ar1 x4 s be → OI (goN (hk kd) li be) (wtN kd) s sc1 ar1 lf u 0 → 16385 - u < N99 → J X true 0 0 99 [(0, .ref (g 10)), (1, .ref (g 2)), (3, .int (nI be)), (5, .int (nI u))] [] (wC cI g sc1 ar1) := by
        intro N99
        induction N99 with
        | zero => intro _ _ _ _ _ _ _ hm; exact absurd hm (Nat.not_lt_zero _)
        | succ N99 ih99 =>
          intro u sc1 ar1 lf hu hfr hOI hm99
          refine J_iload (pc' := 101) (q := 3) F dX4_lookFrom_99 rfl rfl ?_
          refine J_sipush (pc' := 104) (v := 16384) F dX4_lookFrom_101 (by decide) rfl ?_
          refine J_icmp_gt (tgt := 198) (pc' := 107) F dX4_lookFrom_104 (by decide) rfl (fun kq104_2 => ?_) (fun kq104_2 => ?_)
          · exact J_vretW (sc1, ar1) F hR dX4_lookFrom_198 rfl ⟨hfr.1, hfr.2.1, hfr.2.2.1, hfr.2.2.2.1, hfr.2.2.2.2.2, hOI.out hss (hOI.1.late ((nI_ltI (a := 16384) (b := u) (by decide) (by omega)).mp kq104_2))⟩
          · refine J_aload_n (pc' := 108) (q := 0) F dX4_lookFrom_107 rfl rfl ?_
            refine C_get_10_4 (v := sc1 17) (pc' := 111) F dX4_lookFrom_108 kw_98 rfl rfl ?_
            refine J_if_le (tgt := 198) (pc' := 114) F dX4_lookFrom_111 (by decide) rfl (fun kq111_2 => ?_) (fun kq111_2 => ?_)
            · exact J_vretW (sc1, ar1) F hR dX4_lookFrom_198 rfl ⟨hfr.1, hfr.2.1, hfr.2.2.1, hfr.2.2.2.1, hfr.2.2.2.2.2, hOI.out hss (sm_zero (nI_le0 (by have := sm_le hOI.1; omega) (by rw [← hOI.2.1]; exact kq111_2)))⟩
            · have hu4 : u ≤ 16384 := by
                rcases Nat.lt_or_ge 16384 u with q | q
                · exact absurd ((nI_ltI (a := 16384) (b := u) (by decide) (by omega)).mpr q) kq104_2
                · exact q
              have hu5 : u % 5 < 5 := Nat.mod_lt _ (by decide)
              have hw5 := hOI.1.2.1 (u % 5) hu5
              refine J_iload (pc' := 116) (q := 3) F dX4_lookFrom_114 rfl rfl ?_
              refine J_iconst (pc' := 117) (v := 5) F dX4_lookFrom_116 (by decide) rfl ?_
              refine J_irem (pc' := 118) F dX4_lookFrom_117 (by decide) rfl ?_
              refine J_vali (y := nI (u % 5)) (pk_rem (d := 5) (by omega) (by decide) (by decide)) ?_
              refine J_istore (pc' := 120) [1, 2, 3, 4, 0] [(0, .ref (g 10)), (1, .ref (g 2)), (3, .int (nI be)), (5, .int (nI u)), (6, .int (nI (u % 5)))] F dX4_lookFrom_118 (jL_of E (show 6 < 9 by decide)) rfl rfl ?_
              refine J_aload_n (pc' := 121) (q := 0) F dX4_lookFrom_120 rfl rfl ?_
              refine C_get_10_3 (pc' := 124) F dX4_lookFrom_121 kw_97 rfl ?_
              refine J_iload (pc' := 126) (q := 4) F dX4_lookFrom_124 rfl rfl ?_
              refine C_ld_9 (f := ar1 9) (q := (u % 5)) (pc' := 127) F dX4_lookFrom_126 rfl (nI_clamp (by omega)) (vp_in_nI hu5 (by decide)) rfl ?_
              refine J_vali (y := nI (cW (ar1 9) (u % 5))) hw5.1 ?_
              refine J_sipush (pc' := 130) (v := 4096) F dX4_lookFrom_127 (by decide) rfl ?_
              refine J_mmin (pc' := 133) F E dX4_lookFrom_130 kw_457 kw_283 kw_12 kw_284 (Nat.le_of_ble_eq_true rfl) (Nat.le_of_ble_eq_true rfl) (Nat.zero_le _) (Nat.zero_le _) rfl ?_
              refine J_vali (y := nI (cW (ar1 9) (u % 5))) (if_neg (fun q => by have := (nI_ltI (a := 4096) (by decide) (by have := hw5.2.1; omega)).mp q; have := hw5.2.1; omega)) ?_
              refine J_istore (pc' := 135) [1, 2, 3, 4, 5, 0] [(0, .ref (g 10)), (1, .ref (g 2)), (3, .int (nI be)), (5, .int (nI u)), (6, .int (nI (u % 5))), (7, .int (nI (cW (ar1 9) (u % 5))))] F dX4_lookFrom_133 (jL_of E (show 7 < 9 by decide)) rfl rfl ?_
              refine J_iconst (pc' := 136) (v := 0) F dX4_lookFrom_135 (by decide) rfl ?_
              refine J_istore (pc' := 138) [1, 2, 3, 4, 5, 6, 0] [(0, .ref (g 10)), (1, .ref (g 2)), (3, .int (nI be)), (5, .int (nI u)), (6, .int (nI (u % 5))), (7, .int (nI (cW (ar1 9) (u % 5)))), (8, .int 0)] F dX4_lookFrom_136 (jL_of E (show 8 < 9 by decide)) rfl rfl ?_
              have L138 : ∀ (N138 : Nat) (p : Nat) (sc2 : Nat → Int32) (ar2 : Nat → Nat → Int32) (lf2 : Nat → Bool), p ≤ (cW (ar1 9) (u % 5)) → frK sc ar sc2 ar2 x4 s be → OI (goN (hk kd) li be) (wtN kd) s sc2 ar2 lf2 u p → ar2 9 (u % 5) = ar1 9 (u % 5) → (cW (ar1 9) (u % 5)) - p < N138 → J X true 0 0 138 [(0, .ref (g 10)), (1, .ref (g 2)), (3, .int (nI be)), (5, .int (nI u)), (6, .int (nI (u % 5))), (7, .int (nI (cW (ar1 9) (u % 5)))), (8, .int (nI p))] [] (wC cI g sc2 ar2) := by
                intro N138
                induction N138 with
                | zero => intro _ _ _ _ _ _ _ _ hm; exact absurd hm (Nat.not_lt_zero _)
                | succ N138 ih138 =>
                  intro p sc2 ar2 lf2 hp0 hfr2 hOI2 h92 hm138
                  refine J_iload (pc' := 140) (q := 6) F dX4_lookFrom_138 rfl rfl ?_
                  refine J_iload (pc' := 142) (q := 5) F dX4_lookFrom_140 rfl rfl ?_
                  refine J_icmp_ge (tgt := 173) (pc' := 145) F dX4_lookFrom_142 (by decide) rfl (fun kq142_2 => ?_) (fun kq142_2 => ?_)
                  · have hn0 : (cW (ar1 9) (u % 5)) ≤ p := by
                      rcases Nat.lt_or_ge p (cW (ar1 9) (u % 5)) with q | q
                      · exact absurd kq142_2 (nI_ge q (by have := hw5.2.1; omega))
                      · exact q
                    refine J_aload_n (pc' := 174) (q := 0) F dX4_lookFrom_173 rfl rfl ?_
                    refine C_get_10_3 (pc' := 177) F dX4_lookFrom_174 kw_97 rfl ?_
                    refine J_iload (pc' := 179) (q := 4) F dX4_lookFrom_177 rfl rfl ?_
                    refine J_iconst (pc' := 180) (v := 0) F dX4_lookFrom_179 (by decide) rfl ?_
                    refine C_st_9 (f := ar2 9) (q := (u % 5)) (pc' := 181) F dX4_lookFrom_180 rfl (nI_clamp (by omega)) (vp_in_nI hu5 (by decide)) rfl ?_
                    refine J_aload_n (pc' := 182) (q := 0) F dX4_lookFrom_181 rfl rfl ?_
                    refine J_dup (pc' := 183) F dX4_lookFrom_182 rfl rfl ?_
                    refine C_get_10_4 (v := sc2 17) (pc' := 186) F dX4_lookFrom_183 kw_98 rfl rfl ?_
                    refine J_iload (pc' := 188) (q := 5) F dX4_lookFrom_186 rfl rfl ?_
                    refine J_isub (pc' := 189) F dX4_lookFrom_188 rfl ?_
                    refine C_put_10_4 (pc' := 192) F dX4_lookFrom_189 kw_98 rfl ?_
                    refine J_iinc (v := nI (u + 1)) (q := 3) (pc' := 195) [1, 2, 3, 0, 4, 5, 6] [(0, .ref (g 10)), (1, .ref (g 2)), (3, .int (nI be)), (5, .int (nI (u + 1))), (6, .int (nI (u % 5))), (7, .int (nI (cW (ar1 9) (u % 5)))), (8, .int (nI p))] F dX4_lookFrom_192 rfl (nI_inc u) (jL_of E (show 5 < 9 by decide)) rfl rfl ?_
                    refine J_goto (tgt := 99) F dX4_lookFrom_195 (by decide) ?_
                    refine J_lv [0, 1, 2, 3] (lv' := [(0, .ref (g 10)), (1, .ref (g 2)), (3, .int (nI be)), (5, .int (nI (u + 1)))]) rfl ?_
                    exact ih99 (u + 1) (upd sc2 17 ((sc2 17) - (nI (cW (ar1 9) (u % 5))))) (va_up ar2 9 (upd (ar2 9) (u % 5) 0)) lf2 (by omega) ⟨fun j hj => by rw [pk_un (by omega)]; exact hfr2.1 j hj, fun k hk => by rw [va_un (by omega)]; exact hfr2.2.1 k hk, hfr2.2.2.1, hfr2.2.2.2.1, hfr2.2.2.2.2.1, hfr2.2.2.2.2.2⟩ (hOI2.next (by unfold cW; rw [h92]) hn0) (by omega)
                  · have hpp : p < (cW (ar1 9) (u % 5)) := by
                      rcases Nat.lt_or_ge p (cW (ar1 9) (u % 5)) with q | q
                      · exact q
                      · exact absurd (nI_le q (by have := hw5.2.1; omega)) kq142_2
                    have hpp2 : p < cW (ar2 9) (u % 5) := by unfold cW; rw [h92]; exact hpp
                    obtain ⟨c, hcc, hcq, -, -⟩ := (hOI2.1.2.1 (u % 5) hu5).2.2.1 p hpp2
                    have hp4 : p < 4096 := by have := hw5.2.1; omega
                    refine J_aload_n (pc' := 146) (q := 0) F dX4_lookFrom_145 rfl rfl ?_
                    refine J_aload_n (pc' := 147) (q := 1) F dX4_lookFrom_146 rfl rfl ?_
                    refine J_aload_n (pc' := 148) (q := 0) F dX4_lookFrom_147 rfl rfl ?_
                    refine C_get_10_2 (pc' := 151) F dX4_lookFrom_148 kw_96 rfl ?_
                    refine J_iload (pc' := 153) (q := 4) F dX4_lookFrom_151 rfl rfl ?_
                    refine J_sipush (pc' := 156) (v := 4096) F dX4_lookFrom_153 (by decide) rfl ?_
                    refine J_imul (pc' := 157) F dX4_lookFrom_156 rfl ?_
                    refine J_iload (pc' := 159) (q := 6) F dX4_lookFrom_157 rfl rfl ?_
                    refine J_iadd (pc' := 160) F dX4_lookFrom_159 rfl ?_
                    refine C_ld_8 (f := ar2 8) (q := (u % 5 * 4096 + p)) (pc' := 161) F dX4_lookFrom_160 rfl (by rw [show (4096 : Int32) = nI 4096 from rfl, pk_mul, nI_add]; exact nI_clamp (by omega)) (by rw [show (4096 : Int32) = nI 4096 from rfl, pk_mul, nI_add]; exact vp_in_nI (by omega) (by decide)) rfl ?_
                    refine J_vali (y := nI c) hcq ?_
                    refine J_iload (pc' := 163) (q := 3) F dX4_lookFrom_161 rfl rfl ?_
                    refine J_iload_n (pc' := 164) (q := 2) F dX4_lookFrom_163 rfl rfl ?_
                    refine J_goWv (wf := (fC cI g)) (w0 := (wC cI g sc2 ar2)) (av := [.ref (g 10), .ref (g 2), .int (nI c), .int (nI u), .int (nI be)]) (rest := []) (pc' := 167) (fC cI g) F E hA (fun _ h => h) id (jsubA_rf _) (fun _ => jOver_rf _ _ _) (fun H locs hI hp => jrun_V (As := [.ref (g 2), .int (nI c), .int (nI u), .int (nI be)]) 10 F E (c_X4_leave l D cI cZ z g sc2 ar2 kd li s be u p c lf2 (hfr2.CH hC) hss hbe hOI2 hpp2 hcc hcq hu4 hfr2.2.2.2.2.1 H.size) kw_458 kw_459 kw_460 rfl kw_461 kw_4 oX4_leave ⟨⟨rfl, rfl⟩, ⟨Nat.le_of_ble_eq_true rfl, Nat.le_of_ble_eq_true rfl⟩, Nat.zero_le _, Nat.zero_le _⟩ rfl rfl (Nat.le_of_ble_eq_true rfl) dX4_lookFrom_164 rfl rfl (jI_P E hI) hp) rfl (fun ur164_2 hr164_2 => ?_)
                    obtain ⟨lf3, hf3, hO3, h93⟩ := hr164_2
                    obtain ⟨sc3, ar3⟩ := ur164_2
                    refine J_ws (ws' := (wC cI g sc3 ar3)) rfl ?_
                    refine J_iinc (v := nI (p + 1)) (q := 6) (pc' := 170) [1, 2, 3, 4, 5, 6, 0] [(0, .ref (g 10)), (1, .ref (g 2)), (3, .int (nI be)), (5, .int (nI u)), (6, .int (nI (u % 5))), (7, .int (nI (cW (ar1 9) (u % 5)))), (8, .int (nI (p + 1)))] F dX4_lookFrom_167 rfl (nI_inc p) (jL_of E (show 8 < 9 by decide)) rfl rfl ?_
                    refine J_goto (tgt := 138) F dX4_lookFrom_170 (by decide) ?_
                    exact ih138 (p + 1) sc3 ar3 lf3 (by omega) (hfr2.L hf3) hO3 (h93.trans h92) (by omega)
              exact L138 _ 0 sc1 ar1 lf (Nat.zero_le _) hfr hOI rfl (Nat.lt_succ_self _)
      refine J_lv [0, 1, 3, 5] (lv' := [(0, .ref (g 10)), (1, .ref (g 2)), (3, .int (nI be)), (5, .int 0)]) rfl ?_
      exact L99 _ 0 ((fX4_reach (upd (upd (upd (upd (upd (upd (upd sc 20 x4) 21 (nI s)) 22 (nI (tns s))) 23 (nI be)) 17 0) 18 0) 19 0) (va_up (va_up (va_up ar 6 (fa_fill (fun _ => (-1)) (ar 6) 4096)) 7 (fa_fill (fun _ => (-1)) (ar 7) 4096)) 9 (fa_fill (fun _ => 0) (ar 9) 5)) (nI s) 0 (-1)).1) ((fX4_reach (upd (upd (upd (upd (upd (upd (upd sc 20 x4) 21 (nI s)) 22 (nI (tns s))) 23 (nI be)) 17 0) 18 0) 19 0) (va_up (va_up (va_up ar 6 (fa_fill (fun _ => (-1)) (ar 6) 4096)) 7 (fa_fill (fun _ => (-1)) (ar 7) 4096)) 9 (fa_fill (fun _ => 0) (ar 9) 5)) (nI s) 0 (-1)).2) (fun _ => false) (by decide) hfk hr0.1 (Nat.lt_succ_self _)
    · refine J_iload_n (pc' := 18) (q := 3) F dX4_lookFrom_17 rfl rfl ?_
      refine J_aload_n (pc' := 19) (q := 0) F dX4_lookFrom_18 rfl rfl ?_
      refine C_get_10_10 (v := sc 23) (pc' := 22) F dX4_lookFrom_19 kw_106 rfl rfl ?_
      refine J_icmp_ne (tgt := 26) (pc' := 25) F dX4_lookFrom_22 (by decide) rfl (fun kq22 => ?_) (fun kq22 => ?_)
      · refine J_aload_n (pc' := 27) (q := 0) F dX4_lookFrom_26 rfl rfl ?_
        refine J_iload (pc' := 29) (q := 4) F dX4_lookFrom_27 rfl rfl ?_
        refine C_put_10_7 (pc' := 32) F dX4_lookFrom_29 kw_103 rfl ?_
        refine J_aload_n (pc' := 33) (q := 0) F dX4_lookFrom_32 rfl rfl ?_
        refine J_iload_n (pc' := 34) (q := 2) F dX4_lookFrom_33 rfl rfl ?_
        refine C_put_10_8 (pc' := 37) F dX4_lookFrom_34 kw_104 rfl ?_
        refine J_aload_n (pc' := 38) (q := 0) F dX4_lookFrom_37 rfl rfl ?_
        refine J_iload_n (pc' := 39) (q := 2) F dX4_lookFrom_38 rfl rfl ?_
        refine J_goRie (wc := []) (av := [.int (nI s)]) (rest := [.ref (g 10)]) (v := zX5_tonsOf (nI s)) (pc' := 42) F E (fun _ _ => jP_nil _ _) (fun H locs hI hp => jrun_SN F E (c_X5_tonsOf l D cI cZ z (nI s)) kw_354 (by decide +kernel) rfl kw_355 kw_1 oX5_tonsOf ⟨⟨rfl, rfl⟩, ⟨Nat.le_of_ble_eq_true rfl, Nat.le_of_ble_eq_true rfl⟩, Nat.zero_le _, Nat.zero_le _⟩ rfl (Nat.le_of_ble_eq_true rfl) dX4_lookFrom_39 hp) rfl ?_
        refine J_vali (y := nI (tns s)) (tons5 hss) ?_
        refine C_put_10_9 (pc' := 45) F dX4_lookFrom_42 kw_105 rfl ?_
        refine J_aload_n (pc' := 46) (q := 0) F dX4_lookFrom_45 rfl rfl ?_
        refine J_iload_n (pc' := 47) (q := 3) F dX4_lookFrom_46 rfl rfl ?_
        refine C_put_10_10 (pc' := 50) F dX4_lookFrom_47 kw_106 rfl ?_
        refine J_aload_n (pc' := 51) (q := 0) F dX4_lookFrom_50 rfl rfl ?_
        refine C_get_10_0 (pc' := 54) F dX4_lookFrom_51 kw_92 rfl ?_
        refine J_iconst (pc' := 55) (v := (-1)) F dX4_lookFrom_54 (by decide) rfl ?_
        refine J_goWv (wf := (fC cI g)) (w0 := (wC cI g (upd (upd (upd (upd sc 20 x4) 21 (nI s)) 22 (nI (tns s))) 23 (nI be)) ar)) (av := [.ref (g 11), .int (-1)]) (rest := []) (pc' := 58) (fC cI g) F E hA (fun _ h => h) id (jsubA_rf _) (fun _ => jOver_rf _ _ _) (fun H locs hI hp => jrun_S F E (c_fill_6 l D cI cZ z g (upd (upd (upd (upd sc 20 x4) 21 (nI s)) 22 (nI (tns s))) 23 (nI be)) ar (-1) H.size) kw_450 kw_451 rfl kw_452 kw_14 oJ7_fill_53178 ⟨⟨rfl, rfl⟩, ⟨Nat.le_of_ble_eq_true rfl, Nat.le_of_ble_eq_true rfl⟩, Nat.zero_le _, Nat.zero_le _⟩ rfl (Nat.le_of_ble_eq_true rfl) dX4_lookFrom_55 hp) rfl (fun ur55_3 hr55_3 => ?_)
        subst hr55_3
        refine J_ws (ws' := (wC cI g (upd (upd (upd (upd sc 20 x4) 21 (nI s)) 22 (nI (tns s))) 23 (nI be)) (va_up ar 6 (fa_fill (fun _ => (-1)) (ar 6) 4096)))) rfl ?_
        refine J_aload_n (pc' := 59) (q := 0) F dX4_lookFrom_58 rfl rfl ?_
        refine C_get_10_1 (pc' := 62) F dX4_lookFrom_59 kw_94 rfl ?_
        refine J_iconst (pc' := 63) (v := (-1)) F dX4_lookFrom_62 (by decide) rfl ?_
        refine J_goWv (wf := (fC cI g)) (w0 := (wC cI g (upd (upd (upd (upd sc 20 x4) 21 (nI s)) 22 (nI (tns s))) 23 (nI be)) (va_up ar 6 (fa_fill (fun _ => (-1)) (ar 6) 4096)))) (av := [.ref (g 12), .int (-1)]) (rest := []) (pc' := 66) (fC cI g) F E hA (fun _ h => h) id (jsubA_rf _) (fun _ => jOver_rf _ _ _) (fun H locs hI hp => jrun_S F E (c_fill_7 l D cI cZ z g (upd (upd (upd (upd sc 20 x4) 21 (nI s)) 22 (nI (tns s))) 23 (nI be)) (va_up ar 6 (fa_fill (fun _ => (-1)) (ar 6) 4096)) (-1) H.size) kw_450 kw_451 rfl kw_452 kw_14 oJ7_fill_53178 ⟨⟨rfl, rfl⟩, ⟨Nat.le_of_ble_eq_true rfl, Nat.le_of_ble_eq_true rfl⟩, Nat.zero_le _, Nat.zero_le _⟩ rfl (Nat.le_of_ble_eq_true rfl) dX4_lookFrom_63 hp) rfl (fun ur63_3 hr63_3 => ?_)
        subst hr63_3
        refine J_ws (ws' := (wC cI g (upd (upd (upd (upd sc 20 x4) 21 (nI s)) 22 (nI (tns s))) 23 (nI be)) (va_up (va_up ar 6 (fa_fill (fun _ => (-1)) (ar 6) 4096)) 7 (fa_fill (fun _ => (-1)) (ar 7) 4096)))) rfl ?_
        refine J_aload_n (pc' := 67) (q := 0) F dX4_lookFrom_66 rfl rfl ?_
        refine C_get_10_3 (pc' := 70) F dX4_lookFrom_67 kw_97 rfl ?_
        refine J_iconst (pc' := 71) (v := 0) F dX4_lookFrom_70 (by decide) rfl ?_
        refine J_goWv (wf := (fC cI g)) (w0 := (wC cI g (upd (upd (upd (upd sc 20 x4) 21 (nI s)) 22 (nI (tns s))) 23 (nI be)) (va_up (va_up ar 6 (fa_fill (fun _ => (-1)) (ar 6) 4096)) 7 (fa_fill (fun _ => (-1)) (ar 7) 4096)))) (av := [.ref (g 14), .int 0]) (rest := []) (pc' := 74) (fC cI g) F E hA (fun _ h => h) id (jsubA_rf _) (fun _ => jOver_rf _ _ _) (fun H locs hI hp => jrun_S F E (c_fill_9 l D cI cZ z g (upd (upd (upd (upd sc 20 x4) 21 (nI s)) 22 (nI (tns s))) 23 (nI be)) (va_up (va_up ar 6 (fa_fill (fun _ => (-1)) (ar 6) 4096)) 7 (fa_fill (fun _ => (-1)) (ar 7) 4096)) 0 H.size) kw_450 kw_451 rfl kw_452 kw_14 oJ7_fill_53178 ⟨⟨rfl, rfl⟩, ⟨Nat.le_of_ble_eq_true rfl, Nat.le_of_ble_eq_true rfl⟩, Nat.zero_le _, Nat.zero_le _⟩ rfl (Nat.le_of_ble_eq_true rfl) dX4_lookFrom_71 hp) rfl (fun ur71_3 hr71_3 => ?_)
        subst hr71_3
        refine J_ws (ws' := (wC cI g (upd (upd (upd (upd sc 20 x4) 21 (nI s)) 22 (nI (tns s))) 23 (nI be)) (va_up (va_up (va_up ar 6 (fa_fill (fun _ => (-1)) (ar 6) 4096)) 7 (fa_fill (fun _ => (-1)) (ar 7) 4096)) 9 (fa_fill (fun _ => 0) (ar 9) 5)))) rfl ?_
        refine J_aload_n (pc' := 75) (q := 0) F dX4_lookFrom_74 rfl rfl ?_
        refine J_iconst (pc' := 76) (v := 0) F dX4_lookFrom_75 (by decide) rfl ?_
        refine C_put_10_4 (pc' := 79) F dX4_lookFrom_76 kw_98 rfl ?_
        refine J_aload_n (pc' := 80) (q := 0) F dX4_lookFrom_79 rfl rfl ?_
        refine J_iconst (pc' := 81) (v := 0) F dX4_lookFrom_80 (by decide) rfl ?_
        refine C_put_10_5 (pc' := 84) F dX4_lookFrom_81 kw_99 rfl ?_
        refine J_aload_n (pc' := 85) (q := 0) F dX4_lookFrom_84 rfl rfl ?_
        refine J_iconst (pc' := 86) (v := 0) F dX4_lookFrom_85 (by decide) rfl ?_
        refine C_put_10_6 (pc' := 89) F dX4_lookFrom_86 kw_101 rfl ?_
        refine J_aload_n (pc' := 90) (q := 0) F dX4_lookFrom_89 rfl rfl ?_
        refine J_iload_n (pc' := 91) (q := 2) F dX4_lookFrom_90 rfl rfl ?_
        refine J_iconst (pc' := 92) (v := 0) F dX4_lookFrom_91 (by decide) rfl ?_
        refine J_iconst (pc' := 93) (v := (-1)) F dX4_lookFrom_92 (by decide) rfl ?_
        refine J_goWv (wf := (fC cI g)) (w0 := (wC cI g (upd (upd (upd (upd (upd (upd (upd sc 20 x4) 21 (nI s)) 22 (nI (tns s))) 23 (nI be)) 17 0) 18 0) 19 0) (va_up (va_up (va_up ar 6 (fa_fill (fun _ => (-1)) (ar 6) 4096)) 7 (fa_fill (fun _ => (-1)) (ar 7) 4096)) 9 (fa_fill (fun _ => 0) (ar 9) 5)))) (av := [.ref (g 10), .int (nI s), .int 0, .int (-1)]) (rest := []) (pc' := 96) (fC cI g) F E hA (fun _ h => h) id (jsubA_rf _) (fun _ => jOver_rf _ _ _) (fun H locs hI hp => jrun_V (As := [.int (nI s), .int 0, .int (-1)]) 10 F E (c_X4_reach l D cI cZ z g (upd (upd (upd (upd (upd (upd (upd sc 20 x4) 21 (nI s)) 22 (nI (tns s))) 23 (nI be)) 17 0) 18 0) 19 0) (va_up (va_up (va_up ar 6 (fa_fill (fun _ => (-1)) (ar 6) 4096)) 7 (fa_fill (fun _ => (-1)) (ar 7) 4096)) 9 (fa_fill (fun _ => 0) (ar 9) 5)) (nI s) 0 (-1) (fun j hj => by rw [show (va_up (va_up (va_up ar 6 (fa_fill (fun _ => (-1)) (ar 6) 4096)) 7 (fa_fill (fun _ => (-1)) (ar 7) 4096)) 9 (fa_fill (fun _ => 0) (ar 9) 5)) 9 j = 0 from fill_in hj]; decide) H.size) kw_453 kw_454 kw_455 rfl kw_456 kw_4 oX4_reach ⟨⟨rfl, rfl⟩, ⟨Nat.le_of_ble_eq_true rfl, Nat.le_of_ble_eq_true rfl⟩, Nat.zero_le _, Nat.zero_le _⟩ rfl rfl (Nat.le_of_ble_eq_true rfl) dX4_lookFrom_93 rfl rfl (jI_P E hI) hp) rfl (fun ur93_3 hr93_3 => ?_)
        subst hr93_3
        have hr0 := reach0 (sc := (upd (upd (upd (upd (upd (upd (upd sc 20 x4) 21 (nI s)) 22 (nI (tns s))) 23 (nI be)) 17 0) 18 0) 19 0)) (ar := (va_up (va_up (va_up ar 6 (fa_fill (fun _ => (-1)) (ar 6) 4096)) 7 (fa_fill (fun _ => (-1)) (ar 7) 4096)) 9 (fa_fill (fun _ => 0) (ar 9) 5))) hGr (fun n hn => fill_in hn) (fun n hn => fill_in hn) (fun n hn => fill_in hn) rfl rfl rfl
        refine J_ws (ws' := (wC cI g ((fX4_reach (upd (upd (upd (upd (upd (upd (upd sc 20 x4) 21 (nI s)) 22 (nI (tns s))) 23 (nI be)) 17 0) 18 0) 19 0) (va_up (va_up (va_up ar 6 (fa_fill (fun _ => (-1)) (ar 6) 4096)) 7 (fa_fill (fun _ => (-1)) (ar 7) 4096)) 9 (fa_fill (fun _ => 0) (ar 9) 5)) (nI s) 0 (-1)).1) ((fX4_reach (upd (upd (upd (upd (upd (upd (upd sc 20 x4) 21 (nI s)) 22 (nI (tns s))) 23 (nI be)) 17 0) 18 0) 19 0) (va_up (va_up (va_up ar 6 (fa_fill (fun _ => (-1)) (ar 6) 4096)) 7 (fa_fill (fun _ => (-1)) (ar 7) 4096)) 9 (fa_fill (fun _ => 0) (ar 9) 5)) (nI s) 0 (-1)).2))) rfl ?_
        have hfk : frK sc ar (fX4_reach (upd (upd (upd (upd (upd (upd (upd sc 20 x4) 21 (nI s)) 22 (nI (tns s))) 23 (nI be)) 17 0) 18 0) 19 0) (va_up (va_up (va_up ar 6 (fa_fill (fun _ => (-1)) (ar 6) 4096)) 7 (fa_fill (fun _ => (-1)) (ar 7) 4096)) 9 (fa_fill (fun _ => 0) (ar 9) 5)) (nI s) 0 (-1)).1 (fX4_reach (upd (upd (upd (upd (upd (upd (upd sc 20 x4) 21 (nI s)) 22 (nI (tns s))) 23 (nI be)) 17 0) 18 0) 19 0) (va_up (va_up (va_up ar 6 (fa_fill (fun _ => (-1)) (ar 6) 4096)) 7 (fa_fill (fun _ => (-1)) (ar 7) 4096)) 9 (fa_fill (fun _ => 0) (ar 9) 5)) (nI s) 0 (-1)).2 x4 s be := by
          refine ⟨fun j hj => ?_, fun k hk => ?_, ?_, ?_, ?_, ?_⟩
          · rw [hr0.2.1 j (by omega), pk_un (by omega), pk_un (by omega), pk_un (by omega), pk_un (by omega), pk_un (by omega), pk_un (by omega), pk_un (by omega)]
          · rw [hr0.2.2 k hk, va_un (by omega), va_un (by omega), va_un (by omega)]
          · exact hr0.2.1 20 (by decide)
          · exact hr0.2.1 21 (by decide)
          · exact hr0.2.1 22 (by decide)
          · exact hr0.2.1 23 (by decide)
        refine J_iconst (pc' := 97) (v := 0) F dX4_lookFrom_96 (by decide) rfl ?_
        refine J_istore (pc' := 99) [1, 2, 3, 4, 5, 0] [(0, .ref (g 10)), (1, .ref (g 2)), (2, .int (nI s)), (3, .int (nI be)), (4, .int x4), (5, .int 0)] F dX4_lookFrom_97 (jL_of E (show 5 < 9 by decide)) rfl rfl ?_
        have L99 : ∀ (N99 : Nat) (u : Nat) (sc1 : Nat → Int32) (ar1 : Nat → Nat → Int32) (lf : Nat → Bool), u ≤ 16385 → frK sc ar sc1 ar1 x4 s be → OI (goN (hk kd) li be) (wtN kd) s sc1 ar1 lf u 0 → 16385 - u < N99 → J X true 0 0 99 [(0, .ref (g 10)), (1, .ref (g 2)), (3, .int (nI be)), (5, .int (nI u))] [] (wC cI g sc1 ar1) := by
          intro N99
          induction N99 with
          | zero => intro _ _ _ _ _ _ _ hm; exact absurd hm (Nat.not_lt_zero _)
          | succ N99 ih99 =>
            intro u sc1 ar1 lf hu hfr hOI hm99
            refine J_iload (pc' := 101) (q := 3) F dX4_lookFrom_99 rfl rfl ?_
            refine J_sipush (pc' := 104) (v := 16384) F dX4_lookFrom_101 (by decide) rfl ?_
            refine J_icmp_gt (tgt := 198) (pc' := 107) F dX4_lookFrom_104 (by decide) rfl (fun kq104_3 => ?_) (fun kq104_3 => ?_)
            · exact J_vretW (sc1, ar1) F hR dX4_lookFrom_198 rfl ⟨hfr.1, hfr.2.1, hfr.2.2.1, hfr.2.2.2.1, hfr.2.2.2.2.2, hOI.out hss (hOI.1.late ((nI_ltI (a := 16384) (b := u) (by decide) (by omega)).mp kq104_3))⟩
            · refine J_aload_n (pc' := 108) (q := 0) F dX4_lookFrom_107 rfl rfl ?_
              refine C_get_10_4 (v := sc1 17) (pc' := 111) F dX4_lookFrom_108 kw_98 rfl rfl ?_
              refine J_if_le (tgt := 198) (pc' := 114) F dX4_lookFrom_111 (by decide) rfl (fun kq111_3 => ?_) (fun kq111_3 => ?_)
              · exact J_vretW (sc1, ar1) F hR dX4_lookFrom_198 rfl ⟨hfr.1, hfr.2.1, hfr.2.2.1, hfr.2.2.2.1, hfr.2.2.2.2.2, hOI.out hss (sm_zero (nI_le0 (by have := sm_le hOI.1; omega) (by rw [← hOI.2.1]; exact kq111_3)))⟩
              · have hu4 : u ≤ 16384 := by
                  rcases Nat.lt_or_ge 16384 u with q | q
                  · exact absurd ((nI_ltI (a := 16384) (b := u) (by decide) (by omega)).mpr q) kq104_3
                  · exact q
                have hu5 : u % 5 < 5 := Nat.mod_lt _ (by decide)
                have hw5 := hOI.1.2.1 (u % 5) hu5
                refine J_iload (pc' := 116) (q := 3) F dX4_lookFrom_114 rfl rfl ?_
                refine J_iconst (pc' := 117) (v := 5) F dX4_lookFrom_116 (by decide) rfl ?_
                refine J_irem (pc' := 118) F dX4_lookFrom_117 (by decide) rfl ?_
                refine J_vali (y := nI (u % 5)) (pk_rem (d := 5) (by omega) (by decide) (by decide)) ?_
                refine J_istore (pc' := 120) [1, 2, 3, 4, 0] [(0, .ref (g 10)), (1, .ref (g 2)), (3, .int (nI be)), (5, .int (nI u)), (6, .int (nI (u % 5)))] F dX4_lookFrom_118 (jL_of E (show 6 < 9 by decide)) rfl rfl ?_
                refine J_aload_n (pc' := 121) (q := 0) F dX4_lookFrom_120 rfl rfl ?_
                refine C_get_10_3 (pc' := 124) F dX4_lookFrom_121 kw_97 rfl ?_
                refine J_iload (pc' := 126) (q := 4) F dX4_lookFrom_124 rfl rfl ?_
                refine C_ld_9 (f := ar1 9) (q := (u % 5)) (pc' := 127) F dX4_lookFrom_126 rfl (nI_clamp (by omega)) (vp_in_nI hu5 (by decide)) rfl ?_
                refine J_vali (y := nI (cW (ar1 9) (u % 5))) hw5.1 ?_
                refine J_sipush (pc' := 130) (v := 4096) F dX4_lookFrom_127 (by decide) rfl ?_
                refine J_mmin (pc' := 133) F E dX4_lookFrom_130 kw_457 kw_283 kw_12 kw_284 (Nat.le_of_ble_eq_true rfl) (Nat.le_of_ble_eq_true rfl) (Nat.zero_le _) (Nat.zero_le _) rfl ?_
                refine J_vali (y := nI (cW (ar1 9) (u % 5))) (if_neg (fun q => by have := (nI_ltI (a := 4096) (by decide) (by have := hw5.2.1; omega)).mp q; have := hw5.2.1; omega)) ?_
                refine J_istore (pc' := 135) [1, 2, 3, 4, 5, 0] [(0, .ref (g 10)), (1, .ref (g 2)), (3, .int (nI be)), (5, .int (nI u)), (6, .int (nI (u % 5))), (7, .int (nI (cW (ar1 9) (u % 5))))] F dX4_lookFrom_133 (jL_of E (show 7 < 9 by decide)) rfl rfl ?_
                refine J_iconst (pc' := 136) (v := 0) F dX4_lookFrom_135 (by decide) rfl ?_
                refine J_istore (pc' := 138) [1, 2, 3, 4, 5, 6, 0] [(0, .ref (g 10)), (1, .ref (g 2)), (3, .int (nI be)), (5, .int (nI u)), (6, .int (nI (u % 5))), (7, .int (nI (cW (ar1 9) (u % 5)))), (8, .int 0)] F dX4_lookFrom_136 (jL_of E (show 8 < 9 by decide)) rfl rfl ?_
                have L138 : ∀ (N138 : Nat) (p : Nat) (sc2 : Nat → Int32) (ar2 : Nat → Nat → Int32) (lf2 : Nat → Bool), p ≤ (cW (ar1 9) (u % 5)) → frK sc ar sc2 ar2 x4 s be → OI (goN (hk kd) li be) (wtN kd) s sc2 ar2 lf2 u p → ar2 9 (u % 5) = ar1 9 (u % 5) → (cW (ar1 9) (u % 5)) - p < N138 → J X true 0 0 138 [(0, .ref (g 10)), (1, .ref (g 2)), (3, .int (nI be)), (5, .int (nI u)), (6, .int (nI (u % 5))), (7, .int (nI (cW (ar1 9) (u % 5)))), (8, .int (nI p))] [] (wC cI g sc2 ar2) := by
                  intro N138
                  induction N138 with
                  | zero => intro _ _ _ _ _ _ _ _ hm; exact absurd hm (Nat.not_lt_zero _)
                  | succ N138 ih138 =>
                    intro p sc2 ar2 lf2 hp0 hfr2 hOI2 h92 hm138
                    refine J_iload (pc' := 140) (q := 6) F dX4_lookFrom_138 rfl rfl ?_
                    refine J_iload (pc' := 142) (q := 5) F dX4_lookFrom_140 rfl rfl ?_
                    refine J_icmp_ge (tgt := 173) (pc' := 145) F dX4_lookFrom_142 (by decide) rfl (fun kq142_3 => ?_) (fun kq142_3 => ?_)
                    · have hn0 : (cW (ar1 9) (u % 5)) ≤ p := by
                        rcases Nat.lt_or_ge p (cW (ar1 9) (u % 5)) with q | q
                        · exact absurd kq142_3 (nI_ge q (by have := hw5.2.1; omega))
                        · exact q
                      refine J_aload_n (pc' := 174) (q := 0) F dX4_lookFrom_173 rfl rfl ?_
                      refine C_get_10_3 (pc' := 177) F dX4_lookFrom_174 kw_97 rfl ?_
                      refine J_iload (pc' := 179) (q := 4) F dX4_lookFrom_177 rfl rfl ?_
                      refine J_iconst (pc' := 180) (v := 0) F dX4_lookFrom_179 (by decide) rfl ?_
                      refine C_st_9 (f := ar2 9) (q := (u % 5)) (pc' := 181) F dX4_lookFrom_180 rfl (nI_clamp (by omega)) (vp_in_nI hu5 (by decide)) rfl ?_
                      refine J_aload_n (pc' := 182) (q := 0) F dX4_lookFrom_181 rfl rfl ?_
                      refine J_dup (pc' := 183) F dX4_lookFrom_182 rfl rfl ?_
                      refine C_get_10_4 (v := sc2 17) (pc' := 186) F dX4_lookFrom_183 kw_98 rfl rfl ?_
                      refine J_iload (pc' := 188) (q := 5) F dX4_lookFrom_186 rfl rfl ?_
                      refine J_isub (pc' := 189) F dX4_lookFrom_188 rfl ?_
                      refine C_put_10_4 (pc' := 192) F dX4_lookFrom_189 kw_98 rfl ?_
                      refine J_iinc (v := nI (u + 1)) (q := 3) (pc' := 195) [1, 2, 3, 0, 4, 5, 6] [(0, .ref (g 10)), (1, .ref (g 2)), (3, .int (nI be)), (5, .int (nI (u + 1))), (6, .int (nI (u % 5))), (7, .int (nI (cW (ar1 9) (u % 5)))), (8, .int (nI p))] F dX4_lookFrom_192 rfl (nI_inc u) (jL_of E (show 5 < 9 by decide)) rfl rfl ?_
                      refine J_goto (tgt := 99) F dX4_lookFrom_195 (by decide) ?_
                      refine J_lv [0, 1, 2, 3] (lv' := [(0, .ref (g 10)), (1, .ref (g 2)), (3, .int (nI be)), (5, .int (nI (u + 1)))]) rfl ?_
                      exact ih99 (u + 1) (upd sc2 17 ((sc2 17) - (nI (cW (ar1 9) (u % 5))))) (va_up ar2 9 (upd (ar2 9) (u % 5) 0)) lf2 (by omega) ⟨fun j hj => by rw [pk_un (by omega)]; exact hfr2.1 j hj, fun k hk => by rw [va_un (by omega)]; exact hfr2.2.1 k hk, hfr2.2.2.1, hfr2.2.2.2.1, hfr2.2.2.2.2.1, hfr2.2.2.2.2.2⟩ (hOI2.next (by unfold cW; rw [h92]) hn0) (by omega)
                    · have hpp : p < (cW (ar1 9) (u % 5)) := by
                        rcases Nat.lt_or_ge p (cW (ar1 9) (u % 5)) with q | q
                        · exact q
                        · exact absurd (nI_le q (by have := hw5.2.1; omega)) kq142_3
                      have hpp2 : p < cW (ar2 9) (u % 5) := by unfold cW; rw [h92]; exact hpp
                      obtain ⟨c, hcc, hcq, -, -⟩ := (hOI2.1.2.1 (u % 5) hu5).2.2.1 p hpp2
                      have hp4 : p < 4096 := by have := hw5.2.1; omega
                      refine J_aload_n (pc' := 146) (q := 0) F dX4_lookFrom_145 rfl rfl ?_
                      refine J_aload_n (pc' := 147) (q := 1) F dX4_lookFrom_146 rfl rfl ?_
                      refine J_aload_n (pc' := 148) (q := 0) F dX4_lookFrom_147 rfl rfl ?_
                      refine C_get_10_2 (pc' := 151) F dX4_lookFrom_148 kw_96 rfl ?_
                      refine J_iload (pc' := 153) (q := 4) F dX4_lookFrom_151 rfl rfl ?_
                      refine J_sipush (pc' := 156) (v := 4096) F dX4_lookFrom_153 (by decide) rfl ?_
                      refine J_imul (pc' := 157) F dX4_lookFrom_156 rfl ?_
                      refine J_iload (pc' := 159) (q := 6) F dX4_lookFrom_157 rfl rfl ?_
                      refine J_iadd (pc' := 160) F dX4_lookFrom_159 rfl ?_
                      refine C_ld_8 (f := ar2 8) (q := (u % 5 * 4096 + p)) (pc' := 161) F dX4_lookFrom_160 rfl (by rw [show (4096 : Int32) = nI 4096 from rfl, pk_mul, nI_add]; exact nI_clamp (by omega)) (by rw [show (4096 : Int32) = nI 4096 from rfl, pk_mul, nI_add]; exact vp_in_nI (by omega) (by decide)) rfl ?_
                      refine J_vali (y := nI c) hcq ?_
                      refine J_iload (pc' := 163) (q := 3) F dX4_lookFrom_161 rfl rfl ?_
                      refine J_iload_n (pc' := 164) (q := 2) F dX4_lookFrom_163 rfl rfl ?_
                      refine J_goWv (wf := (fC cI g)) (w0 := (wC cI g sc2 ar2)) (av := [.ref (g 10), .ref (g 2), .int (nI c), .int (nI u), .int (nI be)]) (rest := []) (pc' := 167) (fC cI g) F E hA (fun _ h => h) id (jsubA_rf _) (fun _ => jOver_rf _ _ _) (fun H locs hI hp => jrun_V (As := [.ref (g 2), .int (nI c), .int (nI u), .int (nI be)]) 10 F E (c_X4_leave l D cI cZ z g sc2 ar2 kd li s be u p c lf2 (hfr2.CH hC) hss hbe hOI2 hpp2 hcc hcq hu4 hfr2.2.2.2.2.1 H.size) kw_458 kw_459 kw_460 rfl kw_461 kw_4 oX4_leave ⟨⟨rfl, rfl⟩, ⟨Nat.le_of_ble_eq_true rfl, Nat.le_of_ble_eq_true rfl⟩, Nat.zero_le _, Nat.zero_le _⟩ rfl rfl (Nat.le_of_ble_eq_true rfl) dX4_lookFrom_164 rfl rfl (jI_P E hI) hp) rfl (fun ur164_3 hr164_3 => ?_)
                      obtain ⟨lf3, hf3, hO3, h93⟩ := hr164_3
                      obtain ⟨sc3, ar3⟩ := ur164_3
                      refine J_ws (ws' := (wC cI g sc3 ar3)) rfl ?_
                      refine J_iinc (v := nI (p + 1)) (q := 6) (pc' := 170) [1, 2, 3, 4, 5, 6, 0] [(0, .ref (g 10)), (1, .ref (g 2)), (3, .int (nI be)), (5, .int (nI u)), (6, .int (nI (u % 5))), (7, .int (nI (cW (ar1 9) (u % 5)))), (8, .int (nI (p + 1)))] F dX4_lookFrom_167 rfl (nI_inc p) (jL_of E (show 8 < 9 by decide)) rfl rfl ?_
                      refine J_goto (tgt := 138) F dX4_lookFrom_170 (by decide) ?_
                      exact ih138 (p + 1) sc3 ar3 lf3 (by omega) (hfr2.L hf3) hO3 (h93.trans h92) (by omega)
                exact L138 _ 0 sc1 ar1 lf (Nat.zero_le _) hfr hOI rfl (Nat.lt_succ_self _)
        refine J_lv [0, 1, 3, 5] (lv' := [(0, .ref (g 10)), (1, .ref (g 2)), (3, .int (nI be)), (5, .int 0)]) rfl ?_
        exact L99 _ 0 ((fX4_reach (upd (upd (upd (upd (upd (upd (upd sc 20 x4) 21 (nI s)) 22 (nI (tns s))) 23 (nI be)) 17 0) 18 0) 19 0) (va_up (va_up (va_up ar 6 (fa_fill (fun _ => (-1)) (ar 6) 4096)) 7 (fa_fill (fun _ => (-1)) (ar 7) 4096)) 9 (fa_fill (fun _ => 0) (ar 9) 5)) (nI s) 0 (-1)).1) ((fX4_reach (upd (upd (upd (upd (upd (upd (upd sc 20 x4) 21 (nI s)) 22 (nI (tns s))) 23 (nI be)) 17 0) 18 0) 19 0) (va_up (va_up (va_up ar 6 (fa_fill (fun _ => (-1)) (ar 6) 4096)) 7 (fa_fill (fun _ => (-1)) (ar 7) 4096)) 9 (fa_fill (fun _ => 0) (ar 9) 5)) (nI s) 0 (-1)).2) (fun _ => false) (by decide) hfk hr0.1 (Nat.lt_succ_self _)
      · exact J_vretW (sc, ar) F hR dX4_lookFrom_25 rfl ⟨fun _ _ => rfl, fun _ _ => rfl, kq6.symm, kq14.symm, kq22.symm, hca kq6 kq14 kq22⟩
