/-! the reference's layFar: the search by a queue -/
def frM (ar ar1 : Nat → Nat → Int32) : Prop := ∀ k, k ≠ 2 → k ≠ 3 → k ≠ 4 → k ≠ 5 → ar1 k = ar k
theorem frM.MH {sc : Nat → Int32} {ar ar1 : Nat → Nat → Int32} {kd : Nat → Nat} {li s : Nat} (h : frM ar ar1) (hM : MH sc ar kd li s) : MH sc ar1 kd li s := ⟨hM.1, hM.2.1, hM.2.2.1, hM.2.2.2.1, by rw [h 1 (by decide) (by decide) (by decide) (by decide)]; exact hM.2.2.2.2⟩
theorem va_us {α : Type} {f : Nat → α} {k : Nat} {x : α} : va_up f k x k = x := by unfold va_up; rw [if_pos rfl]
theorem va_un {α : Type} {f : Nat → α} {k j : Nat} {x : α} (h : j ≠ k) : va_up f k x j = f j := by unfold va_up; rw [if_neg h]
theorem isB_SA {sc : Nat → Int32} {ar : Nat → Nat → Int32} {hs : Int64} {kd : Nat → Nat} {li s be : Nat} (hM : MH sc ar kd li s) {q wt : Nat → Int32} {hd mn c k t : Nat} (h : SA (goN (hk kd) li be) (wtN kd) s (ar 2) (ar 3) q wt hd mn c k) (hk : k < 42) (ht : t < 4096) :
    ∀ (r : Int32) (u : uM), (r, u) = fX6_isBetter sc ar hs (nI c) (nI t) (nI k) → (Rlx (ar 2) (ar 3) t (Dn (ar 2) c + wtN kd k) (lab s (ar 3) c k) ∧ r = 0 ∧ u = (sc, ar, hs)) ∨
    ((ar 2 t ≠ -1 → Dn (ar 2) c + wtN kd k < Dn (ar 2) t ∨ (Dn (ar 2) c + wtN kd k = Dn (ar 2) t ∧ lab s (ar 3) c k < ar 3 t)) ∧ r = 1 ∧ u = (sc, va_up (va_up ar 2 (upd (ar 2) t (nI (Dn (ar 2) c + wtN kd k)))) 3 (upd (ar 3) t (lab s (ar 3) c k)), hs)) := by
  intro r u e
  obtain ⟨a1, -, a3, a4, -⟩ := h
  have hL := ctD_le (ar 2)
  have hB := a1.2.2.2 c a3 a4
  have hdt : Dn (ar 2) t ≤ 16384 := by
    by_cases q : ar 2 t = -1
    · unfold Dn; rw [q]; decide
    · have := a1.2.2.2 t ht q; omega
  rcases isB_spec (hs := hs) hM a3 ht hk (a1.1 c a3 a4).1 (by omega) (fun q => (a1.1 t ht q).1) hdt (a1.labs ht).1 with ⟨h1, h2⟩ | ⟨h1, h2⟩
  · rw [h2] at e
    exact Or.inl ⟨h1, (Prod.mk.inj e).1, (Prod.mk.inj e).2⟩
  · rw [h2] at e
    exact Or.inr ⟨h1, (Prod.mk.inj e).1, (Prod.mk.inj e).2⟩
theorem rem4096 (i : Nat) (h : i < 2 ^ 31) : nI i - nI i / 4096 * 4096 = nI (i % 4096) := pk_rem (d := 4096) h (by decide) (by decide)
theorem nI_le0 {n : Nat} (hn : n < 2 ^ 31) (h : nI n ≤ 0) : n = 0 := by
  have := (nI_leI (b := 0) hn (by decide)).mp h
  omega
theorem le0_nI {n : Nat} (h : ¬ nI n ≤ 0) : ∃ j, n = j + 1 := by
  cases n with
  | zero => exact absurd (i32_le_rfl 0) h
  | succ j => exact ⟨j, rfl⟩
theorem lay0 {ar ar1 : Nat → Nat → Int32} {i : Nat} (h : frM ar ar1 ∧ ∀ j, j < i → ar1 2 j = -1 ∧ ar1 3 j = -1 ∧ ar1 5 j = 0) : frM ar (va_up (va_up (va_up ar1 2 (upd (ar1 2) i (-1))) 3 (upd (ar1 3) i (-1))) 5 (upd (ar1 5) i 0)) ∧ ∀ j, j < i + 1 → (va_up (va_up (va_up ar1 2 (upd (ar1 2) i (-1))) 3 (upd (ar1 3) i (-1))) 5 (upd (ar1 5) i 0)) 2 j = -1 ∧ (va_up (va_up (va_up ar1 2 (upd (ar1 2) i (-1))) 3 (upd (ar1 3) i (-1))) 5 (upd (ar1 5) i 0)) 3 j = -1 ∧ (va_up (va_up (va_up ar1 2 (upd (ar1 2) i (-1))) 3 (upd (ar1 3) i (-1))) 5 (upd (ar1 5) i 0)) 5 j = 0 := by
  refine ⟨fun k h2 h3 h4 h5 => ?_, fun j hj => ?_⟩
  · rw [va_un h5, va_un h3, va_un h2]; exact h.1 k h2 h3 h4 h5
  · rw [va_un (show (2 : Nat) ≠ 5 by decide), va_un (show (2 : Nat) ≠ 3 by decide), va_us, va_un (show (3 : Nat) ≠ 5 by decide), va_us, va_us]
    by_cases e : j = i
    · subst e; exact ⟨pk_us, pk_us, pk_us⟩
    · rw [pk_un e, pk_un e, pk_un e]; exact h.2 j (by omega)

abbrev rm_X6_layFar : Room := { frames := 4, cells := 0, slots := 0, locals := 87 }
set_option maxHeartbeats 4000000 in
set_option maxRecDepth 100000 in
theorem c_X6_layFar (l : Launch) (D : va_G) (cI cZ : ClassId) (z : Nat → Nat) (g : Nat → Nat) (sc : Nat → Int32) (ar : Nat → Nat → Int32) (hs : Int64) (kd : Nat → Nat) (li s be : Nat) (hM : MH sc ar kd li s) (hbe : be < 2 ^ 31) : cWv l yX6_layFar ww_X6_layFar rm_X6_layFar D cI cZ z (fM cI cZ g) (wM cI cZ g sc ar hs) [.ref (g 0), .int (nI be)] (fun u => ∃ ar', u = (sc, ar', hs) ∧ frM ar ar' ∧ Sol (goN (hk kd) li be) (wtN kd) s (ar' 2) (ar' 3)) := by
  refine cWv.of (cc := cX6_layFar) (maxL := 7) (by decide) rfl (Nat.le_of_ble_eq_true rfl) (fun X F E hA hR => ?_)
  refine J_lv [0, 1] (lv' := [(0, .ref (g 0)), (1, .int (nI be))]) rfl ?_
  refine J_iconst (pc' := 1) (v := 0) F dX6_layFar_0 (by decide) rfl ?_
  refine J_istore_n (pc' := 2) [1, 2, 0] [(0, .ref (g 0)), (1, .int (nI be)), (2, .int 0)] F dX6_layFar_1 rfl (jL_of E (show 2 < 7 by decide)) rfl rfl ?_
  have L2 : ∀ (N2 : Nat) (i : Nat) (ar1 : Nat → Nat → Int32), i ≤ 4096 → (frM ar ar1 ∧ ∀ j, j < i → ar1 2 j = -1 ∧ ar1 3 j = -1 ∧ ar1 5 j = 0) → 4096 - i < N2 → J X true 0 0 2 [(0, .ref (g 0)), (1, .int (nI be)), (2, .int (nI i))] [] (wM cI cZ g sc ar1 hs) := by
    intro N2
    induction N2 with
    | zero => intro _ _ _ _ hm; exact absurd hm (Nat.not_lt_zero _)
    | succ N2 ih2 =>
      intro i ar1 hi hinv hm2
      refine J_iload_n (pc' := 3) (q := 2) F dX6_layFar_2 rfl rfl ?_
      refine J_sipush (pc' := 6) (v := 4096) F dX6_layFar_3 (by decide) rfl ?_
      refine J_icmp_ge (tgt := 36) (pc' := 9) F dX6_layFar_6 (by decide) rfl (fun c6 => ?_) (fun c6 => ?_)
      · have hi4 : i = 4096 := by
          have := (nI_leI (a := 4096) (b := i) (by decide) (by omega)).mp c6
          omega
        refine J_aload_n (pc' := 37) (q := 0) F dX6_layFar_36 rfl rfl ?_
        refine M_get_0_11 (pc' := 40) F dX6_layFar_37 kw_590 rfl ?_
        refine J_aload_n (pc' := 41) (q := 0) F dX6_layFar_40 rfl rfl ?_
        refine M_get_0_5 (v := sc 5) (pc' := 44) F dX6_layFar_41 kw_584 rfl rfl ?_
        refine J_iconst (pc' := 45) (v := 0) F dX6_layFar_44 (by decide) rfl ?_
        refine M_st_2 (f := ar1 2) (q := s) (pc' := 46) F dX6_layFar_45 rfl (by rw [hM.1]; exact nI_clamp (by have := hM.2.1; omega)) (by rw [hM.1]; exact vp_in_nI hM.2.1 (by decide)) rfl ?_
        refine J_aload_n (pc' := 47) (q := 0) F dX6_layFar_46 rfl rfl ?_
        refine M_get_0_13 (pc' := 50) F dX6_layFar_47 kw_592 rfl ?_
        refine J_iconst (pc' := 51) (v := 0) F dX6_layFar_50 (by decide) rfl ?_
        refine J_aload_n (pc' := 52) (q := 0) F dX6_layFar_51 rfl rfl ?_
        refine M_get_0_5 (v := sc 5) (pc' := 55) F dX6_layFar_52 kw_584 rfl rfl ?_
        refine M_st_4 (f := ar1 4) (q := 0) (pc' := 56) F dX6_layFar_55 rfl rfl (by unfold vp_in; decide) rfl ?_
        refine J_aload_n (pc' := 57) (q := 0) F dX6_layFar_56 rfl rfl ?_
        refine M_get_0_14 (pc' := 60) F dX6_layFar_57 kw_593 rfl ?_
        refine J_aload_n (pc' := 61) (q := 0) F dX6_layFar_60 rfl rfl ?_
        refine M_get_0_5 (v := sc 5) (pc' := 64) F dX6_layFar_61 kw_584 rfl rfl ?_
        refine J_iconst (pc' := 65) (v := 1) F dX6_layFar_64 (by decide) rfl ?_
        refine M_st_5 (f := ar1 5) (q := s) (pc' := 66) F dX6_layFar_65 rfl (by rw [hM.1]; exact nI_clamp (by have := hM.2.1; omega)) (by decide) (by rw [hM.1]; exact vp_in_nI hM.2.1 (by decide)) rfl ?_
        refine J_iconst (pc' := 67) (v := 0) F dX6_layFar_66 (by decide) rfl ?_
        refine J_istore_n (pc' := 68) [1, 2, 0] [(0, .ref (g 0)), (1, .int (nI be)), (2, .int 0)] F dX6_layFar_67 rfl (jL_of E (show 2 < 7 by decide)) rfl rfl ?_
        refine J_iconst (pc' := 69) (v := 1) F dX6_layFar_68 (by decide) rfl ?_
        refine J_istore_n (pc' := 70) [1, 2, 3, 0] [(0, .ref (g 0)), (1, .int (nI be)), (2, .int 0), (3, .int 1)] F dX6_layFar_69 rfl (jL_of E (show 3 < 7 by decide)) rfl rfl ?_
        have L70 : ∀ (N70 : Nat) (hd : Nat) (mn : Nat) (ar2 : Nat → Nat → Int32), frM ar ar2 → SI (goN (hk kd) li be) (wtN kd) s (ar2 2) (ar2 3) (ar2 4) (ar2 5) hd mn → muQ (ar2 2) (ar2 3) mn < N70 → J X true 0 0 70 [(0, .ref (g 0)), (1, .int (nI be)), (2, .int (nI hd)), (3, .int (nI mn))] [] (wM cI cZ g sc ar2 hs) := by
          intro N70
          induction N70 with
          | zero => intro _ _ _ _ _ hm; exact absurd hm (Nat.not_lt_zero _)
          | succ N70 ih70 =>
            intro hd mn ar2 hfr hSI hm70
            refine J_iload_n (pc' := 71) (q := 3) F dX6_layFar_70 rfl rfl ?_
            refine J_if_le (tgt := 185) (pc' := 74) F dX6_layFar_71 (by decide) rfl (fun c71 => ?_) (fun c71 => ?_)
            · have hz := nI_le0 (by have := hSI.2.1.2.1; omega) c71
              subst hz
              exact J_vretW (sc, ar2, hs) F hR dX6_layFar_185 rfl ⟨ar2, rfl, hfr, hSI.sol⟩
            · obtain ⟨mn1, rfl⟩ := le0_nI c71
              obtain ⟨c, hc, ec, hSA0⟩ := hSI.pop
              have hd4 : hd < 4096 := hSI.2.1.1
              have hmn4 : mn1 < 4096 := hSI.2.1.2.1
              refine J_aload_n (pc' := 75) (q := 0) F dX6_layFar_74 rfl rfl ?_
              refine M_get_0_13 (pc' := 78) F dX6_layFar_75 kw_592 rfl ?_
              refine J_iload_n (pc' := 79) (q := 2) F dX6_layFar_78 rfl rfl ?_
              refine M_ld_4 (f := ar2 4) (q := hd) (pc' := 80) F dX6_layFar_79 rfl (nI_clamp (by omega)) (vp_in_nI hd4 (by decide)) rfl ?_
              refine J_vali (y := nI c) ec ?_
              refine J_istore (pc' := 82) [1, 2, 3, 4, 0] [(0, .ref (g 0)), (1, .int (nI be)), (2, .int (nI hd)), (3, .int (nI (mn1 + 1))), (4, .int (nI c))] F dX6_layFar_80 (jL_of E (show 4 < 7 by decide)) rfl rfl ?_
              refine J_iload_n (pc' := 83) (q := 2) F dX6_layFar_82 rfl rfl ?_
              refine J_iconst (pc' := 84) (v := 1) F dX6_layFar_83 (by decide) rfl ?_
              refine J_iadd (pc' := 85) F dX6_layFar_84 rfl ?_
              refine J_sipush (pc' := 88) (v := 4096) F dX6_layFar_85 (by decide) rfl ?_
              refine J_irem (pc' := 89) F dX6_layFar_88 (by decide) rfl ?_
              refine J_vali (y := nI ((hd + 1) % 4096)) (by rw [nI_1]; exact rem4096 (hd + 1) (by omega)) ?_
              refine J_istore_n (pc' := 90) [1, 2, 0, 3, 4] [(0, .ref (g 0)), (1, .int (nI be)), (2, .int (nI ((hd + 1) % 4096))), (3, .int (nI (mn1 + 1))), (4, .int (nI c))] F dX6_layFar_89 rfl (jL_of E (show 2 < 7 by decide)) rfl rfl ?_
              refine J_iinc (v := nI mn1) (q := 3) (pc' := 93) [1, 2, 3, 0, 4] [(0, .ref (g 0)), (1, .int (nI be)), (2, .int (nI ((hd + 1) % 4096))), (3, .int (nI mn1)), (4, .int (nI c))] F dX6_layFar_90 rfl (pk_m1 mn1) (jL_of E (show 3 < 7 by decide)) rfl rfl ?_
              refine J_aload_n (pc' := 94) (q := 0) F dX6_layFar_93 rfl rfl ?_
              refine M_get_0_14 (pc' := 97) F dX6_layFar_94 kw_593 rfl ?_
              refine J_iload (pc' := 99) (q := 4) F dX6_layFar_97 rfl rfl ?_
              refine J_iconst (pc' := 100) (v := 0) F dX6_layFar_99 (by decide) rfl ?_
              refine M_st_5 (f := ar2 5) (q := c) (pc' := 101) F dX6_layFar_100 rfl (nI_clamp (by omega)) (by decide) (vp_in_nI hc (by decide)) rfl ?_
              refine J_iconst (pc' := 102) (v := 0) F dX6_layFar_101 (by decide) rfl ?_
              refine J_istore (pc' := 104) [1, 2, 3, 4, 5, 0] [(0, .ref (g 0)), (1, .int (nI be)), (2, .int (nI ((hd + 1) % 4096))), (3, .int (nI mn1)), (4, .int (nI c)), (5, .int 0)] F dX6_layFar_102 (jL_of E (show 5 < 7 by decide)) rfl rfl ?_
              have L104 : ∀ (N104 : Nat) (k : Nat) (mn3 : Nat) (ar3 : Nat → Nat → Int32), k ≤ 42 → frM ar ar3 → SA (goN (hk kd) li be) (wtN kd) s (ar3 2) (ar3 3) (ar3 4) (ar3 5) ((hd + 1) % 4096) mn3 c k → muQ (ar3 2) (ar3 3) mn3 < N70 → 42 - k < N104 → J X true 0 0 104 [(0, .ref (g 0)), (1, .int (nI be)), (2, .int (nI ((hd + 1) % 4096))), (3, .int (nI mn3)), (4, .int (nI c)), (5, .int (nI k))] [] (wM cI cZ g sc ar3 hs) := by
                intro N104
                induction N104 with
                | zero => intro _ _ _ _ _ _ _ hm; exact absurd hm (Nat.not_lt_zero _)
                | succ N104 ih104 =>
                  intro k mn3 ar3 hk42 hfr3 hSA hmu hm104
                  refine J_iload (pc' := 106) (q := 5) F dX6_layFar_104 rfl rfl ?_
                  refine J_bipush (pc' := 108) (v := 42) F dX6_layFar_106 (by decide) rfl ?_
                  refine J_icmp_ge (tgt := 182) (pc' := 111) F dX6_layFar_108 (by decide) rfl (fun c108 => ?_) (fun c108 => ?_)
                  · refine J_goto (tgt := 70) F dX6_layFar_182 (by decide) ?_
                    refine J_lv [0, 1, 2, 3] (lv' := [(0, .ref (g 0)), (1, .int (nI be)), (2, .int (nI ((hd + 1) % 4096))), (3, .int (nI mn3))]) rfl ?_
                    exact ih70 ((hd + 1) % 4096) mn3 ar3 hfr3 (hSA.done ((nI_leI (a := 42) (b := k) (by decide) (by omega)).mp c108)) hmu
                  · have hkk : k < 42 := jin_lt (by decide) hk42 c108
                    have hGr := gr_of hM.2.2.2.2 li be hM.2.1
                    have hM3 := hfr3.MH hM
                    refine J_aload_n (pc' := 112) (q := 0) F dX6_layFar_111 rfl rfl ?_
                    refine J_iload (pc' := 114) (q := 4) F dX6_layFar_112 rfl rfl ?_
                    refine J_iload (pc' := 116) (q := 5) F dX6_layFar_114 rfl rfl ?_
                    refine J_iload_n (pc' := 117) (q := 1) F dX6_layFar_116 rfl rfl ?_
                    refine J_goRie (wc := (wM cI cZ g sc ar3 hs)) (av := [.ref (g 0), .int (nI c), .int (nI k), .int (nI be)]) (rest := []) (v := zX6_goes sc ar3 hs (nI c) (nI k) (nI be)) (pc' := 120) F E (fun _ h => h) (fun H locs hI hp => jrun_V (As := [.int (nI c), .int (nI k), .int (nI be)]) 0 F E (c_X6_goes l D cI cZ z g sc ar3 hs (nI c) (nI k) (nI be)) kw_770 kw_772 kp_15 rfl kw_773 kw_7 oX6_goes ⟨⟨rfl, rfl⟩, ⟨Nat.le_of_ble_eq_true rfl, Nat.le_of_ble_eq_true rfl⟩, Nat.zero_le _, Nat.zero_le _⟩ rfl rfl (Nat.le_of_ble_eq_true rfl) dX6_layFar_117 rfl rfl (jI_P E hI) hp) rfl ?_
                    refine J_vali (goesM hM3 hc hkk hbe) ?_
                    cases he : (if isA k = true then goN (hk kd) li be c k else none) with
                    | none =>
                      refine J_vali (y := -1) rfl ?_
                      refine J_istore (pc' := 122) [1, 2, 3, 4, 5, 6, 0] [(0, .ref (g 0)), (1, .int (nI be)), (2, .int (nI ((hd + 1) % 4096))), (3, .int (nI mn3)), (4, .int (nI c)), (5, .int (nI k)), (6, .int (-1))] F dX6_layFar_120 (jL_of E (show 6 < 7 by decide)) rfl rfl ?_
                      refine J_iload (pc' := 124) (q := 6) F dX6_layFar_122 rfl rfl ?_
                      refine J_iconst (pc' := 125) (v := (-1)) F dX6_layFar_124 (by decide) rfl ?_
                      refine J_icmp_eq (tgt := 176) (pc' := 128) F dX6_layFar_125 (by decide) rfl (fun _ => ?_) (fun c9 => absurd (by decide) c9)
                      refine J_iinc (v := nI (k + 1)) (q := 5) (pc' := 179) [1, 2, 3, 4, 5, 0, 6] [(0, .ref (g 0)), (1, .int (nI be)), (2, .int (nI ((hd + 1) % 4096))), (3, .int (nI mn3)), (4, .int (nI c)), (5, .int (nI (k + 1))), (6, .int (-1))] F dX6_layFar_176 rfl (nI_inc k) (jL_of E (show 5 < 7 by decide)) rfl rfl ?_
                      refine J_goto (tgt := 104) F dX6_layFar_179 (by decide) ?_
                      refine J_lv [0, 1, 2, 3, 4, 5] (lv' := [(0, .ref (g 0)), (1, .int (nI be)), (2, .int (nI ((hd + 1) % 4096))), (3, .int (nI mn3)), (4, .int (nI c)), (5, .int (nI (k + 1)))]) rfl ?_
                      exact ih104 (k + 1) mn3 ar3 (by omega) hfr3 (hSA.skip (fun hA => by rw [if_pos hA] at he; exact he)) hmu (by omega)
                    | some t =>
                      have hAa : isA k = true := by
                        by_cases q : isA k = true
                        · exact q
                        · rw [if_neg q] at he; cases he
                      have he2 : goN (hk kd) li be c k = some t := by rw [if_pos hAa] at he; exact he
                      have ht : t < 4096 := goN_lt hc he2
                      refine J_vali (y := nI t) rfl ?_
                      refine J_istore (pc' := 122) [1, 2, 3, 4, 5, 6, 0] [(0, .ref (g 0)), (1, .int (nI be)), (2, .int (nI ((hd + 1) % 4096))), (3, .int (nI mn3)), (4, .int (nI c)), (5, .int (nI k)), (6, .int (nI t))] F dX6_layFar_120 (jL_of E (show 6 < 7 by decide)) rfl rfl ?_
                      refine J_iload (pc' := 124) (q := 6) F dX6_layFar_122 rfl rfl ?_
                      refine J_iconst (pc' := 125) (v := (-1)) F dX6_layFar_124 (by decide) rfl ?_
                      refine J_icmp_eq (tgt := 176) (pc' := 128) F dX6_layFar_125 (by decide) rfl (fun c125 => False.elim (nI_m1 (by omega) c125)) (fun c125 => ?_)
                      refine J_aload_n (pc' := 129) (q := 0) F dX6_layFar_128 rfl rfl ?_
                      refine J_iload (pc' := 131) (q := 4) F dX6_layFar_129 rfl rfl ?_
                      refine J_iload (pc' := 133) (q := 6) F dX6_layFar_131 rfl rfl ?_
                      refine J_iload (pc' := 135) (q := 5) F dX6_layFar_133 rfl rfl ?_
                      refine J_goWi (wf := (fM cI cZ g)) (w0 := (wM cI cZ g sc ar3 hs)) (av := [.ref (g 0), .int (nI c), .int (nI t), .int (nI k)]) (rest := []) (pc' := 138) (fM cI cZ g) F E hA (fun _ h => h) id (jsubA_rf _) (fun _ => jOver_rf _ _ _) (fun H locs hI hp => jrun_V (As := [.int (nI c), .int (nI t), .int (nI k)]) 0 F E ((cWi.mono (c_X6_isBetter l D cI cZ z g sc ar3 hs (nI c) (nI t) (nI k) (vp_in_nI hc (by decide)) (vp_in_nI ht (by decide)) (vp_in_nI hkk (by decide))) (isB_SA hM3 hSA hkk ht)) H.size) kw_794 kw_796 kp_19 rfl kw_797 kw_7 oX6_isBetter ⟨⟨rfl, rfl⟩, ⟨Nat.le_of_ble_eq_true rfl, Nat.le_of_ble_eq_true rfl⟩, Nat.zero_le _, Nat.zero_le _⟩ rfl rfl (Nat.le_of_ble_eq_true rfl) dX6_layFar_135 rfl rfl (jI_P E hI) hp) rfl (fun r135 ur135 hr135 => ?_)
                      rcases hr135 with ⟨hx, rfl, rfl⟩ | ⟨hx, rfl, rfl⟩
                      · refine J_ws (ws' := (wM cI cZ g sc ar3 hs)) rfl ?_
                        refine J_if_eq (tgt := 176) (pc' := 141) F dX6_layFar_138 (by decide) rfl (fun _ => ?_) (fun c9 => absurd (by decide) c9)
                        refine J_iinc (v := nI (k + 1)) (q := 5) (pc' := 179) [1, 2, 3, 4, 5, 0, 6] [(0, .ref (g 0)), (1, .int (nI be)), (2, .int (nI ((hd + 1) % 4096))), (3, .int (nI mn3)), (4, .int (nI c)), (5, .int (nI (k + 1))), (6, .int (nI t))] F dX6_layFar_176 rfl (nI_inc k) (jL_of E (show 5 < 7 by decide)) rfl rfl ?_
                        refine J_goto (tgt := 104) F dX6_layFar_179 (by decide) ?_
                        refine J_lv [0, 1, 2, 3, 4, 5] (lv' := [(0, .ref (g 0)), (1, .int (nI be)), (2, .int (nI ((hd + 1) % 4096))), (3, .int (nI mn3)), (4, .int (nI c)), (5, .int (nI (k + 1)))]) rfl ?_
                        exact ih104 (k + 1) mn3 ar3 (by omega) hfr3 (hSA.rlx he2 hx) hmu (by omega)
                      · refine J_ws (ws' := (wM cI cZ g sc (va_up (va_up ar3 2 (upd (ar3 2) t (nI (Dn (ar3 2) c + wtN kd k)))) 3 (upd (ar3 3) t (lab s (ar3 3) c k))) hs)) rfl ?_
                        refine J_if_eq (tgt := 176) (pc' := 141) F dX6_layFar_138 (by decide) rfl (fun c9 => absurd c9 (by decide)) (fun _ => ?_)
                        refine J_aload_n (pc' := 142) (q := 0) F dX6_layFar_141 rfl rfl ?_
                        refine M_get_0_14 (pc' := 145) F dX6_layFar_142 kw_593 rfl ?_
                        refine J_iload (pc' := 147) (q := 6) F dX6_layFar_145 rfl rfl ?_
                        refine M_ld_5 (f := ar3 5) (q := t) (pc' := 148) F dX6_layFar_147 rfl (nI_clamp (by omega)) (vp_in_nI ht (by decide)) rfl ?_
                        refine J_if_ne (tgt := 176) (pc' := 151) F dX6_layFar_148 (by decide) rfl (fun c148 => ?_) (fun c148 => ?_)
                        · refine J_iinc (v := nI (k + 1)) (q := 5) (pc' := 179) [1, 2, 3, 4, 5, 0, 6] [(0, .ref (g 0)), (1, .int (nI be)), (2, .int (nI ((hd + 1) % 4096))), (3, .int (nI mn3)), (4, .int (nI c)), (5, .int (nI (k + 1))), (6, .int (nI t))] F dX6_layFar_176 rfl (nI_inc k) (jL_of E (show 5 < 7 by decide)) rfl rfl ?_
                          refine J_goto (tgt := 104) F dX6_layFar_179 (by decide) ?_
                          refine J_lv [0, 1, 2, 3, 4, 5] (lv' := [(0, .ref (g 0)), (1, .int (nI be)), (2, .int (nI ((hd + 1) % 4096))), (3, .int (nI mn3)), (4, .int (nI c)), (5, .int (nI (k + 1)))]) rfl ?_
                          exact ih104 (k + 1) mn3 (va_up (va_up ar3 2 (upd (ar3 2) t (nI (Dn (ar3 2) c + wtN kd k)))) 3 (upd (ar3 3) t (lab s (ar3 3) c k))) (by omega) (fun j h2 h3 h4 h5 => by rw [va_un h3, va_un h2]; exact hfr3 j h2 h3 h4 h5) (hSA.imp hGr hkk hAa he2 hx c148) (by have := (hSA.put hGr hkk hAa he2 hx rfl rfl).2.2.2.2.2.2.2.2 mn3; exact Nat.lt_of_le_of_lt (Nat.le_trans (Nat.le_add_right _ 2) this) hmu) (by omega)
                        · have hmn3 : mn3 ≤ 4096 := hSA.2.1.2.1
                          refine J_aload_n (pc' := 152) (q := 0) F dX6_layFar_151 rfl rfl ?_
                          refine M_get_0_13 (pc' := 155) F dX6_layFar_152 kw_592 rfl ?_
                          refine J_iload_n (pc' := 156) (q := 2) F dX6_layFar_155 rfl rfl ?_
                          refine J_iload_n (pc' := 157) (q := 3) F dX6_layFar_156 rfl rfl ?_
                          refine J_iadd (pc' := 158) F dX6_layFar_157 rfl ?_
                          refine J_sipush (pc' := 161) (v := 4096) F dX6_layFar_158 (by decide) rfl ?_
                          refine J_irem (pc' := 162) F dX6_layFar_161 (by decide) rfl ?_
                          refine J_iload (pc' := 164) (q := 6) F dX6_layFar_162 rfl rfl ?_
                          refine M_st_4 (f := ar3 4) (q := (((hd + 1) % 4096 + mn3) % 4096)) (pc' := 165) F dX6_layFar_164 rfl (by rw [nI_add, rem4096 _ (by omega)]; exact nI_clamp (by omega)) (by rw [nI_add, rem4096 _ (by omega)]; exact vp_in_nI (Nat.mod_lt _ (by decide)) (by decide)) rfl ?_
                          refine J_aload_n (pc' := 166) (q := 0) F dX6_layFar_165 rfl rfl ?_
                          refine M_get_0_14 (pc' := 169) F dX6_layFar_166 kw_593 rfl ?_
                          refine J_iload (pc' := 171) (q := 6) F dX6_layFar_169 rfl rfl ?_
                          refine J_iconst (pc' := 172) (v := 1) F dX6_layFar_171 (by decide) rfl ?_
                          refine M_st_5 (f := ar3 5) (q := t) (pc' := 173) F dX6_layFar_172 rfl (nI_clamp (by omega)) (by decide) (vp_in_nI ht (by decide)) rfl ?_
                          refine J_iinc (v := nI (mn3 + 1)) (q := 3) (pc' := 176) [1, 2, 3, 0, 4, 5, 6] [(0, .ref (g 0)), (1, .int (nI be)), (2, .int (nI ((hd + 1) % 4096))), (3, .int (nI (mn3 + 1))), (4, .int (nI c)), (5, .int (nI k)), (6, .int (nI t))] F dX6_layFar_173 rfl (nI_inc mn3) (jL_of E (show 3 < 7 by decide)) rfl rfl ?_
                          refine J_iinc (v := nI (k + 1)) (q := 5) (pc' := 179) [1, 2, 3, 4, 5, 0, 6] [(0, .ref (g 0)), (1, .int (nI be)), (2, .int (nI ((hd + 1) % 4096))), (3, .int (nI (mn3 + 1))), (4, .int (nI c)), (5, .int (nI (k + 1))), (6, .int (nI t))] F dX6_layFar_176 rfl (nI_inc k) (jL_of E (show 5 < 7 by decide)) rfl rfl ?_
                          refine J_goto (tgt := 104) F dX6_layFar_179 (by decide) ?_
                          refine J_lv [0, 1, 2, 3, 4, 5] (lv' := [(0, .ref (g 0)), (1, .int (nI be)), (2, .int (nI ((hd + 1) % 4096))), (3, .int (nI (mn3 + 1))), (4, .int (nI c)), (5, .int (nI (k + 1)))]) rfl ?_
                          exact ih104 (k + 1) (mn3 + 1) (va_up (va_up (va_up (va_up ar3 2 (upd (ar3 2) t (nI (Dn (ar3 2) c + wtN kd k)))) 3 (upd (ar3 3) t (lab s (ar3 3) c k))) 4 (upd (ar3 4) (((hd + 1) % 4096 + mn3) % 4096) (nI t))) 5 (upd (ar3 5) t 1)) (by omega) (fun j h2 h3 h4 h5 => by rw [va_un h5, va_un h4, va_un h3, va_un h2]; exact hfr3 j h2 h3 h4 h5) (hSA.push hGr hkk hAa he2 hx c148) (by have := (hSA.put hGr hkk hAa he2 hx rfl rfl).2.2.2.2.2.2.2.2 mn3; unfold muQ at this hmu; exact (show muQ (upd (ar3 2) t (nI (Dn (ar3 2) c + wtN kd k))) (upd (ar3 3) t (lab s (ar3 3) c k)) (mn3 + 1) < N70 by unfold muQ; omega)) (by omega)
              have hmu0 : muQ (ar2 2) (ar2 3) mn1 < N70 := by unfold muQ at hm70 ⊢; omega
              exact L104 _ 0 mn1 (va_up ar2 5 (upd (ar2 5) c 0)) (Nat.zero_le _) (fun k h2 h3 h4 h5 => by rw [va_un h5]; exact hfr k h2 h3 h4 h5) hSA0 hmu0 (Nat.lt_succ_self _)
        have hst : SI (goN (hk kd) li be) (wtN kd) s (upd (ar1 2) s 0) (ar1 3) (upd (ar1 4) 0 (nI s)) (upd (ar1 5) s 1) 0 1 := SI.start (gr_of hM.2.2.2.2 li be hM.2.1) (fun j hj => (hinv.2 j (by omega)).1) (fun j hj => (hinv.2 j (by omega)).2.1) (fun j hj => (hinv.2 j (by omega)).2.2)
        rw [hM.1]
        exact L70 _ 0 1 (va_up (va_up (va_up ar1 2 (upd (ar1 2) s 0)) 4 (upd (ar1 4) 0 (nI s))) 5 (upd (ar1 5) s 1)) (fun k h2 h3 h4 h5 => by rw [va_un h5, va_un h4, va_un h2]; exact hinv.1 k h2 h3 h4 h5) hst (Nat.lt_succ_self _)
      · have hlt : i < 4096 := jin_lt (by decide) hi c6
        refine J_aload_n (pc' := 10) (q := 0) F dX6_layFar_9 rfl rfl ?_
        refine M_get_0_11 (pc' := 13) F dX6_layFar_10 kw_590 rfl ?_
        refine J_iload_n (pc' := 14) (q := 2) F dX6_layFar_13 rfl rfl ?_
        refine J_iconst (pc' := 15) (v := (-1)) F dX6_layFar_14 (by decide) rfl ?_
        refine M_st_2 (f := ar1 2) (q := i) (pc' := 16) F dX6_layFar_15 rfl (nI_clamp (by omega)) (vp_in_nI hlt (by decide)) rfl ?_
        refine J_aload_n (pc' := 17) (q := 0) F dX6_layFar_16 rfl rfl ?_
        refine M_get_0_12 (pc' := 20) F dX6_layFar_17 kw_591 rfl ?_
        refine J_iload_n (pc' := 21) (q := 2) F dX6_layFar_20 rfl rfl ?_
        refine J_iconst (pc' := 22) (v := (-1)) F dX6_layFar_21 (by decide) rfl ?_
        refine M_st_3 (f := ar1 3) (q := i) (pc' := 23) F dX6_layFar_22 rfl (nI_clamp (by omega)) (vp_in_nI hlt (by decide)) rfl ?_
        refine J_aload_n (pc' := 24) (q := 0) F dX6_layFar_23 rfl rfl ?_
        refine M_get_0_14 (pc' := 27) F dX6_layFar_24 kw_593 rfl ?_
        refine J_iload_n (pc' := 28) (q := 2) F dX6_layFar_27 rfl rfl ?_
        refine J_iconst (pc' := 29) (v := 0) F dX6_layFar_28 (by decide) rfl ?_
        refine M_st_5 (f := ar1 5) (q := i) (pc' := 30) F dX6_layFar_29 rfl (nI_clamp (by omega)) (by decide) (vp_in_nI hlt (by decide)) rfl ?_
        refine J_iinc (v := nI (i + 1)) (q := 2) (pc' := 33) [1, 2, 0] [(0, .ref (g 0)), (1, .int (nI be)), (2, .int (nI (i + 1)))] F dX6_layFar_30 rfl (nI_inc i) (jL_of E (show 2 < 7 by decide)) rfl rfl ?_
        refine J_goto (tgt := 2) F dX6_layFar_33 (by decide) ?_
        exact ih2 (i + 1) (va_up (va_up (va_up ar1 2 (upd (ar1 2) i (-1))) 3 (upd (ar1 3) i (-1))) 5 (upd (ar1 5) i 0)) (by omega) (lay0 hinv) (by omega)
  exact L2 _ 0 ar (Nat.zero_le _) ⟨fun _ _ _ _ _ => rfl, fun j hj => absurd hj (Nat.not_lt_zero _)⟩ (Nat.lt_succ_self _)
