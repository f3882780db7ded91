/-! the law's loop and its body -/
set_option maxHeartbeats 4000000 in
set_option maxRecDepth 100000 in
theorem law_loop {X : jX} {l : Launch} {D : va_G} {cI cZ : ClassId} {z gx gm : Nat → Nat} {b L k n : Nat} {xs : Nat → Int32} (F : JF X cL_law RL cI cZ z) (E : JE X l room_1 D 4) (hA : jA X) (hS : jScr X b L xs) (hQ : jLw X b) (hk : k ≤ 600000) (hn : n ≤ 7302250) (hL : L ≤ 2048) : ∀ (N i : Nat) (v : uC) (u : uM), L - i < N → i ≤ L → RelB i v u → J X true k n 18 [(0, .ref b), (1, .ref (gx 0)), (2, .ref (gm 0)), (3, .int (nI i))] [] (wC cI gx v.1 v.2 ++ wM cI cZ gm u.1 u.2.1 u.2.2) := by
  intro N
  induction N with
  | zero => intro i v u hm; exact absurd hm (Nat.not_lt_zero _)
  | succ N ih =>
    intro i v u hm hiL h
    obtain ⟨sc, ar⟩ := v
    obtain ⟨mc, mr, hs⟩ := u
    refine J_ws (ws' := wC cI gx sc ar ++ wM cI cZ gm mc mr hs) rfl ?_
    refine J_iload_n (pc' := 19) (q := 3) F dL_law_18 rfl rfl ?_
    refine J_aload_n (pc' := 20) (q := 0) F dL_law_19 rfl rfl ?_
    refine J_slen (pc' := 21) F hS dL_law_20 rfl ?_
    refine J_iconst (pc' := 22) (v := 4) F dL_law_21 (by decide) rfl ?_
    refine J_isub (pc' := 23) F dL_law_22 rfl ?_
    refine J_icmp_gt (tgt := 605) (pc' := 26) F dL_law_23 (by decide) rfl (fun _ => ?_) (fun c => ?_)
    · refine J_iconst (pc' := 606) (v := 1) F dL_law_605 (by decide) rfl ?_
      exact J_lawret F hQ hk hn dL_law_606
    · have hi : i + 4 ≤ L := by
        have e1 : (nI L - 4 : Int32).toInt = (L : Int) - 4 := pk_sub_toInt (a := L) (b := 4) (by omega) (by decide)
        rw [fa_lt, e1, nI_toInt (by omega)] at c
        omega
      have kk : ∀ (v : uC) (u : uM), RelB (i + 4) v u → J X true k n 599 [(0, .ref b), (1, .ref (gx 0)), (2, .ref (gm 0)), (3, .int (nI i))] [] (wC cI gx v.1 v.2 ++ wM cI cZ gm u.1 u.2.1 u.2.2) := by
        intro v u hr
        refine J_iinc (v := nI (i + 4)) (q := 3) (pc' := 602) [1, 2, 3, 0] [(0, .ref b), (1, .ref (gx 0)), (2, .ref (gm 0)), (3, .int (nI (i + 4)))] F dL_law_599 rfl (nI_add i 4) (jL_of E (show 3 < 4 by decide)) rfl rfl ?_
        refine J_goto (tgt := 18) F dL_law_602 (by decide) ?_
        exact ih (i + 4) v u (by omega) hi hr
      refine J_aload_n (pc' := 27) (q := 0) F dL_law_26 rfl rfl ?_
      refine J_iload_n (pc' := 28) (q := 3) F dL_law_27 rfl rfl ?_
      refine J_scr (j := i) (pc' := 29) F hS dL_law_28 (by omega) hL rfl ?_
      refine J_bipush (pc' := 31) (v := 31) F dL_law_29 (by decide) rfl ?_
      refine J_iand (pc' := 32) F dL_law_31 rfl ?_
      obtain ⟨j, hj, ej⟩ := pk_andE (xs i) (m := 31) 5 (by decide)
      refine J_vali (y := nI j) ej ?_
      have hj32 : j < 32 := hj
      rcases (show j = 0 ∨ j = 1 ∨ j = 2 ∨ j = 3 ∨ j = 4 ∨ j = 5 ∨ j = 6 ∨ j = 7 ∨ j = 8 ∨ j = 9 ∨ j = 10 ∨ j = 11 ∨ j = 12 ∨ j = 13 ∨ j = 14 ∨ j = 15 ∨ j = 16 ∨ j = 17 ∨ j = 18 ∨ j = 19 ∨ j = 20 ∨ j = 21 ∨ 22 ≤ j by omega) with rfl | rfl | rfl | rfl | rfl | rfl | rfl | rfl | rfl | rfl | rfl | rfl | rfl | rfl | rfl | rfl | rfl | rfl | rfl | rfl | rfl | rfl | h22
      · exact J_tsIn (off := 104) (tgt := 136) F dL_law_32 (by decide) (by decide) (by decide) (by decide) (lc_letter F E hA hS hk hn hL hi h kk)
      · exact J_tsIn (off := 127) (tgt := 159) F dL_law_32 (by decide) (by decide) (by decide) (by decide) (lc_blank F E hA hS hk hn hL hi h kk)
      · exact J_tsIn (off := 140) (tgt := 172) F dL_law_32 (by decide) (by decide) (by decide) (by decide) (lc_fault F E hA hS hk hn hL hi h kk)
      · exact J_tsIn (off := 153) (tgt := 185) F dL_law_32 (by decide) (by decide) (by decide) (by decide) (lc_hold F E hA hS hk hn hL hi h kk)
      · exact J_tsIn (off := 166) (tgt := 198) F dL_law_32 (by decide) (by decide) (by decide) (by decide) (lc_bay F E hA hS hk hn hL hi h kk)
      · exact J_tsIn (off := 199) (tgt := 231) F dL_law_32 (by decide) (by decide) (by decide) (by decide) (lc_as F E hA hS hk hn hL hi h kk)
      · exact J_tsIn (off := 232) (tgt := 264) F dL_law_32 (by decide) (by decide) (by decide) (by decide) (lc_ground F E hA hS hk hn hL hi h kk)
      · exact J_tsIn (off := 271) (tgt := 303) F dL_law_32 (by decide) (by decide) (by decide) (by decide) (lc_hull F E hA hS hk hn hL hi h kk)
      · exact J_tsIn (off := 294) (tgt := 326) F dL_law_32 (by decide) (by decide) (by decide) (by decide) (lc_may F E hA hS hk hn hL hi h kk)
      · exact J_tsIn (off := 317) (tgt := 349) F dL_law_32 (by decide) (by decide) (by decide) (by decide) (lc_act F E hA hS hk hn hL hi h kk)
      · exact J_tsIn (off := 340) (tgt := 372) F dL_law_32 (by decide) (by decide) (by decide) (by decide) (lc_soonest F E hA hS hk hn hL hi h kk)
      · exact J_tsIn (off := 363) (tgt := 395) F dL_law_32 (by decide) (by decide) (by decide) (by decide) (lc_most F E hA hS hk hn hL hi h kk)
      · exact J_tsIn (off := 376) (tgt := 408) F dL_law_32 (by decide) (by decide) (by decide) (by decide) (lc_holds F E hA hS hk hn hL hi h kk)
      · exact J_tsIn (off := 389) (tgt := 421) F dL_law_32 (by decide) (by decide) (by decide) (by decide) (lc_leastBend F E hA hS hk hn hL hi h kk)
      · exact J_tsIn (off := 402) (tgt := 434) F dL_law_32 (by decide) (by decide) (by decide) (by decide) (lc_string F E hA hS hk hn hL hi h kk)
      · exact J_tsIn (off := 425) (tgt := 457) F dL_law_32 (by decide) (by decide) (by decide) (by decide) (lc_forget F E hA hS hk hn hL hi h kk)
      · exact J_tsIn (off := 438) (tgt := 470) F dL_law_32 (by decide) (by decide) (by decide) (by decide) (lc_fits F E hA hS hk hn hL hi h kk)
      · exact J_tsIn (off := 461) (tgt := 493) F dL_law_32 (by decide) (by decide) (by decide) (by decide) (lc_days F E hA hS hk hn hL hi h kk)
      · exact J_tsIn (off := 504) (tgt := 536) F dL_law_32 (by decide) (by decide) (by decide) (by decide) (lc_image F E hA hS hk hn hL hi h kk)
      · exact J_tsIn (off := 517) (tgt := 549) F dL_law_32 (by decide) (by decide) (by decide) (by decide) (lc_restore F E hA hS hk hn hL hi h kk)
      · exact J_tsIn (off := 530) (tgt := 562) F dL_law_32 (by decide) (by decide) (by decide) (by decide) (lc_count F E hA hS hk hn hL hi h kk)
      · exact J_tsIn (off := 553) (tgt := 585) F dL_law_32 (by decide) (by decide) (by decide) (by decide) (lc_digest F E hA hS hk hn hL hi h kk)
      · exact J_tsOut (tgt := 599) F dL_law_32 (Or.inr (by rw [nI_toInt (by omega)]; omega)) (by decide) (kk (sc, ar) (mc, mr, hs) (h.up (by omega)))
set_option maxHeartbeats 4000000 in
set_option maxRecDepth 100000 in
theorem law_body {X : jX} {l : Launch} {D : va_G} {cI cZ : ClassId} {z : Nat → Nat} {b L : Nat} {xs : Nat → Int32} (F : JF X cL_law RL cI cZ z) (E : JE X l room_1 D 4) (hA : jA X) (hS : jScr X b L xs) (hQ : jLw X b) (hL : L ≤ 2048) : J X true 0 0 0 (lv_args 0 [.ref b]) [] [] := by
  refine J_lv [0] (lv' := [(0, .ref b)]) rfl ?_
  refine J_newC (pc' := 3) (ci := 5) (fs := [.null, .int 0, .null, .int 0, .null, .null, .int 0, .int 0, .int 0, .null, .null, .null]) F E hA dL_law_0 inG_X5 tyX5 tyX5_ok kw_15 kw_16 kw_1 rfl dfX5 (Nat.le_of_ble_eq_true rfl) (Nat.le_of_ble_eq_true rfl) rfl (fun q1 => ?_)
  refine J_dup (pc' := 4) F dL_law_3 rfl rfl ?_
  refine J_goN (wf := (fun u : Nat → Nat => wC cI u sc0 ar0)) (w0 := [(q1, .inr (5, [.null, .int 0, .null, .int 0, .null, .null, .int 0, .int 0, .int 0, .null, .null, .null]))]) (av := [.ref q1]) (rest := [.ref q1]) (pc' := 7) (fun u : Nat → Nat => wC cI u sc0 ar0) F E hA (fun _ h => h) id (jsubA_rf _) (fun _ => jOver_rf _ _ _) (fun H locs hI hp => jrun_I (As := []) F E (c_X5_init l D cI cZ z q1 H.size) rfl kw_17 kw_18 rfl kw_19 kw_1 oX5_init ⟨⟨rfl, rfl⟩, ⟨(Nat.le_of_ble_eq_true rfl), (Nat.le_of_ble_eq_true rfl)⟩, (Nat.le_of_ble_eq_true rfl), (Nat.le_of_ble_eq_true rfl)⟩ rfl rfl (Nat.le_of_ble_eq_true rfl) dL_law_4 hp) rfl (fun gx hgx => ?_)
  subst hgx
  refine J_astore_n (pc' := 8) [1, 0] [(0, .ref b), (1, .ref (gx 0))] F dL_law_7 rfl (jL_of E (show 1 < 4 by decide)) rfl rfl ?_
  refine J_newC (pc' := 11) (ci := 6) (fs := [.null, .int 0, .int 0, .int 0, .int 0, .int 0, .int 0, .int 0, .int 0, .int 0, .null, .null, .null, .null, .null, .int 0, .int 0, .null, .null, .null, .int 0, .int 0, .int 0, .int 0, .int 0, .int 0, .int 0, .int 0, .int 0, .int 0, .null, .long 0]) F E hA dL_law_8 inG_X6 tyX6 tyX6_ok kw_573 kw_574 kw_7 rfl dfX6 (Nat.le_of_ble_eq_true rfl) (Nat.le_of_ble_eq_true rfl) rfl (fun q2 => ?_)
  refine J_dup (pc' := 12) F dL_law_11 rfl rfl ?_
  refine J_goN (wf := (fun u : Nat → Nat => wM cI cZ u mc0 ar0 0)) (w0 := [(q2, .inr (6, [.null, .int 0, .int 0, .int 0, .int 0, .int 0, .int 0, .int 0, .int 0, .int 0, .null, .null, .null, .null, .null, .int 0, .int 0, .null, .null, .null, .int 0, .int 0, .int 0, .int 0, .int 0, .int 0, .int 0, .int 0, .int 0, .int 0, .null, .long 0]))]) (av := [.ref q2]) (rest := [.ref q2]) (pc' := 15) (fun u : Nat → Nat => wC cI gx sc0 ar0 ++ wM cI cZ u mc0 ar0 0) F E hA (fun _ h => jPr h) jDr jAr (fun u => jOver_of (wr := wC cI gx sc0 ar0) [19] [0, 1, 2, 3, 4, 5, 6, 7, 8, 9, 10, 11, 12, 13, 14, 15, 16, 17, 18] [0, 1, 2, 3, 4, 5, 6, 7, 8, 9, 10, 11, 12, 13, 14, 15, 16, 17, 18, 19, 20, 21, 22, 23, 24, 25, 26, 27, 28, 29] rfl rfl (by decide) (by decide) rfl (by decide)) (fun H locs hI hp => jrun_I (As := []) F E (c_X6_init l D cI cZ z q2 H.size) rfl kw_575 kw_576 rfl kw_577 kw_7 oX6_init ⟨⟨rfl, rfl⟩, ⟨(Nat.le_of_ble_eq_true rfl), (Nat.le_of_ble_eq_true rfl)⟩, (Nat.le_of_ble_eq_true rfl), (Nat.le_of_ble_eq_true rfl)⟩ rfl rfl (Nat.le_of_ble_eq_true rfl) dL_law_12 hp) rfl (fun gm hgm => ?_)
  subst hgm
  refine J_astore_n (pc' := 16) [1, 2, 0] [(0, .ref b), (1, .ref (gx 0)), (2, .ref (gm 0))] F dL_law_15 rfl (jL_of E (show 2 < 4 by decide)) rfl rfl ?_
  refine J_iconst (pc' := 17) (v := nI 0) F dL_law_16 (by decide) rfl ?_
  refine J_istore_n (pc' := 18) [1, 2, 3, 0] [(0, .ref b), (1, .ref (gx 0)), (2, .ref (gm 0)), (3, .int (nI 0))] F dL_law_17 rfl (jL_of E (show 3 < 4 by decide)) rfl rfl ?_
  exact law_loop F E hA hS hQ (Nat.le_of_ble_eq_true rfl) (Nat.le_of_ble_eq_true rfl) hL (L + 1) 0 (sc0, ar0) (mc0, ar0, 0) (by omega) (Nat.zero_le _) rel0
