/-! the reference's digest -/
def sy (h : Int64) (v : Int32) : Int64 := 31 * h + v.toInt64
def dig (f : Nat → Int32) : Nat → Int64 → Int64
  | 0, h => h
  | n + 1, h => sy (dig f n h) (f n)
def sz (b : Bool) (h : Int64) (v : Int32) : Int64 := if b = true then sy h v else h
theorem sz_t {b : Bool} {h : Int64} {v : Int32} (e : b = true) : sz b h v = sy h v := by unfold sz; rw [if_pos e]
theorem sz_f {b : Bool} {h : Int64} {v : Int32} (e : ¬ b = true) : sz b h v = h := by unfold sz; rw [if_neg e]
def dgA (f : Nat → Int32) : Nat → Int64 → Int64
  | 0, h => h
  | n + 1, h => sz (isA n) (dgA f n h) (f n)
def bayQ (sc : Nat → Int32) (ar : Nat → Nat → Int32) (k : Nat) : Int32 := zX6_bay sc ar 0 (nI (k / 5)) (nI (k % 5))
def hulQ (sc : Nat → Int32) (ar : Nat → Nat → Int32) (k : Nat) : Int32 := zX6_hullOf sc ar 0 (nI k)
def mayQ (sc : Nat → Int32) (ar : Nat → Nat → Int32) (k : Nat) : Int32 := zX6_may sc ar 0 (nI k)
def cntQ (sc : Nat → Int32) (k : Nat) : Int32 := zX6_countOf sc (fun _ _ => 0) 0 (nI k)
theorem bayQ_eq {sc : Nat → Int32} {ar : Nat → Nat → Int32} {hs : Int64} {b w : Nat} (hw : w < 5) : zX6_bay sc ar hs (nI b) (nI w) = bayQ sc ar (5 * b + w) := by
  unfold bayQ
  rw [show (5 * b + w) / 5 = b by omega, show (5 * b + w) % 5 = w by omega]
  rfl
theorem hulQ_eq (sc : Nat → Int32) (ar : Nat → Nat → Int32) (hs : Int64) (k : Nat) : zX6_hullOf sc ar hs (nI k) = hulQ sc ar k := rfl
theorem mayQ_eq (sc : Nat → Int32) (ar : Nat → Nat → Int32) (hs : Int64) (k : Nat) : zX6_may sc ar hs (nI k) = mayQ sc ar k := rfl
theorem bnQ (sc : Nat → Int32) (ar ar' : Nat → Nat → Int32) (hs hs' : Int64) : zX6_bendNow sc ar hs = zX6_bendNow sc ar' hs' := rfl
theorem cntQ_eq {sc sc' : Nat → Int32} {ar : Nat → Nat → Int32} {hs : Int64} (h : frG sc sc') (k : Nat) : zX6_countOf sc' ar hs (nI k) = cntQ sc k := by
  unfold cntQ zX6_countOf
  rw [h 3 (Or.inl (by decide)), h 4 (Or.inl (by decide)), h 5 (Or.inl (by decide)), h 6 (Or.inl (by decide)), h 7 (Or.inl (by decide)), h 8 (Or.inl (by decide)), h 16 (Or.inl (by decide)), h 1 (Or.inl (by decide)), h 9 (Or.inl (by decide)), h 15 (Or.inl (by decide))]
theorem dig_cong {f f' : Nat → Int32} : ∀ {n : Nat} {h : Int64}, (∀ k, k < n → f k = f' k) → dig f n h = dig f' n h
  | 0, _, _ => rfl
  | n + 1, h, hf => by
    show sy (dig f n h) (f n) = sy (dig f' n h) (f' n)
    rw [dig_cong (fun k hk => hf k (by omega)), hf n (by omega)]
theorem dgA_cong {f f' : Nat → Int32} : ∀ {n : Nat} {h : Int64}, (∀ k, k < n → isA k = true → f k = f' k) → dgA f n h = dgA f' n h
  | 0, _, _ => rfl
  | n + 1, h, hf => by
    show sz (isA n) (dgA f n h) (f n) = sz (isA n) (dgA f' n h) (f' n)
    rw [dgA_cong (fun k hk q => hf k (by omega) q)]
    by_cases q : isA n = true
    · rw [sz_t q, sz_t q, hf n (by omega) q]
    · rw [sz_f q, sz_f q]
/-- the rows that a digest may write -/
def frD (ar ar1 : Nat → Nat → Int32) : Prop := ∀ k, (k < 2 ∨ k = 6 ∨ 9 ≤ k) → ar1 k = ar k
/-- what a hold adds to the digest, of the three searches -/
def syH (h : Int64) (m f : Nat → Int32) (x : Int32) (F : Nat × Nat × Int32) : Int64 := sy (sy (sy (sy (sy (sy (sy h (m 0)) (f 0)) x) (nI (ctD m))) (nI F.1)) (nI F.2.1)) F.2.2
def syL (sc : Nat → Int32) (ar : Nat → Nat → Int32) (h : Int64) : Int64 := dgA (mayQ sc ar) 42 (dig (hulQ sc ar) 4 (dig (bayQ sc ar) 15 h))
abbrev rm_X6_sayHold : Room := { frames := 7, cells := 0, slots := 0, locals := 158 }
set_option maxHeartbeats 4000000 in
set_option maxRecDepth 100000 in
theorem c_X6_sayHold (l : Launch) (D : va_G) (cI cZ : ClassId) (z : Nat → Nat) (g : Nat → Nat) (sc : Nat → Int32) (ar : Nat → Nat → Int32) (hs : Int64) (kd : Nat → Nat) (li s be : Nat) (hM : MH sc ar kd li s) (hbe : be < 2 ^ 31) (hbn : zX6_bendNow sc ar hs = nI be) (bs : Nat → Nat) (T : Nat) (hSH : SH (sc 16) (ar 6) bs T) : cWv l yX6_sayHold ww_X6_sayHold rm_X6_sayHold D cI cZ z (fM cI cZ g) (wM cI cZ g sc ar hs) [.ref (g 0)] (fun u => ∃ ar' sc' m f x, u = (sc', ar', syH (syL sc ar hs) m f x (fit3 (goN (hk kd) li be) bs T s)) ∧ frG sc sc' ∧ frD ar ar' ∧ Sol (goN (hk kd) li be) (wtN kd) s m f ∧ IsMost m s x) := by
  refine cWv.of (cc := cX6_sayHold) (maxL := 3) (by decide) rfl (Nat.le_of_ble_eq_true rfl) (fun X F E hA hR => ?_)
  refine J_lv [0] (lv' := [(0, .ref (g 0))]) rfl ?_
  refine J_iconst (pc' := 1) (v := 0) F dX6_sayHold_0 (by decide) rfl ?_
  refine J_istore_n (pc' := 2) [1, 0] [(0, .ref (g 0)), (1, .int 0)] F dX6_sayHold_1 rfl (jL_of E (show 1 < 3 by decide)) rfl rfl ?_
  have L2 : ∀ (N2 : Nat) (b : Nat), b ≤ 3 → 3 - b < N2 → J X true 0 0 2 [(0, .ref (g 0)), (1, .int (nI b))] [] (wM cI cZ g sc ar (dig (bayQ sc ar) (5 * b) hs)) := by
    intro N2
    induction N2 with
    | zero => intro _ _ hm; exact absurd hm (Nat.not_lt_zero _)
    | succ N2 ih2 =>
      intro b hb3 hm2
      refine J_iload_n (pc' := 3) (q := 1) F dX6_sayHold_2 rfl rfl ?_
      refine J_iconst (pc' := 4) (v := 3) F dX6_sayHold_3 (by decide) rfl ?_
      refine J_icmp_ge (tgt := 37) (pc' := 7) F dX6_sayHold_4 (by decide) rfl (fun kq4 => ?_) (fun kq4 => ?_)
      · have eb : b = 3 := by have := (nI_leI (a := 3) (b := b) (by decide) (by omega)).mp kq4; omega
        subst eb
        refine J_iconst (pc' := 38) (v := 0) F dX6_sayHold_37 (by decide) rfl ?_
        refine J_istore_n (pc' := 39) [1, 0] [(0, .ref (g 0)), (1, .int 0)] F dX6_sayHold_38 rfl (jL_of E (show 1 < 3 by decide)) rfl rfl ?_
        have L39 : ∀ (N39 : Nat) (k : Nat), k ≤ 4 → 4 - k < N39 → J X true 0 0 39 [(0, .ref (g 0)), (1, .int (nI k))] [] (wM cI cZ g sc ar (dig (hulQ sc ar) k (dig (bayQ sc ar) 15 hs))) := by
          intro N39
          induction N39 with
          | zero => intro _ _ hm; exact absurd hm (Nat.not_lt_zero _)
          | succ N39 ih39 =>
            intro k hk4 hm39
            refine J_iload_n (pc' := 40) (q := 1) F dX6_sayHold_39 rfl rfl ?_
            refine J_iconst (pc' := 41) (v := 4) F dX6_sayHold_40 (by decide) rfl ?_
            refine J_icmp_ge (tgt := 60) (pc' := 44) F dX6_sayHold_41 (by decide) rfl (fun kq41 => ?_) (fun kq41 => ?_)
            · have ek : k = 4 := by have := (nI_leI (a := 4) (b := k) (by decide) (by omega)).mp kq41; omega
              subst ek
              refine J_iconst (pc' := 61) (v := 0) F dX6_sayHold_60 (by decide) rfl ?_
              refine J_istore_n (pc' := 62) [1, 0] [(0, .ref (g 0)), (1, .int 0)] F dX6_sayHold_61 rfl (jL_of E (show 1 < 3 by decide)) rfl rfl ?_
              have L62 : ∀ (N62 : Nat) (a : Nat), a ≤ 42 → 42 - a < N62 → J X true 0 0 62 [(0, .ref (g 0)), (1, .int (nI a))] [] (wM cI cZ g sc ar (dgA (mayQ sc ar) a (dig (hulQ sc ar) 4 (dig (bayQ sc ar) 15 hs)))) := by
                intro N62
                induction N62 with
                | zero => intro _ _ hm; exact absurd hm (Nat.not_lt_zero _)
                | succ N62 ih62 =>
                  intro a ha42 hm62
                  refine J_iload_n (pc' := 63) (q := 1) F dX6_sayHold_62 rfl rfl ?_
                  refine J_bipush (pc' := 65) (v := 42) F dX6_sayHold_63 (by decide) rfl ?_
                  refine J_icmp_ge (tgt := 91) (pc' := 68) F dX6_sayHold_65 (by decide) rfl (fun kq65 => ?_) (fun kq65 => ?_)
                  · have ea : a = 42 := by have := (nI_leI (a := 42) (b := a) (by decide) (by omega)).mp kq65; omega
                    subst ea
                    refine J_aload_n (pc' := 92) (q := 0) F dX6_sayHold_91 rfl rfl ?_
                    refine J_aload_n (pc' := 93) (q := 0) F dX6_sayHold_92 rfl rfl ?_
                    refine J_goRie (wc := (wM cI cZ g sc ar (dgA (mayQ sc ar) 42 (dig (hulQ sc ar) 4 (dig (bayQ sc ar) 15 hs))))) (av := [.ref (g 0)]) (rest := [.ref (g 0)]) (v := zX6_bendNow sc ar (dgA (mayQ sc ar) 42 (dig (hulQ sc ar) 4 (dig (bayQ sc ar) 15 hs)))) (pc' := 96) F E (fun _ h => h) (fun H locs hI hp => jrun_V (As := []) 0 F E (c_X6_bendNow l D cI cZ z g sc ar (dgA (mayQ sc ar) 42 (dig (hulQ sc ar) 4 (dig (bayQ sc ar) 15 hs))) ) kw_754 kw_756 kp_13 rfl kw_757 kw_7 oX6_bendNow ⟨⟨rfl, rfl⟩, ⟨Nat.le_of_ble_eq_true rfl, Nat.le_of_ble_eq_true rfl⟩, Nat.zero_le _, Nat.zero_le _⟩ rfl rfl (Nat.le_of_ble_eq_true rfl) dX6_sayHold_93 rfl rfl (jI_P E hI) hp) rfl ?_
                    refine J_vali (y := nI be) ((bnQ _ _ _ _ _).trans hbn) ?_
                    refine J_goWv (wf := (fM cI cZ g)) (w0 := (wM cI cZ g sc ar (dgA (mayQ sc ar) 42 (dig (hulQ sc ar) 4 (dig (bayQ sc ar) 15 hs))))) (av := [.ref (g 0), .int (nI be)]) (rest := []) (pc' := 99) (fM cI cZ g) F E hA (fun _ h => h) id (jsubA_rf _) (fun _ => jOver_rf _ _ _) (fun H locs hI hp => jrun_V (As := [.int (nI be)]) 0 F E (c_X6_layFar l D cI cZ z g sc ar (dgA (mayQ sc ar) 42 (dig (hulQ sc ar) 4 (dig (bayQ sc ar) 15 hs))) kd li s be hM hbe H.size) kw_790 kw_792 kp_18 rfl kw_793 kw_7 oX6_layFar ⟨⟨rfl, rfl⟩, ⟨Nat.le_of_ble_eq_true rfl, Nat.le_of_ble_eq_true rfl⟩, Nat.zero_le _, Nat.zero_le _⟩ rfl rfl (Nat.le_of_ble_eq_true rfl) dX6_sayHold_96 rfl rfl (jI_P E hI) hp) rfl (fun ur96 hr96 => ?_)
                    obtain ⟨ar3, rfl, hfr3, hS3⟩ := hr96
                    refine J_ws (ws' := (wM cI cZ g sc ar3 (dgA (mayQ sc ar) 42 (dig (hulQ sc ar) 4 (dig (bayQ sc ar) 15 hs))))) rfl ?_
                    refine J_aload_n (pc' := 100) (q := 0) F dX6_sayHold_99 rfl rfl ?_
                    refine J_aload_n (pc' := 101) (q := 0) F dX6_sayHold_100 rfl rfl ?_
                    refine M_get_0_11 (pc' := 104) F dX6_sayHold_101 kw_590 rfl ?_
                    refine J_iconst (pc' := 105) (v := 0) F dX6_sayHold_104 (by decide) rfl ?_
                    refine M_ld_2 (f := ar3 2) (q := 0) (pc' := 106) F dX6_sayHold_105 rfl rfl (by unfold vp_in; decide) rfl ?_
                    refine J_i2l (pc' := 107) (v := (((ar3 2) 0) : Int32).toInt64) F dX6_sayHold_106 rfl rfl ?_
                    refine J_goWv (wf := (fM cI cZ g)) (w0 := (wM cI cZ g sc ar3 (dgA (mayQ sc ar) 42 (dig (hulQ sc ar) 4 (dig (bayQ sc ar) 15 hs))))) (av := [.ref (g 0), .long ((((ar3 2) 0) : Int32).toInt64)]) (rest := []) (pc' := 110) (fM cI cZ g) F E hA (fun _ h => h) id (jsubA_rf _) (fun _ => jOver_rf _ _ _) (fun H locs hI hp => jrun_V (As := [.long ((((ar3 2) 0) : Int32).toInt64)]) 0 F E (c_X6_say l D cI cZ z g sc ar3 (dgA (mayQ sc ar) 42 (dig (hulQ sc ar) 4 (dig (bayQ sc ar) 15 hs))) ((((ar3 2) 0) : Int32).toInt64) H.size) kw_885 kw_887 kp_28 rfl kw_888 kw_7 oX6_say ⟨⟨rfl, rfl⟩, ⟨Nat.le_of_ble_eq_true rfl, Nat.le_of_ble_eq_true rfl⟩, Nat.zero_le _, Nat.zero_le _⟩ rfl rfl (Nat.le_of_ble_eq_true rfl) dX6_sayHold_107 rfl rfl (jI_P E hI) hp) rfl (fun ur107 hr107 => ?_)
                    obtain rfl := hr107
                    refine J_ws (ws' := (wM cI cZ g sc ar3 (sy (dgA (mayQ sc ar) 42 (dig (hulQ sc ar) 4 (dig (bayQ sc ar) 15 hs))) (ar3 2 0)))) rfl ?_
                    refine J_aload_n (pc' := 111) (q := 0) F dX6_sayHold_110 rfl rfl ?_
                    refine J_aload_n (pc' := 112) (q := 0) F dX6_sayHold_111 rfl rfl ?_
                    refine M_get_0_12 (pc' := 115) F dX6_sayHold_112 kw_591 rfl ?_
                    refine J_iconst (pc' := 116) (v := 0) F dX6_sayHold_115 (by decide) rfl ?_
                    refine M_ld_3 (f := ar3 3) (q := 0) (pc' := 117) F dX6_sayHold_116 rfl rfl (by unfold vp_in; decide) rfl ?_
                    refine J_i2l (pc' := 118) (v := (((ar3 3) 0) : Int32).toInt64) F dX6_sayHold_117 rfl rfl ?_
                    refine J_goWv (wf := (fM cI cZ g)) (w0 := (wM cI cZ g sc ar3 (sy (dgA (mayQ sc ar) 42 (dig (hulQ sc ar) 4 (dig (bayQ sc ar) 15 hs))) (ar3 2 0)))) (av := [.ref (g 0), .long ((((ar3 3) 0) : Int32).toInt64)]) (rest := []) (pc' := 121) (fM cI cZ g) F E hA (fun _ h => h) id (jsubA_rf _) (fun _ => jOver_rf _ _ _) (fun H locs hI hp => jrun_V (As := [.long ((((ar3 3) 0) : Int32).toInt64)]) 0 F E (c_X6_say l D cI cZ z g sc ar3 (sy (dgA (mayQ sc ar) 42 (dig (hulQ sc ar) 4 (dig (bayQ sc ar) 15 hs))) (ar3 2 0)) ((((ar3 3) 0) : Int32).toInt64) H.size) kw_885 kw_887 kp_28 rfl kw_888 kw_7 oX6_say ⟨⟨rfl, rfl⟩, ⟨Nat.le_of_ble_eq_true rfl, Nat.le_of_ble_eq_true rfl⟩, Nat.zero_le _, Nat.zero_le _⟩ rfl rfl (Nat.le_of_ble_eq_true rfl) dX6_sayHold_118 rfl rfl (jI_P E hI) hp) rfl (fun ur118 hr118 => ?_)
                    obtain rfl := hr118
                    refine J_ws (ws' := (wM cI cZ g sc ar3 (sy (sy (dgA (mayQ sc ar) 42 (dig (hulQ sc ar) 4 (dig (bayQ sc ar) 15 hs))) (ar3 2 0)) (ar3 3 0)))) rfl ?_
                    refine J_aload_n (pc' := 122) (q := 0) F dX6_sayHold_121 rfl rfl ?_
                    refine J_aload_n (pc' := 123) (q := 0) F dX6_sayHold_122 rfl rfl ?_
                    refine J_goRie (wc := (wM cI cZ g sc ar3 (sy (sy (dgA (mayQ sc ar) 42 (dig (hulQ sc ar) 4 (dig (bayQ sc ar) 15 hs))) (ar3 2 0)) (ar3 3 0)))) (av := [.ref (g 0)]) (rest := [.ref (g 0)]) (v := zX6_mostOf sc ar3 (sy (sy (dgA (mayQ sc ar) 42 (dig (hulQ sc ar) 4 (dig (bayQ sc ar) 15 hs))) (ar3 2 0)) (ar3 3 0))) (pc' := 126) F E (fun _ h => h) (fun H locs hI hp => jrun_V (As := []) 0 F E (c_X6_mostOf l D cI cZ z g sc ar3 (sy (sy (dgA (mayQ sc ar) 42 (dig (hulQ sc ar) 4 (dig (bayQ sc ar) 15 hs))) (ar3 2 0)) (ar3 3 0)) ) kw_802 kw_804 kp_20 rfl kw_805 kw_7 oX6_mostOf ⟨⟨rfl, rfl⟩, ⟨Nat.le_of_ble_eq_true rfl, Nat.le_of_ble_eq_true rfl⟩, Nat.zero_le _, Nat.zero_le _⟩ rfl rfl (Nat.le_of_ble_eq_true rfl) dX6_sayHold_123 rfl rfl (jI_P E hI) hp) rfl ?_
                    obtain ⟨x9, hx9⟩ : ∃ x, zX6_mostOf sc ar3 (sy (sy (dgA (mayQ sc ar) 42 (dig (hulQ sc ar) 4 (dig (bayQ sc ar) 15 hs))) (ar3 2 0)) (ar3 3 0)) = x := ⟨_, rfl⟩
                    have hm9 : IsMost (ar3 2) s x9 := hx9 ▸ most6 hM.1 hM.2.1 hS3.at_s
                    refine J_vali (y := x9) hx9 ?_
                    refine J_i2l (pc' := 127) (v := (x9 : Int32).toInt64) F dX6_sayHold_126 rfl rfl ?_
                    refine J_goWv (wf := (fM cI cZ g)) (w0 := (wM cI cZ g sc ar3 (sy (sy (dgA (mayQ sc ar) 42 (dig (hulQ sc ar) 4 (dig (bayQ sc ar) 15 hs))) (ar3 2 0)) (ar3 3 0)))) (av := [.ref (g 0), .long ((x9 : Int32).toInt64)]) (rest := []) (pc' := 130) (fM cI cZ g) F E hA (fun _ h => h) id (jsubA_rf _) (fun _ => jOver_rf _ _ _) (fun H locs hI hp => jrun_V (As := [.long ((x9 : Int32).toInt64)]) 0 F E (c_X6_say l D cI cZ z g sc ar3 (sy (sy (dgA (mayQ sc ar) 42 (dig (hulQ sc ar) 4 (dig (bayQ sc ar) 15 hs))) (ar3 2 0)) (ar3 3 0)) ((x9 : Int32).toInt64) H.size) kw_885 kw_887 kp_28 rfl kw_888 kw_7 oX6_say ⟨⟨rfl, rfl⟩, ⟨Nat.le_of_ble_eq_true rfl, Nat.le_of_ble_eq_true rfl⟩, Nat.zero_le _, Nat.zero_le _⟩ rfl rfl (Nat.le_of_ble_eq_true rfl) dX6_sayHold_127 rfl rfl (jI_P E hI) hp) rfl (fun ur127 hr127 => ?_)
                    obtain rfl := hr127
                    refine J_ws (ws' := (wM cI cZ g sc ar3 (sy (sy (sy (dgA (mayQ sc ar) 42 (dig (hulQ sc ar) 4 (dig (bayQ sc ar) 15 hs))) (ar3 2 0)) (ar3 3 0)) x9))) rfl ?_
                    refine J_aload_n (pc' := 131) (q := 0) F dX6_sayHold_130 rfl rfl ?_
                    refine J_aload_n (pc' := 132) (q := 0) F dX6_sayHold_131 rfl rfl ?_
                    refine J_goRie (wc := (wM cI cZ g sc ar3 (sy (sy (sy (dgA (mayQ sc ar) 42 (dig (hulQ sc ar) 4 (dig (bayQ sc ar) 15 hs))) (ar3 2 0)) (ar3 3 0)) x9))) (av := [.ref (g 0)]) (rest := [.ref (g 0)]) (v := zX6_manyOf sc ar3 (sy (sy (sy (dgA (mayQ sc ar) 42 (dig (hulQ sc ar) 4 (dig (bayQ sc ar) 15 hs))) (ar3 2 0)) (ar3 3 0)) x9)) (pc' := 135) F E (fun _ h => h) (fun H locs hI hp => jrun_V (As := []) 0 F E (c_X6_manyOf l D cI cZ z g sc ar3 (sy (sy (sy (dgA (mayQ sc ar) 42 (dig (hulQ sc ar) 4 (dig (bayQ sc ar) 15 hs))) (ar3 2 0)) (ar3 3 0)) x9) ) kw_810 kw_812 kp_21 rfl kw_813 kw_7 oX6_manyOf ⟨⟨rfl, rfl⟩, ⟨Nat.le_of_ble_eq_true rfl, Nat.le_of_ble_eq_true rfl⟩, Nat.zero_le _, Nat.zero_le _⟩ rfl rfl (Nat.le_of_ble_eq_true rfl) dX6_sayHold_132 rfl rfl (jI_P E hI) hp) rfl ?_
                    refine J_vali (y := nI (ctD (ar3 2))) (many6 _ _ _) ?_
                    refine J_i2l (pc' := 136) (v := ((nI (ctD (ar3 2))) : Int32).toInt64) F dX6_sayHold_135 rfl rfl ?_
                    refine J_goWv (wf := (fM cI cZ g)) (w0 := (wM cI cZ g sc ar3 (sy (sy (sy (dgA (mayQ sc ar) 42 (dig (hulQ sc ar) 4 (dig (bayQ sc ar) 15 hs))) (ar3 2 0)) (ar3 3 0)) x9))) (av := [.ref (g 0), .long (((nI (ctD (ar3 2))) : Int32).toInt64)]) (rest := []) (pc' := 139) (fM cI cZ g) F E hA (fun _ h => h) id (jsubA_rf _) (fun _ => jOver_rf _ _ _) (fun H locs hI hp => jrun_V (As := [.long (((nI (ctD (ar3 2))) : Int32).toInt64)]) 0 F E (c_X6_say l D cI cZ z g sc ar3 (sy (sy (sy (dgA (mayQ sc ar) 42 (dig (hulQ sc ar) 4 (dig (bayQ sc ar) 15 hs))) (ar3 2 0)) (ar3 3 0)) x9) (((nI (ctD (ar3 2))) : Int32).toInt64) H.size) kw_885 kw_887 kp_28 rfl kw_888 kw_7 oX6_say ⟨⟨rfl, rfl⟩, ⟨Nat.le_of_ble_eq_true rfl, Nat.le_of_ble_eq_true rfl⟩, Nat.zero_le _, Nat.zero_le _⟩ rfl rfl (Nat.le_of_ble_eq_true rfl) dX6_sayHold_136 rfl rfl (jI_P E hI) hp) rfl (fun ur136 hr136 => ?_)
                    obtain rfl := hr136
                    refine J_ws (ws' := (wM cI cZ g sc ar3 (sy (sy (sy (sy (dgA (mayQ sc ar) 42 (dig (hulQ sc ar) 4 (dig (bayQ sc ar) 15 hs))) (ar3 2 0)) (ar3 3 0)) x9) (nI (ctD (ar3 2)))))) rfl ?_
                    refine J_aload_n (pc' := 140) (q := 0) F dX6_sayHold_139 rfl rfl ?_
                    refine J_goWv (wf := (fM cI cZ g)) (w0 := (wM cI cZ g sc ar3 (sy (sy (sy (sy (dgA (mayQ sc ar) 42 (dig (hulQ sc ar) 4 (dig (bayQ sc ar) 15 hs))) (ar3 2 0)) (ar3 3 0)) x9) (nI (ctD (ar3 2)))))) (av := [.ref (g 0)]) (rest := []) (pc' := 143) (fM cI cZ g) F E hA (fun _ h => h) id (jsubA_rf _) (fun _ => jOver_rf _ _ _) (fun H locs hI hp => jrun_V (As := []) 0 F E (c_X6_layFits l D cI cZ z g sc ar3 (sy (sy (sy (sy (dgA (mayQ sc ar) 42 (dig (hulQ sc ar) 4 (dig (bayQ sc ar) 15 hs))) (ar3 2 0)) (ar3 3 0)) x9) (nI (ctD (ar3 2)))) kd li s be bs T (hfr3.MH hM) hbe ((bnQ _ _ _ _ _).trans hbn) (by rw [hfr3 6 (by decide) (by decide) (by decide) (by decide)]; exact hSH) H.size) kw_831 kw_833 kp_22 rfl kw_834 kw_7 oX6_layFits ⟨⟨rfl, rfl⟩, ⟨Nat.le_of_ble_eq_true rfl, Nat.le_of_ble_eq_true rfl⟩, Nat.zero_le _, Nat.zero_le _⟩ rfl rfl (Nat.le_of_ble_eq_true rfl) dX6_sayHold_140 rfl rfl (jI_P E hI) hp) rfl (fun ur140 hr140 => ?_)
                    obtain ⟨ar4, sc4, rfl, hfg, hfr4, h20, h21, h22⟩ := hr140
                    refine J_ws (ws' := (wM cI cZ g sc4 ar4 (sy (sy (sy (sy (dgA (mayQ sc ar) 42 (dig (hulQ sc ar) 4 (dig (bayQ sc ar) 15 hs))) (ar3 2 0)) (ar3 3 0)) x9) (nI (ctD (ar3 2)))))) rfl ?_
                    refine J_aload_n (pc' := 144) (q := 0) F dX6_sayHold_143 rfl rfl ?_
                    refine J_aload_n (pc' := 145) (q := 0) F dX6_sayHold_144 rfl rfl ?_
                    refine M_get_0_20 (v := sc4 20) (pc' := 148) F dX6_sayHold_145 kw_599 rfl rfl ?_
                    refine J_vali (y := nI (fit3 (goN (hk kd) li be) bs T s).1) h20 ?_
                    refine J_i2l (pc' := 149) (v := ((nI (fit3 (goN (hk kd) li be) bs T s).1) : Int32).toInt64) F dX6_sayHold_148 rfl rfl ?_
                    refine J_goWv (wf := (fM cI cZ g)) (w0 := (wM cI cZ g sc4 ar4 (sy (sy (sy (sy (dgA (mayQ sc ar) 42 (dig (hulQ sc ar) 4 (dig (bayQ sc ar) 15 hs))) (ar3 2 0)) (ar3 3 0)) x9) (nI (ctD (ar3 2)))))) (av := [.ref (g 0), .long (((nI (fit3 (goN (hk kd) li be) bs T s).1) : Int32).toInt64)]) (rest := []) (pc' := 152) (fM cI cZ g) F E hA (fun _ h => h) id (jsubA_rf _) (fun _ => jOver_rf _ _ _) (fun H locs hI hp => jrun_V (As := [.long (((nI (fit3 (goN (hk kd) li be) bs T s).1) : Int32).toInt64)]) 0 F E (c_X6_say l D cI cZ z g sc4 ar4 (sy (sy (sy (sy (dgA (mayQ sc ar) 42 (dig (hulQ sc ar) 4 (dig (bayQ sc ar) 15 hs))) (ar3 2 0)) (ar3 3 0)) x9) (nI (ctD (ar3 2)))) (((nI (fit3 (goN (hk kd) li be) bs T s).1) : Int32).toInt64) H.size) kw_885 kw_887 kp_28 rfl kw_888 kw_7 oX6_say ⟨⟨rfl, rfl⟩, ⟨Nat.le_of_ble_eq_true rfl, Nat.le_of_ble_eq_true rfl⟩, Nat.zero_le _, Nat.zero_le _⟩ rfl rfl (Nat.le_of_ble_eq_true rfl) dX6_sayHold_149 rfl rfl (jI_P E hI) hp) rfl (fun ur149 hr149 => ?_)
                    obtain rfl := hr149
                    refine J_ws (ws' := (wM cI cZ g sc4 ar4 (sy (sy (sy (sy (sy (dgA (mayQ sc ar) 42 (dig (hulQ sc ar) 4 (dig (bayQ sc ar) 15 hs))) (ar3 2 0)) (ar3 3 0)) x9) (nI (ctD (ar3 2)))) (nI (fit3 (goN (hk kd) li be) bs T s).1)))) rfl ?_
                    refine J_aload_n (pc' := 153) (q := 0) F dX6_sayHold_152 rfl rfl ?_
                    refine J_aload_n (pc' := 154) (q := 0) F dX6_sayHold_153 rfl rfl ?_
                    refine M_get_0_21 (v := sc4 21) (pc' := 157) F dX6_sayHold_154 kw_600 rfl rfl ?_
                    refine J_vali (y := nI (fit3 (goN (hk kd) li be) bs T s).2.1) h21 ?_
                    refine J_i2l (pc' := 158) (v := ((nI (fit3 (goN (hk kd) li be) bs T s).2.1) : Int32).toInt64) F dX6_sayHold_157 rfl rfl ?_
                    refine J_goWv (wf := (fM cI cZ g)) (w0 := (wM cI cZ g sc4 ar4 (sy (sy (sy (sy (sy (dgA (mayQ sc ar) 42 (dig (hulQ sc ar) 4 (dig (bayQ sc ar) 15 hs))) (ar3 2 0)) (ar3 3 0)) x9) (nI (ctD (ar3 2)))) (nI (fit3 (goN (hk kd) li be) bs T s).1)))) (av := [.ref (g 0), .long (((nI (fit3 (goN (hk kd) li be) bs T s).2.1) : Int32).toInt64)]) (rest := []) (pc' := 161) (fM cI cZ g) F E hA (fun _ h => h) id (jsubA_rf _) (fun _ => jOver_rf _ _ _) (fun H locs hI hp => jrun_V (As := [.long (((nI (fit3 (goN (hk kd) li be) bs T s).2.1) : Int32).toInt64)]) 0 F E (c_X6_say l D cI cZ z g sc4 ar4 (sy (sy (sy (sy (sy (dgA (mayQ sc ar) 42 (dig (hulQ sc ar) 4 (dig (bayQ sc ar) 15 hs))) (ar3 2 0)) (ar3 3 0)) x9) (nI (ctD (ar3 2)))) (nI (fit3 (goN (hk kd) li be) bs T s).1)) (((nI (fit3 (goN (hk kd) li be) bs T s).2.1) : Int32).toInt64) H.size) kw_885 kw_887 kp_28 rfl kw_888 kw_7 oX6_say ⟨⟨rfl, rfl⟩, ⟨Nat.le_of_ble_eq_true rfl, Nat.le_of_ble_eq_true rfl⟩, Nat.zero_le _, Nat.zero_le _⟩ rfl rfl (Nat.le_of_ble_eq_true rfl) dX6_sayHold_158 rfl rfl (jI_P E hI) hp) rfl (fun ur158 hr158 => ?_)
                    obtain rfl := hr158
                    refine J_ws (ws' := (wM cI cZ g sc4 ar4 (sy (sy (sy (sy (sy (sy (dgA (mayQ sc ar) 42 (dig (hulQ sc ar) 4 (dig (bayQ sc ar) 15 hs))) (ar3 2 0)) (ar3 3 0)) x9) (nI (ctD (ar3 2)))) (nI (fit3 (goN (hk kd) li be) bs T s).1)) (nI (fit3 (goN (hk kd) li be) bs T s).2.1)))) rfl ?_
                    refine J_aload_n (pc' := 162) (q := 0) F dX6_sayHold_161 rfl rfl ?_
                    refine J_aload_n (pc' := 163) (q := 0) F dX6_sayHold_162 rfl rfl ?_
                    refine M_get_0_22 (v := sc4 22) (pc' := 166) F dX6_sayHold_163 kw_601 rfl rfl ?_
                    refine J_vali (y := (fit3 (goN (hk kd) li be) bs T s).2.2) h22 ?_
                    refine J_i2l (pc' := 167) (v := (((fit3 (goN (hk kd) li be) bs T s).2.2) : Int32).toInt64) F dX6_sayHold_166 rfl rfl ?_
                    refine J_goWv (wf := (fM cI cZ g)) (w0 := (wM cI cZ g sc4 ar4 (sy (sy (sy (sy (sy (sy (dgA (mayQ sc ar) 42 (dig (hulQ sc ar) 4 (dig (bayQ sc ar) 15 hs))) (ar3 2 0)) (ar3 3 0)) x9) (nI (ctD (ar3 2)))) (nI (fit3 (goN (hk kd) li be) bs T s).1)) (nI (fit3 (goN (hk kd) li be) bs T s).2.1)))) (av := [.ref (g 0), .long ((((fit3 (goN (hk kd) li be) bs T s).2.2) : Int32).toInt64)]) (rest := []) (pc' := 170) (fM cI cZ g) F E hA (fun _ h => h) id (jsubA_rf _) (fun _ => jOver_rf _ _ _) (fun H locs hI hp => jrun_V (As := [.long ((((fit3 (goN (hk kd) li be) bs T s).2.2) : Int32).toInt64)]) 0 F E (c_X6_say l D cI cZ z g sc4 ar4 (sy (sy (sy (sy (sy (sy (dgA (mayQ sc ar) 42 (dig (hulQ sc ar) 4 (dig (bayQ sc ar) 15 hs))) (ar3 2 0)) (ar3 3 0)) x9) (nI (ctD (ar3 2)))) (nI (fit3 (goN (hk kd) li be) bs T s).1)) (nI (fit3 (goN (hk kd) li be) bs T s).2.1)) ((((fit3 (goN (hk kd) li be) bs T s).2.2) : Int32).toInt64) H.size) kw_885 kw_887 kp_28 rfl kw_888 kw_7 oX6_say ⟨⟨rfl, rfl⟩, ⟨Nat.le_of_ble_eq_true rfl, Nat.le_of_ble_eq_true rfl⟩, Nat.zero_le _, Nat.zero_le _⟩ rfl rfl (Nat.le_of_ble_eq_true rfl) dX6_sayHold_167 rfl rfl (jI_P E hI) hp) rfl (fun ur167 hr167 => ?_)
                    obtain rfl := hr167
                    refine J_ws (ws' := (wM cI cZ g sc4 ar4 (sy (sy (sy (sy (sy (sy (sy (dgA (mayQ sc ar) 42 (dig (hulQ sc ar) 4 (dig (bayQ sc ar) 15 hs))) (ar3 2 0)) (ar3 3 0)) x9) (nI (ctD (ar3 2)))) (nI (fit3 (goN (hk kd) li be) bs T s).1)) (nI (fit3 (goN (hk kd) li be) bs T s).2.1)) (fit3 (goN (hk kd) li be) bs T s).2.2))) rfl ?_
                    exact J_vretW (sc4, ar4, sy (sy (sy (sy (sy (sy (sy (dgA (mayQ sc ar) 42 (dig (hulQ sc ar) 4 (dig (bayQ sc ar) 15 hs))) (ar3 2 0)) (ar3 3 0)) x9) (nI (ctD (ar3 2)))) (nI (fit3 (goN (hk kd) li be) bs T s).1)) (nI (fit3 (goN (hk kd) li be) bs T s).2.1)) (fit3 (goN (hk kd) li be) bs T s).2.2) F hR dX6_sayHold_170 rfl ⟨ar4, sc4, ar3 2, ar3 3, x9, rfl, hfg, fun k hk => (hfr4 k (by omega) (by omega)).trans (hfr3 k (by omega) (by omega) (by omega) (by omega)), hS3, hm9⟩
                  · have haa : a < 42 := jin_lt (by decide) ha42 kq65
                    refine J_iload_n (pc' := 69) (q := 1) F dX6_sayHold_68 rfl rfl ?_
                    refine J_goRie (wc := []) (av := [.int (nI a)]) (rest := []) (v := zX6_isAct (nI a)) (pc' := 72) F E (fun _ _ => jP_nil _ _) (fun H locs hI hp => jrun_S F E (c_X6_isAct l D cI cZ z (nI a)) kw_766 kw_767 rfl kw_768 kw_7 oX6_isAct ⟨⟨rfl, rfl⟩, ⟨Nat.le_of_ble_eq_true rfl, Nat.le_of_ble_eq_true rfl⟩, Nat.zero_le _, Nat.zero_le _⟩ rfl (Nat.le_of_ble_eq_true rfl) dX6_sayHold_69 hp) rfl ?_
                    refine J_if_eq (tgt := 85) (pc' := 75) F dX6_sayHold_72 (by decide) rfl (fun kq72 => ?_) (fun kq72 => ?_)
                    · have hAn : ¬ isA a = true := fun q => by have h9 := kq72; rw [act6 a haa, if_pos q] at h9; exact absurd h9 (by decide)
                      refine J_ws (ws' := (wM cI cZ g sc ar (dgA (mayQ sc ar) (a + 1) (dig (hulQ sc ar) 4 (dig (bayQ sc ar) 15 hs))))) (congrArg (wM cI cZ g sc ar) (sz_f (h := dgA (mayQ sc ar) a (dig (hulQ sc ar) 4 (dig (bayQ sc ar) 15 hs))) (v := mayQ sc ar a) hAn).symm) ?_
                      refine J_iinc (v := nI (a + 1)) (q := 1) (pc' := 88) [1, 0] [(0, .ref (g 0)), (1, .int (nI (a + 1)))] F dX6_sayHold_85 rfl (nI_inc a) (jL_of E (show 1 < 3 by decide)) rfl rfl ?_
                      refine J_goto (tgt := 62) F dX6_sayHold_88 (by decide) ?_
                      exact ih62 (a + 1) (by omega) (by omega)
                    · have hAa : isA a = true := by
                        by_cases q : isA a = true
                        · exact q
                        · exact absurd (by rw [act6 a haa, if_neg q]) kq72
                      refine J_aload_n (pc' := 76) (q := 0) F dX6_sayHold_75 rfl rfl ?_
                      refine J_aload_n (pc' := 77) (q := 0) F dX6_sayHold_76 rfl rfl ?_
                      refine J_iload_n (pc' := 78) (q := 1) F dX6_sayHold_77 rfl rfl ?_
                      refine J_goRie (wc := (wM cI cZ g sc ar (dgA (mayQ sc ar) a (dig (hulQ sc ar) 4 (dig (bayQ sc ar) 15 hs))))) (av := [.ref (g 0), .int (nI a)]) (rest := [.ref (g 0)]) (v := zX6_may sc ar (dgA (mayQ sc ar) a (dig (hulQ sc ar) 4 (dig (bayQ sc ar) 15 hs))) (nI a)) (pc' := 81) F E (fun _ h => h) (fun H locs hI hp => jrun_V (As := [.int (nI a)]) 0 F E (c_X6_may l D cI cZ z g sc ar (dgA (mayQ sc ar) a (dig (hulQ sc ar) 4 (dig (bayQ sc ar) 15 hs))) (nI a)) kw_890 kw_763 kw_764 rfl kw_765 kw_7 oX6_may ⟨⟨rfl, rfl⟩, ⟨Nat.le_of_ble_eq_true rfl, Nat.le_of_ble_eq_true rfl⟩, Nat.zero_le _, Nat.zero_le _⟩ rfl rfl (Nat.le_of_ble_eq_true rfl) dX6_sayHold_78 rfl rfl (jI_P E hI) hp) rfl ?_
                      refine J_vali (y := mayQ sc ar a) (mayQ_eq _ _ _ _) ?_
                      refine J_i2l (pc' := 82) (v := ((mayQ sc ar a) : Int32).toInt64) F dX6_sayHold_81 rfl rfl ?_
                      refine J_goWv (wf := (fM cI cZ g)) (w0 := (wM cI cZ g sc ar (dgA (mayQ sc ar) a (dig (hulQ sc ar) 4 (dig (bayQ sc ar) 15 hs))))) (av := [.ref (g 0), .long (((mayQ sc ar a) : Int32).toInt64)]) (rest := []) (pc' := 85) (fM cI cZ g) F E hA (fun _ h => h) id (jsubA_rf _) (fun _ => jOver_rf _ _ _) (fun H locs hI hp => jrun_V (As := [.long (((mayQ sc ar a) : Int32).toInt64)]) 0 F E (c_X6_say l D cI cZ z g sc ar (dgA (mayQ sc ar) a (dig (hulQ sc ar) 4 (dig (bayQ sc ar) 15 hs))) (((mayQ sc ar a) : Int32).toInt64) H.size) kw_885 kw_887 kp_28 rfl kw_888 kw_7 oX6_say ⟨⟨rfl, rfl⟩, ⟨Nat.le_of_ble_eq_true rfl, Nat.le_of_ble_eq_true rfl⟩, Nat.zero_le _, Nat.zero_le _⟩ rfl rfl (Nat.le_of_ble_eq_true rfl) dX6_sayHold_82 rfl rfl (jI_P E hI) hp) rfl (fun ur82 hr82 => ?_)
                      obtain rfl := hr82
                      refine J_ws (ws' := (wM cI cZ g sc ar (dgA (mayQ sc ar) (a + 1) (dig (hulQ sc ar) 4 (dig (bayQ sc ar) 15 hs))))) (congrArg (wM cI cZ g sc ar) (sz_t (h := dgA (mayQ sc ar) a (dig (hulQ sc ar) 4 (dig (bayQ sc ar) 15 hs))) (v := mayQ sc ar a) hAa).symm) ?_
                      refine J_iinc (v := nI (a + 1)) (q := 1) (pc' := 88) [1, 0] [(0, .ref (g 0)), (1, .int (nI (a + 1)))] F dX6_sayHold_85 rfl (nI_inc a) (jL_of E (show 1 < 3 by decide)) rfl rfl ?_
                      refine J_goto (tgt := 62) F dX6_sayHold_88 (by decide) ?_
                      exact ih62 (a + 1) (by omega) (by omega)
              exact L62 _ 0 (Nat.zero_le _) (Nat.lt_succ_self _)
            · have hkk : k < 4 := jin_lt (by decide) hk4 kq41
              refine J_aload_n (pc' := 45) (q := 0) F dX6_sayHold_44 rfl rfl ?_
              refine J_aload_n (pc' := 46) (q := 0) F dX6_sayHold_45 rfl rfl ?_
              refine J_iload_n (pc' := 47) (q := 1) F dX6_sayHold_46 rfl rfl ?_
              refine J_goRie (wc := (wM cI cZ g sc ar (dig (hulQ sc ar) k (dig (bayQ sc ar) 15 hs)))) (av := [.ref (g 0), .int (nI k)]) (rest := [.ref (g 0)]) (v := zX6_hullOf sc ar (dig (hulQ sc ar) k (dig (bayQ sc ar) 15 hs)) (nI k)) (pc' := 50) F E (fun _ h => h) (fun H locs hI hp => jrun_V (As := [.int (nI k)]) 0 F E (c_X6_hullOf l D cI cZ z g sc ar (dig (hulQ sc ar) k (dig (bayQ sc ar) 15 hs)) (nI k)) kw_741 kw_743 kp_12 rfl kw_744 kw_7 oX6_hullOf ⟨⟨rfl, rfl⟩, ⟨Nat.le_of_ble_eq_true rfl, Nat.le_of_ble_eq_true rfl⟩, Nat.zero_le _, Nat.zero_le _⟩ rfl rfl (Nat.le_of_ble_eq_true rfl) dX6_sayHold_47 rfl rfl (jI_P E hI) hp) rfl ?_
              refine J_vali (y := hulQ sc ar k) (hulQ_eq _ _ _ _) ?_
              refine J_i2l (pc' := 51) (v := ((hulQ sc ar k) : Int32).toInt64) F dX6_sayHold_50 rfl rfl ?_
              refine J_goWv (wf := (fM cI cZ g)) (w0 := (wM cI cZ g sc ar (dig (hulQ sc ar) k (dig (bayQ sc ar) 15 hs)))) (av := [.ref (g 0), .long (((hulQ sc ar k) : Int32).toInt64)]) (rest := []) (pc' := 54) (fM cI cZ g) F E hA (fun _ h => h) id (jsubA_rf _) (fun _ => jOver_rf _ _ _) (fun H locs hI hp => jrun_V (As := [.long (((hulQ sc ar k) : Int32).toInt64)]) 0 F E (c_X6_say l D cI cZ z g sc ar (dig (hulQ sc ar) k (dig (bayQ sc ar) 15 hs)) (((hulQ sc ar k) : Int32).toInt64) H.size) kw_885 kw_887 kp_28 rfl kw_888 kw_7 oX6_say ⟨⟨rfl, rfl⟩, ⟨Nat.le_of_ble_eq_true rfl, Nat.le_of_ble_eq_true rfl⟩, Nat.zero_le _, Nat.zero_le _⟩ rfl rfl (Nat.le_of_ble_eq_true rfl) dX6_sayHold_51 rfl rfl (jI_P E hI) hp) rfl (fun ur51 hr51 => ?_)
              obtain rfl := hr51
              refine J_ws (ws' := (wM cI cZ g sc ar (dig (hulQ sc ar) (k + 1) (dig (bayQ sc ar) 15 hs)))) rfl ?_
              refine J_iinc (v := nI (k + 1)) (q := 1) (pc' := 57) [1, 0] [(0, .ref (g 0)), (1, .int (nI (k + 1)))] F dX6_sayHold_54 rfl (nI_inc k) (jL_of E (show 1 < 3 by decide)) rfl rfl ?_
              refine J_goto (tgt := 39) F dX6_sayHold_57 (by decide) ?_
              exact ih39 (k + 1) (by omega) (by omega)
        exact L39 _ 0 (Nat.zero_le _) (Nat.lt_succ_self _)
      · have hbb : b < 3 := jin_lt (by decide) hb3 kq4
        refine J_iconst (pc' := 8) (v := 0) F dX6_sayHold_7 (by decide) rfl ?_
        refine J_istore_n (pc' := 9) [1, 2, 0] [(0, .ref (g 0)), (1, .int (nI b)), (2, .int 0)] F dX6_sayHold_8 rfl (jL_of E (show 2 < 3 by decide)) rfl rfl ?_
        have L9 : ∀ (N9 : Nat) (w : Nat), w ≤ 5 → 5 - w < N9 → J X true 0 0 9 [(0, .ref (g 0)), (1, .int (nI b)), (2, .int (nI w))] [] (wM cI cZ g sc ar (dig (bayQ sc ar) (5 * b + w) hs)) := by
          intro N9
          induction N9 with
          | zero => intro _ _ hm; exact absurd hm (Nat.not_lt_zero _)
          | succ N9 ih9 =>
            intro w hw5 hm9
            refine J_iload_n (pc' := 10) (q := 2) F dX6_sayHold_9 rfl rfl ?_
            refine J_iconst (pc' := 11) (v := 5) F dX6_sayHold_10 (by decide) rfl ?_
            refine J_icmp_ge (tgt := 31) (pc' := 14) F dX6_sayHold_11 (by decide) rfl (fun kq11 => ?_) (fun kq11 => ?_)
            · have ew : w = 5 := by have := (nI_leI (a := 5) (b := w) (by decide) (by omega)).mp kq11; omega
              subst ew
              refine J_iinc (v := nI (b + 1)) (q := 1) (pc' := 34) [1, 0, 2] [(0, .ref (g 0)), (1, .int (nI (b + 1))), (2, .int (nI 5))] F dX6_sayHold_31 rfl (nI_inc b) (jL_of E (show 1 < 3 by decide)) rfl rfl ?_
              refine J_goto (tgt := 2) F dX6_sayHold_34 (by decide) ?_
              refine J_lv [0, 1] (lv' := [(0, .ref (g 0)), (1, .int (nI (b + 1)))]) rfl ?_
              exact ih2 (b + 1) (by omega) (by omega)
            · have hww : w < 5 := jin_lt (by decide) hw5 kq11
              refine J_aload_n (pc' := 15) (q := 0) F dX6_sayHold_14 rfl rfl ?_
              refine J_aload_n (pc' := 16) (q := 0) F dX6_sayHold_15 rfl rfl ?_
              refine J_iload_n (pc' := 17) (q := 1) F dX6_sayHold_16 rfl rfl ?_
              refine J_iload_n (pc' := 18) (q := 2) F dX6_sayHold_17 rfl rfl ?_
              refine J_goRie (wc := (wM cI cZ g sc ar (dig (bayQ sc ar) (5 * b + w) hs))) (av := [.ref (g 0), .int (nI b), .int (nI w)]) (rest := [.ref (g 0)]) (v := zX6_bay sc ar (dig (bayQ sc ar) (5 * b + w) hs) (nI b) (nI w)) (pc' := 21) F E (fun _ h => h) (fun H locs hI hp => jrun_V (As := [.int (nI b), .int (nI w)]) 0 F E (c_X6_bay l D cI cZ z g sc ar (dig (bayQ sc ar) (5 * b + w) hs) (nI b) (nI w)) kw_884 kw_716 kw_717 rfl kw_718 kw_7 oX6_bay ⟨⟨rfl, rfl⟩, ⟨Nat.le_of_ble_eq_true rfl, Nat.le_of_ble_eq_true rfl⟩, Nat.zero_le _, Nat.zero_le _⟩ rfl rfl (Nat.le_of_ble_eq_true rfl) dX6_sayHold_18 rfl rfl (jI_P E hI) hp) rfl ?_
              refine J_vali (y := bayQ sc ar (5 * b + w)) (bayQ_eq hww) ?_
              refine J_i2l (pc' := 22) (v := ((bayQ sc ar (5 * b + w)) : Int32).toInt64) F dX6_sayHold_21 rfl rfl ?_
              refine J_goWv (wf := (fM cI cZ g)) (w0 := (wM cI cZ g sc ar (dig (bayQ sc ar) (5 * b + w) hs))) (av := [.ref (g 0), .long (((bayQ sc ar (5 * b + w)) : Int32).toInt64)]) (rest := []) (pc' := 25) (fM cI cZ g) F E hA (fun _ h => h) id (jsubA_rf _) (fun _ => jOver_rf _ _ _) (fun H locs hI hp => jrun_V (As := [.long (((bayQ sc ar (5 * b + w)) : Int32).toInt64)]) 0 F E (c_X6_say l D cI cZ z g sc ar (dig (bayQ sc ar) (5 * b + w) hs) (((bayQ sc ar (5 * b + w)) : Int32).toInt64) H.size) kw_885 kw_887 kp_28 rfl kw_888 kw_7 oX6_say ⟨⟨rfl, rfl⟩, ⟨Nat.le_of_ble_eq_true rfl, Nat.le_of_ble_eq_true rfl⟩, Nat.zero_le _, Nat.zero_le _⟩ rfl rfl (Nat.le_of_ble_eq_true rfl) dX6_sayHold_22 rfl rfl (jI_P E hI) hp) rfl (fun ur22 hr22 => ?_)
              obtain rfl := hr22
              refine J_ws (ws' := (wM cI cZ g sc ar (dig (bayQ sc ar) (5 * b + (w + 1)) hs))) rfl ?_
              refine J_iinc (v := nI (w + 1)) (q := 2) (pc' := 28) [1, 2, 0] [(0, .ref (g 0)), (1, .int (nI b)), (2, .int (nI (w + 1)))] F dX6_sayHold_25 rfl (nI_inc w) (jL_of E (show 2 < 3 by decide)) rfl rfl ?_
              refine J_goto (tgt := 9) F dX6_sayHold_28 (by decide) ?_
              exact ih9 (w + 1) (by omega) (by omega)
        exact L9 _ 0 (Nat.zero_le _) (Nat.lt_succ_self _)
  exact L2 _ 0 (Nat.zero_le _) (Nat.lt_succ_self _)
