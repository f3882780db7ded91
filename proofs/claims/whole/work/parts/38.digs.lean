/-! what a hold adds to the digest, side by side -/
theorem dgA_t {f : Nat → Int32} {n : Nat} {h : Int64} (e : isA n = true) : dgA f (n + 1) h = sy (dgA f n h) (f n) := sz_t e
theorem dgA_f {f : Nat → Int32} {n : Nat} {h : Int64} (e : ¬ isA n = true) : dgA f (n + 1) h = dgA f n h := sz_f e
theorem wActs (sc : Nat → Int32) (ar : Nat → Nat → Int32) (x : Int64) : zX5_withActs sc ar x = dgA (fun k => zX5_may sc ar (nI k)) 42 x := by
  rw [dgA_f (n := 41) (by decide), dgA_t (n := 40) (by decide), dgA_t (n := 39) (by decide), dgA_f (n := 38) (by decide), dgA_f (n := 37) (by decide), dgA_f (n := 36) (by decide), dgA_t (n := 35) (by decide), dgA_f (n := 34) (by decide), dgA_f (n := 33) (by decide), dgA_t (n := 32) (by decide), dgA_f (n := 31) (by decide), dgA_f (n := 30) (by decide), dgA_t (n := 29) (by decide), dgA_f (n := 28) (by decide), dgA_f (n := 27) (by decide), dgA_t (n := 26) (by decide), dgA_t (n := 25) (by decide), dgA_f (n := 24) (by decide), dgA_f (n := 23) (by decide), dgA_t (n := 22) (by decide), dgA_t (n := 21) (by decide), dgA_f (n := 20) (by decide), dgA_f (n := 19) (by decide), dgA_t (n := 18) (by decide), dgA_f (n := 17) (by decide), dgA_f (n := 16) (by decide), dgA_t (n := 15) (by decide), dgA_f (n := 14) (by decide), dgA_f (n := 13) (by decide), dgA_t (n := 12) (by decide), dgA_f (n := 11) (by decide), dgA_f (n := 10) (by decide), dgA_f (n := 9) (by decide), dgA_t (n := 8) (by decide), dgA_t (n := 7) (by decide), dgA_f (n := 6) (by decide), dgA_t (n := 5) (by decide), dgA_t (n := 4) (by decide), dgA_t (n := 3) (by decide), dgA_t (n := 2) (by decide), dgA_t (n := 1) (by decide), dgA_t (n := 0) (by decide)]
  rfl
theorem wLight (sc : Nat → Int32) (ar : Nat → Nat → Int32) (x : Int64) : zX5_withLighter sc ar x = dig (fun k => zX5_hull sc ar (nI k)) 4 (dig (fun k => zX5_bay sc ar (nI (k / 5)) (nI (k % 5))) 15 x) := rfl
theorem hull_of {mc : Nat → Int32} {mr : Nat → Nat → Int32} {hs : Int64} (h2 : ¬ mc 2 = 0) {k : Nat} (hk : k < 4) : zX6_hull mc mr hs (nI k) = zX6_hullOf mc mr hs (nI k) := by
  unfold zX6_hull
  have hin : ∀ k, k < 4 → ¬ zX6_in (nI k).toInt64 0 3 = 0 := by decide +kernel
  rw [if_neg (hin k hk), if_neg h2]
theorem syL_same {N : Nat} {sc : Nat → Int32} {ar : Nat → Nat → Int32} {mc : Nat → Int32} {mr : Nat → Nat → Int32} {hs : Int64} (h : RelB N (sc, ar) (mc, mr, hs)) (q : ¬ sc 1 = 0) (x : Int64) : zX5_withActs sc ar (zX5_withLighter sc ar x) = syL mc mr x := by
  have h0 : RelB N (sc, ar) (mc, mr, 0) := h
  have e2 : mc 2 = sc 1 := h.2.2.2.2.1
  rw [wActs, wLight]
  unfold syL
  rw [dgA_cong (f' := mayQ mc mr) (fun k _ _ => q_may (nI k) h0), dig_cong (f := fun k => zX5_hull sc ar (nI k)) (f' := hulQ mc mr) (fun k hk => (q_hull (nI k) h0).trans (hull_of (by rw [e2]; exact q) hk)), dig_cong (f' := bayQ mc mr) (n := 15) (fun k _ => q_bay (nI (k / 5)) (nI (k % 5)) h0)]
