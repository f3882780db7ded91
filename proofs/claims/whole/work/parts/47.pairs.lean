/-! the searches' contracts taken together: the answers are the same, and the relation holds behind them -/
theorem RelB.pg {N : Nat} {sc : Nat → Int32} {ar : Nat → Nat → Int32} {mc : Nat → Int32} {mr : Nat → Nat → Int32} {hs : Int64} (h : RelB N (sc, ar) (mc, mr, hs)) : ∃ k, k ≤ 16 ∧ mc 1 = nI k := by
  obtain ⟨⟨P, p1, p2, p3, p4⟩, _⟩ := h
  exact ⟨P, p3, p2⟩
theorem RelB.pgs {N : Nat} {sc : Nat → Int32} {ar : Nat → Nat → Int32} {mc : Nat → Int32} {mr : Nat → Nat → Int32} {hs : Int64} (h : RelB N (sc, ar) (mc, mr, hs)) : ∃ k, k ≤ 16 ∧ sc 0 = nI k ∧ mc 1 = nI k := by
  obtain ⟨⟨P, p1, p2, p3, p4⟩, _⟩ := h
  exact ⟨P, p3, p1, p2⟩
theorem RelB.str {N : Nat} {sc : Nat → Int32} {ar : Nat → Nat → Int32} {mc : Nat → Int32} {mr : Nat → Nat → Int32} {hs : Int64} (h : RelB N (sc, ar) (mc, mr, hs)) : ∃ k, k ≤ 4 ∧ mc 16 = nI k := by
  obtain ⟨_, _, ⟨s, T, bs, n1, n2, n3, n4, n5, n6, n7, n8, n9⟩, _⟩ := h
  exact ⟨T, n9.2.1, n9.1⟩
theorem RelB.b8 {N : Nat} {sc : Nat → Int32} {ar : Nat → Nat → Int32} {mc : Nat → Int32} {mr : Nat → Nat → Int32} {hs : Int64} (h : RelB N (sc, ar) (mc, mr, hs)) : sc 8 = 0 ∨ sc 8 = 1 := by
  obtain ⟨_, _, ⟨s, T, bs, n1, n2, n3, n4, n5⟩, _⟩ := h
  exact n4
theorem RelB.b13 {N : Nat} {sc : Nat → Int32} {ar : Nat → Nat → Int32} {mc : Nat → Int32} {mr : Nat → Nat → Int32} {hs : Int64} (h : RelB N (sc, ar) (mc, mr, hs)) : sc 13 = 0 ∨ sc 13 = 1 := h.2.2.2.1.1
theorem RelB.eas {N : Nat} {sc : Nat → Int32} {ar : Nat → Nat → Int32} {mc : Nat → Int32} {mr : Nat → Nat → Int32} {hs : Int64} (h : RelB N (sc, ar) (mc, mr, hs)) : ∃ e, e ≤ 12 ∧ sc 4 = nI e ∧ mc 15 = nI e := h.2.2.2.2.2
def Fin9 (N : Nat) (sc : Nat → Int32) (ar : Nat → Nat → Int32) (mc : Nat → Int32) (mr : Nat → Nat → Int32) (kd : Nat → Nat) (li : Nat) : Prop := ∀ (sc1 : Nat → Int32) (ar1 : Nat → Nat → Int32) (mc1 : Nat → Int32) (mr1 : Nat → Nat → Int32) (hs1 : Int64), (∀ j, j < 17 → j ≠ 4 → sc1 j = sc j) → (∀ k, k < 6 → ar1 k = ar k) → (∀ j, (j < 20 ∨ 23 ≤ j) → j ≠ 15 → mc1 j = mc j) → (∀ k, (k < 2 ∨ k = 6 ∨ k = 9) → mr1 k = mr k) → (∃ e, e ≤ 12 ∧ sc1 4 = nI e ∧ mc1 15 = nI e) → KC sc1 ar1 kd li → RelB N (sc1, ar1) (mc1, mr1, hs1)
theorem KC.least {sc sc1 : Nat → Int32} {ar ar1 : Nat → Nat → Int32} {kd : Nat → Nat} {li : Nat} (h : KC sc ar kd li) (ha : frE ar ar1) (hf : ∀ j, j ≠ 4 → sc1 j = sc j) : KC sc1 ar1 kd li := by
  obtain ⟨⟨R, j, r1, r2, r3, r4⟩, h⟩ := h
  refine ⟨⟨R, j, r1, r2, by rw [hf 3 (by decide)]; exact r3, by rw [hf 20 (by decide)]; exact r4⟩, ?_⟩
  intro s be hs hbe e0 e1 e3
  rw [hf 3 (by decide), hf 20 (by decide)] at e0
  rw [hf 21 (by decide)] at e1
  rw [hf 23 (by decide)] at e3
  have hO := h s be hs hbe e0 e1 e3
  unfold OutOK at hO ⊢
  rw [ha 6 (by decide) (by decide), ha 7 (by decide) (by decide), hf 18 (by decide), hf 19 (by decide)]
  exact hO
section
variable {N : Nat} {sc : Nat → Int32} {ar : Nat → Nat → Int32} {mc : Nat → Int32} {mr : Nat → Nat → Int32} {hs : Int64} {kd : Nat → Nat} {li s be : Nat} {x r r' : Int32} {v : uC} {u : uM} {bs : Nat → Nat} {T : Nat}
theorem qq_soonest (h : RelB N (sc, ar) (mc, mr, hs)) (hM : MH mc mr kd li s) (e2 : mc 2 = sc 1) (hfin : Fin9 N sc ar mc mr kd li) (hr : ∃ m f, frN sc ar v.1 v.2 ∧ KC v.1 v.2 kd li ∧ (¬ x < 0 → x ≤ 1 → ¬ sc 1 = 0 → Sol (goN (hk kd) li be) (wtN kd) s m f) ∧ r = if x < 0 then -102 else if x ≤ 1 then (if sc 1 = 0 then -103 else if x = 0 then m 0 else f 0) else -102) (hr' : ∃ ar' m f, u = (mc, ar', hs) ∧ frM mr ar' ∧ (¬ zX6_in x.toInt64 0 1 = 0 → ¬ mc 2 = 0 → Sol (goN (hk kd) li be) (wtN kd) s m f) ∧ r' = if zX6_in x.toInt64 0 1 = 0 then -102 else if mc 2 = 0 then -103 else if x = 0 then m 0 else f 0) : RQ N (r, v) (r', u) := by
  obtain ⟨m5, f5, w1, w2, w3, w4⟩ := hr
  obtain ⟨ar6, m6, f6, rfl, y2, y3, y4⟩ := hr'
  obtain ⟨e, he, e4, e15⟩ := h.eas
  rw [e2] at y3 y4
  refine ⟨?_, hfin v.1 v.2 mc ar6 hs (fun j hj _ => w1.1 j (Or.inl hj)) (fun k hk => w1.2 k (Or.inl hk)) (fun _ _ _ => rfl) (fun k hk => y2 k (by omega) (by omega) (by omega) (by omega)) ⟨e, he, (w1.1 4 (by omega)).trans e4, e15⟩ w2⟩
  show r = r'
  rw [w4, y4]
  exact q_soonest (gr_of hM.2.2.2.2 li be hM.2.1) w3 y3
theorem qq_most (h : RelB N (sc, ar) (mc, mr, hs)) (hM : MH mc mr kd li s) (e2 : mc 2 = sc 1) (hfin : Fin9 N sc ar mc mr kd li) (hr : ∃ x, frN sc ar v.1 v.2 ∧ KC v.1 v.2 kd li ∧ (¬ sc 1 = 0 → ∃ m f, Sol (goN (hk kd) li be) (wtN kd) s m f ∧ IsMost m s x) ∧ r = if sc 1 = 0 then -103 else x) (hr' : ∃ ar' x, u = (mc, ar', hs) ∧ frM mr ar' ∧ (¬ mc 2 = 0 → ∃ m f, Sol (goN (hk kd) li be) (wtN kd) s m f ∧ IsMost m s x) ∧ r' = if mc 2 = 0 then -103 else x) : RQ N (r, v) (r', u) := by
  obtain ⟨x5, w1, w2, w3, w4⟩ := hr
  obtain ⟨ar6, x6, rfl, y2, y3, y4⟩ := hr'
  obtain ⟨e, he, e4, e15⟩ := h.eas
  rw [e2] at y3 y4
  refine ⟨?_, hfin v.1 v.2 mc ar6 hs (fun j hj _ => w1.1 j (Or.inl hj)) (fun k hk => w1.2 k (Or.inl hk)) (fun _ _ _ => rfl) (fun k hk => y2 k (by omega) (by omega) (by omega) (by omega)) ⟨e, he, (w1.1 4 (by omega)).trans e4, e15⟩ w2⟩
  show r = r'
  rw [w4, y4]
  exact q_most (gr_of hM.2.2.2.2 li be hM.2.1) w3 y3
theorem qq_holds (h : RelB N (sc, ar) (mc, mr, hs)) (hM : MH mc mr kd li s) (e2 : mc 2 = sc 1) (hfin : Fin9 N sc ar mc mr kd li) (hr : ∃ x, frN sc ar v.1 v.2 ∧ KC v.1 v.2 kd li ∧ (¬ sc 1 = 0 → ∃ m f, Sol (goN (hk kd) li be) (wtN kd) s m f ∧ x = nI (ctD m)) ∧ r = if sc 1 = 0 then -103 else x) (hr' : ∃ ar' x, u = (mc, ar', hs) ∧ frM mr ar' ∧ (¬ mc 2 = 0 → ∃ m f, Sol (goN (hk kd) li be) (wtN kd) s m f ∧ x = nI (ctD m)) ∧ r' = if mc 2 = 0 then -103 else x) : RQ N (r, v) (r', u) := by
  obtain ⟨x5, w1, w2, w3, w4⟩ := hr
  obtain ⟨ar6, x6, rfl, y2, y3, y4⟩ := hr'
  obtain ⟨e, he, e4, e15⟩ := h.eas
  rw [e2] at y3 y4
  refine ⟨?_, hfin v.1 v.2 mc ar6 hs (fun j hj _ => w1.1 j (Or.inl hj)) (fun k hk => w1.2 k (Or.inl hk)) (fun _ _ _ => rfl) (fun k hk => y2 k (by omega) (by omega) (by omega) (by omega)) ⟨e, he, (w1.1 4 (by omega)).trans e4, e15⟩ w2⟩
  show r = r'
  rw [w4, y4]
  exact q_holds (gr_of hM.2.2.2.2 li be hM.2.1) w3 y3
theorem qq_least (h : RelB N (sc, ar) (mc, mr, hs)) (hKC : KC sc ar kd li) (e2 : mc 2 = sc 1) (hfin : Fin9 N sc ar mc mr kd li) (hr : ∃ ar' x, v = (if sc 1 = 0 then sc else if sc 4 < 12 then (upd sc 4 (sc 4 + 1)) else sc, ar') ∧ frE ar ar' ∧ (¬ sc 1 = 0 → sc 4 < 12 → Lst (hk kd) li s x) ∧ r = if sc 1 = 0 then -103 else if sc 4 < 12 then x else -103) (hr' : ∃ ar' x, u = (if mc 2 = 0 then mc else if mc 15 = 12 then mc else (upd mc 15 (mc 15 + 1)), ar', hs) ∧ frM mr ar' ∧ (¬ mc 2 = 0 → ¬ mc 15 = 12 → Lst (hk kd) li s x) ∧ r' = if mc 2 = 0 then -103 else if mc 15 = 12 then -103 else x) : RQ N (r, v) (r', u) := by
  obtain ⟨ar5, x5, rfl, w2, w3, w4⟩ := hr
  obtain ⟨ar6, x6, rfl, y2, y3, y4⟩ := hr'
  obtain ⟨e, he, e4, e15⟩ := h.eas
  rw [e4] at w3 w4
  rw [e2, e15] at y3 y4
  refine ⟨?_, ?_⟩
  · show r = r'
    rw [w4, y4]
    exact q_least he w3 y3
  · show RelB N (if sc 1 = 0 then sc else if sc 4 < 12 then (upd sc 4 (sc 4 + 1)) else sc, ar5) (if mc 2 = 0 then mc else if mc 15 = 12 then mc else (upd mc 15 (mc 15 + 1)), ar6, hs)
    rw [e2, e4, e15]
    have fr6 : ∀ k, (k < 2 ∨ k = 6 ∨ k = 9) → ar6 k = mr k := fun k hk => y2 k (by omega) (by omega) (by omega) (by omega)
    have fr5 : ∀ k, k < 6 → ar5 k = ar k := fun k hk => w2 k (by omega) (by omega)
    by_cases q : sc 1 = 0
    · rw [if_pos q, if_pos q]
      exact hfin sc ar5 mc ar6 hs (fun _ _ _ => rfl) fr5 (fun _ _ _ => rfl) fr6 ⟨e, he, e4, e15⟩ (hKC.least w2 (fun _ _ => rfl))
    · rw [if_neg q, if_neg q]
      by_cases c : nI e = (12 : Int32)
      · rw [if_pos c, if_neg (fun k => (lt12 he).mp k c)]
        exact hfin sc ar5 mc ar6 hs (fun _ _ _ => rfl) fr5 (fun _ _ _ => rfl) fr6 ⟨e, he, e4, e15⟩ (hKC.least w2 (fun _ _ => rfl))
      · rw [if_neg c, if_pos ((lt12 he).mpr c), nI_1]
        have he' : e ≠ 12 := fun q => c (by rw [q]; rfl)
        exact hfin (upd sc 4 (nI (e + 1))) ar5 (upd mc 15 (nI (e + 1))) ar6 hs (fun j _ hj => pk_un hj) fr5 (fun j _ hj => pk_un hj) fr6 ⟨e + 1, by omega, pk_us, pk_us⟩ (hKC.least w2 (fun j hj => pk_un hj))
theorem qq_fits (h : RelB N (sc, ar) (mc, mr, hs)) (hKC : KC sc ar kd li) (e2 : mc 2 = sc 1) (hfin : Fin9 N sc ar mc mr kd li) (hr : v.2 = ar ∧ frF sc v.1 ∧ r = if x < 0 then -102 else if x ≤ 2 then (if sc 1 = 0 then -103 else if x = 0 then nI (fit3 (goN (hk kd) li be) bs T s).1 else if x = 1 then nI (fit3 (goN (hk kd) li be) bs T s).2.1 else (fit3 (goN (hk kd) li be) bs T s).2.2) else -102) (hr' : ∃ ar' sc', u = (sc', ar', hs) ∧ frG mc sc' ∧ frR mr ar' ∧ r' = if zX6_in x.toInt64 0 2 = 0 then -102 else if mc 2 = 0 then -103 else if x = 0 then nI (fit3 (goN (hk kd) li be) bs T s).1 else if x = 1 then nI (fit3 (goN (hk kd) li be) bs T s).2.1 else (fit3 (goN (hk kd) li be) bs T s).2.2) : RQ N (r, v) (r', u) := by
  obtain ⟨w1, w2, w4⟩ := hr
  obtain ⟨ar6, sc6, rfl, y2, y3, y4⟩ := hr'
  obtain ⟨e, he, e4, e15⟩ := h.eas
  rw [e2] at y4
  refine ⟨?_, hfin v.1 v.2 sc6 ar6 hs (fun j hj _ => w2 j (by omega)) (fun k _ => by rw [w1]) (fun j hj _ => y2 j hj) (fun k hk => y3 k (by omega) (by omega)) ⟨e, he, (w2 4 (by omega)).trans e4, (y2 15 (by omega)).trans e15⟩ (by rw [w1]; exact hKC.fit w2)⟩
  show r = r'
  rw [w4, y4]
  exact q_fits
theorem qq_digest {a a' : Int64} {Pn : Nat} (h : RelB N (sc, ar) (mc, mr, hs)) (hM : MH mc mr kd li s) (hfin : Fin9 N sc ar mc mr kd li) (hP16 : Pn ≤ 16) (hr : ∃ sc1 ar1 Hq, v = (sc1, ar1) ∧ frN sc ar sc1 ar1 ∧ KC sc1 ar1 kd li ∧ ((sc 1 = 0 → Hq = 829) ∧ (¬ sc 1 = 0 → ∃ m f x, Sol (goN (hk kd) li be) (wtN kd) s m f ∧ IsMost m s x ∧ Hq = syH (zX5_withActs sc1 ar1 (zX5_withLighter sc1 ar1 829)) m f x (fit3 (goN (hk kd) li be) bs T s))) ∧ a = dig (fun k9 => zX5_count sc1 ar1 (nI k9)) 10 (dig (ar1 0) Pn Hq)) (hr' : ∃ ar' sc' h' Hq, u = (sc', ar', h') ∧ frG mc sc' ∧ frD mr ar' ∧ ((mc 2 = 0 → Hq = 829) ∧ (¬ mc 2 = 0 → ∃ m f x, Sol (goN (hk kd) li be) (wtN kd) s m f ∧ IsMost m s x ∧ Hq = syH (syL mc mr 829) m f x (fit3 (goN (hk kd) li be) bs T s))) ∧ a' = dig (cntQ mc) 10 (dig (mr 0) Pn Hq)) : a = a' ∧ RelB N v u := by
  obtain ⟨sc5, ar5, H5, rfl, w1, w2, w3, w4⟩ := hr
  obtain ⟨ar6, sc6, h6, H6, rfl, y2, y3, y4, y5⟩ := hr'
  obtain ⟨e, he, e4, e15⟩ := h.eas
  have hm : RelB N (sc5, ar5) (mc, mr, hs) := hfin sc5 ar5 mc mr hs (fun j hj _ => w1.1 j (Or.inl hj)) (fun k hk => w1.2 k (Or.inl hk)) (fun _ _ _ => rfl) (fun _ _ => rfl) ⟨e, he, (w1.1 4 (by omega)).trans e4, e15⟩ w2
  refine ⟨?_, hfin sc5 ar5 sc6 ar6 h6 (fun j hj _ => w1.1 j (Or.inl hj)) (fun k hk => w1.2 k (Or.inl hk)) (fun j hj _ => y2 j hj) (fun k hk => y3 k (by omega)) ⟨e, he, (w1.1 4 (by omega)).trans e4, (y2 15 (by omega)).trans e15⟩ w2⟩
  rw [w4, y5]
  exact q_digest hm (gr_of hM.2.2.2.2 li be hM.2.1) hP16 (by rw [w1.1 1 (by omega)]; exact w3) y4
end
