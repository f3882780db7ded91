/-! the class: Arrays.fill over its rows, Outlook.reach as a function -/
theorem rem5_in {x : Int32} (h : (0 : Int32) ≤ x) : vp_in (x - x / 5 * 5) 5 := by
  obtain ⟨j, hj, rfl⟩ := nI_of (x := x) (fun q => by rw [fa_lt] at q; rw [fa_le] at h; have e : (0 : Int32).toInt = 0 := by decide
                                                     omega)
  rw [show (5 : Int32) = nI 5 from rfl, pk_rem hj (by decide) (by decide)]
  exact vp_in_nI (Nat.mod_lt _ (by decide)) (by decide)
theorem wq_in {x a : Int32} (h : vp_in x 5) (h0 : ¬ a < 0) (h1 : ¬ (4096 : Int32) ≤ a) : vp_in (x * 4096 + a) 20480 := by
  obtain ⟨j, hj, rfl⟩ := vp_in_of h (by decide)
  obtain ⟨i, hi, rfl, -⟩ := pk_mu (L := 4096) h0 h1 (by decide)
  rw [show (4096 : Int32) = nI 4096 from rfl, pk_mul, nI_add]
  exact vp_in_nI (by omega) (by decide)
theorem vp_in_ix {x : Int32} {N : Nat} (h : vp_in x N) : x.toNatClampNeg < N := Nat.not_le.mp fun q => h (Or.inr q)
def fX4_reach (sc : Nat → Int32) (ar : Nat → Nat → Int32) (x1 : Int32) (x2 : Int32) (x3 : Int32) : uC := if x1 < 0 then (sc, ar) else (if (4096 : Int32) ≤ x1 then (sc, ar) else (if (0 : Int32) ≤ x2 then (if ((ar 6) ((x1 : Int32).toNatClampNeg)) = (-1) then (if (4096 : Int32) ≤ ((ar 9) (((x2 - x2 / 5 * 5) : Int32).toNatClampNeg)) then (sc, ar) else ((upd sc 17 ((sc 17) + 1)), (va_up (va_up (va_up (va_up ar 6 (upd (ar 6) ((x1 : Int32).toNatClampNeg) x2)) 7 (upd (ar 7) ((x1 : Int32).toNatClampNeg) x3)) 8 (upd (ar 8) (((((x2 - x2 / 5 * 5) * 4096) + ((ar 9) (((x2 - x2 / 5 * 5) : Int32).toNatClampNeg))) : Int32).toNatClampNeg) x1)) 9 (upd (ar 9) (((x2 - x2 / 5 * 5) : Int32).toNatClampNeg) (((ar 9) (((x2 - x2 / 5 * 5) : Int32).toNatClampNeg)) + 1))))) else (if ((ar 6) ((x1 : Int32).toNatClampNeg)) ≤ x2 then (if x2 = ((ar 6) ((x1 : Int32).toNatClampNeg)) then (if ((ar 7) ((x1 : Int32).toNatClampNeg)) ≤ x3 then (sc, ar) else (sc, (va_up ar 7 (upd (ar 7) ((x1 : Int32).toNatClampNeg) x3)))) else (sc, ar)) else (if (4096 : Int32) ≤ ((ar 9) (((x2 - x2 / 5 * 5) : Int32).toNatClampNeg)) then (sc, ar) else ((upd sc 17 ((sc 17) + 1)), (va_up (va_up (va_up (va_up ar 6 (upd (ar 6) ((x1 : Int32).toNatClampNeg) x2)) 7 (upd (ar 7) ((x1 : Int32).toNatClampNeg) x3)) 8 (upd (ar 8) (((((x2 - x2 / 5 * 5) * 4096) + ((ar 9) (((x2 - x2 / 5 * 5) : Int32).toNatClampNeg))) : Int32).toNatClampNeg) x1)) 9 (upd (ar 9) (((x2 - x2 / 5 * 5) : Int32).toNatClampNeg) (((ar 9) (((x2 - x2 / 5 * 5) : Int32).toNatClampNeg)) + 1))))))) else (sc, ar)))
abbrev rm_X4_reach : Room := { frames := 0, cells := 0, slots := 0, locals := 0 }
set_option maxHeartbeats 4000000 in
set_option maxRecDepth 100000 in
theorem c_X4_reach (l : Launch) (D : va_G) (cI cZ : ClassId) (z : Nat → Nat) (g : Nat → Nat) (sc : Nat → Int32) (ar : Nat → Nat → Int32) (x1 : Int32) (x2 : Int32) (x3 : Int32) (hw : ∀ j, j < 5 → ¬ ar 9 j < 0) : cWv l yX4_reach ww_X4_reach rm_X4_reach D cI cZ z (fC cI g) (wC cI g sc ar) [.ref (g 10), .int x1, .int x2, .int x3] (fun u => u = fX4_reach sc ar x1 x2 x3) := by
  refine cWv.of (cc := cX4_reach) (maxL := 5) (by decide) rfl (Nat.le_of_ble_eq_true rfl) (fun X F E hA hR => ?_)
  refine J_lv [0, 1, 2, 3] (lv' := [(0, .ref (g 10)), (1, .int x1), (2, .int x2), (3, .int x3)]) rfl ?_
  refine J_iload_n (pc' := 1) (q := 1) F dX4_reach_0 rfl rfl ?_
  refine J_if_lt (tgt := 15) (pc' := 4) F dX4_reach_1 (by decide) rfl (fun c1 => ?_) (fun c1 => ?_)
  · exact J_vretW (sc, ar) F hR dX4_reach_15 rfl (by show _ = fX4_reach sc ar x1 x2 x3; unfold fX4_reach; rw [if_pos c1])
  · refine J_iload_n (pc' := 5) (q := 1) F dX4_reach_4 rfl rfl ?_
    refine J_sipush (pc' := 8) (v := 4096) F dX4_reach_5 (by decide) rfl ?_
    refine J_icmp_ge (tgt := 15) (pc' := 11) F dX4_reach_8 (by decide) rfl (fun c8 => ?_) (fun c8 => ?_)
    · exact J_vretW (sc, ar) F hR dX4_reach_15 rfl (by show _ = fX4_reach sc ar x1 x2 x3; unfold fX4_reach; rw [if_neg c1, if_pos c8])
    · refine J_iload_n (pc' := 12) (q := 2) F dX4_reach_11 rfl rfl ?_
      refine J_if_ge (tgt := 16) (pc' := 15) F dX4_reach_12 (by decide) rfl (fun c12 => ?_) (fun c12 => ?_)
      · refine J_iload_n (pc' := 17) (q := 2) F dX4_reach_16 rfl rfl ?_
        refine J_iconst (pc' := 18) (v := 5) F dX4_reach_17 (by decide) rfl ?_
        refine J_irem (pc' := 19) F dX4_reach_18 (by decide) rfl ?_
        refine J_istore (pc' := 21) [1, 2, 3, 4, 0] [(0, .ref (g 10)), (1, .int x1), (2, .int x2), (3, .int x3), (4, .int (x2 - x2 / 5 * 5))] F dX4_reach_19 (jL_of E (show 4 < 5 by decide)) rfl rfl ?_
        refine J_aload_n (pc' := 22) (q := 0) F dX4_reach_21 rfl rfl ?_
        refine C_get_10_0 (pc' := 25) F dX4_reach_22 kw_92 rfl ?_
        refine J_iload_n (pc' := 26) (q := 1) F dX4_reach_25 rfl rfl ?_
        refine C_ld_6 (f := ar 6) (q := (x1 : Int32).toNatClampNeg) (pc' := 27) F dX4_reach_26 rfl rfl (vp_in2 c1 c8 (by decide)) rfl ?_
        refine J_iconst (pc' := 28) (v := (-1)) F dX4_reach_27 (by decide) rfl ?_
        refine J_icmp_eq (tgt := 41) (pc' := 31) F dX4_reach_28 (by decide) rfl (fun c28 => ?_) (fun c28 => ?_)
        · refine J_aload_n (pc' := 42) (q := 0) F dX4_reach_41 rfl rfl ?_
          refine C_get_10_3 (pc' := 45) F dX4_reach_42 kw_97 rfl ?_
          refine J_iload (pc' := 47) (q := 4) F dX4_reach_45 rfl rfl ?_
          refine C_ld_9 (f := ar 9) (q := ((x2 - x2 / 5 * 5) : Int32).toNatClampNeg) (pc' := 48) F dX4_reach_47 rfl rfl (rem5_in c12) rfl ?_
          refine J_sipush (pc' := 51) (v := 4096) F dX4_reach_48 (by decide) rfl ?_
          refine J_icmp_ge (tgt := 139) (pc' := 54) F dX4_reach_51 (by decide) rfl (fun c51 => ?_) (fun c51 => ?_)
          · exact J_vretW (sc, ar) F hR dX4_reach_139 rfl (by show _ = fX4_reach sc ar x1 x2 x3; unfold fX4_reach; rw [if_neg c1, if_neg c8, if_pos c12, if_pos c28, if_pos c51])
          · refine J_aload_n (pc' := 55) (q := 0) F dX4_reach_54 rfl rfl ?_
            refine C_get_10_0 (pc' := 58) F dX4_reach_55 kw_92 rfl ?_
            refine J_iload_n (pc' := 59) (q := 1) F dX4_reach_58 rfl rfl ?_
            refine J_iload_n (pc' := 60) (q := 2) F dX4_reach_59 rfl rfl ?_
            refine C_st_6 (f := ar 6) (q := (x1 : Int32).toNatClampNeg) (pc' := 61) F dX4_reach_60 rfl rfl (vp_in2 c1 c8 (by decide)) rfl ?_
            refine J_aload_n (pc' := 62) (q := 0) F dX4_reach_61 rfl rfl ?_
            refine C_get_10_1 (pc' := 65) F dX4_reach_62 kw_94 rfl ?_
            refine J_iload_n (pc' := 66) (q := 1) F dX4_reach_65 rfl rfl ?_
            refine J_iload_n (pc' := 67) (q := 3) F dX4_reach_66 rfl rfl ?_
            refine C_st_7 (f := ar 7) (q := (x1 : Int32).toNatClampNeg) (pc' := 68) F dX4_reach_67 rfl rfl (vp_in2 c1 c8 (by decide)) rfl ?_
            refine J_aload_n (pc' := 69) (q := 0) F dX4_reach_68 rfl rfl ?_
            refine C_get_10_2 (pc' := 72) F dX4_reach_69 kw_96 rfl ?_
            refine J_iload (pc' := 74) (q := 4) F dX4_reach_72 rfl rfl ?_
            refine J_sipush (pc' := 77) (v := 4096) F dX4_reach_74 (by decide) rfl ?_
            refine J_imul (pc' := 78) F dX4_reach_77 rfl ?_
            refine J_aload_n (pc' := 79) (q := 0) F dX4_reach_78 rfl rfl ?_
            refine C_get_10_3 (pc' := 82) F dX4_reach_79 kw_97 rfl ?_
            refine J_iload (pc' := 84) (q := 4) F dX4_reach_82 rfl rfl ?_
            refine C_ld_9 (f := ar 9) (q := ((x2 - x2 / 5 * 5) : Int32).toNatClampNeg) (pc' := 85) F dX4_reach_84 rfl rfl (rem5_in c12) rfl ?_
            refine J_iadd (pc' := 86) F dX4_reach_85 rfl ?_
            refine J_iload_n (pc' := 87) (q := 1) F dX4_reach_86 rfl rfl ?_
            refine C_st_8 (f := ar 8) (q := ((((x2 - x2 / 5 * 5) * 4096) + ((ar 9) (((x2 - x2 / 5 * 5) : Int32).toNatClampNeg))) : Int32).toNatClampNeg) (pc' := 88) F dX4_reach_87 rfl rfl (wq_in (rem5_in c12) (hw _ (vp_in_ix (rem5_in c12))) c51) rfl ?_
            refine J_aload_n (pc' := 89) (q := 0) F dX4_reach_88 rfl rfl ?_
            refine C_get_10_3 (pc' := 92) F dX4_reach_89 kw_97 rfl ?_
            refine J_iload (pc' := 94) (q := 4) F dX4_reach_92 rfl rfl ?_
            refine J_dup2 (pc' := 95) F dX4_reach_94 rfl rfl rfl ?_
            refine C_ld_9 (f := ar 9) (q := ((x2 - x2 / 5 * 5) : Int32).toNatClampNeg) (pc' := 96) F dX4_reach_95 rfl rfl (rem5_in c12) rfl ?_
            refine J_iconst (pc' := 97) (v := 1) F dX4_reach_96 (by decide) rfl ?_
            refine J_iadd (pc' := 98) F dX4_reach_97 rfl ?_
            refine C_st_9 (f := ar 9) (q := ((x2 - x2 / 5 * 5) : Int32).toNatClampNeg) (pc' := 99) F dX4_reach_98 rfl rfl (rem5_in c12) rfl ?_
            refine J_aload_n (pc' := 100) (q := 0) F dX4_reach_99 rfl rfl ?_
            refine J_dup (pc' := 101) F dX4_reach_100 rfl rfl ?_
            refine C_get_10_4 (v := sc 17) (pc' := 104) F dX4_reach_101 kw_98 rfl rfl ?_
            refine J_iconst (pc' := 105) (v := 1) F dX4_reach_104 (by decide) rfl ?_
            refine J_iadd (pc' := 106) F dX4_reach_105 rfl ?_
            refine C_put_10_4 (pc' := 109) F dX4_reach_106 kw_98 rfl ?_
            refine J_goto (tgt := 139) F dX4_reach_109 (by decide) ?_
            exact J_vretW ((upd sc 17 ((sc 17) + 1)), (va_up (va_up (va_up (va_up ar 6 (upd (ar 6) ((x1 : Int32).toNatClampNeg) x2)) 7 (upd (ar 7) ((x1 : Int32).toNatClampNeg) x3)) 8 (upd (ar 8) (((((x2 - x2 / 5 * 5) * 4096) + ((ar 9) (((x2 - x2 / 5 * 5) : Int32).toNatClampNeg))) : Int32).toNatClampNeg) x1)) 9 (upd (ar 9) (((x2 - x2 / 5 * 5) : Int32).toNatClampNeg) (((ar 9) (((x2 - x2 / 5 * 5) : Int32).toNatClampNeg)) + 1)))) F hR dX4_reach_139 rfl (by show _ = fX4_reach sc ar x1 x2 x3; unfold fX4_reach; rw [if_neg c1, if_neg c8, if_pos c12, if_pos c28, if_neg c51])
        · refine J_iload_n (pc' := 32) (q := 2) F dX4_reach_31 rfl rfl ?_
          refine J_aload_n (pc' := 33) (q := 0) F dX4_reach_32 rfl rfl ?_
          refine C_get_10_0 (pc' := 36) F dX4_reach_33 kw_92 rfl ?_
          refine J_iload_n (pc' := 37) (q := 1) F dX4_reach_36 rfl rfl ?_
          refine C_ld_6 (f := ar 6) (q := (x1 : Int32).toNatClampNeg) (pc' := 38) F dX4_reach_37 rfl rfl (vp_in2 c1 c8 (by decide)) rfl ?_
          refine J_icmp_ge (tgt := 112) (pc' := 41) F dX4_reach_38 (by decide) rfl (fun c38 => ?_) (fun c38 => ?_)
          · refine J_iload_n (pc' := 113) (q := 2) F dX4_reach_112 rfl rfl ?_
            refine J_aload_n (pc' := 114) (q := 0) F dX4_reach_113 rfl rfl ?_
            refine C_get_10_0 (pc' := 117) F dX4_reach_114 kw_92 rfl ?_
            refine J_iload_n (pc' := 118) (q := 1) F dX4_reach_117 rfl rfl ?_
            refine C_ld_6 (f := ar 6) (q := (x1 : Int32).toNatClampNeg) (pc' := 119) F dX4_reach_118 rfl rfl (vp_in2 c1 c8 (by decide)) rfl ?_
            refine J_icmp_ne (tgt := 139) (pc' := 122) F dX4_reach_119 (by decide) rfl (fun c119 => ?_) (fun c119 => ?_)
            · exact J_vretW (sc, ar) F hR dX4_reach_139 rfl (by show _ = fX4_reach sc ar x1 x2 x3; unfold fX4_reach; rw [if_neg c1, if_neg c8, if_pos c12, if_neg c28, if_pos c38, if_neg c119])
            · refine J_iload_n (pc' := 123) (q := 3) F dX4_reach_122 rfl rfl ?_
              refine J_aload_n (pc' := 124) (q := 0) F dX4_reach_123 rfl rfl ?_
              refine C_get_10_1 (pc' := 127) F dX4_reach_124 kw_94 rfl ?_
              refine J_iload_n (pc' := 128) (q := 1) F dX4_reach_127 rfl rfl ?_
              refine C_ld_7 (f := ar 7) (q := (x1 : Int32).toNatClampNeg) (pc' := 129) F dX4_reach_128 rfl rfl (vp_in2 c1 c8 (by decide)) rfl ?_
              refine J_icmp_ge (tgt := 139) (pc' := 132) F dX4_reach_129 (by decide) rfl (fun c129 => ?_) (fun c129 => ?_)
              · exact J_vretW (sc, ar) F hR dX4_reach_139 rfl (by show _ = fX4_reach sc ar x1 x2 x3; unfold fX4_reach; rw [if_neg c1, if_neg c8, if_pos c12, if_neg c28, if_pos c38, if_pos c119, if_pos c129])
              · refine J_aload_n (pc' := 133) (q := 0) F dX4_reach_132 rfl rfl ?_
                refine C_get_10_1 (pc' := 136) F dX4_reach_133 kw_94 rfl ?_
                refine J_iload_n (pc' := 137) (q := 1) F dX4_reach_136 rfl rfl ?_
                refine J_iload_n (pc' := 138) (q := 3) F dX4_reach_137 rfl rfl ?_
                refine C_st_7 (f := ar 7) (q := (x1 : Int32).toNatClampNeg) (pc' := 139) F dX4_reach_138 rfl rfl (vp_in2 c1 c8 (by decide)) rfl ?_
                exact J_vretW (sc, (va_up ar 7 (upd (ar 7) ((x1 : Int32).toNatClampNeg) x3))) F hR dX4_reach_139 rfl (by show _ = fX4_reach sc ar x1 x2 x3; unfold fX4_reach; rw [if_neg c1, if_neg c8, if_pos c12, if_neg c28, if_pos c38, if_pos c119, if_neg c129])
          · refine J_aload_n (pc' := 42) (q := 0) F dX4_reach_41 rfl rfl ?_
            refine C_get_10_3 (pc' := 45) F dX4_reach_42 kw_97 rfl ?_
            refine J_iload (pc' := 47) (q := 4) F dX4_reach_45 rfl rfl ?_
            refine C_ld_9 (f := ar 9) (q := ((x2 - x2 / 5 * 5) : Int32).toNatClampNeg) (pc' := 48) F dX4_reach_47 rfl rfl (rem5_in c12) rfl ?_
            refine J_sipush (pc' := 51) (v := 4096) F dX4_reach_48 (by decide) rfl ?_
            refine J_icmp_ge (tgt := 139) (pc' := 54) F dX4_reach_51 (by decide) rfl (fun c51_2 => ?_) (fun c51_2 => ?_)
            · exact J_vretW (sc, ar) F hR dX4_reach_139 rfl (by show _ = fX4_reach sc ar x1 x2 x3; unfold fX4_reach; rw [if_neg c1, if_neg c8, if_pos c12, if_neg c28, if_neg c38, if_pos c51_2])
            · refine J_aload_n (pc' := 55) (q := 0) F dX4_reach_54 rfl rfl ?_
              refine C_get_10_0 (pc' := 58) F dX4_reach_55 kw_92 rfl ?_
              refine J_iload_n (pc' := 59) (q := 1) F dX4_reach_58 rfl rfl ?_
              refine J_iload_n (pc' := 60) (q := 2) F dX4_reach_59 rfl rfl ?_
              refine C_st_6 (f := ar 6) (q := (x1 : Int32).toNatClampNeg) (pc' := 61) F dX4_reach_60 rfl rfl (vp_in2 c1 c8 (by decide)) rfl ?_
              refine J_aload_n (pc' := 62) (q := 0) F dX4_reach_61 rfl rfl ?_
              refine C_get_10_1 (pc' := 65) F dX4_reach_62 kw_94 rfl ?_
              refine J_iload_n (pc' := 66) (q := 1) F dX4_reach_65 rfl rfl ?_
              refine J_iload_n (pc' := 67) (q := 3) F dX4_reach_66 rfl rfl ?_
              refine C_st_7 (f := ar 7) (q := (x1 : Int32).toNatClampNeg) (pc' := 68) F dX4_reach_67 rfl rfl (vp_in2 c1 c8 (by decide)) rfl ?_
              refine J_aload_n (pc' := 69) (q := 0) F dX4_reach_68 rfl rfl ?_
              refine C_get_10_2 (pc' := 72) F dX4_reach_69 kw_96 rfl ?_
              refine J_iload (pc' := 74) (q := 4) F dX4_reach_72 rfl rfl ?_
              refine J_sipush (pc' := 77) (v := 4096) F dX4_reach_74 (by decide) rfl ?_
              refine J_imul (pc' := 78) F dX4_reach_77 rfl ?_
              refine J_aload_n (pc' := 79) (q := 0) F dX4_reach_78 rfl rfl ?_
              refine C_get_10_3 (pc' := 82) F dX4_reach_79 kw_97 rfl ?_
              refine J_iload (pc' := 84) (q := 4) F dX4_reach_82 rfl rfl ?_
              refine C_ld_9 (f := ar 9) (q := ((x2 - x2 / 5 * 5) : Int32).toNatClampNeg) (pc' := 85) F dX4_reach_84 rfl rfl (rem5_in c12) rfl ?_
              refine J_iadd (pc' := 86) F dX4_reach_85 rfl ?_
              refine J_iload_n (pc' := 87) (q := 1) F dX4_reach_86 rfl rfl ?_
              refine C_st_8 (f := ar 8) (q := ((((x2 - x2 / 5 * 5) * 4096) + ((ar 9) (((x2 - x2 / 5 * 5) : Int32).toNatClampNeg))) : Int32).toNatClampNeg) (pc' := 88) F dX4_reach_87 rfl rfl (wq_in (rem5_in c12) (hw _ (vp_in_ix (rem5_in c12))) c51_2) rfl ?_
              refine J_aload_n (pc' := 89) (q := 0) F dX4_reach_88 rfl rfl ?_
              refine C_get_10_3 (pc' := 92) F dX4_reach_89 kw_97 rfl ?_
              refine J_iload (pc' := 94) (q := 4) F dX4_reach_92 rfl rfl ?_
              refine J_dup2 (pc' := 95) F dX4_reach_94 rfl rfl rfl ?_
              refine C_ld_9 (f := ar 9) (q := ((x2 - x2 / 5 * 5) : Int32).toNatClampNeg) (pc' := 96) F dX4_reach_95 rfl rfl (rem5_in c12) rfl ?_
              refine J_iconst (pc' := 97) (v := 1) F dX4_reach_96 (by decide) rfl ?_
              refine J_iadd (pc' := 98) F dX4_reach_97 rfl ?_
              refine C_st_9 (f := ar 9) (q := ((x2 - x2 / 5 * 5) : Int32).toNatClampNeg) (pc' := 99) F dX4_reach_98 rfl rfl (rem5_in c12) rfl ?_
              refine J_aload_n (pc' := 100) (q := 0) F dX4_reach_99 rfl rfl ?_
              refine J_dup (pc' := 101) F dX4_reach_100 rfl rfl ?_
              refine C_get_10_4 (v := sc 17) (pc' := 104) F dX4_reach_101 kw_98 rfl rfl ?_
              refine J_iconst (pc' := 105) (v := 1) F dX4_reach_104 (by decide) rfl ?_
              refine J_iadd (pc' := 106) F dX4_reach_105 rfl ?_
              refine C_put_10_4 (pc' := 109) F dX4_reach_106 kw_98 rfl ?_
              refine J_goto (tgt := 139) F dX4_reach_109 (by decide) ?_
              exact J_vretW ((upd sc 17 ((sc 17) + 1)), (va_up (va_up (va_up (va_up ar 6 (upd (ar 6) ((x1 : Int32).toNatClampNeg) x2)) 7 (upd (ar 7) ((x1 : Int32).toNatClampNeg) x3)) 8 (upd (ar 8) (((((x2 - x2 / 5 * 5) * 4096) + ((ar 9) (((x2 - x2 / 5 * 5) : Int32).toNatClampNeg))) : Int32).toNatClampNeg) x1)) 9 (upd (ar 9) (((x2 - x2 / 5 * 5) : Int32).toNatClampNeg) (((ar 9) (((x2 - x2 / 5 * 5) : Int32).toNatClampNeg)) + 1)))) F hR dX4_reach_139 rfl (by show _ = fX4_reach sc ar x1 x2 x3; unfold fX4_reach; rw [if_neg c1, if_neg c8, if_pos c12, if_neg c28, if_neg c38, if_neg c51_2])
      · exact J_vretW (sc, ar) F hR dX4_reach_15 rfl (by show _ = fX4_reach sc ar x1 x2 x3; unfold fX4_reach; rw [if_neg c1, if_neg c8, if_neg c12])
theorem va_same {α : Type} (f : Nat → α) (k : Nat) : va_up f k (f k) = f := by
  funext j
  unfold va_up
  by_cases e : j = k
  · rw [if_pos e, e]
  · rw [if_neg e]
abbrev rm_fill_6 : Room := { frames := 0, cells := 0, slots := 0, locals := 0 }
set_option maxHeartbeats 4000000 in
set_option maxRecDepth 100000 in
theorem c_fill_6 (l : Launch) (D : va_G) (cI cZ : ClassId) (z : Nat → Nat) (g : Nat → Nat) (sc : Nat → Int32) (ar : Nat → Nat → Int32) (x1 : Int32) : cWv l yJ7_fill_53178 ww_J7_fill_53178 rm_fill_6 D cI cZ z (fC cI g) (wC cI g sc ar) [.ref (g 11), .int x1] (fun u => u = (sc, va_up ar 6 (fa_fill (fun _ => x1) (ar 6) 4096))) := by
  refine cWv.of (cc := cJ7_fill_53178) (maxL := 4) (by decide) rfl (Nat.le_of_ble_eq_true rfl) (fun X F E hA hR => ?_)
  refine J_lv [0, 1] (lv' := [(0, .ref (g 11)), (1, .int x1)]) rfl ?_
  refine J_iconst (pc' := 1) (v := 0) F dJ7_fill_53178_0 (by decide) rfl ?_
  refine J_istore_n (pc' := 2) [1, 2, 0] [(0, .ref (g 11)), (1, .int x1), (2, .int 0)] F dJ7_fill_53178_1 rfl (jL_of E (show 2 < 4 by decide)) rfl rfl ?_
  refine J_aload_n (pc' := 3) (q := 0) F dJ7_fill_53178_2 rfl rfl ?_
  refine C_len_6 (pc' := 4) F dJ7_fill_53178_3 rfl ?_
  refine J_istore_n (pc' := 5) [1, 2, 3, 0] [(0, .ref (g 11)), (1, .int x1), (2, .int 0), (3, .int 4096)] F dJ7_fill_53178_4 rfl (jL_of E (show 3 < 4 by decide)) rfl rfl ?_
  have L5 : ∀ (N5 : Nat) (i : Nat), i ≤ 4096 → 4096 - i < N5 → J X true 0 0 5 [(0, .ref (g 11)), (1, .int x1), (2, .int (nI i)), (3, .int 4096)] [] (wC cI g sc (va_up ar 6 (fa_fill (fun _ => x1) (ar 6) i))) := by
    intro N5
    induction N5 with
    | zero => intro _ _ hm; exact absurd hm (Nat.not_lt_zero _)
    | succ N5 ih5 =>
      intro i hi hm5
      refine J_iload_n (pc' := 6) (q := 2) F dJ7_fill_53178_5 rfl rfl ?_
      refine J_iload_n (pc' := 7) (q := 3) F dJ7_fill_53178_6 rfl rfl ?_
      refine J_icmp_ge (tgt := 20) (pc' := 10) F dJ7_fill_53178_7 (by decide) rfl (fun c7 => ?_) (fun c7 => ?_)
      · have hN : i = 4096 := by
          have := (nI_leI (a := 4096) (b := i) (by decide) (by omega)).mp c7
          omega
        subst hN
        exact J_vretW (sc, va_up ar 6 (fa_fill (fun _ => x1) (ar 6) 4096)) F hR dJ7_fill_53178_20 rfl rfl
      · have hlt : i < 4096 := jin_lt (by decide) hi c7
        refine J_aload_n (pc' := 11) (q := 0) F dJ7_fill_53178_10 rfl rfl ?_
        refine J_iload_n (pc' := 12) (q := 2) F dJ7_fill_53178_11 rfl rfl ?_
        refine J_iload_n (pc' := 13) (q := 1) F dJ7_fill_53178_12 rfl rfl ?_
        refine C_st_6 (f := fa_fill (fun _ => x1) (ar 6) i) (q := i) (pc' := 14) F dJ7_fill_53178_13 rfl (nI_clamp (by omega)) (vp_in_nI hlt (by decide)) rfl ?_
        refine J_iinc (v := nI (i + 1)) (q := 2) (pc' := 17) [1, 2, 0, 3] [(0, .ref (g 11)), (1, .int x1), (2, .int (nI (i + 1))), (3, .int 4096)] F dJ7_fill_53178_14 rfl (nI_inc i) (jL_of E (show 2 < 4 by decide)) rfl rfl ?_
        refine J_goto (tgt := 5) F dJ7_fill_53178_17 (by decide) ?_
        refine J_ws (ws' := wC cI g sc (va_up ar 6 (fa_fill (fun _ => x1) (ar 6) (i + 1)))) (by rw [bx_uu]; exact congrArg (fun q => wC cI g sc (va_up ar 6 q)) (fa_fill_succ (fun _ => x1) (ar 6) i)) ?_
        exact ih5 (i + 1) (by omega) (by omega)
  refine J_ws (ws' := wC cI g sc (va_up ar 6 (fa_fill (fun _ => x1) (ar 6) 0))) (by rw [fa_fill_0, va_same]) ?_
  exact L5 _ 0 (Nat.zero_le _) (Nat.lt_succ_self _)
abbrev rm_fill_7 : Room := { frames := 0, cells := 0, slots := 0, locals := 0 }
set_option maxHeartbeats 4000000 in
set_option maxRecDepth 100000 in
theorem c_fill_7 (l : Launch) (D : va_G) (cI cZ : ClassId) (z : Nat → Nat) (g : Nat → Nat) (sc : Nat → Int32) (ar : Nat → Nat → Int32) (x1 : Int32) : cWv l yJ7_fill_53178 ww_J7_fill_53178 rm_fill_7 D cI cZ z (fC cI g) (wC cI g sc ar) [.ref (g 12), .int x1] (fun u => u = (sc, va_up ar 7 (fa_fill (fun _ => x1) (ar 7) 4096))) := by
  refine cWv.of (cc := cJ7_fill_53178) (maxL := 4) (by decide) rfl (Nat.le_of_ble_eq_true rfl) (fun X F E hA hR => ?_)
  refine J_lv [0, 1] (lv' := [(0, .ref (g 12)), (1, .int x1)]) rfl ?_
  refine J_iconst (pc' := 1) (v := 0) F dJ7_fill_53178_0 (by decide) rfl ?_
  refine J_istore_n (pc' := 2) [1, 2, 0] [(0, .ref (g 12)), (1, .int x1), (2, .int 0)] F dJ7_fill_53178_1 rfl (jL_of E (show 2 < 4 by decide)) rfl rfl ?_
  refine J_aload_n (pc' := 3) (q := 0) F dJ7_fill_53178_2 rfl rfl ?_
  refine C_len_7 (pc' := 4) F dJ7_fill_53178_3 rfl ?_
  refine J_istore_n (pc' := 5) [1, 2, 3, 0] [(0, .ref (g 12)), (1, .int x1), (2, .int 0), (3, .int 4096)] F dJ7_fill_53178_4 rfl (jL_of E (show 3 < 4 by decide)) rfl rfl ?_
  have L5 : ∀ (N5 : Nat) (i : Nat), i ≤ 4096 → 4096 - i < N5 → J X true 0 0 5 [(0, .ref (g 12)), (1, .int x1), (2, .int (nI i)), (3, .int 4096)] [] (wC cI g sc (va_up ar 7 (fa_fill (fun _ => x1) (ar 7) i))) := by
    intro N5
    induction N5 with
    | zero => intro _ _ hm; exact absurd hm (Nat.not_lt_zero _)
    | succ N5 ih5 =>
      intro i hi hm5
      refine J_iload_n (pc' := 6) (q := 2) F dJ7_fill_53178_5 rfl rfl ?_
      refine J_iload_n (pc' := 7) (q := 3) F dJ7_fill_53178_6 rfl rfl ?_
      refine J_icmp_ge (tgt := 20) (pc' := 10) F dJ7_fill_53178_7 (by decide) rfl (fun c7 => ?_) (fun c7 => ?_)
      · have hN : i = 4096 := by
          have := (nI_leI (a := 4096) (b := i) (by decide) (by omega)).mp c7
          omega
        subst hN
        exact J_vretW (sc, va_up ar 7 (fa_fill (fun _ => x1) (ar 7) 4096)) F hR dJ7_fill_53178_20 rfl rfl
      · have hlt : i < 4096 := jin_lt (by decide) hi c7
        refine J_aload_n (pc' := 11) (q := 0) F dJ7_fill_53178_10 rfl rfl ?_
        refine J_iload_n (pc' := 12) (q := 2) F dJ7_fill_53178_11 rfl rfl ?_
        refine J_iload_n (pc' := 13) (q := 1) F dJ7_fill_53178_12 rfl rfl ?_
        refine C_st_7 (f := fa_fill (fun _ => x1) (ar 7) i) (q := i) (pc' := 14) F dJ7_fill_53178_13 rfl (nI_clamp (by omega)) (vp_in_nI hlt (by decide)) rfl ?_
        refine J_iinc (v := nI (i + 1)) (q := 2) (pc' := 17) [1, 2, 0, 3] [(0, .ref (g 12)), (1, .int x1), (2, .int (nI (i + 1))), (3, .int 4096)] F dJ7_fill_53178_14 rfl (nI_inc i) (jL_of E (show 2 < 4 by decide)) rfl rfl ?_
        refine J_goto (tgt := 5) F dJ7_fill_53178_17 (by decide) ?_
        refine J_ws (ws' := wC cI g sc (va_up ar 7 (fa_fill (fun _ => x1) (ar 7) (i + 1)))) (by rw [bx_uu]; exact congrArg (fun q => wC cI g sc (va_up ar 7 q)) (fa_fill_succ (fun _ => x1) (ar 7) i)) ?_
        exact ih5 (i + 1) (by omega) (by omega)
  refine J_ws (ws' := wC cI g sc (va_up ar 7 (fa_fill (fun _ => x1) (ar 7) 0))) (by rw [fa_fill_0, va_same]) ?_
  exact L5 _ 0 (Nat.zero_le _) (Nat.lt_succ_self _)
abbrev rm_fill_9 : Room := { frames := 0, cells := 0, slots := 0, locals := 0 }
set_option maxHeartbeats 4000000 in
set_option maxRecDepth 100000 in
theorem c_fill_9 (l : Launch) (D : va_G) (cI cZ : ClassId) (z : Nat → Nat) (g : Nat → Nat) (sc : Nat → Int32) (ar : Nat → Nat → Int32) (x1 : Int32) : cWv l yJ7_fill_53178 ww_J7_fill_53178 rm_fill_9 D cI cZ z (fC cI g) (wC cI g sc ar) [.ref (g 14), .int x1] (fun u => u = (sc, va_up ar 9 (fa_fill (fun _ => x1) (ar 9) 5))) := by
  refine cWv.of (cc := cJ7_fill_53178) (maxL := 4) (by decide) rfl (Nat.le_of_ble_eq_true rfl) (fun X F E hA hR => ?_)
  refine J_lv [0, 1] (lv' := [(0, .ref (g 14)), (1, .int x1)]) rfl ?_
  refine J_iconst (pc' := 1) (v := 0) F dJ7_fill_53178_0 (by decide) rfl ?_
  refine J_istore_n (pc' := 2) [1, 2, 0] [(0, .ref (g 14)), (1, .int x1), (2, .int 0)] F dJ7_fill_53178_1 rfl (jL_of E (show 2 < 4 by decide)) rfl rfl ?_
  refine J_aload_n (pc' := 3) (q := 0) F dJ7_fill_53178_2 rfl rfl ?_
  refine C_len_9 (pc' := 4) F dJ7_fill_53178_3 rfl ?_
  refine J_istore_n (pc' := 5) [1, 2, 3, 0] [(0, .ref (g 14)), (1, .int x1), (2, .int 0), (3, .int 5)] F dJ7_fill_53178_4 rfl (jL_of E (show 3 < 4 by decide)) rfl rfl ?_
  have L5 : ∀ (N5 : Nat) (i : Nat), i ≤ 5 → 5 - i < N5 → J X true 0 0 5 [(0, .ref (g 14)), (1, .int x1), (2, .int (nI i)), (3, .int 5)] [] (wC cI g sc (va_up ar 9 (fa_fill (fun _ => x1) (ar 9) i))) := by
    intro N5
    induction N5 with
    | zero => intro _ _ hm; exact absurd hm (Nat.not_lt_zero _)
    | succ N5 ih5 =>
      intro i hi hm5
      refine J_iload_n (pc' := 6) (q := 2) F dJ7_fill_53178_5 rfl rfl ?_
      refine J_iload_n (pc' := 7) (q := 3) F dJ7_fill_53178_6 rfl rfl ?_
      refine J_icmp_ge (tgt := 20) (pc' := 10) F dJ7_fill_53178_7 (by decide) rfl (fun c7 => ?_) (fun c7 => ?_)
      · have hN : i = 5 := by
          have := (nI_leI (a := 5) (b := i) (by decide) (by omega)).mp c7
          omega
        subst hN
        exact J_vretW (sc, va_up ar 9 (fa_fill (fun _ => x1) (ar 9) 5)) F hR dJ7_fill_53178_20 rfl rfl
      · have hlt : i < 5 := jin_lt (by decide) hi c7
        refine J_aload_n (pc' := 11) (q := 0) F dJ7_fill_53178_10 rfl rfl ?_
        refine J_iload_n (pc' := 12) (q := 2) F dJ7_fill_53178_11 rfl rfl ?_
        refine J_iload_n (pc' := 13) (q := 1) F dJ7_fill_53178_12 rfl rfl ?_
        refine C_st_9 (f := fa_fill (fun _ => x1) (ar 9) i) (q := i) (pc' := 14) F dJ7_fill_53178_13 rfl (nI_clamp (by omega)) (vp_in_nI hlt (by decide)) rfl ?_
        refine J_iinc (v := nI (i + 1)) (q := 2) (pc' := 17) [1, 2, 0, 3] [(0, .ref (g 14)), (1, .int x1), (2, .int (nI (i + 1))), (3, .int 5)] F dJ7_fill_53178_14 rfl (nI_inc i) (jL_of E (show 2 < 4 by decide)) rfl rfl ?_
        refine J_goto (tgt := 5) F dJ7_fill_53178_17 (by decide) ?_
        refine J_ws (ws' := wC cI g sc (va_up ar 9 (fa_fill (fun _ => x1) (ar 9) (i + 1)))) (by rw [bx_uu]; exact congrArg (fun q => wC cI g sc (va_up ar 9 q)) (fa_fill_succ (fun _ => x1) (ar 9) i)) ?_
        exact ih5 (i + 1) (by omega) (by omega)
  refine J_ws (ws' := wC cI g sc (va_up ar 9 (fa_fill (fun _ => x1) (ar 9) 0))) (by rw [fa_fill_0, va_same]) ?_
  exact L5 _ 0 (Nat.zero_le _) (Nat.lt_succ_self _)
abbrev rm_fill_10 : Room := { frames := 0, cells := 0, slots := 0, locals := 0 }
set_option maxHeartbeats 4000000 in
set_option maxRecDepth 100000 in
theorem c_fill_10 (l : Launch) (D : va_G) (cI cZ : ClassId) (z : Nat → Nat) (g : Nat → Nat) (sc : Nat → Int32) (ar : Nat → Nat → Int32) (x1 : Int32) : cWv l yJ7_fill_53178 ww_J7_fill_53178 rm_fill_10 D cI cZ z (fC cI g) (wC cI g sc ar) [.ref (g 16), .int x1] (fun u => u = (sc, va_up ar 10 (fa_fill (fun _ => x1) (ar 10) 4096))) := by
  refine cWv.of (cc := cJ7_fill_53178) (maxL := 4) (by decide) rfl (Nat.le_of_ble_eq_true rfl) (fun X F E hA hR => ?_)
  refine J_lv [0, 1] (lv' := [(0, .ref (g 16)), (1, .int x1)]) rfl ?_
  refine J_iconst (pc' := 1) (v := 0) F dJ7_fill_53178_0 (by decide) rfl ?_
  refine J_istore_n (pc' := 2) [1, 2, 0] [(0, .ref (g 16)), (1, .int x1), (2, .int 0)] F dJ7_fill_53178_1 rfl (jL_of E (show 2 < 4 by decide)) rfl rfl ?_
  refine J_aload_n (pc' := 3) (q := 0) F dJ7_fill_53178_2 rfl rfl ?_
  refine C_len_10 (pc' := 4) F dJ7_fill_53178_3 rfl ?_
  refine J_istore_n (pc' := 5) [1, 2, 3, 0] [(0, .ref (g 16)), (1, .int x1), (2, .int 0), (3, .int 4096)] F dJ7_fill_53178_4 rfl (jL_of E (show 3 < 4 by decide)) rfl rfl ?_
  have L5 : ∀ (N5 : Nat) (i : Nat), i ≤ 4096 → 4096 - i < N5 → J X true 0 0 5 [(0, .ref (g 16)), (1, .int x1), (2, .int (nI i)), (3, .int 4096)] [] (wC cI g sc (va_up ar 10 (fa_fill (fun _ => x1) (ar 10) i))) := by
    intro N5
    induction N5 with
    | zero => intro _ _ hm; exact absurd hm (Nat.not_lt_zero _)
    | succ N5 ih5 =>
      intro i hi hm5
      refine J_iload_n (pc' := 6) (q := 2) F dJ7_fill_53178_5 rfl rfl ?_
      refine J_iload_n (pc' := 7) (q := 3) F dJ7_fill_53178_6 rfl rfl ?_
      refine J_icmp_ge (tgt := 20) (pc' := 10) F dJ7_fill_53178_7 (by decide) rfl (fun c7 => ?_) (fun c7 => ?_)
      · have hN : i = 4096 := by
          have := (nI_leI (a := 4096) (b := i) (by decide) (by omega)).mp c7
          omega
        subst hN
        exact J_vretW (sc, va_up ar 10 (fa_fill (fun _ => x1) (ar 10) 4096)) F hR dJ7_fill_53178_20 rfl rfl
      · have hlt : i < 4096 := jin_lt (by decide) hi c7
        refine J_aload_n (pc' := 11) (q := 0) F dJ7_fill_53178_10 rfl rfl ?_
        refine J_iload_n (pc' := 12) (q := 2) F dJ7_fill_53178_11 rfl rfl ?_
        refine J_iload_n (pc' := 13) (q := 1) F dJ7_fill_53178_12 rfl rfl ?_
        refine C_st_10 (f := fa_fill (fun _ => x1) (ar 10) i) (q := i) (pc' := 14) F dJ7_fill_53178_13 rfl (nI_clamp (by omega)) (vp_in_nI hlt (by decide)) rfl ?_
        refine J_iinc (v := nI (i + 1)) (q := 2) (pc' := 17) [1, 2, 0, 3] [(0, .ref (g 16)), (1, .int x1), (2, .int (nI (i + 1))), (3, .int 4096)] F dJ7_fill_53178_14 rfl (nI_inc i) (jL_of E (show 2 < 4 by decide)) rfl rfl ?_
        refine J_goto (tgt := 5) F dJ7_fill_53178_17 (by decide) ?_
        refine J_ws (ws' := wC cI g sc (va_up ar 10 (fa_fill (fun _ => x1) (ar 10) (i + 1)))) (by rw [bx_uu]; exact congrArg (fun q => wC cI g sc (va_up ar 10 q)) (fa_fill_succ (fun _ => x1) (ar 10) i)) ?_
        exact ih5 (i + 1) (by omega) (by omega)
  refine J_ws (ws' := wC cI g sc (va_up ar 10 (fa_fill (fun _ => x1) (ar 10) 0))) (by rw [fa_fill_0, va_same]) ?_
  exact L5 _ 0 (Nat.zero_le _) (Nat.lt_succ_self _)
abbrev rm_fill_11 : Room := { frames := 0, cells := 0, slots := 0, locals := 0 }
set_option maxHeartbeats 4000000 in
set_option maxRecDepth 100000 in
theorem c_fill_11 (l : Launch) (D : va_G) (cI cZ : ClassId) (z : Nat → Nat) (g : Nat → Nat) (sc : Nat → Int32) (ar : Nat → Nat → Int32) (x1 : Int32) : cWv l yJ7_fill_53178 ww_J7_fill_53178 rm_fill_11 D cI cZ z (fC cI g) (wC cI g sc ar) [.ref (g 17), .int x1] (fun u => u = (sc, va_up ar 11 (fa_fill (fun _ => x1) (ar 11) 13))) := by
  refine cWv.of (cc := cJ7_fill_53178) (maxL := 4) (by decide) rfl (Nat.le_of_ble_eq_true rfl) (fun X F E hA hR => ?_)
  refine J_lv [0, 1] (lv' := [(0, .ref (g 17)), (1, .int x1)]) rfl ?_
  refine J_iconst (pc' := 1) (v := 0) F dJ7_fill_53178_0 (by decide) rfl ?_
  refine J_istore_n (pc' := 2) [1, 2, 0] [(0, .ref (g 17)), (1, .int x1), (2, .int 0)] F dJ7_fill_53178_1 rfl (jL_of E (show 2 < 4 by decide)) rfl rfl ?_
  refine J_aload_n (pc' := 3) (q := 0) F dJ7_fill_53178_2 rfl rfl ?_
  refine C_len_11 (pc' := 4) F dJ7_fill_53178_3 rfl ?_
  refine J_istore_n (pc' := 5) [1, 2, 3, 0] [(0, .ref (g 17)), (1, .int x1), (2, .int 0), (3, .int 13)] F dJ7_fill_53178_4 rfl (jL_of E (show 3 < 4 by decide)) rfl rfl ?_
  have L5 : ∀ (N5 : Nat) (i : Nat), i ≤ 13 → 13 - i < N5 → J X true 0 0 5 [(0, .ref (g 17)), (1, .int x1), (2, .int (nI i)), (3, .int 13)] [] (wC cI g sc (va_up ar 11 (fa_fill (fun _ => x1) (ar 11) i))) := by
    intro N5
    induction N5 with
    | zero => intro _ _ hm; exact absurd hm (Nat.not_lt_zero _)
    | succ N5 ih5 =>
      intro i hi hm5
      refine J_iload_n (pc' := 6) (q := 2) F dJ7_fill_53178_5 rfl rfl ?_
      refine J_iload_n (pc' := 7) (q := 3) F dJ7_fill_53178_6 rfl rfl ?_
      refine J_icmp_ge (tgt := 20) (pc' := 10) F dJ7_fill_53178_7 (by decide) rfl (fun c7 => ?_) (fun c7 => ?_)
      · have hN : i = 13 := by
          have := (nI_leI (a := 13) (b := i) (by decide) (by omega)).mp c7
          omega
        subst hN
        exact J_vretW (sc, va_up ar 11 (fa_fill (fun _ => x1) (ar 11) 13)) F hR dJ7_fill_53178_20 rfl rfl
      · have hlt : i < 13 := jin_lt (by decide) hi c7
        refine J_aload_n (pc' := 11) (q := 0) F dJ7_fill_53178_10 rfl rfl ?_
        refine J_iload_n (pc' := 12) (q := 2) F dJ7_fill_53178_11 rfl rfl ?_
        refine J_iload_n (pc' := 13) (q := 1) F dJ7_fill_53178_12 rfl rfl ?_
        refine C_st_11 (f := fa_fill (fun _ => x1) (ar 11) i) (q := i) (pc' := 14) F dJ7_fill_53178_13 rfl (nI_clamp (by omega)) (vp_in_nI hlt (by decide)) rfl ?_
        refine J_iinc (v := nI (i + 1)) (q := 2) (pc' := 17) [1, 2, 0, 3] [(0, .ref (g 17)), (1, .int x1), (2, .int (nI (i + 1))), (3, .int 13)] F dJ7_fill_53178_14 rfl (nI_inc i) (jL_of E (show 2 < 4 by decide)) rfl rfl ?_
        refine J_goto (tgt := 5) F dJ7_fill_53178_17 (by decide) ?_
        refine J_ws (ws' := wC cI g sc (va_up ar 11 (fa_fill (fun _ => x1) (ar 11) (i + 1)))) (by rw [bx_uu]; exact congrArg (fun q => wC cI g sc (va_up ar 11 q)) (fa_fill_succ (fun _ => x1) (ar 11) i)) ?_
        exact ih5 (i + 1) (by omega) (by omega)
  refine J_ws (ws' := wC cI g sc (va_up ar 11 (fa_fill (fun _ => x1) (ar 11) 0))) (by rw [fa_fill_0, va_same]) ?_
  exact L5 _ 0 (Nat.zero_le _) (Nat.lt_succ_self _)
