/-! the reference's own calls, then, lasts, least, doors -/
section X8H
variable {g : zG} {d : Nat} {w : zWd} {K : Option Value → zWd → Prop} {S : zSt}
set_option maxRecDepth 100000 in
set_option maxHeartbeats 8000000 in
theorem c_X8_then {c m dd x : Int} (hd : 6 ≤ d) (hC : zMo g w S) (hO : zOKS S) (h_c : zR32 c) (h_m : zR32 m) (h_dd : zR32 dd) (h_x : zR32 x) (k : ∀ w', zSame w w' 72 16 → zMo g w' (o_then S c m dd x).2 → K (some (zI (o_then S c m dd x).1)) w') : zCall g d 0 0 mX8_then [zR g 72, zI c, zI m, zI dd, zI x] w K := by
  obtain ⟨⟨p0, p1, p2, p3, p4, it, sm, h72⟩, h73, h74, h75, h76, hScr, h84, h85, h86, h87⟩ := id hC
  have hO1 := hO.1
  have hO2 := hO1.1
  have hO3 := hO2.1
  by_cases hv : (0 ≤ c ∧ c < S.1.1 0) ∧ (0 ≤ m ∧ m ≤ 60) ∧ (0 ≤ dd ∧ dd ≤ 9) ∧ (0 ≤ x ∧ x ≤ 4)
  · have hkd := hO2.2.1 c (by omega) (by omega)
    have hcb := zcost_b (S.1.1 (8 + c))
    have hpr := zmul_b (a := dd) (A := 9) (b := zcost (S.1.1 (8 + c))) (B := 2) (by omega) hcb
    have hLb := zlost_b (N := S.1.1) (c := c) (st := S.1.1 (13 + c)) (m := m) (dd := dd) (by omega) (by omega)
    obtain ⟨f0, h78⟩ := hScr.2.1
    have fin : ∀ (w1 : zWd) (f : Int → Int), zSame w w1 78 1 → w1.1 78 = some (.inr (false, 10, f)) → zMo g w1 S := fun w1 f hs h => hC.scr (hs.wide (by omega) (by omega)) (hScr.p78 hs h)
    have L2 : ∀ (q a : Nat) (w1 : zWd) (f : Int → Int), a + q = 9 → zSame w w1 78 1 → w1.1 78 = some (.inr (false, 10, f)) → zJr S.1.1 c (zlost S.1.1 c (S.1.1 (13 + c)) m dd) f → zRuns g d mX8_then 0 0 136 [some (zR g 72), some (zI c), some (zI m), some (zI dd), some (zI x), some (zI (zsg (zpk x f) a 1)), some (zI (1 + (a : Int)))] [] w1 K := by
      intro q
      induction q with
      | zero =>
        intro a w1 f h1 hs h78 hJ
        have h721 := (hs.2 72 (by omega)).trans h72
        obtain rfl : a = 9 := by omega
        by_cases hx4 : x = 4
        · refine q_iload (pc := 136) dX8_then_136 rfl ?_
          refine q_bipush (pc := 138) (by decide) dX8_then_138 ?_
          refine q_icmp_ge (pc := 140) (by omega) (by omega) 180 dX8_then_140 rfl (fun c140 => ?_) (fun c140 => ?_)
          · refine q_iload (pc := 180) dX8_then_180 rfl ?_
            refine q_iconst (pc := 182) dX8_then_182 ?_
            refine q_icmp_ne (pc := 183) (by omega) (by omega) 193 dX8_then_183 rfl (fun c183 => ?_) (fun c183 => ?_)
            · exfalso; omega
            refine q_aload_n (pc := 186) dX8_then_186 rfl rfl ?_
            refine q_invokevirtual (pc := 187) (d' := d - 1) (mc' := 0) (ms' := 0) (As := []) (TX8, 26) cl_X8_251 dX8_then_187 rfl rfl (by assumption) rfl (by omega) rfl 0 0 (Nat.le_refl 0) (Nat.le_refl 0) ?_
            refine c_X8_greatestIn h721 h78 hJ hLb.1 (hJ.R hO2 (by omega) hLb.1) ?_
            refine q_goto (pc := 190) 195 dX8_then_190 rfl ?_
            refine q_ireturn (pc := 195) dX8_then_195 rfl ?_
            exact zgm k (by unfold o_then zthen; exact (if_pos hv).trans (by rw [if_neg (by omega), if_pos (by omega)])) (hs.wide (by omega) (by omega)) (fin _ _ hs h78)
          exfalso; omega
        · have hpk := hJ.pk (x := x) hLb.1 (by omega)
          rw [hpk]
          refine q_iload (pc := 136) dX8_then_136 rfl ?_
          refine q_bipush (pc := 138) (by decide) dX8_then_138 ?_
          refine q_icmp_ge (pc := 140) (by omega) (by omega) 180 dX8_then_140 rfl (fun c140 => ?_) (fun c140 => ?_)
          · refine q_iload (pc := 180) dX8_then_180 rfl ?_
            refine q_iconst (pc := 182) dX8_then_182 ?_
            refine q_icmp_ne (pc := 183) (by omega) (by omega) 193 dX8_then_183 rfl (fun c183 => ?_) (fun c183 => ?_)
            · refine q_iload (pc := 193) dX8_then_193 rfl ?_
              refine q_ireturn (pc := 195) dX8_then_195 rfl ?_
              by_cases hx0 : x = 0
              · exact zgm k (by unfold o_then zthen; exact (if_pos hv).trans (by rw [if_pos hx0, if_pos hx0])) (hs.wide (by omega) (by omega)) (fin _ _ hs h78)
              · exact zgm k (by unfold o_then zthen; exact (if_pos hv).trans (by rw [if_neg hx0, if_neg hx4, if_neg hx0])) (hs.wide (by omega) (by omega)) (fin _ _ hs h78)
            exfalso; omega
          exfalso; omega
      | succ q ih =>
        intro a w1 f h1 hs h78 hJ
        have h721 := (hs.2 72 (by omega)).trans h72
        have hih := ih (a + 1) w1 f (by omega) hs h78 hJ
        rw [zsg, show 1 + ((a + 1 : Nat) : Int) = 1 + (a : Int) + 1 by omega] at hih
        unfold zpk at hih ⊢
        refine q_iload (pc := 136) dX8_then_136 rfl ?_
        refine q_bipush (pc := 138) (by decide) dX8_then_138 ?_
        refine q_icmp_ge (pc := 140) (by omega) (by omega) 180 dX8_then_140 rfl (fun c140 => ?_) (fun c140 => ?_)
        · exfalso; omega
        refine q_iload (pc := 143) dX8_then_143 rfl ?_
        refine q_iload (pc := 145) dX8_then_145 rfl ?_
        refine q_if_eq (pc := 147) (by omega) 160 dX8_then_147 rfl (fun c147 => ?_) (fun c147 => ?_)
        · refine q_aload_n (pc := 160) dX8_then_160 rfl rfl ?_
          refine q_getfield (pc := 161) gf_X8_29 dX8_then_161 (by assumption) rfl ?_
          refine q_iload (pc := 164) dX8_then_164 rfl ?_
          refine q_iaload (pc := 166) dX8_then_166 (by assumption) (by omega) ?_
          refine q_goto (pc := 167) 171 dX8_then_167 rfl ?_
          refine q_iadd (pc := 171) dX8_then_171 ?_
          refine q_istore (pc := 172) [some _, some _, some _, some _, some _, some _, some _] dX8_then_172 rfl (Nat.le_of_ble_eq_true rfl) rfl ?_
          refine q_iinc (pc := 174) [some _, some _, some _, some _, some _, some _, some _] dX8_then_174 rfl rfl rfl ?_
          refine q_goto (pc := 177) 136 dX8_then_177 rfl ?_
          first | (rw [if_pos (show x = 0 ∨ (1 + (a : Int) + 2) / 3 = x by omega)] at hih; exact hih) | (rw [if_neg (show ¬ (x = 0 ∨ (1 + (a : Int) + 2) / 3 = x) by omega)] at hih; exact hih)
        refine q_iload (pc := 150) dX8_then_150 rfl ?_
        refine q_invokestatic (pc := 152) (d' := d - 1) (mc' := 0) (ms' := 0) (As := [_]) cl_X8_68 dX8_then_152 rfl rfl (by omega) rfl 0 0 (Nat.le_refl 0) (Nat.le_refl 0) ?_
        refine c_X8_sizeOf (by omega) ?_
        refine q_iload (pc := 155) dX8_then_155 rfl ?_
        refine q_icmp_ne (pc := 157) (by omega) (by omega) 170 dX8_then_157 rfl (fun c157 => ?_) (fun c157 => ?_)
        · refine q_iconst (pc := 170) dX8_then_170 ?_
          refine q_iadd (pc := 171) dX8_then_171 ?_
          refine q_istore (pc := 172) [some _, some _, some _, some _, some _, some _, some _] dX8_then_172 rfl (Nat.le_of_ble_eq_true rfl) rfl ?_
          refine q_iinc (pc := 174) [some _, some _, some _, some _, some _, some _, some _] dX8_then_174 rfl rfl rfl ?_
          refine q_goto (pc := 177) 136 dX8_then_177 rfl ?_
          first | (rw [if_pos (show x = 0 ∨ (1 + (a : Int) + 2) / 3 = x by omega)] at hih; exact hih) | (rw [if_neg (show ¬ (x = 0 ∨ (1 + (a : Int) + 2) / 3 = x) by omega)] at hih; exact hih)
        refine q_aload_n (pc := 160) dX8_then_160 rfl rfl ?_
        refine q_getfield (pc := 161) gf_X8_29 dX8_then_161 (by assumption) rfl ?_
        refine q_iload (pc := 164) dX8_then_164 rfl ?_
        refine q_iaload (pc := 166) dX8_then_166 (by assumption) (by omega) ?_
        refine q_goto (pc := 167) 171 dX8_then_167 rfl ?_
        refine q_iadd (pc := 171) dX8_then_171 ?_
        refine q_istore (pc := 172) [some _, some _, some _, some _, some _, some _, some _] dX8_then_172 rfl (Nat.le_of_ble_eq_true rfl) rfl ?_
        refine q_iinc (pc := 174) [some _, some _, some _, some _, some _, some _, some _] dX8_then_174 rfl rfl rfl ?_
        refine q_goto (pc := 177) 136 dX8_then_177 rfl ?_
        first | (rw [if_pos (show x = 0 ∨ (1 + (a : Int) + 2) / 3 = x by omega)] at hih; exact hih) | (rw [if_neg (show ¬ (x = 0 ∨ (1 + (a : Int) + 2) / 3 = x) by omega)] at hih; exact hih)
    have L1 : ∀ (q a : Nat) (w1 : zWd) (f : Int → Int), (a : Int) + (q : Int) = m → zSame w w1 78 1 → w1.1 78 = some (.inr (false, 10, f)) → zJr S.1.1 c (zlost S.1.1 c (S.1.1 (13 + c)) (a : Int) dd) f → zRuns g d mX8_then 0 0 58 [some (zR g 72), some (zI c), some (zI m), some (zI dd), some (zI x), some (zI (a : Int)), none] [] w1 K := by
      intro q
      induction q with
      | zero =>
        intro a w1 f h1 hs h78 hJ
        rw [show (a : Int) = m by omega] at hJ
        refine q_iload (pc := 58) dX8_then_58 rfl ?_
        refine q_iload_n (pc := 60) dX8_then_60 rfl ?_
        refine q_icmp_ge (pc := 61) (by omega) (by omega) 130 dX8_then_61 rfl (fun c61 => ?_) (fun c61 => ?_)
        · refine q_iconst (pc := 130) dX8_then_130 ?_
          refine q_istore (pc := 131) [some _, some _, some _, some _, some _, some _, none] dX8_then_131 rfl (Nat.le_of_ble_eq_true rfl) rfl ?_
          refine q_iconst (pc := 133) dX8_then_133 ?_
          refine q_istore (pc := 134) [some _, some _, some _, some _, some _, some _, some _] dX8_then_134 rfl (Nat.le_of_ble_eq_true rfl) rfl ?_
          exact L2 9 0 _ f (by omega) hs h78 hJ
        exfalso; omega
      | succ q ih =>
        intro a w1 f h1 hs h78 hJ
        have h721 := (hs.2 72 (by omega)).trans h72
        have h731 := (hs.2 73 (by omega)).trans h73
        have hLa := zlost_b (N := S.1.1) (c := c) (st := S.1.1 (13 + c)) (m := (a : Int)) (dd := dd) (by omega) (by omega)
        have hmb := zmelt_b (S.1.1 (8 + c)) (S.1.1 3 + (a : Int)) (S.1.1 (13 + c))
        have e : zlost S.1.1 c (S.1.1 (13 + c)) ((a + 1 : Nat) : Int) dd = zlost S.1.1 c (S.1.1 (13 + c)) (a : Int) dd + dd * zcost (S.1.1 (8 + c)) + zmelt (S.1.1 (8 + c)) (S.1.1 3 + (a : Int)) (S.1.1 (13 + c)) := by
          unfold zlost
          rw [show (((a + 1 : Nat) : Int)).toNat = a + 1 by omega, show ((a : Int)).toNat = a by omega, zsg, Int.zero_add, Int.add_assoc]
        have hih := fun w1 f => ih (a + 1) w1 f (by omega)
        refine q_iload (pc := 58) dX8_then_58 rfl ?_
        refine q_iload_n (pc := 60) dX8_then_60 rfl ?_
        refine q_icmp_ge (pc := 61) (by omega) (by omega) 130 dX8_then_61 rfl (fun c61 => ?_) (fun c61 => ?_)
        · exfalso; omega
        refine q_aload_n (pc := 64) dX8_then_64 rfl rfl ?_
        refine q_getfield (pc := 65) gf_X8_29 dX8_then_65 (by assumption) rfl ?_
        refine q_iconst (pc := 68) dX8_then_68 ?_
        refine q_iload_n (pc := 69) dX8_then_69 rfl ?_
        refine q_aload_n (pc := 70) dX8_then_70 rfl rfl ?_
        refine q_getfield (pc := 71) gf_X8_7 dX8_then_71 (by assumption) rfl ?_
        refine q_bipush (pc := 74) (by decide) dX8_then_74 ?_
        refine q_iload_n (pc := 76) dX8_then_76 rfl ?_
        refine q_iadd (pc := 77) dX8_then_77 ?_
        refine q_iaload (pc := 78) dX8_then_78 (by assumption) (by omega) ?_
        refine q_invokestatic (pc := 79) (d' := d - 1) (mc' := 0) (ms' := 0) (As := [_]) cl_X8_217 dX8_then_79 rfl rfl (by omega) rfl 0 0 (Nat.le_refl 0) (Nat.le_refl 0) ?_
        refine c_X8_costBy (by omega) ?_
        refine q_imul (pc := 82) dX8_then_82 ?_
        refine q_invokestatic (pc := 83) (d' := d - 1) (mc' := 0) (ms' := 0) (As := [_, _, _]) cl_X8_90 dX8_then_83 rfl rfl (by omega) rfl 0 0 (Nat.le_refl 0) (Nat.le_refl 0) ?_
        refine c_X8_melt h78 (by omega) (by omega) (fun w2 hs2 h782 => ?_)
        have hs2 := hs.tr hs2
        have h722 := (hs2.2 72 (by omega)).trans h72
        have h732 := (hs2.2 73 (by omega)).trans h73
        refine q_aload_n (pc := 86) dX8_then_86 rfl rfl ?_
        refine q_getfield (pc := 87) gf_X8_29 dX8_then_87 (by assumption) rfl ?_
        refine q_iconst (pc := 90) dX8_then_90 ?_
        refine q_aload_n (pc := 91) dX8_then_91 rfl rfl ?_
        refine q_getfield (pc := 92) gf_X8_7 dX8_then_92 (by assumption) rfl ?_
        refine q_bipush (pc := 95) (by decide) dX8_then_95 ?_
        refine q_iload_n (pc := 97) dX8_then_97 rfl ?_
        refine q_iadd (pc := 98) dX8_then_98 ?_
        refine q_iaload (pc := 99) dX8_then_99 (by assumption) (by omega) ?_
        refine q_aload_n (pc := 100) dX8_then_100 rfl rfl ?_
        refine q_getfield (pc := 101) gf_X8_7 dX8_then_101 (by assumption) rfl ?_
        refine q_iconst (pc := 104) dX8_then_104 ?_
        refine q_iaload (pc := 105) dX8_then_105 (by assumption) (by omega) ?_
        refine q_iload (pc := 106) dX8_then_106 rfl ?_
        refine q_iadd (pc := 108) dX8_then_108 ?_
        refine q_aload_n (pc := 109) dX8_then_109 rfl rfl ?_
        refine q_getfield (pc := 110) gf_X8_7 dX8_then_110 (by assumption) rfl ?_
        refine q_bipush (pc := 113) (by decide) dX8_then_113 ?_
        refine q_iload_n (pc := 115) dX8_then_115 rfl ?_
        refine q_iadd (pc := 116) dX8_then_116 ?_
        refine q_iaload (pc := 117) dX8_then_117 (by assumption) (by omega) ?_
        refine q_invokestatic (pc := 118) (d' := d - 1) (mc' := 0) (ms' := 0) (As := [_, _, _]) cl_X8_87 dX8_then_118 rfl rfl (by omega) rfl 0 0 (Nat.le_refl 0) (Nat.le_refl 0) ?_
        refine c_X8_meltsBy (by omega) (by omega) (by omega) ?_
        refine q_invokestatic (pc := 121) (d' := d - 1) (mc' := 0) (ms' := 0) (As := [_, _, _]) cl_X8_90 dX8_then_121 rfl rfl (by omega) rfl 0 0 (Nat.le_refl 0) (Nat.le_refl 0) ?_
        refine c_X8_melt h782 (by omega) (by omega) (fun w3 hs3 h783 => ?_)
        refine q_iinc (pc := 124) [some _, some _, some _, some _, some _, some _, none] dX8_then_124 rfl rfl rfl ?_
        refine q_goto (pc := 127) 58 dX8_then_127 rfl ?_
        exact hih _ _ (hs2.tr hs3) h783 (by rw [e]; exact (hJ.ml hpr.1 hLa.1).ml hmb.1 (by omega))
    refine zenter [some _, some _, some _, some _, some _, none, none] pn_X8 rfl (Nat.le_of_ble_eq_true rfl) ?_
    refine q_aload_n (pc := 0) dX8_then_0 rfl rfl ?_
    refine q_iload_n (pc := 1) dX8_then_1 rfl ?_
    refine q_invokevirtual (pc := 2) (d' := d - 1) (mc' := 0) (ms' := 0) (As := [_]) (TX8, 26) cl_X8_116 dX8_then_2 rfl rfl (by first | assumption | exact zup_at | exact (zup_ne (by decide)).trans (zup_at) | exact (zup_ne (by decide)).trans (by assumption) | exact (zup_ne (by decide)).trans ((zup_ne (by decide)).trans (zup_at)) | exact (zup_ne (by decide)).trans ((zup_ne (by decide)).trans (by assumption)) | exact (zup_ne (by decide)).trans ((zup_ne (by decide)).trans ((zup_ne (by decide)).trans (zup_at))) | exact (zup_ne (by decide)).trans ((zup_ne (by decide)).trans ((zup_ne (by decide)).trans (by assumption))) | exact (zup_ne (by decide)).trans ((zup_ne (by decide)).trans ((zup_ne (by decide)).trans ((zup_ne (by decide)).trans (zup_at)))) | exact (zup_ne (by decide)).trans ((zup_ne (by decide)).trans ((zup_ne (by decide)).trans ((zup_ne (by decide)).trans (by assumption)))) | exact (zup_ne (by decide)).trans ((zup_ne (by decide)).trans ((zup_ne (by decide)).trans ((zup_ne (by decide)).trans ((zup_ne (by decide)).trans (zup_at))))) | exact (zup_ne (by decide)).trans ((zup_ne (by decide)).trans ((zup_ne (by decide)).trans ((zup_ne (by decide)).trans ((zup_ne (by decide)).trans (by assumption)))))) rfl (by omega) rfl 0 0 (Nat.le_refl 0) (Nat.le_refl 0) ?_
    refine c_X8_isCellar (by omega) h72 h73 hO3 (by omega) ?_
    refine q_ifb_eq (pc := 5) 45 dX8_then_5 rfl (fun c5 => ?_) (fun c5 => ?_)
    · exfalso; omega
    refine q_iload_n (pc := 8) dX8_then_8 rfl ?_
    refine q_i2l (pc := 9) dX8_then_9 (by omega) ?_
    refine q_lconst (pc := 10) (v := 0) dX8_then_10 rfl ?_
    refine q_ldc2_w (pc := 11) tw_5_201 dX8_then_11 ?_
    refine q_invokestatic (pc := 14) (d' := d - 1) (mc' := 0) (ms' := 0) (As := [_, _, _]) cl_X8_60 dX8_then_14 rfl rfl (by omega) rfl 0 0 (Nat.le_refl 0) (Nat.le_refl 0) ?_
    refine c_X8_in (by omega) (by omega) (by omega) ?_
    refine q_ifb_eq (pc := 17) 45 dX8_then_17 rfl (fun c17 => ?_) (fun c17 => ?_)
    · exfalso; omega
    refine q_iload_n (pc := 20) dX8_then_20 rfl ?_
    refine q_i2l (pc := 21) dX8_then_21 (by omega) ?_
    refine q_lconst (pc := 22) (v := 0) dX8_then_22 rfl ?_
    refine q_ldc2_w (pc := 23) tw_5_79 dX8_then_23 ?_
    refine q_invokestatic (pc := 26) (d' := d - 1) (mc' := 0) (ms' := 0) (As := [_, _, _]) cl_X8_60 dX8_then_26 rfl rfl (by omega) rfl 0 0 (Nat.le_refl 0) (Nat.le_refl 0) ?_
    refine c_X8_in (by omega) (by omega) (by omega) ?_
    refine q_ifb_eq (pc := 29) 45 dX8_then_29 rfl (fun c29 => ?_) (fun c29 => ?_)
    · exfalso; omega
    refine q_iload (pc := 32) dX8_then_32 rfl ?_
    refine q_i2l (pc := 34) dX8_then_34 (by omega) ?_
    refine q_lconst (pc := 35) (v := 0) dX8_then_35 rfl ?_
    refine q_ldc2_w (pc := 36) tw_6_69 dX8_then_36 ?_
    refine q_invokestatic (pc := 39) (d' := d - 1) (mc' := 0) (ms' := 0) (As := [_, _, _]) cl_X8_60 dX8_then_39 rfl rfl (by omega) rfl 0 0 (Nat.le_refl 0) (Nat.le_refl 0) ?_
    refine c_X8_in (by omega) (by omega) (by omega) ?_
    refine q_ifb_ne (pc := 42) 50 dX8_then_42 rfl (fun c42 => ?_) (fun c42 => ?_)
    · refine q_aload_n (pc := 50) dX8_then_50 rfl rfl ?_
      refine q_iload_n (pc := 51) dX8_then_51 rfl ?_
      refine q_invokevirtual (pc := 52) (d' := d - 1) (mc' := 0) (ms' := 0) (As := [_]) (TX8, 26) cl_X8_248 dX8_then_52 rfl rfl (by first | assumption | exact zup_at | exact (zup_ne (by decide)).trans (zup_at) | exact (zup_ne (by decide)).trans (by assumption) | exact (zup_ne (by decide)).trans ((zup_ne (by decide)).trans (zup_at)) | exact (zup_ne (by decide)).trans ((zup_ne (by decide)).trans (by assumption)) | exact (zup_ne (by decide)).trans ((zup_ne (by decide)).trans ((zup_ne (by decide)).trans (zup_at))) | exact (zup_ne (by decide)).trans ((zup_ne (by decide)).trans ((zup_ne (by decide)).trans (by assumption))) | exact (zup_ne (by decide)).trans ((zup_ne (by decide)).trans ((zup_ne (by decide)).trans ((zup_ne (by decide)).trans (zup_at)))) | exact (zup_ne (by decide)).trans ((zup_ne (by decide)).trans ((zup_ne (by decide)).trans ((zup_ne (by decide)).trans (by assumption)))) | exact (zup_ne (by decide)).trans ((zup_ne (by decide)).trans ((zup_ne (by decide)).trans ((zup_ne (by decide)).trans ((zup_ne (by decide)).trans (zup_at))))) | exact (zup_ne (by decide)).trans ((zup_ne (by decide)).trans ((zup_ne (by decide)).trans ((zup_ne (by decide)).trans ((zup_ne (by decide)).trans (by assumption)))))) rfl (by omega) rfl 0 0 (Nat.le_refl 0) (Nat.le_refl 0) ?_
      refine c_X8_takeJar h72 h73 h78 (by omega) (fun w2 f2 hs2 h782 hJ2 => ?_)
      refine q_iconst (pc := 55) dX8_then_55 ?_
      refine q_istore (pc := 56) [some _, some _, some _, some _, some _, some _, none] dX8_then_56 rfl (Nat.le_of_ble_eq_true rfl) rfl ?_
      exact L1 m.toNat 0 _ f2 (by omega) hs2 h782 hJ2
    exfalso; omega
  · have hz0 := hv
    refine zenter [some _, some _, some _, some _, some _, none, none] pn_X8 rfl (Nat.le_of_ble_eq_true rfl) ?_
    refine q_aload_n (pc := 0) dX8_then_0 rfl rfl ?_
    refine q_iload_n (pc := 1) dX8_then_1 rfl ?_
    refine q_invokevirtual (pc := 2) (d' := d - 1) (mc' := 0) (ms' := 0) (As := [_]) (TX8, 26) cl_X8_116 dX8_then_2 rfl rfl (by first | assumption | exact zup_at | exact (zup_ne (by decide)).trans (zup_at) | exact (zup_ne (by decide)).trans (by assumption) | exact (zup_ne (by decide)).trans ((zup_ne (by decide)).trans (zup_at)) | exact (zup_ne (by decide)).trans ((zup_ne (by decide)).trans (by assumption)) | exact (zup_ne (by decide)).trans ((zup_ne (by decide)).trans ((zup_ne (by decide)).trans (zup_at))) | exact (zup_ne (by decide)).trans ((zup_ne (by decide)).trans ((zup_ne (by decide)).trans (by assumption))) | exact (zup_ne (by decide)).trans ((zup_ne (by decide)).trans ((zup_ne (by decide)).trans ((zup_ne (by decide)).trans (zup_at)))) | exact (zup_ne (by decide)).trans ((zup_ne (by decide)).trans ((zup_ne (by decide)).trans ((zup_ne (by decide)).trans (by assumption)))) | exact (zup_ne (by decide)).trans ((zup_ne (by decide)).trans ((zup_ne (by decide)).trans ((zup_ne (by decide)).trans ((zup_ne (by decide)).trans (zup_at))))) | exact (zup_ne (by decide)).trans ((zup_ne (by decide)).trans ((zup_ne (by decide)).trans ((zup_ne (by decide)).trans ((zup_ne (by decide)).trans (by assumption)))))) rfl (by omega) rfl 0 0 (Nat.le_refl 0) (Nat.le_refl 0) ?_
    refine c_X8_isCellar (by omega) h72 h73 hO3 (by omega) ?_
    refine q_ifb_eq (pc := 5) 45 dX8_then_5 rfl (fun c5 => ?_) (fun c5 => ?_)
    · refine q_aload_n (pc := 45) dX8_then_45 rfl rfl ?_
      refine q_invokevirtual (pc := 46) (d' := d - 1) (mc' := 0) (ms' := 0) (As := []) (TX8, 26) cl_X8_103 dX8_then_46 rfl rfl (by first | assumption | exact zup_at | exact (zup_ne (by decide)).trans (zup_at) | exact (zup_ne (by decide)).trans (by assumption) | exact (zup_ne (by decide)).trans ((zup_ne (by decide)).trans (zup_at)) | exact (zup_ne (by decide)).trans ((zup_ne (by decide)).trans (by assumption)) | exact (zup_ne (by decide)).trans ((zup_ne (by decide)).trans ((zup_ne (by decide)).trans (zup_at))) | exact (zup_ne (by decide)).trans ((zup_ne (by decide)).trans ((zup_ne (by decide)).trans (by assumption))) | exact (zup_ne (by decide)).trans ((zup_ne (by decide)).trans ((zup_ne (by decide)).trans ((zup_ne (by decide)).trans (zup_at)))) | exact (zup_ne (by decide)).trans ((zup_ne (by decide)).trans ((zup_ne (by decide)).trans ((zup_ne (by decide)).trans (by assumption)))) | exact (zup_ne (by decide)).trans ((zup_ne (by decide)).trans ((zup_ne (by decide)).trans ((zup_ne (by decide)).trans ((zup_ne (by decide)).trans (zup_at))))) | exact (zup_ne (by decide)).trans ((zup_ne (by decide)).trans ((zup_ne (by decide)).trans ((zup_ne (by decide)).trans ((zup_ne (by decide)).trans (by assumption)))))) rfl (by omega) rfl 0 0 (Nat.le_refl 0) (Nat.le_refl 0) ?_
      refine c_X8_bad hC (fun w9 hs9 hC9 => ?_)
      refine q_ireturn (pc := 49) dX8_then_49 rfl ?_
      exact zgm k (by unfold o_then; exact ((if_neg (by omega)).trans rfl)) hs9 hC9
    refine q_iload_n (pc := 8) dX8_then_8 rfl ?_
    refine q_i2l (pc := 9) dX8_then_9 (by omega) ?_
    refine q_lconst (pc := 10) (v := 0) dX8_then_10 rfl ?_
    refine q_ldc2_w (pc := 11) tw_5_201 dX8_then_11 ?_
    refine q_invokestatic (pc := 14) (d' := d - 1) (mc' := 0) (ms' := 0) (As := [_, _, _]) cl_X8_60 dX8_then_14 rfl rfl (by omega) rfl 0 0 (Nat.le_refl 0) (Nat.le_refl 0) ?_
    refine c_X8_in (by omega) (by omega) (by omega) ?_
    refine q_ifb_eq (pc := 17) 45 dX8_then_17 rfl (fun c17 => ?_) (fun c17 => ?_)
    · refine q_aload_n (pc := 45) dX8_then_45 rfl rfl ?_
      refine q_invokevirtual (pc := 46) (d' := d - 1) (mc' := 0) (ms' := 0) (As := []) (TX8, 26) cl_X8_103 dX8_then_46 rfl rfl (by first | assumption | exact zup_at | exact (zup_ne (by decide)).trans (zup_at) | exact (zup_ne (by decide)).trans (by assumption) | exact (zup_ne (by decide)).trans ((zup_ne (by decide)).trans (zup_at)) | exact (zup_ne (by decide)).trans ((zup_ne (by decide)).trans (by assumption)) | exact (zup_ne (by decide)).trans ((zup_ne (by decide)).trans ((zup_ne (by decide)).trans (zup_at))) | exact (zup_ne (by decide)).trans ((zup_ne (by decide)).trans ((zup_ne (by decide)).trans (by assumption))) | exact (zup_ne (by decide)).trans ((zup_ne (by decide)).trans ((zup_ne (by decide)).trans ((zup_ne (by decide)).trans (zup_at)))) | exact (zup_ne (by decide)).trans ((zup_ne (by decide)).trans ((zup_ne (by decide)).trans ((zup_ne (by decide)).trans (by assumption)))) | exact (zup_ne (by decide)).trans ((zup_ne (by decide)).trans ((zup_ne (by decide)).trans ((zup_ne (by decide)).trans ((zup_ne (by decide)).trans (zup_at))))) | exact (zup_ne (by decide)).trans ((zup_ne (by decide)).trans ((zup_ne (by decide)).trans ((zup_ne (by decide)).trans ((zup_ne (by decide)).trans (by assumption)))))) rfl (by omega) rfl 0 0 (Nat.le_refl 0) (Nat.le_refl 0) ?_
      refine c_X8_bad hC (fun w9 hs9 hC9 => ?_)
      refine q_ireturn (pc := 49) dX8_then_49 rfl ?_
      exact zgm k (by unfold o_then; exact ((if_neg (by omega)).trans rfl)) hs9 hC9
    refine q_iload_n (pc := 20) dX8_then_20 rfl ?_
    refine q_i2l (pc := 21) dX8_then_21 (by omega) ?_
    refine q_lconst (pc := 22) (v := 0) dX8_then_22 rfl ?_
    refine q_ldc2_w (pc := 23) tw_5_79 dX8_then_23 ?_
    refine q_invokestatic (pc := 26) (d' := d - 1) (mc' := 0) (ms' := 0) (As := [_, _, _]) cl_X8_60 dX8_then_26 rfl rfl (by omega) rfl 0 0 (Nat.le_refl 0) (Nat.le_refl 0) ?_
    refine c_X8_in (by omega) (by omega) (by omega) ?_
    refine q_ifb_eq (pc := 29) 45 dX8_then_29 rfl (fun c29 => ?_) (fun c29 => ?_)
    · refine q_aload_n (pc := 45) dX8_then_45 rfl rfl ?_
      refine q_invokevirtual (pc := 46) (d' := d - 1) (mc' := 0) (ms' := 0) (As := []) (TX8, 26) cl_X8_103 dX8_then_46 rfl rfl (by first | assumption | exact zup_at | exact (zup_ne (by decide)).trans (zup_at) | exact (zup_ne (by decide)).trans (by assumption) | exact (zup_ne (by decide)).trans ((zup_ne (by decide)).trans (zup_at)) | exact (zup_ne (by decide)).trans ((zup_ne (by decide)).trans (by assumption)) | exact (zup_ne (by decide)).trans ((zup_ne (by decide)).trans ((zup_ne (by decide)).trans (zup_at))) | exact (zup_ne (by decide)).trans ((zup_ne (by decide)).trans ((zup_ne (by decide)).trans (by assumption))) | exact (zup_ne (by decide)).trans ((zup_ne (by decide)).trans ((zup_ne (by decide)).trans ((zup_ne (by decide)).trans (zup_at)))) | exact (zup_ne (by decide)).trans ((zup_ne (by decide)).trans ((zup_ne (by decide)).trans ((zup_ne (by decide)).trans (by assumption)))) | exact (zup_ne (by decide)).trans ((zup_ne (by decide)).trans ((zup_ne (by decide)).trans ((zup_ne (by decide)).trans ((zup_ne (by decide)).trans (zup_at))))) | exact (zup_ne (by decide)).trans ((zup_ne (by decide)).trans ((zup_ne (by decide)).trans ((zup_ne (by decide)).trans ((zup_ne (by decide)).trans (by assumption)))))) rfl (by omega) rfl 0 0 (Nat.le_refl 0) (Nat.le_refl 0) ?_
      refine c_X8_bad hC (fun w9 hs9 hC9 => ?_)
      refine q_ireturn (pc := 49) dX8_then_49 rfl ?_
      exact zgm k (by unfold o_then; exact ((if_neg (by omega)).trans rfl)) hs9 hC9
    refine q_iload (pc := 32) dX8_then_32 rfl ?_
    refine q_i2l (pc := 34) dX8_then_34 (by omega) ?_
    refine q_lconst (pc := 35) (v := 0) dX8_then_35 rfl ?_
    refine q_ldc2_w (pc := 36) tw_6_69 dX8_then_36 ?_
    refine q_invokestatic (pc := 39) (d' := d - 1) (mc' := 0) (ms' := 0) (As := [_, _, _]) cl_X8_60 dX8_then_39 rfl rfl (by omega) rfl 0 0 (Nat.le_refl 0) (Nat.le_refl 0) ?_
    refine c_X8_in (by omega) (by omega) (by omega) ?_
    refine q_ifb_ne (pc := 42) 50 dX8_then_42 rfl (fun c42 => ?_) (fun c42 => ?_)
    · exfalso; omega
    refine q_aload_n (pc := 45) dX8_then_45 rfl rfl ?_
    refine q_invokevirtual (pc := 46) (d' := d - 1) (mc' := 0) (ms' := 0) (As := []) (TX8, 26) cl_X8_103 dX8_then_46 rfl rfl (by first | assumption | exact zup_at | exact (zup_ne (by decide)).trans (zup_at) | exact (zup_ne (by decide)).trans (by assumption) | exact (zup_ne (by decide)).trans ((zup_ne (by decide)).trans (zup_at)) | exact (zup_ne (by decide)).trans ((zup_ne (by decide)).trans (by assumption)) | exact (zup_ne (by decide)).trans ((zup_ne (by decide)).trans ((zup_ne (by decide)).trans (zup_at))) | exact (zup_ne (by decide)).trans ((zup_ne (by decide)).trans ((zup_ne (by decide)).trans (by assumption))) | exact (zup_ne (by decide)).trans ((zup_ne (by decide)).trans ((zup_ne (by decide)).trans ((zup_ne (by decide)).trans (zup_at)))) | exact (zup_ne (by decide)).trans ((zup_ne (by decide)).trans ((zup_ne (by decide)).trans ((zup_ne (by decide)).trans (by assumption)))) | exact (zup_ne (by decide)).trans ((zup_ne (by decide)).trans ((zup_ne (by decide)).trans ((zup_ne (by decide)).trans ((zup_ne (by decide)).trans (zup_at))))) | exact (zup_ne (by decide)).trans ((zup_ne (by decide)).trans ((zup_ne (by decide)).trans ((zup_ne (by decide)).trans ((zup_ne (by decide)).trans (by assumption)))))) rfl (by omega) rfl 0 0 (Nat.le_refl 0) (Nat.le_refl 0) ?_
    refine c_X8_bad hC (fun w9 hs9 hC9 => ?_)
    refine q_ireturn (pc := 49) dX8_then_49 rfl ?_
    exact zgm k (by unfold o_then; exact ((if_neg (by omega)).trans rfl)) hs9 hC9
set_option maxRecDepth 100000 in
set_option maxHeartbeats 8000000 in
theorem c_X8_lasts {c r : Int} (hd : 6 ≤ d) (hC : zMo g w S) (hO : zOKS S) (h_c : zR32 c) (h_r : zR32 r) (k : ∀ w', zSame w w' 72 16 → zMo g w' (o_lasts S c r).2 → K (some (zI (o_lasts S c r).1)) w') : zCall g d 0 0 mX8_lasts [zR g 72, zI c, zI r] w K := by
  obtain ⟨⟨p0, p1, p2, p3, p4, it, sm, h72⟩, h73, h74, h75, h76, hScr, h84, h85, h86, h87⟩ := id hC
  have hO1 := hO.1
  have hO2 := hO1.1
  have hO3 := hO2.1
  by_cases hv : (0 ≤ c ∧ c < S.1.1 0) ∧ (1 ≤ r ∧ r ≤ 9)
  · have hkd := hO2.2.1 c (by omega) (by omega)
    have hgb := zgreat_b S.1.1 c
    obtain ⟨f0, h78⟩ := hScr.2.1
    have fin : ∀ (w1 : zWd) (f : Int → Int), zSame w w1 78 1 → w1.1 78 = some (.inr (false, 10, f)) → zMo g w1 S := fun w1 f hs h => hC.scr (hs.wide (by omega) (by omega)) (hScr.p78 hs h)
    have L1 : ∀ (q : Nat) (a L : Int) (w1 : zWd) (f : Int → Int), a + q = 100 → 0 ≤ a → 0 ≤ L → zSame w w1 78 1 → w1.1 78 = some (.inr (false, 10, f)) → zJr S.1.1 c L f → zkeep S.1.1 c r q a (zgreat S.1.1 c - L) = zlasts S.1.1 c r → zRuns g d mX8_lasts 0 0 32 [some (zR g 72), some (zI c), some (zI r), some (zI a)] [] w1 K := by
      intro q
      induction q with
      | zero =>
        intro a L w1 f h1 h2 h3 hs h78 hJ ez
        refine q_iload_n (pc := 32) dX8_lasts_32 rfl ?_
        refine q_bipush (pc := 33) (by decide) dX8_lasts_33 ?_
        refine q_icmp_ge (pc := 35) (by omega) (by omega) 91 dX8_lasts_35 rfl (fun c35 => ?_) (fun c35 => ?_)
        · refine q_iconst (pc := 91) dX8_lasts_91 ?_
          refine q_ireturn (pc := 92) dX8_lasts_92 rfl ?_
          rw [zkeep] at ez
          exact zgm k (by unfold o_lasts; exact (if_pos hv).trans (by rw [← ez])) (hs.wide (by omega) (by omega)) (fin _ _ hs h78)
        exfalso; omega
      | succ q ih =>
        intro a L w1 f h1 h2 h3 hs h78 hJ ez
        have h721 := (hs.2 72 (by omega)).trans h72
        have h731 := (hs.2 73 (by omega)).trans h73
        have hmb := zmelt_b (S.1.1 (8 + c)) (S.1.1 3 + a) (S.1.1 (13 + c))
        have hih := ih (a + 1) (L + zmelt (S.1.1 (8 + c)) (S.1.1 3 + a) (S.1.1 (13 + c)))
        rw [show zgreat S.1.1 c - (L + zmelt (S.1.1 (8 + c)) (S.1.1 3 + a) (S.1.1 (13 + c))) = zgreat S.1.1 c - L - zmelt (S.1.1 (8 + c)) (S.1.1 3 + a) (S.1.1 (13 + c)) by omega] at hih
        rw [zkeep] at ez
        refine q_iload_n (pc := 32) dX8_lasts_32 rfl ?_
        refine q_bipush (pc := 33) (by decide) dX8_lasts_33 ?_
        refine q_icmp_ge (pc := 35) (by omega) (by omega) 91 dX8_lasts_35 rfl (fun c35 => ?_) (fun c35 => ?_)
        · exfalso; omega
        refine q_aload_n (pc := 38) dX8_lasts_38 rfl rfl ?_
        refine q_invokevirtual (pc := 39) (d' := d - 1) (mc' := 0) (ms' := 0) (As := []) (TX8, 26) cl_X8_251 dX8_lasts_39 rfl rfl (by assumption) rfl (by omega) rfl 0 0 (Nat.le_refl 0) (Nat.le_refl 0) ?_
        refine c_X8_greatestIn h721 h78 hJ h3 (hJ.R hO2 (by omega) h3) ?_
        refine q_iload_n (pc := 42) dX8_lasts_42 rfl ?_
        refine q_icmp_ge (pc := 43) (by omega) (by omega) 48 dX8_lasts_43 rfl (fun c43 => ?_) (fun c43 => ?_)
        · refine q_aload_n (pc := 48) dX8_lasts_48 rfl rfl ?_
          refine q_getfield (pc := 49) gf_X8_29 dX8_lasts_49 (by assumption) rfl ?_
          refine q_iconst (pc := 52) dX8_lasts_52 ?_
          refine q_aload_n (pc := 53) dX8_lasts_53 rfl rfl ?_
          refine q_getfield (pc := 54) gf_X8_7 dX8_lasts_54 (by assumption) rfl ?_
          refine q_bipush (pc := 57) (by decide) dX8_lasts_57 ?_
          refine q_iload_n (pc := 59) dX8_lasts_59 rfl ?_
          refine q_iadd (pc := 60) dX8_lasts_60 ?_
          refine q_iaload (pc := 61) dX8_lasts_61 (by assumption) (by omega) ?_
          refine q_aload_n (pc := 62) dX8_lasts_62 rfl rfl ?_
          refine q_getfield (pc := 63) gf_X8_7 dX8_lasts_63 (by assumption) rfl ?_
          refine q_iconst (pc := 66) dX8_lasts_66 ?_
          refine q_iaload (pc := 67) dX8_lasts_67 (by assumption) (by omega) ?_
          refine q_iload_n (pc := 68) dX8_lasts_68 rfl ?_
          refine q_iadd (pc := 69) dX8_lasts_69 ?_
          refine q_aload_n (pc := 70) dX8_lasts_70 rfl rfl ?_
          refine q_getfield (pc := 71) gf_X8_7 dX8_lasts_71 (by assumption) rfl ?_
          refine q_bipush (pc := 74) (by decide) dX8_lasts_74 ?_
          refine q_iload_n (pc := 76) dX8_lasts_76 rfl ?_
          refine q_iadd (pc := 77) dX8_lasts_77 ?_
          refine q_iaload (pc := 78) dX8_lasts_78 (by assumption) (by omega) ?_
          refine q_invokestatic (pc := 79) (d' := d - 1) (mc' := 0) (ms' := 0) (As := [_, _, _]) cl_X8_87 dX8_lasts_79 rfl rfl (by omega) rfl 0 0 (Nat.le_refl 0) (Nat.le_refl 0) ?_
          refine c_X8_meltsBy (by omega) (by omega) (by omega) ?_
          refine q_invokestatic (pc := 82) (d' := d - 1) (mc' := 0) (ms' := 0) (As := [_, _, _]) cl_X8_90 dX8_lasts_82 rfl rfl (by omega) rfl 0 0 (Nat.le_refl 0) (Nat.le_refl 0) ?_
          refine c_X8_melt h78 (by omega) (by omega) (fun w3 hs3 h783 => ?_)
          refine q_iinc (pc := 85) [some _, some _, some _, some _] dX8_lasts_85 rfl rfl rfl ?_
          refine q_goto (pc := 88) 32 dX8_lasts_88 rfl ?_
          rw [if_neg (by omega)] at ez
          exact hih _ _ (by omega) (by omega) (by omega) (hs.tr hs3) h783 (hJ.ml hmb.1 h3) ez
        refine q_iload_n (pc := 46) dX8_lasts_46 rfl ?_
        refine q_ireturn (pc := 47) dX8_lasts_47 rfl ?_
        rw [if_pos (by omega)] at ez
        exact zgm k (by unfold o_lasts; exact (if_pos hv).trans (by rw [← ez])) (hs.wide (by omega) (by omega)) (fin _ _ hs h78)
    refine zenter [some _, some _, some _, none] pn_X8 rfl (Nat.le_of_ble_eq_true rfl) ?_
    refine q_aload_n (pc := 0) dX8_lasts_0 rfl rfl ?_
    refine q_iload_n (pc := 1) dX8_lasts_1 rfl ?_
    refine q_invokevirtual (pc := 2) (d' := d - 1) (mc' := 0) (ms' := 0) (As := [_]) (TX8, 26) cl_X8_116 dX8_lasts_2 rfl rfl (by first | assumption | exact zup_at | exact (zup_ne (by decide)).trans (zup_at) | exact (zup_ne (by decide)).trans (by assumption) | exact (zup_ne (by decide)).trans ((zup_ne (by decide)).trans (zup_at)) | exact (zup_ne (by decide)).trans ((zup_ne (by decide)).trans (by assumption)) | exact (zup_ne (by decide)).trans ((zup_ne (by decide)).trans ((zup_ne (by decide)).trans (zup_at))) | exact (zup_ne (by decide)).trans ((zup_ne (by decide)).trans ((zup_ne (by decide)).trans (by assumption))) | exact (zup_ne (by decide)).trans ((zup_ne (by decide)).trans ((zup_ne (by decide)).trans ((zup_ne (by decide)).trans (zup_at)))) | exact (zup_ne (by decide)).trans ((zup_ne (by decide)).trans ((zup_ne (by decide)).trans ((zup_ne (by decide)).trans (by assumption)))) | exact (zup_ne (by decide)).trans ((zup_ne (by decide)).trans ((zup_ne (by decide)).trans ((zup_ne (by decide)).trans ((zup_ne (by decide)).trans (zup_at))))) | exact (zup_ne (by decide)).trans ((zup_ne (by decide)).trans ((zup_ne (by decide)).trans ((zup_ne (by decide)).trans ((zup_ne (by decide)).trans (by assumption)))))) rfl (by omega) rfl 0 0 (Nat.le_refl 0) (Nat.le_refl 0) ?_
    refine c_X8_isCellar (by omega) h72 h73 hO3 (by omega) ?_
    refine q_ifb_eq (pc := 5) 20 dX8_lasts_5 rfl (fun c5 => ?_) (fun c5 => ?_)
    · exfalso; omega
    refine q_iload_n (pc := 8) dX8_lasts_8 rfl ?_
    refine q_i2l (pc := 9) dX8_lasts_9 (by omega) ?_
    refine q_lconst (pc := 10) (v := 1) dX8_lasts_10 rfl ?_
    refine q_ldc2_w (pc := 11) tw_5_79 dX8_lasts_11 ?_
    refine q_invokestatic (pc := 14) (d' := d - 1) (mc' := 0) (ms' := 0) (As := [_, _, _]) cl_X8_60 dX8_lasts_14 rfl rfl (by omega) rfl 0 0 (Nat.le_refl 0) (Nat.le_refl 0) ?_
    refine c_X8_in (by omega) (by omega) (by omega) ?_
    refine q_ifb_ne (pc := 17) 25 dX8_lasts_17 rfl (fun c17 => ?_) (fun c17 => ?_)
    · refine q_aload_n (pc := 25) dX8_lasts_25 rfl rfl ?_
      refine q_iload_n (pc := 26) dX8_lasts_26 rfl ?_
      refine q_invokevirtual (pc := 27) (d' := d - 1) (mc' := 0) (ms' := 0) (As := [_]) (TX8, 26) cl_X8_248 dX8_lasts_27 rfl rfl (by first | assumption | exact zup_at | exact (zup_ne (by decide)).trans (zup_at) | exact (zup_ne (by decide)).trans (by assumption) | exact (zup_ne (by decide)).trans ((zup_ne (by decide)).trans (zup_at)) | exact (zup_ne (by decide)).trans ((zup_ne (by decide)).trans (by assumption)) | exact (zup_ne (by decide)).trans ((zup_ne (by decide)).trans ((zup_ne (by decide)).trans (zup_at))) | exact (zup_ne (by decide)).trans ((zup_ne (by decide)).trans ((zup_ne (by decide)).trans (by assumption))) | exact (zup_ne (by decide)).trans ((zup_ne (by decide)).trans ((zup_ne (by decide)).trans ((zup_ne (by decide)).trans (zup_at)))) | exact (zup_ne (by decide)).trans ((zup_ne (by decide)).trans ((zup_ne (by decide)).trans ((zup_ne (by decide)).trans (by assumption)))) | exact (zup_ne (by decide)).trans ((zup_ne (by decide)).trans ((zup_ne (by decide)).trans ((zup_ne (by decide)).trans ((zup_ne (by decide)).trans (zup_at))))) | exact (zup_ne (by decide)).trans ((zup_ne (by decide)).trans ((zup_ne (by decide)).trans ((zup_ne (by decide)).trans ((zup_ne (by decide)).trans (by assumption)))))) rfl (by omega) rfl 0 0 (Nat.le_refl 0) (Nat.le_refl 0) ?_
      refine c_X8_takeJar h72 h73 h78 (by omega) (fun w2 f2 hs2 h782 hJ2 => ?_)
      refine q_iconst (pc := 30) dX8_lasts_30 ?_
      refine q_istore_n (pc := 31) [some _, some _, some _, some _] dX8_lasts_31 rfl (Nat.le_of_ble_eq_true rfl) rfl ?_
      exact L1 100 0 0 _ f2 (by omega) (by omega) (by omega) hs2 h782 hJ2 (by unfold zlasts; rw [Int.sub_zero])
    exfalso; omega
  · have hz0 := hv
    refine zenter [some _, some _, some _, none] pn_X8 rfl (Nat.le_of_ble_eq_true rfl) ?_
    refine q_aload_n (pc := 0) dX8_lasts_0 rfl rfl ?_
    refine q_iload_n (pc := 1) dX8_lasts_1 rfl ?_
    refine q_invokevirtual (pc := 2) (d' := d - 1) (mc' := 0) (ms' := 0) (As := [_]) (TX8, 26) cl_X8_116 dX8_lasts_2 rfl rfl (by first | assumption | exact zup_at | exact (zup_ne (by decide)).trans (zup_at) | exact (zup_ne (by decide)).trans (by assumption) | exact (zup_ne (by decide)).trans ((zup_ne (by decide)).trans (zup_at)) | exact (zup_ne (by decide)).trans ((zup_ne (by decide)).trans (by assumption)) | exact (zup_ne (by decide)).trans ((zup_ne (by decide)).trans ((zup_ne (by decide)).trans (zup_at))) | exact (zup_ne (by decide)).trans ((zup_ne (by decide)).trans ((zup_ne (by decide)).trans (by assumption))) | exact (zup_ne (by decide)).trans ((zup_ne (by decide)).trans ((zup_ne (by decide)).trans ((zup_ne (by decide)).trans (zup_at)))) | exact (zup_ne (by decide)).trans ((zup_ne (by decide)).trans ((zup_ne (by decide)).trans ((zup_ne (by decide)).trans (by assumption)))) | exact (zup_ne (by decide)).trans ((zup_ne (by decide)).trans ((zup_ne (by decide)).trans ((zup_ne (by decide)).trans ((zup_ne (by decide)).trans (zup_at))))) | exact (zup_ne (by decide)).trans ((zup_ne (by decide)).trans ((zup_ne (by decide)).trans ((zup_ne (by decide)).trans ((zup_ne (by decide)).trans (by assumption)))))) rfl (by omega) rfl 0 0 (Nat.le_refl 0) (Nat.le_refl 0) ?_
    refine c_X8_isCellar (by omega) h72 h73 hO3 (by omega) ?_
    refine q_ifb_eq (pc := 5) 20 dX8_lasts_5 rfl (fun c5 => ?_) (fun c5 => ?_)
    · refine q_aload_n (pc := 20) dX8_lasts_20 rfl rfl ?_
      refine q_invokevirtual (pc := 21) (d' := d - 1) (mc' := 0) (ms' := 0) (As := []) (TX8, 26) cl_X8_103 dX8_lasts_21 rfl rfl (by first | assumption | exact zup_at | exact (zup_ne (by decide)).trans (zup_at) | exact (zup_ne (by decide)).trans (by assumption) | exact (zup_ne (by decide)).trans ((zup_ne (by decide)).trans (zup_at)) | exact (zup_ne (by decide)).trans ((zup_ne (by decide)).trans (by assumption)) | exact (zup_ne (by decide)).trans ((zup_ne (by decide)).trans ((zup_ne (by decide)).trans (zup_at))) | exact (zup_ne (by decide)).trans ((zup_ne (by decide)).trans ((zup_ne (by decide)).trans (by assumption))) | exact (zup_ne (by decide)).trans ((zup_ne (by decide)).trans ((zup_ne (by decide)).trans ((zup_ne (by decide)).trans (zup_at)))) | exact (zup_ne (by decide)).trans ((zup_ne (by decide)).trans ((zup_ne (by decide)).trans ((zup_ne (by decide)).trans (by assumption)))) | exact (zup_ne (by decide)).trans ((zup_ne (by decide)).trans ((zup_ne (by decide)).trans ((zup_ne (by decide)).trans ((zup_ne (by decide)).trans (zup_at))))) | exact (zup_ne (by decide)).trans ((zup_ne (by decide)).trans ((zup_ne (by decide)).trans ((zup_ne (by decide)).trans ((zup_ne (by decide)).trans (by assumption)))))) rfl (by omega) rfl 0 0 (Nat.le_refl 0) (Nat.le_refl 0) ?_
      refine c_X8_bad hC (fun w9 hs9 hC9 => ?_)
      refine q_ireturn (pc := 24) dX8_lasts_24 rfl ?_
      exact zgm k (by unfold o_lasts; exact ((if_neg (by omega)).trans rfl)) hs9 hC9
    refine q_iload_n (pc := 8) dX8_lasts_8 rfl ?_
    refine q_i2l (pc := 9) dX8_lasts_9 (by omega) ?_
    refine q_lconst (pc := 10) (v := 1) dX8_lasts_10 rfl ?_
    refine q_ldc2_w (pc := 11) tw_5_79 dX8_lasts_11 ?_
    refine q_invokestatic (pc := 14) (d' := d - 1) (mc' := 0) (ms' := 0) (As := [_, _, _]) cl_X8_60 dX8_lasts_14 rfl rfl (by omega) rfl 0 0 (Nat.le_refl 0) (Nat.le_refl 0) ?_
    refine c_X8_in (by omega) (by omega) (by omega) ?_
    refine q_ifb_ne (pc := 17) 25 dX8_lasts_17 rfl (fun c17 => ?_) (fun c17 => ?_)
    · exfalso; omega
    refine q_aload_n (pc := 20) dX8_lasts_20 rfl rfl ?_
    refine q_invokevirtual (pc := 21) (d' := d - 1) (mc' := 0) (ms' := 0) (As := []) (TX8, 26) cl_X8_103 dX8_lasts_21 rfl rfl (by first | assumption | exact zup_at | exact (zup_ne (by decide)).trans (zup_at) | exact (zup_ne (by decide)).trans (by assumption) | exact (zup_ne (by decide)).trans ((zup_ne (by decide)).trans (zup_at)) | exact (zup_ne (by decide)).trans ((zup_ne (by decide)).trans (by assumption)) | exact (zup_ne (by decide)).trans ((zup_ne (by decide)).trans ((zup_ne (by decide)).trans (zup_at))) | exact (zup_ne (by decide)).trans ((zup_ne (by decide)).trans ((zup_ne (by decide)).trans (by assumption))) | exact (zup_ne (by decide)).trans ((zup_ne (by decide)).trans ((zup_ne (by decide)).trans ((zup_ne (by decide)).trans (zup_at)))) | exact (zup_ne (by decide)).trans ((zup_ne (by decide)).trans ((zup_ne (by decide)).trans ((zup_ne (by decide)).trans (by assumption)))) | exact (zup_ne (by decide)).trans ((zup_ne (by decide)).trans ((zup_ne (by decide)).trans ((zup_ne (by decide)).trans ((zup_ne (by decide)).trans (zup_at))))) | exact (zup_ne (by decide)).trans ((zup_ne (by decide)).trans ((zup_ne (by decide)).trans ((zup_ne (by decide)).trans ((zup_ne (by decide)).trans (by assumption)))))) rfl (by omega) rfl 0 0 (Nat.le_refl 0) (Nat.le_refl 0) ?_
    refine c_X8_bad hC (fun w9 hs9 hC9 => ?_)
    refine q_ireturn (pc := 24) dX8_lasts_24 rfl ?_
    exact zgm k (by unfold o_lasts; exact ((if_neg (by omega)).trans rfl)) hs9 hC9
set_option maxRecDepth 100000 in
set_option maxHeartbeats 8000000 in
theorem c_X8_least {c r m : Int} (hd : 6 ≤ d) (hC : zMo g w S) (hO : zOKS S) (h_c : zR32 c) (h_r : zR32 r) (h_m : zR32 m) (k : ∀ w', zSame w w' 72 16 → zMo g w' (o_least S c r m).2 → K (some (zI (o_least S c r m).1)) w') : zCall g d 0 0 mX8_least [zR g 72, zI c, zI r, zI m] w K := by
  obtain ⟨⟨p0, p1, p2, p3, p4, it, sm, h72⟩, h73, h74, h75, h76, hScr, h84, h85, h86, h87⟩ := id hC
  have hO1 := hO.1
  have hO2 := hO1.1
  have hO3 := hO2.1
  by_cases hv : (0 ≤ c ∧ c < S.1.1 0) ∧ (1 ≤ r ∧ r ≤ 9) ∧ (0 ≤ m ∧ m ≤ 60)
  · have hkd := hO2.2.1 c (by omega) (by omega)
    have hgb := zgreat_b S.1.1 c
    have fin : ∀ (w1 : zWd) (f : Int → Int), zSame w w1 78 1 → w1.1 78 = some (.inr (false, 10, f)) → zMo g w1 S := fun w1 f hs h => hC.scr (hs.wide (by omega) (by omega)) (hScr.p78 hs h)
    have L1 : ∀ (q : Nat) (s : Int) (w1 : zWd) (f1 : Int → Int) (x5 : Option Value), s + q = 10 → 0 ≤ s → zSame w w1 78 1 → w1.1 78 = some (.inr (false, 10, f1)) → zls S.1.1 c r m q s = zleast S.1.1 c r m → zRuns g d mX8_least 0 0 40 [some (zR g 72), some (zI c), some (zI r), some (zI m), some (zI s), x5] [] w1 K := by
      intro q
      induction q with
      | zero =>
        intro s w1 f1 x5 h1 h2 hs h78 ez
        refine q_iload (pc := 40) dX8_least_40 rfl ?_
        refine q_bipush (pc := 42) (by decide) dX8_least_42 ?_
        refine q_icmp_ge (pc := 44) (by omega) (by omega) 115 dX8_least_44 rfl (fun c44 => ?_) (fun c44 => ?_)
        · refine q_iconst (pc := 115) dX8_least_115 ?_
          refine q_ireturn (pc := 116) dX8_least_116 rfl ?_
          rw [zls] at ez
          exact zgm k (by unfold o_least; exact (if_pos hv).trans (by rw [← ez])) (hs.wide (by omega) (by omega)) (fin _ _ hs h78)
        exfalso; omega
      | succ q ih =>
        intro s w1 f1 x5 h1 h2 hs h78 ez
        have h721 := (hs.2 72 (by omega)).trans h72
        have h731 := (hs.2 73 (by omega)).trans h73
        have hLb := zlost_b (N := S.1.1) (c := c) (st := s) (m := m) (dd := 0) (by omega) (by omega)
        rw [zls] at ez
        have L2 : ∀ (q2 a : Nat) (w2 : zWd) (f : Int → Int), (a : Int) + (q2 : Int) = m → zSame w w2 78 1 → w2.1 78 = some (.inr (false, 10, f)) → zJr S.1.1 c (zlost S.1.1 c s (a : Int) 0) f → zRuns g d mX8_least 0 0 55 [some (zR g 72), some (zI c), some (zI r), some (zI m), some (zI s), some (zI (a : Int))] [] w2 K := by
          intro q2
          induction q2 with
          | zero =>
            intro a w2 f g1 hs h78 hJ
            have h721 := (hs.2 72 (by omega)).trans h72
            rw [show (a : Int) = m by omega] at hJ
            refine q_iload (pc := 55) dX8_least_55 rfl ?_
            refine q_iload_n (pc := 57) dX8_least_57 rfl ?_
            refine q_icmp_ge (pc := 58) (by omega) (by omega) 98 dX8_least_58 rfl (fun c58 => ?_) (fun c58 => ?_)
            · refine q_aload_n (pc := 98) dX8_least_98 rfl rfl ?_
              refine q_invokevirtual (pc := 99) (d' := d - 1) (mc' := 0) (ms' := 0) (As := []) (TX8, 26) cl_X8_251 dX8_least_99 rfl rfl (by assumption) rfl (by omega) rfl 0 0 (Nat.le_refl 0) (Nat.le_refl 0) ?_
              refine c_X8_greatestIn h721 h78 hJ hLb.1 (hJ.R hO2 (by omega) hLb.1) ?_
              refine q_iload_n (pc := 102) dX8_least_102 rfl ?_
              refine q_icmp_lt (pc := 103) (by omega) (by omega) 109 dX8_least_103 rfl (fun c103 => ?_) (fun c103 => ?_)
              · refine q_iinc (pc := 109) [some _, some _, some _, some _, some _, some _] dX8_least_109 rfl rfl rfl ?_
                refine q_goto (pc := 112) 40 dX8_least_112 rfl ?_
                rw [if_neg (by omega)] at ez
                exact ih (s + 1) _ f _ (by omega) (by omega) hs h78 ez
              refine q_iload (pc := 106) dX8_least_106 rfl ?_
              refine q_ireturn (pc := 108) dX8_least_108 rfl ?_
              rw [if_pos (by omega)] at ez
              exact zgm k (by unfold o_least; exact (if_pos hv).trans (by rw [← ez])) (hs.wide (by omega) (by omega)) (fin _ _ hs h78)
            exfalso; omega
          | succ q2 ih2 =>
            intro a w2 f g1 hs h78 hJ
            have h721 := (hs.2 72 (by omega)).trans h72
            have h731 := (hs.2 73 (by omega)).trans h73
            have hLa := zlost_b (N := S.1.1) (c := c) (st := s) (m := (a : Int)) (dd := 0) (by omega) (by omega)
            have hmb := zmelt_b (S.1.1 (8 + c)) (S.1.1 3 + (a : Int)) s
            have e : zlost S.1.1 c s ((a + 1 : Nat) : Int) 0 = zlost S.1.1 c s (a : Int) 0 + zmelt (S.1.1 (8 + c)) (S.1.1 3 + (a : Int)) s := by
              unfold zlost
              rw [show (((a + 1 : Nat) : Int)).toNat = a + 1 by omega, show ((a : Int)).toNat = a by omega, zsg, Int.zero_add, Int.zero_mul, Int.zero_add]
            have hih2 := fun w2 f => ih2 (a + 1) w2 f (by omega)
            refine q_iload (pc := 55) dX8_least_55 rfl ?_
            refine q_iload_n (pc := 57) dX8_least_57 rfl ?_
            refine q_icmp_ge (pc := 58) (by omega) (by omega) 98 dX8_least_58 rfl (fun c58 => ?_) (fun c58 => ?_)
            · exfalso; omega
            refine q_aload_n (pc := 61) dX8_least_61 rfl rfl ?_
            refine q_getfield (pc := 62) gf_X8_29 dX8_least_62 (by assumption) rfl ?_
            refine q_iconst (pc := 65) dX8_least_65 ?_
            refine q_aload_n (pc := 66) dX8_least_66 rfl rfl ?_
            refine q_getfield (pc := 67) gf_X8_7 dX8_least_67 (by assumption) rfl ?_
            refine q_bipush (pc := 70) (by decide) dX8_least_70 ?_
            refine q_iload_n (pc := 72) dX8_least_72 rfl ?_
            refine q_iadd (pc := 73) dX8_least_73 ?_
            refine q_iaload (pc := 74) dX8_least_74 (by assumption) (by omega) ?_
            refine q_aload_n (pc := 75) dX8_least_75 rfl rfl ?_
            refine q_getfield (pc := 76) gf_X8_7 dX8_least_76 (by assumption) rfl ?_
            refine q_iconst (pc := 79) dX8_least_79 ?_
            refine q_iaload (pc := 80) dX8_least_80 (by assumption) (by omega) ?_
            refine q_iload (pc := 81) dX8_least_81 rfl ?_
            refine q_iadd (pc := 83) dX8_least_83 ?_
            refine q_iload (pc := 84) dX8_least_84 rfl ?_
            refine q_invokestatic (pc := 86) (d' := d - 1) (mc' := 0) (ms' := 0) (As := [_, _, _]) cl_X8_87 dX8_least_86 rfl rfl (by omega) rfl 0 0 (Nat.le_refl 0) (Nat.le_refl 0) ?_
            refine c_X8_meltsBy (by omega) (by omega) (by omega) ?_
            refine q_invokestatic (pc := 89) (d' := d - 1) (mc' := 0) (ms' := 0) (As := [_, _, _]) cl_X8_90 dX8_least_89 rfl rfl (by omega) rfl 0 0 (Nat.le_refl 0) (Nat.le_refl 0) ?_
            refine c_X8_melt h78 (by omega) (by omega) (fun w3 hs3 h783 => ?_)
            refine q_iinc (pc := 92) [some _, some _, some _, some _, some _, some _] dX8_least_92 rfl rfl rfl ?_
            refine q_goto (pc := 95) 55 dX8_least_95 rfl ?_
            exact hih2 _ _ (hs.tr hs3) h783 (by rw [e]; exact hJ.ml hmb.1 hLa.1)
        refine q_iload (pc := 40) dX8_least_40 rfl ?_
        refine q_bipush (pc := 42) (by decide) dX8_least_42 ?_
        refine q_icmp_ge (pc := 44) (by omega) (by omega) 115 dX8_least_44 rfl (fun c44 => ?_) (fun c44 => ?_)
        · exfalso; omega
        refine q_aload_n (pc := 47) dX8_least_47 rfl rfl ?_
        refine q_iload_n (pc := 48) dX8_least_48 rfl ?_
        refine q_invokevirtual (pc := 49) (d' := d - 1) (mc' := 0) (ms' := 0) (As := [_]) (TX8, 26) cl_X8_248 dX8_least_49 rfl rfl (by assumption) rfl (by omega) rfl 0 0 (Nat.le_refl 0) (Nat.le_refl 0) ?_
        refine c_X8_takeJar h721 h731 h78 (by omega) (fun w2 f2 hs2 h782 hJ2 => ?_)
        refine q_iconst (pc := 52) dX8_least_52 ?_
        refine q_istore (pc := 53) [some _, some _, some _, some _, some _, some _] dX8_least_53 rfl (Nat.le_of_ble_eq_true rfl) rfl ?_
        exact L2 m.toNat 0 _ f2 (by omega) (hs.tr hs2) h782 hJ2
    obtain ⟨f0, h78⟩ := hScr.2.1
    refine zenter [some _, some _, some _, some _, none, none] pn_X8 rfl (Nat.le_of_ble_eq_true rfl) ?_
    refine q_aload_n (pc := 0) dX8_least_0 rfl rfl ?_
    refine q_iload_n (pc := 1) dX8_least_1 rfl ?_
    refine q_invokevirtual (pc := 2) (d' := d - 1) (mc' := 0) (ms' := 0) (As := [_]) (TX8, 26) cl_X8_116 dX8_least_2 rfl rfl (by first | assumption | exact zup_at | exact (zup_ne (by decide)).trans (zup_at) | exact (zup_ne (by decide)).trans (by assumption) | exact (zup_ne (by decide)).trans ((zup_ne (by decide)).trans (zup_at)) | exact (zup_ne (by decide)).trans ((zup_ne (by decide)).trans (by assumption)) | exact (zup_ne (by decide)).trans ((zup_ne (by decide)).trans ((zup_ne (by decide)).trans (zup_at))) | exact (zup_ne (by decide)).trans ((zup_ne (by decide)).trans ((zup_ne (by decide)).trans (by assumption))) | exact (zup_ne (by decide)).trans ((zup_ne (by decide)).trans ((zup_ne (by decide)).trans ((zup_ne (by decide)).trans (zup_at)))) | exact (zup_ne (by decide)).trans ((zup_ne (by decide)).trans ((zup_ne (by decide)).trans ((zup_ne (by decide)).trans (by assumption)))) | exact (zup_ne (by decide)).trans ((zup_ne (by decide)).trans ((zup_ne (by decide)).trans ((zup_ne (by decide)).trans ((zup_ne (by decide)).trans (zup_at))))) | exact (zup_ne (by decide)).trans ((zup_ne (by decide)).trans ((zup_ne (by decide)).trans ((zup_ne (by decide)).trans ((zup_ne (by decide)).trans (by assumption)))))) rfl (by omega) rfl 0 0 (Nat.le_refl 0) (Nat.le_refl 0) ?_
    refine c_X8_isCellar (by omega) h72 h73 hO3 (by omega) ?_
    refine q_ifb_eq (pc := 5) 32 dX8_least_5 rfl (fun c5 => ?_) (fun c5 => ?_)
    · exfalso; omega
    refine q_iload_n (pc := 8) dX8_least_8 rfl ?_
    refine q_i2l (pc := 9) dX8_least_9 (by omega) ?_
    refine q_lconst (pc := 10) (v := 1) dX8_least_10 rfl ?_
    refine q_ldc2_w (pc := 11) tw_5_79 dX8_least_11 ?_
    refine q_invokestatic (pc := 14) (d' := d - 1) (mc' := 0) (ms' := 0) (As := [_, _, _]) cl_X8_60 dX8_least_14 rfl rfl (by omega) rfl 0 0 (Nat.le_refl 0) (Nat.le_refl 0) ?_
    refine c_X8_in (by omega) (by omega) (by omega) ?_
    refine q_ifb_eq (pc := 17) 32 dX8_least_17 rfl (fun c17 => ?_) (fun c17 => ?_)
    · exfalso; omega
    refine q_iload_n (pc := 20) dX8_least_20 rfl ?_
    refine q_i2l (pc := 21) dX8_least_21 (by omega) ?_
    refine q_lconst (pc := 22) (v := 0) dX8_least_22 rfl ?_
    refine q_ldc2_w (pc := 23) tw_5_201 dX8_least_23 ?_
    refine q_invokestatic (pc := 26) (d' := d - 1) (mc' := 0) (ms' := 0) (As := [_, _, _]) cl_X8_60 dX8_least_26 rfl rfl (by omega) rfl 0 0 (Nat.le_refl 0) (Nat.le_refl 0) ?_
    refine c_X8_in (by omega) (by omega) (by omega) ?_
    refine q_ifb_ne (pc := 29) 37 dX8_least_29 rfl (fun c29 => ?_) (fun c29 => ?_)
    · refine q_iconst (pc := 37) dX8_least_37 ?_
      refine q_istore (pc := 38) [some _, some _, some _, some _, some _, none] dX8_least_38 rfl (Nat.le_of_ble_eq_true rfl) rfl ?_
      exact L1 10 0 _ f0 _ (by omega) (by omega) zSame.rf h78 rfl
    exfalso; omega
  · have hz0 := hv
    refine zenter [some _, some _, some _, some _, none, none] pn_X8 rfl (Nat.le_of_ble_eq_true rfl) ?_
    refine q_aload_n (pc := 0) dX8_least_0 rfl rfl ?_
    refine q_iload_n (pc := 1) dX8_least_1 rfl ?_
    refine q_invokevirtual (pc := 2) (d' := d - 1) (mc' := 0) (ms' := 0) (As := [_]) (TX8, 26) cl_X8_116 dX8_least_2 rfl rfl (by first | assumption | exact zup_at | exact (zup_ne (by decide)).trans (zup_at) | exact (zup_ne (by decide)).trans (by assumption) | exact (zup_ne (by decide)).trans ((zup_ne (by decide)).trans (zup_at)) | exact (zup_ne (by decide)).trans ((zup_ne (by decide)).trans (by assumption)) | exact (zup_ne (by decide)).trans ((zup_ne (by decide)).trans ((zup_ne (by decide)).trans (zup_at))) | exact (zup_ne (by decide)).trans ((zup_ne (by decide)).trans ((zup_ne (by decide)).trans (by assumption))) | exact (zup_ne (by decide)).trans ((zup_ne (by decide)).trans ((zup_ne (by decide)).trans ((zup_ne (by decide)).trans (zup_at)))) | exact (zup_ne (by decide)).trans ((zup_ne (by decide)).trans ((zup_ne (by decide)).trans ((zup_ne (by decide)).trans (by assumption)))) | exact (zup_ne (by decide)).trans ((zup_ne (by decide)).trans ((zup_ne (by decide)).trans ((zup_ne (by decide)).trans ((zup_ne (by decide)).trans (zup_at))))) | exact (zup_ne (by decide)).trans ((zup_ne (by decide)).trans ((zup_ne (by decide)).trans ((zup_ne (by decide)).trans ((zup_ne (by decide)).trans (by assumption)))))) rfl (by omega) rfl 0 0 (Nat.le_refl 0) (Nat.le_refl 0) ?_
    refine c_X8_isCellar (by omega) h72 h73 hO3 (by omega) ?_
    refine q_ifb_eq (pc := 5) 32 dX8_least_5 rfl (fun c5 => ?_) (fun c5 => ?_)
    · refine q_aload_n (pc := 32) dX8_least_32 rfl rfl ?_
      refine q_invokevirtual (pc := 33) (d' := d - 1) (mc' := 0) (ms' := 0) (As := []) (TX8, 26) cl_X8_103 dX8_least_33 rfl rfl (by first | assumption | exact zup_at | exact (zup_ne (by decide)).trans (zup_at) | exact (zup_ne (by decide)).trans (by assumption) | exact (zup_ne (by decide)).trans ((zup_ne (by decide)).trans (zup_at)) | exact (zup_ne (by decide)).trans ((zup_ne (by decide)).trans (by assumption)) | exact (zup_ne (by decide)).trans ((zup_ne (by decide)).trans ((zup_ne (by decide)).trans (zup_at))) | exact (zup_ne (by decide)).trans ((zup_ne (by decide)).trans ((zup_ne (by decide)).trans (by assumption))) | exact (zup_ne (by decide)).trans ((zup_ne (by decide)).trans ((zup_ne (by decide)).trans ((zup_ne (by decide)).trans (zup_at)))) | exact (zup_ne (by decide)).trans ((zup_ne (by decide)).trans ((zup_ne (by decide)).trans ((zup_ne (by decide)).trans (by assumption)))) | exact (zup_ne (by decide)).trans ((zup_ne (by decide)).trans ((zup_ne (by decide)).trans ((zup_ne (by decide)).trans ((zup_ne (by decide)).trans (zup_at))))) | exact (zup_ne (by decide)).trans ((zup_ne (by decide)).trans ((zup_ne (by decide)).trans ((zup_ne (by decide)).trans ((zup_ne (by decide)).trans (by assumption)))))) rfl (by omega) rfl 0 0 (Nat.le_refl 0) (Nat.le_refl 0) ?_
      refine c_X8_bad hC (fun w9 hs9 hC9 => ?_)
      refine q_ireturn (pc := 36) dX8_least_36 rfl ?_
      exact zgm k (by unfold o_least; exact ((if_neg (by omega)).trans rfl)) hs9 hC9
    refine q_iload_n (pc := 8) dX8_least_8 rfl ?_
    refine q_i2l (pc := 9) dX8_least_9 (by omega) ?_
    refine q_lconst (pc := 10) (v := 1) dX8_least_10 rfl ?_
    refine q_ldc2_w (pc := 11) tw_5_79 dX8_least_11 ?_
    refine q_invokestatic (pc := 14) (d' := d - 1) (mc' := 0) (ms' := 0) (As := [_, _, _]) cl_X8_60 dX8_least_14 rfl rfl (by omega) rfl 0 0 (Nat.le_refl 0) (Nat.le_refl 0) ?_
    refine c_X8_in (by omega) (by omega) (by omega) ?_
    refine q_ifb_eq (pc := 17) 32 dX8_least_17 rfl (fun c17 => ?_) (fun c17 => ?_)
    · refine q_aload_n (pc := 32) dX8_least_32 rfl rfl ?_
      refine q_invokevirtual (pc := 33) (d' := d - 1) (mc' := 0) (ms' := 0) (As := []) (TX8, 26) cl_X8_103 dX8_least_33 rfl rfl (by first | assumption | exact zup_at | exact (zup_ne (by decide)).trans (zup_at) | exact (zup_ne (by decide)).trans (by assumption) | exact (zup_ne (by decide)).trans ((zup_ne (by decide)).trans (zup_at)) | exact (zup_ne (by decide)).trans ((zup_ne (by decide)).trans (by assumption)) | exact (zup_ne (by decide)).trans ((zup_ne (by decide)).trans ((zup_ne (by decide)).trans (zup_at))) | exact (zup_ne (by decide)).trans ((zup_ne (by decide)).trans ((zup_ne (by decide)).trans (by assumption))) | exact (zup_ne (by decide)).trans ((zup_ne (by decide)).trans ((zup_ne (by decide)).trans ((zup_ne (by decide)).trans (zup_at)))) | exact (zup_ne (by decide)).trans ((zup_ne (by decide)).trans ((zup_ne (by decide)).trans ((zup_ne (by decide)).trans (by assumption)))) | exact (zup_ne (by decide)).trans ((zup_ne (by decide)).trans ((zup_ne (by decide)).trans ((zup_ne (by decide)).trans ((zup_ne (by decide)).trans (zup_at))))) | exact (zup_ne (by decide)).trans ((zup_ne (by decide)).trans ((zup_ne (by decide)).trans ((zup_ne (by decide)).trans ((zup_ne (by decide)).trans (by assumption)))))) rfl (by omega) rfl 0 0 (Nat.le_refl 0) (Nat.le_refl 0) ?_
      refine c_X8_bad hC (fun w9 hs9 hC9 => ?_)
      refine q_ireturn (pc := 36) dX8_least_36 rfl ?_
      exact zgm k (by unfold o_least; exact ((if_neg (by omega)).trans rfl)) hs9 hC9
    refine q_iload_n (pc := 20) dX8_least_20 rfl ?_
    refine q_i2l (pc := 21) dX8_least_21 (by omega) ?_
    refine q_lconst (pc := 22) (v := 0) dX8_least_22 rfl ?_
    refine q_ldc2_w (pc := 23) tw_5_201 dX8_least_23 ?_
    refine q_invokestatic (pc := 26) (d' := d - 1) (mc' := 0) (ms' := 0) (As := [_, _, _]) cl_X8_60 dX8_least_26 rfl rfl (by omega) rfl 0 0 (Nat.le_refl 0) (Nat.le_refl 0) ?_
    refine c_X8_in (by omega) (by omega) (by omega) ?_
    refine q_ifb_ne (pc := 29) 37 dX8_least_29 rfl (fun c29 => ?_) (fun c29 => ?_)
    · exfalso; omega
    refine q_aload_n (pc := 32) dX8_least_32 rfl rfl ?_
    refine q_invokevirtual (pc := 33) (d' := d - 1) (mc' := 0) (ms' := 0) (As := []) (TX8, 26) cl_X8_103 dX8_least_33 rfl rfl (by first | assumption | exact zup_at | exact (zup_ne (by decide)).trans (zup_at) | exact (zup_ne (by decide)).trans (by assumption) | exact (zup_ne (by decide)).trans ((zup_ne (by decide)).trans (zup_at)) | exact (zup_ne (by decide)).trans ((zup_ne (by decide)).trans (by assumption)) | exact (zup_ne (by decide)).trans ((zup_ne (by decide)).trans ((zup_ne (by decide)).trans (zup_at))) | exact (zup_ne (by decide)).trans ((zup_ne (by decide)).trans ((zup_ne (by decide)).trans (by assumption))) | exact (zup_ne (by decide)).trans ((zup_ne (by decide)).trans ((zup_ne (by decide)).trans ((zup_ne (by decide)).trans (zup_at)))) | exact (zup_ne (by decide)).trans ((zup_ne (by decide)).trans ((zup_ne (by decide)).trans ((zup_ne (by decide)).trans (by assumption)))) | exact (zup_ne (by decide)).trans ((zup_ne (by decide)).trans ((zup_ne (by decide)).trans ((zup_ne (by decide)).trans ((zup_ne (by decide)).trans (zup_at))))) | exact (zup_ne (by decide)).trans ((zup_ne (by decide)).trans ((zup_ne (by decide)).trans ((zup_ne (by decide)).trans ((zup_ne (by decide)).trans (by assumption)))))) rfl (by omega) rfl 0 0 (Nat.le_refl 0) (Nat.le_refl 0) ?_
    refine c_X8_bad hC (fun w9 hs9 hC9 => ?_)
    refine q_ireturn (pc := 36) dX8_least_36 rfl ?_
    exact zgm k (by unfold o_least; exact ((if_neg (by omega)).trans rfl)) hs9 hC9
set_option maxRecDepth 100000 in
set_option maxHeartbeats 8000000 in
theorem c_X8_doors {r x : Int} (hd : 6 ≤ d) (hC : zMo g w S) (hO : zOKS S) (h_r : zR32 r) (h_x : zR32 x) (k : ∀ w', zSame w w' 72 16 → zMo g w' (o_doors S r x).2 → K (some (zI (o_doors S r x).1)) w') : zCall g d 0 0 mX8_doors [zR g 72, zI r, zI x] w K := by
  obtain ⟨⟨p0, p1, p2, p3, p4, it, sm, h72⟩, h73, h74, h75, h76, hScr, h84, h85, h86, h87⟩ := id hC
  have hO1 := hO.1
  have hO2 := hO1.1
  have hO3 := hO2.1
  by_cases hv : (1 ≤ r ∧ r ≤ 9) ∧ (0 ≤ x ∧ x ≤ 1)
  · have fin : ∀ (w1 : zWd) (f : Int → Int), zSame w w1 78 1 → w1.1 78 = some (.inr (false, 10, f)) → zMo g w1 S := fun w1 f hs h => hC.scr (hs.wide (by omega) (by omega)) (hScr.p78 hs h)
    have L1 : ∀ (q m : Nat) (w1 : zWd) (f1 : Int → Int) (x6 x7 x8 : Option Value), (m : Int) + (q : Int) = S.1.1 0 → zSame w w1 78 1 → w1.1 78 = some (.inr (false, 10, f1)) → zRuns g d mX8_doors 0 0 36 [some (zR g 72), some (zI r), some (zI x), some (zI (zbd S.1.1 r m)), some (zI (if zbd S.1.1 r m = -1 then 1000000 else zlbd S.1.1 (zbd S.1.1 r m) r)), some (zI (m : Int)), x6, x7, x8] [] w1 K := by
      intro q
      induction q with
      | zero =>
        intro m w1 f1 x6 x7 x8 h1 hs h78
        have h721 := (hs.2 72 (by omega)).trans h72
        have h731 := (hs.2 73 (by omega)).trans h73
        have hb := zbd_b (N := S.1.1) (r := r) m
        have e : m = (S.1.1 0).toNat := by omega
        refine q_iload (pc := 36) dX8_doors_36 rfl ?_
        refine q_aload_n (pc := 38) dX8_doors_38 rfl rfl ?_
        refine q_getfield (pc := 39) gf_X8_7 dX8_doors_39 (by assumption) rfl ?_
        refine q_iconst (pc := 42) dX8_doors_42 ?_
        refine q_iaload (pc := 43) dX8_doors_43 (by assumption) (by omega) ?_
        refine q_icmp_ge (pc := 44) (by omega) (by omega) 142 dX8_doors_44 rfl (fun c44 => ?_) (fun c44 => ?_)
        · refine q_iload_n (pc := 142) dX8_doors_142 rfl ?_
          refine q_if_lt (pc := 143) (by omega) 150 dX8_doors_143 rfl (fun c143 => ?_) (fun c143 => ?_)
          · refine q_iload_n (pc := 150) dX8_doors_150 rfl ?_
            refine q_goto (pc := 151) 156 dX8_doors_151 rfl ?_
            refine q_ireturn (pc := 156) dX8_doors_156 rfl ?_
            subst e; first | exact zgm k (by unfold o_doors; exact (if_pos hv).trans (by rw [if_pos (by omega)])) (hs.wide (by omega) (by omega)) (fin _ _ hs h78) | (rw [if_neg (by omega)]; exact zgm k (by unfold o_doors; exact (if_pos hv).trans (by rw [if_neg (by omega)])) (hs.wide (by omega) (by omega)) (fin _ _ hs h78))
          refine q_iload_n (pc := 146) dX8_doors_146 rfl ?_
          refine q_if_ne (pc := 147) (by omega) 154 dX8_doors_147 rfl (fun c147 => ?_) (fun c147 => ?_)
          · refine q_iload (pc := 154) dX8_doors_154 rfl ?_
            refine q_ireturn (pc := 156) dX8_doors_156 rfl ?_
            subst e; first | exact zgm k (by unfold o_doors; exact (if_pos hv).trans (by rw [if_pos (by omega)])) (hs.wide (by omega) (by omega)) (fin _ _ hs h78) | (rw [if_neg (by omega)]; exact zgm k (by unfold o_doors; exact (if_pos hv).trans (by rw [if_neg (by omega)])) (hs.wide (by omega) (by omega)) (fin _ _ hs h78))
          refine q_iload_n (pc := 150) dX8_doors_150 rfl ?_
          refine q_goto (pc := 151) 156 dX8_doors_151 rfl ?_
          refine q_ireturn (pc := 156) dX8_doors_156 rfl ?_
          subst e; first | exact zgm k (by unfold o_doors; exact (if_pos hv).trans (by rw [if_pos (by omega)])) (hs.wide (by omega) (by omega)) (fin _ _ hs h78) | (rw [if_neg (by omega)]; exact zgm k (by unfold o_doors; exact (if_pos hv).trans (by rw [if_neg (by omega)])) (hs.wide (by omega) (by omega)) (fin _ _ hs h78))
        exfalso; omega
      | succ q ih =>
        intro m w1 f1 x6 x7 x8 h1 hs h78
        have h721 := (hs.2 72 (by omega)).trans h72
        have h731 := (hs.2 73 (by omega)).trans h73
        have hb := zbd_b (N := S.1.1) (r := r) m
        have hkd := hO2.2.1 (m : Int) (by omega) (by omega)
        have hcb := zcost_b (S.1.1 (8 + (m : Int)))
        have hz1 := zfrom_b (r := r) hO2 (c := (m : Int)) (by omega)
        have hz2 := zfrom_b (r := r + zcost (S.1.1 (8 + (m : Int)))) hO2 (c := (m : Int)) (by omega)
        have hld : zlbd S.1.1 (m : Int) r = zfrom S.1.1 (m : Int) r - zfrom S.1.1 (m : Int) (r + zcost (S.1.1 (8 + (m : Int)))) := rfl
        have hlo : zbd S.1.1 r m ≠ -1 → -891 ≤ zlbd S.1.1 (zbd S.1.1 r m) r ∧ zlbd S.1.1 (zbd S.1.1 r m) r ≤ 891 := fun z => by
          have hz3 := zfrom_b (r := r) hO2 (c := zbd S.1.1 r m) (by omega)
          have hz4 := zfrom_b (r := r + zcost (S.1.1 (8 + zbd S.1.1 r m))) hO2 (c := zbd S.1.1 r m) (by omega)
          unfold zlbd; omega
        have hih := fun a b c => ih (m + 1) a b c
        rw [zbd] at hih
        generalize hF : (if zbd S.1.1 r m = -1 then 1000000 else zlbd S.1.1 (zbd S.1.1 r m) r) = F
        have hFb : zR32 F := by rw [← hF]; split <;> omega
        have hFc : (zbd S.1.1 r m = -1 ∨ zlbd S.1.1 (m : Int) r < zlbd S.1.1 (zbd S.1.1 r m) r) ↔ zlbd S.1.1 (m : Int) r < F := by
          rw [← hF]; split <;> omega
        refine q_iload (pc := 36) dX8_doors_36 rfl ?_
        refine q_aload_n (pc := 38) dX8_doors_38 rfl rfl ?_
        refine q_getfield (pc := 39) gf_X8_7 dX8_doors_39 (by assumption) rfl ?_
        refine q_iconst (pc := 42) dX8_doors_42 ?_
        refine q_iaload (pc := 43) dX8_doors_43 (by assumption) (by omega) ?_
        refine q_icmp_ge (pc := 44) (by omega) (by omega) 142 dX8_doors_44 rfl (fun c44 => ?_) (fun c44 => ?_)
        · exfalso; omega
        refine q_aload_n (pc := 47) dX8_doors_47 rfl rfl ?_
        refine q_iload (pc := 48) dX8_doors_48 rfl ?_
        refine q_invokevirtual (pc := 50) (d' := d - 1) (mc' := 0) (ms' := 0) (As := [_]) (TX8, 26) cl_X8_248 dX8_doors_50 rfl rfl (by assumption) rfl (by omega) rfl 0 0 (Nat.le_refl 0) (Nat.le_refl 0) ?_
        refine c_X8_takeJar h721 h731 h78 (by omega) (fun w2 f2 hs2 h782 hJ2 => ?_)
        have hs2 := hs.tr hs2
        have h722 := (hs2.2 72 (by omega)).trans h72
        have h732 := (hs2.2 73 (by omega)).trans h73
        refine q_aload_n (pc := 53) dX8_doors_53 rfl rfl ?_
        refine q_iload_n (pc := 54) dX8_doors_54 rfl ?_
        refine q_invokevirtual (pc := 55) (d' := d - 1) (mc' := 0) (ms' := 0) (As := [_]) (TX8, 26) cl_X8_271 dX8_doors_55 rfl rfl (by assumption) rfl (by omega) rfl 0 0 (Nat.le_refl 0) (Nat.le_refl 0) ?_
        refine c_X8_manyFrom h722 h782 hJ2 (by omega) (by omega) ?_
        rw [Int.add_zero]
        refine q_istore (pc := 58) [some _, some _, some _, some _, some _, some _, some _, _, _] dX8_doors_58 rfl (Nat.le_of_ble_eq_true rfl) rfl ?_
        refine q_aload_n (pc := 60) dX8_doors_60 rfl rfl ?_
        refine q_getfield (pc := 61) gf_X8_29 dX8_doors_61 (by assumption) rfl ?_
        refine q_iconst (pc := 64) dX8_doors_64 ?_
        refine q_aload_n (pc := 65) dX8_doors_65 rfl rfl ?_
        refine q_getfield (pc := 66) gf_X8_7 dX8_doors_66 (by assumption) rfl ?_
        refine q_bipush (pc := 69) (by decide) dX8_doors_69 ?_
        refine q_iload (pc := 71) dX8_doors_71 rfl ?_
        refine q_iadd (pc := 73) dX8_doors_73 ?_
        refine q_iaload (pc := 74) dX8_doors_74 (by assumption) (by omega) ?_
        refine q_invokestatic (pc := 75) (d' := d - 1) (mc' := 0) (ms' := 0) (As := [_]) cl_X8_217 dX8_doors_75 rfl rfl (by omega) rfl 0 0 (Nat.le_refl 0) (Nat.le_refl 0) ?_
        refine c_X8_costBy (by omega) ?_
        refine q_invokestatic (pc := 78) (d' := d - 1) (mc' := 0) (ms' := 0) (As := [_, _, _]) cl_X8_90 dX8_doors_78 rfl rfl (by omega) rfl 0 0 (Nat.le_refl 0) (Nat.le_refl 0) ?_
        refine c_X8_melt h782 (by omega) (by omega) (fun w3 hs3 h783 => ?_)
        have hJ3 := hJ2.ml hcb.1 (by omega)
        have hs3 := hs2.tr hs3
        have h723 := (hs3.2 72 (by omega)).trans h72
        refine q_iload (pc := 81) dX8_doors_81 rfl ?_
        refine q_aload_n (pc := 83) dX8_doors_83 rfl rfl ?_
        refine q_iload_n (pc := 84) dX8_doors_84 rfl ?_
        refine q_invokevirtual (pc := 85) (d' := d - 1) (mc' := 0) (ms' := 0) (As := [_]) (TX8, 26) cl_X8_271 dX8_doors_85 rfl rfl (by assumption) rfl (by omega) rfl 0 0 (Nat.le_refl 0) (Nat.le_refl 0) ?_
        refine c_X8_manyFrom h723 h783 hJ3 (by omega) (by omega) ?_
        rw [Int.zero_add]
        refine q_isub (pc := 88) dX8_doors_88 ?_
        rw [← hld]
        refine q_istore (pc := 89) [some _, some _, some _, some _, some _, some _, some _, some _, _] dX8_doors_89 rfl (Nat.le_of_ble_eq_true rfl) rfl ?_
        refine q_iload (pc := 91) dX8_doors_91 rfl ?_
        refine q_if_le (pc := 93) (by omega) 107 dX8_doors_93 rfl (fun c93 => ?_) (fun c93 => ?_)
        · refine q_iconst (pc := 107) dX8_doors_107 ?_
          refine q_istore (pc := 108) [some _, some _, some _, some _, some _, some _, some _, some _, some _] dX8_doors_108 rfl (Nat.le_of_ble_eq_true rfl) rfl ?_
          refine q_iload (pc := 110) dX8_doors_110 rfl ?_
          refine q_if_eq (pc := 112) (by omega) 120 dX8_doors_112 rfl (fun c112 => ?_) (fun c112 => ?_)
          · refine q_iload_n (pc := 120) dX8_doors_120 rfl ?_
            refine q_istore_n (pc := 121) [some _, some _, some _, some _, some _, some _, some _, some _, some _] dX8_doors_121 rfl (Nat.le_of_ble_eq_true rfl) rfl ?_
            refine q_iload (pc := 122) dX8_doors_122 rfl ?_
            refine q_if_eq (pc := 124) (by omega) 132 dX8_doors_124 rfl (fun c124 => ?_) (fun c124 => ?_)
            · refine q_iload (pc := 132) dX8_doors_132 rfl ?_
              refine q_istore (pc := 134) [some _, some _, some _, some _, some _, some _, some _, some _, some _] dX8_doors_134 rfl (Nat.le_of_ble_eq_true rfl) rfl ?_
              refine q_iinc (pc := 136) [some _, some _, some _, some _, some _, some _, some _, some _, some _] dX8_doors_136 rfl rfl rfl ?_
              refine q_goto (pc := 139) 36 dX8_doors_139 rfl ?_
              first | (exfalso; omega; done) | (rw [if_pos ⟨by omega, hFc.mpr (by omega)⟩, if_neg (by omega)] at hih; exact hih _ _ _ _ _ (by omega) hs3 h783) | (rw [if_neg (fun z => by have h9 := hFc.mp z.2; have h8 := z.1; omega), hF] at hih; exact hih _ _ _ _ _ (by omega) hs3 h783)
            refine q_iload (pc := 127) dX8_doors_127 rfl ?_
            refine q_goto (pc := 129) 134 dX8_doors_129 rfl ?_
            refine q_istore (pc := 134) [some _, some _, some _, some _, some _, some _, some _, some _, some _] dX8_doors_134 rfl (Nat.le_of_ble_eq_true rfl) rfl ?_
            refine q_iinc (pc := 136) [some _, some _, some _, some _, some _, some _, some _, some _, some _] dX8_doors_136 rfl rfl rfl ?_
            refine q_goto (pc := 139) 36 dX8_doors_139 rfl ?_
            first | (exfalso; omega; done) | (rw [if_pos ⟨by omega, hFc.mpr (by omega)⟩, if_neg (by omega)] at hih; exact hih _ _ _ _ _ (by omega) hs3 h783) | (rw [if_neg (fun z => by have h9 := hFc.mp z.2; have h8 := z.1; omega), hF] at hih; exact hih _ _ _ _ _ (by omega) hs3 h783)
          refine q_iload (pc := 115) dX8_doors_115 rfl ?_
          refine q_goto (pc := 117) 121 dX8_doors_117 rfl ?_
          refine q_istore_n (pc := 121) [some _, some _, some _, some _, some _, some _, some _, some _, some _] dX8_doors_121 rfl (Nat.le_of_ble_eq_true rfl) rfl ?_
          refine q_iload (pc := 122) dX8_doors_122 rfl ?_
          refine q_if_eq (pc := 124) (by omega) 132 dX8_doors_124 rfl (fun c124 => ?_) (fun c124 => ?_)
          · refine q_iload (pc := 132) dX8_doors_132 rfl ?_
            refine q_istore (pc := 134) [some _, some _, some _, some _, some _, some _, some _, some _, some _] dX8_doors_134 rfl (Nat.le_of_ble_eq_true rfl) rfl ?_
            refine q_iinc (pc := 136) [some _, some _, some _, some _, some _, some _, some _, some _, some _] dX8_doors_136 rfl rfl rfl ?_
            refine q_goto (pc := 139) 36 dX8_doors_139 rfl ?_
            first | (exfalso; omega; done) | (rw [if_pos ⟨by omega, hFc.mpr (by omega)⟩, if_neg (by omega)] at hih; exact hih _ _ _ _ _ (by omega) hs3 h783) | (rw [if_neg (fun z => by have h9 := hFc.mp z.2; have h8 := z.1; omega), hF] at hih; exact hih _ _ _ _ _ (by omega) hs3 h783)
          refine q_iload (pc := 127) dX8_doors_127 rfl ?_
          refine q_goto (pc := 129) 134 dX8_doors_129 rfl ?_
          refine q_istore (pc := 134) [some _, some _, some _, some _, some _, some _, some _, some _, some _] dX8_doors_134 rfl (Nat.le_of_ble_eq_true rfl) rfl ?_
          refine q_iinc (pc := 136) [some _, some _, some _, some _, some _, some _, some _, some _, some _] dX8_doors_136 rfl rfl rfl ?_
          refine q_goto (pc := 139) 36 dX8_doors_139 rfl ?_
          first | (exfalso; omega; done) | (rw [if_pos ⟨by omega, hFc.mpr (by omega)⟩, if_neg (by omega)] at hih; exact hih _ _ _ _ _ (by omega) hs3 h783) | (rw [if_neg (fun z => by have h9 := hFc.mp z.2; have h8 := z.1; omega), hF] at hih; exact hih _ _ _ _ _ (by omega) hs3 h783)
        refine q_iload (pc := 96) dX8_doors_96 rfl ?_
        refine q_iload (pc := 98) dX8_doors_98 rfl ?_
        refine q_icmp_ge (pc := 100) (by omega) (by omega) 107 dX8_doors_100 rfl (fun c100 => ?_) (fun c100 => ?_)
        · refine q_iconst (pc := 107) dX8_doors_107 ?_
          refine q_istore (pc := 108) [some _, some _, some _, some _, some _, some _, some _, some _, some _] dX8_doors_108 rfl (Nat.le_of_ble_eq_true rfl) rfl ?_
          refine q_iload (pc := 110) dX8_doors_110 rfl ?_
          refine q_if_eq (pc := 112) (by omega) 120 dX8_doors_112 rfl (fun c112 => ?_) (fun c112 => ?_)
          · refine q_iload_n (pc := 120) dX8_doors_120 rfl ?_
            refine q_istore_n (pc := 121) [some _, some _, some _, some _, some _, some _, some _, some _, some _] dX8_doors_121 rfl (Nat.le_of_ble_eq_true rfl) rfl ?_
            refine q_iload (pc := 122) dX8_doors_122 rfl ?_
            refine q_if_eq (pc := 124) (by omega) 132 dX8_doors_124 rfl (fun c124 => ?_) (fun c124 => ?_)
            · refine q_iload (pc := 132) dX8_doors_132 rfl ?_
              refine q_istore (pc := 134) [some _, some _, some _, some _, some _, some _, some _, some _, some _] dX8_doors_134 rfl (Nat.le_of_ble_eq_true rfl) rfl ?_
              refine q_iinc (pc := 136) [some _, some _, some _, some _, some _, some _, some _, some _, some _] dX8_doors_136 rfl rfl rfl ?_
              refine q_goto (pc := 139) 36 dX8_doors_139 rfl ?_
              first | (exfalso; omega; done) | (rw [if_pos ⟨by omega, hFc.mpr (by omega)⟩, if_neg (by omega)] at hih; exact hih _ _ _ _ _ (by omega) hs3 h783) | (rw [if_neg (fun z => by have h9 := hFc.mp z.2; have h8 := z.1; omega), hF] at hih; exact hih _ _ _ _ _ (by omega) hs3 h783)
            refine q_iload (pc := 127) dX8_doors_127 rfl ?_
            refine q_goto (pc := 129) 134 dX8_doors_129 rfl ?_
            refine q_istore (pc := 134) [some _, some _, some _, some _, some _, some _, some _, some _, some _] dX8_doors_134 rfl (Nat.le_of_ble_eq_true rfl) rfl ?_
            refine q_iinc (pc := 136) [some _, some _, some _, some _, some _, some _, some _, some _, some _] dX8_doors_136 rfl rfl rfl ?_
            refine q_goto (pc := 139) 36 dX8_doors_139 rfl ?_
            first | (exfalso; omega; done) | (rw [if_pos ⟨by omega, hFc.mpr (by omega)⟩, if_neg (by omega)] at hih; exact hih _ _ _ _ _ (by omega) hs3 h783) | (rw [if_neg (fun z => by have h9 := hFc.mp z.2; have h8 := z.1; omega), hF] at hih; exact hih _ _ _ _ _ (by omega) hs3 h783)
          refine q_iload (pc := 115) dX8_doors_115 rfl ?_
          refine q_goto (pc := 117) 121 dX8_doors_117 rfl ?_
          refine q_istore_n (pc := 121) [some _, some _, some _, some _, some _, some _, some _, some _, some _] dX8_doors_121 rfl (Nat.le_of_ble_eq_true rfl) rfl ?_
          refine q_iload (pc := 122) dX8_doors_122 rfl ?_
          refine q_if_eq (pc := 124) (by omega) 132 dX8_doors_124 rfl (fun c124 => ?_) (fun c124 => ?_)
          · refine q_iload (pc := 132) dX8_doors_132 rfl ?_
            refine q_istore (pc := 134) [some _, some _, some _, some _, some _, some _, some _, some _, some _] dX8_doors_134 rfl (Nat.le_of_ble_eq_true rfl) rfl ?_
            refine q_iinc (pc := 136) [some _, some _, some _, some _, some _, some _, some _, some _, some _] dX8_doors_136 rfl rfl rfl ?_
            refine q_goto (pc := 139) 36 dX8_doors_139 rfl ?_
            first | (exfalso; omega; done) | (rw [if_pos ⟨by omega, hFc.mpr (by omega)⟩, if_neg (by omega)] at hih; exact hih _ _ _ _ _ (by omega) hs3 h783) | (rw [if_neg (fun z => by have h9 := hFc.mp z.2; have h8 := z.1; omega), hF] at hih; exact hih _ _ _ _ _ (by omega) hs3 h783)
          refine q_iload (pc := 127) dX8_doors_127 rfl ?_
          refine q_goto (pc := 129) 134 dX8_doors_129 rfl ?_
          refine q_istore (pc := 134) [some _, some _, some _, some _, some _, some _, some _, some _, some _] dX8_doors_134 rfl (Nat.le_of_ble_eq_true rfl) rfl ?_
          refine q_iinc (pc := 136) [some _, some _, some _, some _, some _, some _, some _, some _, some _] dX8_doors_136 rfl rfl rfl ?_
          refine q_goto (pc := 139) 36 dX8_doors_139 rfl ?_
          first | (exfalso; omega; done) | (rw [if_pos ⟨by omega, hFc.mpr (by omega)⟩, if_neg (by omega)] at hih; exact hih _ _ _ _ _ (by omega) hs3 h783) | (rw [if_neg (fun z => by have h9 := hFc.mp z.2; have h8 := z.1; omega), hF] at hih; exact hih _ _ _ _ _ (by omega) hs3 h783)
        refine q_iconst (pc := 103) dX8_doors_103 ?_
        refine q_goto (pc := 104) 108 dX8_doors_104 rfl ?_
        refine q_istore (pc := 108) [some _, some _, some _, some _, some _, some _, some _, some _, some _] dX8_doors_108 rfl (Nat.le_of_ble_eq_true rfl) rfl ?_
        refine q_iload (pc := 110) dX8_doors_110 rfl ?_
        refine q_if_eq (pc := 112) (by omega) 120 dX8_doors_112 rfl (fun c112 => ?_) (fun c112 => ?_)
        · refine q_iload_n (pc := 120) dX8_doors_120 rfl ?_
          refine q_istore_n (pc := 121) [some _, some _, some _, some _, some _, some _, some _, some _, some _] dX8_doors_121 rfl (Nat.le_of_ble_eq_true rfl) rfl ?_
          refine q_iload (pc := 122) dX8_doors_122 rfl ?_
          refine q_if_eq (pc := 124) (by omega) 132 dX8_doors_124 rfl (fun c124 => ?_) (fun c124 => ?_)
          · refine q_iload (pc := 132) dX8_doors_132 rfl ?_
            refine q_istore (pc := 134) [some _, some _, some _, some _, some _, some _, some _, some _, some _] dX8_doors_134 rfl (Nat.le_of_ble_eq_true rfl) rfl ?_
            refine q_iinc (pc := 136) [some _, some _, some _, some _, some _, some _, some _, some _, some _] dX8_doors_136 rfl rfl rfl ?_
            refine q_goto (pc := 139) 36 dX8_doors_139 rfl ?_
            first | (exfalso; omega; done) | (rw [if_pos ⟨by omega, hFc.mpr (by omega)⟩, if_neg (by omega)] at hih; exact hih _ _ _ _ _ (by omega) hs3 h783) | (rw [if_neg (fun z => by have h9 := hFc.mp z.2; have h8 := z.1; omega), hF] at hih; exact hih _ _ _ _ _ (by omega) hs3 h783)
          refine q_iload (pc := 127) dX8_doors_127 rfl ?_
          refine q_goto (pc := 129) 134 dX8_doors_129 rfl ?_
          refine q_istore (pc := 134) [some _, some _, some _, some _, some _, some _, some _, some _, some _] dX8_doors_134 rfl (Nat.le_of_ble_eq_true rfl) rfl ?_
          refine q_iinc (pc := 136) [some _, some _, some _, some _, some _, some _, some _, some _, some _] dX8_doors_136 rfl rfl rfl ?_
          refine q_goto (pc := 139) 36 dX8_doors_139 rfl ?_
          first | (exfalso; omega; done) | (rw [if_pos ⟨by omega, hFc.mpr (by omega)⟩, if_neg (by omega)] at hih; exact hih _ _ _ _ _ (by omega) hs3 h783) | (rw [if_neg (fun z => by have h9 := hFc.mp z.2; have h8 := z.1; omega), hF] at hih; exact hih _ _ _ _ _ (by omega) hs3 h783)
        refine q_iload (pc := 115) dX8_doors_115 rfl ?_
        refine q_goto (pc := 117) 121 dX8_doors_117 rfl ?_
        refine q_istore_n (pc := 121) [some _, some _, some _, some _, some _, some _, some _, some _, some _] dX8_doors_121 rfl (Nat.le_of_ble_eq_true rfl) rfl ?_
        refine q_iload (pc := 122) dX8_doors_122 rfl ?_
        refine q_if_eq (pc := 124) (by omega) 132 dX8_doors_124 rfl (fun c124 => ?_) (fun c124 => ?_)
        · refine q_iload (pc := 132) dX8_doors_132 rfl ?_
          refine q_istore (pc := 134) [some _, some _, some _, some _, some _, some _, some _, some _, some _] dX8_doors_134 rfl (Nat.le_of_ble_eq_true rfl) rfl ?_
          refine q_iinc (pc := 136) [some _, some _, some _, some _, some _, some _, some _, some _, some _] dX8_doors_136 rfl rfl rfl ?_
          refine q_goto (pc := 139) 36 dX8_doors_139 rfl ?_
          first | (exfalso; omega; done) | (rw [if_pos ⟨by omega, hFc.mpr (by omega)⟩, if_neg (by omega)] at hih; exact hih _ _ _ _ _ (by omega) hs3 h783) | (rw [if_neg (fun z => by have h9 := hFc.mp z.2; have h8 := z.1; omega), hF] at hih; exact hih _ _ _ _ _ (by omega) hs3 h783)
        refine q_iload (pc := 127) dX8_doors_127 rfl ?_
        refine q_goto (pc := 129) 134 dX8_doors_129 rfl ?_
        refine q_istore (pc := 134) [some _, some _, some _, some _, some _, some _, some _, some _, some _] dX8_doors_134 rfl (Nat.le_of_ble_eq_true rfl) rfl ?_
        refine q_iinc (pc := 136) [some _, some _, some _, some _, some _, some _, some _, some _, some _] dX8_doors_136 rfl rfl rfl ?_
        refine q_goto (pc := 139) 36 dX8_doors_139 rfl ?_
        first | (exfalso; omega; done) | (rw [if_pos ⟨by omega, hFc.mpr (by omega)⟩, if_neg (by omega)] at hih; exact hih _ _ _ _ _ (by omega) hs3 h783) | (rw [if_neg (fun z => by have h9 := hFc.mp z.2; have h8 := z.1; omega), hF] at hih; exact hih _ _ _ _ _ (by omega) hs3 h783)
    obtain ⟨f0, h78⟩ := hScr.2.1
    refine zenter [some _, some _, some _, none, none, none, none, none, none] pn_X8 rfl (Nat.le_of_ble_eq_true rfl) ?_
    refine q_iload_n (pc := 0) dX8_doors_0 rfl ?_
    refine q_i2l (pc := 1) dX8_doors_1 (by omega) ?_
    refine q_lconst (pc := 2) (v := 1) dX8_doors_2 rfl ?_
    refine q_ldc2_w (pc := 3) tw_5_79 dX8_doors_3 ?_
    refine q_invokestatic (pc := 6) (d' := d - 1) (mc' := 0) (ms' := 0) (As := [_, _, _]) cl_X8_60 dX8_doors_6 rfl rfl (by omega) rfl 0 0 (Nat.le_refl 0) (Nat.le_refl 0) ?_
    refine c_X8_in (by omega) (by omega) (by omega) ?_
    refine q_ifb_eq (pc := 9) 22 dX8_doors_9 rfl (fun c9 => ?_) (fun c9 => ?_)
    · exfalso; omega
    refine q_iload_n (pc := 12) dX8_doors_12 rfl ?_
    refine q_i2l (pc := 13) dX8_doors_13 (by omega) ?_
    refine q_lconst (pc := 14) (v := 0) dX8_doors_14 rfl ?_
    refine q_lconst (pc := 15) (v := 1) dX8_doors_15 rfl ?_
    refine q_invokestatic (pc := 16) (d' := d - 1) (mc' := 0) (ms' := 0) (As := [_, _, _]) cl_X8_60 dX8_doors_16 rfl rfl (by omega) rfl 0 0 (Nat.le_refl 0) (Nat.le_refl 0) ?_
    refine c_X8_in (by omega) (by omega) (by omega) ?_
    refine q_ifb_ne (pc := 19) 27 dX8_doors_19 rfl (fun c19 => ?_) (fun c19 => ?_)
    · refine q_iconst (pc := 27) dX8_doors_27 ?_
      refine q_istore_n (pc := 28) [some _, some _, some _, some _, none, none, none, none, none] dX8_doors_28 rfl (Nat.le_of_ble_eq_true rfl) rfl ?_
      refine q_ldc (pc := 29) tw_5_152 dX8_doors_29 ?_
      refine q_istore (pc := 31) [some _, some _, some _, some _, some _, none, none, none, none] dX8_doors_31 rfl (Nat.le_of_ble_eq_true rfl) rfl ?_
      refine q_iconst (pc := 33) dX8_doors_33 ?_
      refine q_istore (pc := 34) [some _, some _, some _, some _, some _, some _, none, none, none] dX8_doors_34 rfl (Nat.le_of_ble_eq_true rfl) rfl ?_
      exact L1 (S.1.1 0).toNat 0 _ f0 _ _ _ (by omega) zSame.rf h78
    exfalso; omega
  · have hz0 := hv
    refine zenter [some _, some _, some _, none, none, none, none, none, none] pn_X8 rfl (Nat.le_of_ble_eq_true rfl) ?_
    refine q_iload_n (pc := 0) dX8_doors_0 rfl ?_
    refine q_i2l (pc := 1) dX8_doors_1 (by omega) ?_
    refine q_lconst (pc := 2) (v := 1) dX8_doors_2 rfl ?_
    refine q_ldc2_w (pc := 3) tw_5_79 dX8_doors_3 ?_
    refine q_invokestatic (pc := 6) (d' := d - 1) (mc' := 0) (ms' := 0) (As := [_, _, _]) cl_X8_60 dX8_doors_6 rfl rfl (by omega) rfl 0 0 (Nat.le_refl 0) (Nat.le_refl 0) ?_
    refine c_X8_in (by omega) (by omega) (by omega) ?_
    refine q_ifb_eq (pc := 9) 22 dX8_doors_9 rfl (fun c9 => ?_) (fun c9 => ?_)
    · refine q_aload_n (pc := 22) dX8_doors_22 rfl rfl ?_
      refine q_invokevirtual (pc := 23) (d' := d - 1) (mc' := 0) (ms' := 0) (As := []) (TX8, 26) cl_X8_103 dX8_doors_23 rfl rfl (by first | assumption | exact zup_at | exact (zup_ne (by decide)).trans (zup_at) | exact (zup_ne (by decide)).trans (by assumption) | exact (zup_ne (by decide)).trans ((zup_ne (by decide)).trans (zup_at)) | exact (zup_ne (by decide)).trans ((zup_ne (by decide)).trans (by assumption)) | exact (zup_ne (by decide)).trans ((zup_ne (by decide)).trans ((zup_ne (by decide)).trans (zup_at))) | exact (zup_ne (by decide)).trans ((zup_ne (by decide)).trans ((zup_ne (by decide)).trans (by assumption))) | exact (zup_ne (by decide)).trans ((zup_ne (by decide)).trans ((zup_ne (by decide)).trans ((zup_ne (by decide)).trans (zup_at)))) | exact (zup_ne (by decide)).trans ((zup_ne (by decide)).trans ((zup_ne (by decide)).trans ((zup_ne (by decide)).trans (by assumption)))) | exact (zup_ne (by decide)).trans ((zup_ne (by decide)).trans ((zup_ne (by decide)).trans ((zup_ne (by decide)).trans ((zup_ne (by decide)).trans (zup_at))))) | exact (zup_ne (by decide)).trans ((zup_ne (by decide)).trans ((zup_ne (by decide)).trans ((zup_ne (by decide)).trans ((zup_ne (by decide)).trans (by assumption)))))) rfl (by omega) rfl 0 0 (Nat.le_refl 0) (Nat.le_refl 0) ?_
      refine c_X8_bad hC (fun w9 hs9 hC9 => ?_)
      refine q_ireturn (pc := 26) dX8_doors_26 rfl ?_
      exact zgm k (by unfold o_doors; exact ((if_neg (by omega)).trans rfl)) hs9 hC9
    refine q_iload_n (pc := 12) dX8_doors_12 rfl ?_
    refine q_i2l (pc := 13) dX8_doors_13 (by omega) ?_
    refine q_lconst (pc := 14) (v := 0) dX8_doors_14 rfl ?_
    refine q_lconst (pc := 15) (v := 1) dX8_doors_15 rfl ?_
    refine q_invokestatic (pc := 16) (d' := d - 1) (mc' := 0) (ms' := 0) (As := [_, _, _]) cl_X8_60 dX8_doors_16 rfl rfl (by omega) rfl 0 0 (Nat.le_refl 0) (Nat.le_refl 0) ?_
    refine c_X8_in (by omega) (by omega) (by omega) ?_
    refine q_ifb_ne (pc := 19) 27 dX8_doors_19 rfl (fun c19 => ?_) (fun c19 => ?_)
    · exfalso; omega
    refine q_aload_n (pc := 22) dX8_doors_22 rfl rfl ?_
    refine q_invokevirtual (pc := 23) (d' := d - 1) (mc' := 0) (ms' := 0) (As := []) (TX8, 26) cl_X8_103 dX8_doors_23 rfl rfl (by first | assumption | exact zup_at | exact (zup_ne (by decide)).trans (zup_at) | exact (zup_ne (by decide)).trans (by assumption) | exact (zup_ne (by decide)).trans ((zup_ne (by decide)).trans (zup_at)) | exact (zup_ne (by decide)).trans ((zup_ne (by decide)).trans (by assumption)) | exact (zup_ne (by decide)).trans ((zup_ne (by decide)).trans ((zup_ne (by decide)).trans (zup_at))) | exact (zup_ne (by decide)).trans ((zup_ne (by decide)).trans ((zup_ne (by decide)).trans (by assumption))) | exact (zup_ne (by decide)).trans ((zup_ne (by decide)).trans ((zup_ne (by decide)).trans ((zup_ne (by decide)).trans (zup_at)))) | exact (zup_ne (by decide)).trans ((zup_ne (by decide)).trans ((zup_ne (by decide)).trans ((zup_ne (by decide)).trans (by assumption)))) | exact (zup_ne (by decide)).trans ((zup_ne (by decide)).trans ((zup_ne (by decide)).trans ((zup_ne (by decide)).trans ((zup_ne (by decide)).trans (zup_at))))) | exact (zup_ne (by decide)).trans ((zup_ne (by decide)).trans ((zup_ne (by decide)).trans ((zup_ne (by decide)).trans ((zup_ne (by decide)).trans (by assumption)))))) rfl (by omega) rfl 0 0 (Nat.le_refl 0) (Nat.le_refl 0) ?_
    refine c_X8_bad hC (fun w9 hs9 hC9 => ?_)
    refine q_ireturn (pc := 26) dX8_doors_26 rfl ?_
    exact zgm k (by unfold o_doors; exact ((if_neg (by omega)).trans rfl)) hs9 hC9
end X8H
