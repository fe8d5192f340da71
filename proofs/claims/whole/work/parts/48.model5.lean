theorem zfu_same {f : Int → Int} {i v : Int} (h : v = f i) : zfu f i v = f := by
  funext j; simp only [zfu]
  by_cases q : j = i
  · rw [if_pos q, q, h]
  · rw [if_neg q]
def zia (j : Int) : Int := if j = 3 then 0 else if j = 4 then 1 else if 18 ≤ j ∧ j < 68 then j - 16 else if 80 ≤ j ∧ j < 84 then j - 28 else if 88 ≤ j ∧ j < 92 then j - 32 else 60
theorem zia_zat {k j : Int} (h : 0 ≤ k ∧ k < 60) : zia j = k ↔ j = zat k := by
  unfold zia zat
  repeat' split
  all_goals omega
theorem zia_b {j : Int} : 0 ≤ zia j ∧ zia j ≤ 60 := by
  unfold zia
  repeat' split
  all_goals omega
def zuT (N P : Int → Int) (i m : Int) : Int → Int := fun j => if zia j < m then P (60 * i + zia j) else N j
theorem zuT_0 {N P : Int → Int} {i : Int} : zuT N P i 0 = N := by
  funext j; have := zia_b (j := j); simp only [zuT]; rw [if_neg (by omega)]
theorem zuT_60 {N P : Int → Int} {i : Int} : zuT N P i 60 = zundo N P i := by
  funext j
  simp only [zuT, zundo]
  by_cases h3 : j = 3
  · rw [if_pos h3]; subst h3; rw [if_pos (by unfold zia; rw [if_pos rfl]; omega)]; congr 1; unfold zia; rw [if_pos rfl]; omega
  · rw [if_neg h3]
    by_cases h4 : j = 4
    · rw [if_pos h4]; subst h4; have e : zia 4 = 1 := by unfold zia; rw [if_neg (by omega), if_pos rfl]
      rw [e, if_pos (by omega)]
    · rw [if_neg h4]
      by_cases h5 : 18 ≤ j ∧ j < 68
      · have e : zia j = j - 16 := by unfold zia; rw [if_neg h3, if_neg h4, if_pos h5]
        rw [if_pos h5, e, if_pos (by omega)]
      · rw [if_neg h5]
        by_cases h6 : 80 ≤ j ∧ j < 84
        · have e : zia j = j - 28 := by unfold zia; rw [if_neg h3, if_neg h4, if_neg h5, if_pos h6]
          rw [if_pos h6, e, if_pos (by omega)]
        · rw [if_neg h6]
          by_cases h7 : 88 ≤ j ∧ j < 92
          · have e : zia j = j - 32 := by unfold zia; rw [if_neg h3, if_neg h4, if_neg h5, if_neg h6, if_pos h7]
            rw [if_pos h7, e, if_pos (by omega)]
          · have e : zia j = 60 := by unfold zia; rw [if_neg h3, if_neg h4, if_neg h5, if_neg h6, if_neg h7]
            rw [if_neg h7, e, if_neg (by omega)]
theorem zuT_s {N P : Int → Int} {i m : Int} (h : 0 ≤ m ∧ m < 60) : zfu (zuT N P i m) (zat m) (P (60 * i + m)) = zuT N P i (m + 1) := by
  funext j
  simp only [zfu, zuT]
  have hz := zia_zat (j := j) h
  by_cases h1 : j = zat m
  · rw [if_pos h1, if_pos (by have := hz.mpr h1; omega), hz.mpr h1]
  · rw [if_neg h1]
    have : zia j ≠ m := fun z => h1 (hz.mp z)
    by_cases h2 : zia j < m
    · rw [if_pos h2, if_pos (by omega)]
    · rw [if_neg h2, if_neg (by omega)]
theorem zthrow_no {N : Int → Int} {s c r q : Int} (hO : zOK N) (hq : 0 ≤ q ∧ q < N 2) (hc : 0 ≤ c ∧ c < N 0) (h : zhat N s q r (N 4) = 0) : zthrow N s c r q = zlose (zfu N (18 + 10 * c + r) (N (18 + 10 * c + r) - 1)) c (zcost (N (8 + c))) ∨ ¬ (1 ≤ r ∧ r ≤ 9) := by
  by_cases hr : 1 ≤ r ∧ r ≤ 9
  · refine Or.inl ?_
    have hh := hO.1
    have hk := hO.2.2.2.2.1 q (by omega) (by omega)
    unfold zthrow
    refine zfu_same ?_
    rw [h, zlose_out (by omega) (by omega)]
    simp only [zfu]; rw [if_neg (by omega)]; omega
  · exact Or.inr hr
/-! the reference's own calls, throwing, hour, undo -/
section X8E
variable {g : zG} {d : Nat} {w : zWd} {K : Option Value → zWd → Prop} {S : zSt}
set_option maxRecDepth 100000 in
set_option maxHeartbeats 8000000 in
theorem c_X8_throwing {s c r q : Int} (hd : 6 ≤ d) (hC : zMo g w S) (hO : zOKS S) (h_s : zR32 s) (h_c : zR32 c) (h_r : zR32 r) (h_q : zR32 q) (k : ∀ w', zSame w w' 72 16 → zMo g w' (o_throwing S s c r q).2 → K (some (zI (o_throwing S s c r q).1)) w') : zCall g d 0 0 mX8_throwing [zR g 72, zI s, zI c, zI r, zI q] w K := by
  obtain ⟨⟨p0, p1, p2, p3, p4, it, sm, h72⟩, h73, h74, h75, h76, hScr, h84, h85, h86, h87⟩ := id hC
  have hO1 := hO.1
  have hO2 := hO1.1
  have hO3 := hO2.1
  refine zenter [some _, some _, some _, some _, some _, none] pn_X8 rfl (Nat.le_of_ble_eq_true rfl) ?_
  refine q_aload_n (pc := 0) dX8_throwing_0 rfl rfl ?_
  refine q_iload_n (pc := 1) dX8_throwing_1 rfl ?_
  refine q_invokevirtual (pc := 2) (d' := d - 1) (mc' := 0) (ms' := 0) (As := [_]) (TX8, 26) cl_X8_223 dX8_throwing_2 rfl rfl (by first | assumption | exact zup_at | exact (zup_ne (by decide)).trans (zup_at) | exact (zup_ne (by decide)).trans (by assumption) | exact (zup_ne (by decide)).trans ((zup_ne (by decide)).trans (zup_at)) | exact (zup_ne (by decide)).trans ((zup_ne (by decide)).trans (by assumption)) | exact (zup_ne (by decide)).trans ((zup_ne (by decide)).trans ((zup_ne (by decide)).trans (zup_at))) | exact (zup_ne (by decide)).trans ((zup_ne (by decide)).trans ((zup_ne (by decide)).trans (by assumption))) | exact (zup_ne (by decide)).trans ((zup_ne (by decide)).trans ((zup_ne (by decide)).trans ((zup_ne (by decide)).trans (zup_at)))) | exact (zup_ne (by decide)).trans ((zup_ne (by decide)).trans ((zup_ne (by decide)).trans ((zup_ne (by decide)).trans (by assumption)))) | exact (zup_ne (by decide)).trans ((zup_ne (by decide)).trans ((zup_ne (by decide)).trans ((zup_ne (by decide)).trans ((zup_ne (by decide)).trans (zup_at))))) | exact (zup_ne (by decide)).trans ((zup_ne (by decide)).trans ((zup_ne (by decide)).trans ((zup_ne (by decide)).trans ((zup_ne (by decide)).trans (by assumption)))))) rfl (by omega) rfl 0 0 (Nat.le_refl 0) (Nat.le_refl 0) ?_
  refine c_X8_isSlinger (by omega) h72 h73 hO3 (by omega) ?_
  refine q_ifb_eq (pc := 5) 37 dX8_throwing_5 rfl (fun c5 => ?_) (fun c5 => ?_)
  · refine q_aload_n (pc := 37) dX8_throwing_37 rfl rfl ?_
    refine q_invokevirtual (pc := 38) (d' := d - 1) (mc' := 0) (ms' := 0) (As := []) (TX8, 26) cl_X8_103 dX8_throwing_38 rfl rfl (by first | assumption | exact zup_at | exact (zup_ne (by decide)).trans (zup_at) | exact (zup_ne (by decide)).trans (by assumption) | exact (zup_ne (by decide)).trans ((zup_ne (by decide)).trans (zup_at)) | exact (zup_ne (by decide)).trans ((zup_ne (by decide)).trans (by assumption)) | exact (zup_ne (by decide)).trans ((zup_ne (by decide)).trans ((zup_ne (by decide)).trans (zup_at))) | exact (zup_ne (by decide)).trans ((zup_ne (by decide)).trans ((zup_ne (by decide)).trans (by assumption))) | exact (zup_ne (by decide)).trans ((zup_ne (by decide)).trans ((zup_ne (by decide)).trans ((zup_ne (by decide)).trans (zup_at)))) | exact (zup_ne (by decide)).trans ((zup_ne (by decide)).trans ((zup_ne (by decide)).trans ((zup_ne (by decide)).trans (by assumption)))) | exact (zup_ne (by decide)).trans ((zup_ne (by decide)).trans ((zup_ne (by decide)).trans ((zup_ne (by decide)).trans ((zup_ne (by decide)).trans (zup_at))))) | exact (zup_ne (by decide)).trans ((zup_ne (by decide)).trans ((zup_ne (by decide)).trans ((zup_ne (by decide)).trans ((zup_ne (by decide)).trans (by assumption)))))) rfl (by omega) rfl 0 0 (Nat.le_refl 0) (Nat.le_refl 0) ?_
    refine c_X8_bad hC (fun w9 hs9 hC9 => ?_)
    refine q_ireturn (pc := 41) dX8_throwing_41 rfl ?_
    exact zgm k (by unfold o_throwing; exact ((if_neg (by omega)).trans rfl)) hs9 hC9
  refine q_aload_n (pc := 8) dX8_throwing_8 rfl rfl ?_
  refine q_iload_n (pc := 9) dX8_throwing_9 rfl ?_
  refine q_invokevirtual (pc := 10) (d' := d - 1) (mc' := 0) (ms' := 0) (As := [_]) (TX8, 26) cl_X8_116 dX8_throwing_10 rfl rfl (by first | assumption | exact zup_at | exact (zup_ne (by decide)).trans (zup_at) | exact (zup_ne (by decide)).trans (by assumption) | exact (zup_ne (by decide)).trans ((zup_ne (by decide)).trans (zup_at)) | exact (zup_ne (by decide)).trans ((zup_ne (by decide)).trans (by assumption)) | exact (zup_ne (by decide)).trans ((zup_ne (by decide)).trans ((zup_ne (by decide)).trans (zup_at))) | exact (zup_ne (by decide)).trans ((zup_ne (by decide)).trans ((zup_ne (by decide)).trans (by assumption))) | exact (zup_ne (by decide)).trans ((zup_ne (by decide)).trans ((zup_ne (by decide)).trans ((zup_ne (by decide)).trans (zup_at)))) | exact (zup_ne (by decide)).trans ((zup_ne (by decide)).trans ((zup_ne (by decide)).trans ((zup_ne (by decide)).trans (by assumption)))) | exact (zup_ne (by decide)).trans ((zup_ne (by decide)).trans ((zup_ne (by decide)).trans ((zup_ne (by decide)).trans ((zup_ne (by decide)).trans (zup_at))))) | exact (zup_ne (by decide)).trans ((zup_ne (by decide)).trans ((zup_ne (by decide)).trans ((zup_ne (by decide)).trans ((zup_ne (by decide)).trans (by assumption)))))) rfl (by omega) rfl 0 0 (Nat.le_refl 0) (Nat.le_refl 0) ?_
  refine c_X8_isCellar (by omega) h72 h73 hO3 (by omega) ?_
  refine q_ifb_eq (pc := 13) 37 dX8_throwing_13 rfl (fun c13 => ?_) (fun c13 => ?_)
  · refine q_aload_n (pc := 37) dX8_throwing_37 rfl rfl ?_
    refine q_invokevirtual (pc := 38) (d' := d - 1) (mc' := 0) (ms' := 0) (As := []) (TX8, 26) cl_X8_103 dX8_throwing_38 rfl rfl (by first | assumption | exact zup_at | exact (zup_ne (by decide)).trans (zup_at) | exact (zup_ne (by decide)).trans (by assumption) | exact (zup_ne (by decide)).trans ((zup_ne (by decide)).trans (zup_at)) | exact (zup_ne (by decide)).trans ((zup_ne (by decide)).trans (by assumption)) | exact (zup_ne (by decide)).trans ((zup_ne (by decide)).trans ((zup_ne (by decide)).trans (zup_at))) | exact (zup_ne (by decide)).trans ((zup_ne (by decide)).trans ((zup_ne (by decide)).trans (by assumption))) | exact (zup_ne (by decide)).trans ((zup_ne (by decide)).trans ((zup_ne (by decide)).trans ((zup_ne (by decide)).trans (zup_at)))) | exact (zup_ne (by decide)).trans ((zup_ne (by decide)).trans ((zup_ne (by decide)).trans ((zup_ne (by decide)).trans (by assumption)))) | exact (zup_ne (by decide)).trans ((zup_ne (by decide)).trans ((zup_ne (by decide)).trans ((zup_ne (by decide)).trans ((zup_ne (by decide)).trans (zup_at))))) | exact (zup_ne (by decide)).trans ((zup_ne (by decide)).trans ((zup_ne (by decide)).trans ((zup_ne (by decide)).trans ((zup_ne (by decide)).trans (by assumption)))))) rfl (by omega) rfl 0 0 (Nat.le_refl 0) (Nat.le_refl 0) ?_
    refine c_X8_bad hC (fun w9 hs9 hC9 => ?_)
    refine q_ireturn (pc := 41) dX8_throwing_41 rfl ?_
    exact zgm k (by unfold o_throwing; exact ((if_neg (by omega)).trans rfl)) hs9 hC9
  refine q_iload_n (pc := 16) dX8_throwing_16 rfl ?_
  refine q_i2l (pc := 17) dX8_throwing_17 (by omega) ?_
  refine q_lconst (pc := 18) (v := 1) dX8_throwing_18 rfl ?_
  refine q_ldc2_w (pc := 19) tw_5_79 dX8_throwing_19 ?_
  refine q_invokestatic (pc := 22) (d' := d - 1) (mc' := 0) (ms' := 0) (As := [_, _, _]) cl_X8_60 dX8_throwing_22 rfl rfl (by omega) rfl 0 0 (Nat.le_refl 0) (Nat.le_refl 0) ?_
  refine c_X8_in (by omega) (by omega) (by omega) ?_
  refine q_ifb_eq (pc := 25) 37 dX8_throwing_25 rfl (fun c25 => ?_) (fun c25 => ?_)
  · refine q_aload_n (pc := 37) dX8_throwing_37 rfl rfl ?_
    refine q_invokevirtual (pc := 38) (d' := d - 1) (mc' := 0) (ms' := 0) (As := []) (TX8, 26) cl_X8_103 dX8_throwing_38 rfl rfl (by first | assumption | exact zup_at | exact (zup_ne (by decide)).trans (zup_at) | exact (zup_ne (by decide)).trans (by assumption) | exact (zup_ne (by decide)).trans ((zup_ne (by decide)).trans (zup_at)) | exact (zup_ne (by decide)).trans ((zup_ne (by decide)).trans (by assumption)) | exact (zup_ne (by decide)).trans ((zup_ne (by decide)).trans ((zup_ne (by decide)).trans (zup_at))) | exact (zup_ne (by decide)).trans ((zup_ne (by decide)).trans ((zup_ne (by decide)).trans (by assumption))) | exact (zup_ne (by decide)).trans ((zup_ne (by decide)).trans ((zup_ne (by decide)).trans ((zup_ne (by decide)).trans (zup_at)))) | exact (zup_ne (by decide)).trans ((zup_ne (by decide)).trans ((zup_ne (by decide)).trans ((zup_ne (by decide)).trans (by assumption)))) | exact (zup_ne (by decide)).trans ((zup_ne (by decide)).trans ((zup_ne (by decide)).trans ((zup_ne (by decide)).trans ((zup_ne (by decide)).trans (zup_at))))) | exact (zup_ne (by decide)).trans ((zup_ne (by decide)).trans ((zup_ne (by decide)).trans ((zup_ne (by decide)).trans ((zup_ne (by decide)).trans (by assumption)))))) rfl (by omega) rfl 0 0 (Nat.le_refl 0) (Nat.le_refl 0) ?_
    refine c_X8_bad hC (fun w9 hs9 hC9 => ?_)
    refine q_ireturn (pc := 41) dX8_throwing_41 rfl ?_
    exact zgm k (by unfold o_throwing; exact ((if_neg (by omega)).trans rfl)) hs9 hC9
  refine q_aload_n (pc := 28) dX8_throwing_28 rfl rfl ?_
  refine q_iload (pc := 29) dX8_throwing_29 rfl ?_
  refine q_invokevirtual (pc := 31) (d' := d - 1) (mc' := 0) (ms' := 0) (As := [_]) (TX8, 26) cl_X8_226 dX8_throwing_31 rfl rfl (by first | assumption | exact zup_at | exact (zup_ne (by decide)).trans (zup_at) | exact (zup_ne (by decide)).trans (by assumption) | exact (zup_ne (by decide)).trans ((zup_ne (by decide)).trans (zup_at)) | exact (zup_ne (by decide)).trans ((zup_ne (by decide)).trans (by assumption)) | exact (zup_ne (by decide)).trans ((zup_ne (by decide)).trans ((zup_ne (by decide)).trans (zup_at))) | exact (zup_ne (by decide)).trans ((zup_ne (by decide)).trans ((zup_ne (by decide)).trans (by assumption))) | exact (zup_ne (by decide)).trans ((zup_ne (by decide)).trans ((zup_ne (by decide)).trans ((zup_ne (by decide)).trans (zup_at)))) | exact (zup_ne (by decide)).trans ((zup_ne (by decide)).trans ((zup_ne (by decide)).trans ((zup_ne (by decide)).trans (by assumption)))) | exact (zup_ne (by decide)).trans ((zup_ne (by decide)).trans ((zup_ne (by decide)).trans ((zup_ne (by decide)).trans ((zup_ne (by decide)).trans (zup_at))))) | exact (zup_ne (by decide)).trans ((zup_ne (by decide)).trans ((zup_ne (by decide)).trans ((zup_ne (by decide)).trans ((zup_ne (by decide)).trans (by assumption)))))) rfl (by omega) rfl 0 0 (Nat.le_refl 0) (Nat.le_refl 0) ?_
  refine c_X8_isCloud (by omega) h72 h73 hO3 (by omega) ?_
  refine q_ifb_ne (pc := 34) 42 dX8_throwing_34 rfl (fun c34 => ?_) (fun c34 => ?_)
  · have hb1 := (hO2.2.2.1 c r (by omega) (by omega) (by omega) (by omega)).1
    have hb2 := hO2.2.2.2.2.1 q (by omega) (by omega)
    have hcb := zcost_b (S.1.1 (8 + c))
    have e8 : (zfu S.1.1 (18 + 10 * c + r) (S.1.1 (18 + 10 * c + r) - 1)) (8 + c) = S.1.1 (8 + c) := by simp only [zfu]; rw [if_neg (by omega)]
    have e0 : (zfu S.1.1 (18 + 10 * c + r) (S.1.1 (18 + 10 * c + r) - 1)) 0 = S.1.1 0 := by simp only [zfu]; rw [if_neg (by omega)]
    refine q_aload_n (pc := 42) dX8_throwing_42 rfl rfl ?_
    refine q_getfield (pc := 43) gf_X8_7 dX8_throwing_43 (by first | assumption | exact zup_at | exact (zup_ne (by decide)).trans (zup_at) | exact (zup_ne (by decide)).trans (by assumption) | exact (zup_ne (by decide)).trans ((zup_ne (by decide)).trans (zup_at)) | exact (zup_ne (by decide)).trans ((zup_ne (by decide)).trans (by assumption)) | exact (zup_ne (by decide)).trans ((zup_ne (by decide)).trans ((zup_ne (by decide)).trans (zup_at))) | exact (zup_ne (by decide)).trans ((zup_ne (by decide)).trans ((zup_ne (by decide)).trans (by assumption))) | exact (zup_ne (by decide)).trans ((zup_ne (by decide)).trans ((zup_ne (by decide)).trans ((zup_ne (by decide)).trans (zup_at)))) | exact (zup_ne (by decide)).trans ((zup_ne (by decide)).trans ((zup_ne (by decide)).trans ((zup_ne (by decide)).trans (by assumption)))) | exact (zup_ne (by decide)).trans ((zup_ne (by decide)).trans ((zup_ne (by decide)).trans ((zup_ne (by decide)).trans ((zup_ne (by decide)).trans (zup_at))))) | exact (zup_ne (by decide)).trans ((zup_ne (by decide)).trans ((zup_ne (by decide)).trans ((zup_ne (by decide)).trans ((zup_ne (by decide)).trans (by assumption)))))) rfl ?_
    refine q_bipush (pc := 46) (by decide) dX8_throwing_46 ?_
    refine q_bipush (pc := 48) (by decide) dX8_throwing_48 ?_
    refine q_iload_n (pc := 50) dX8_throwing_50 rfl ?_
    refine q_imul (pc := 51) dX8_throwing_51 ?_
    refine q_iadd (pc := 52) dX8_throwing_52 ?_
    refine q_iload_n (pc := 53) dX8_throwing_53 rfl ?_
    refine q_iadd (pc := 54) dX8_throwing_54 ?_
    refine q_iaload (pc := 55) dX8_throwing_55 (by first | assumption | exact zup_at | exact (zup_ne (by decide)).trans (zup_at) | exact (zup_ne (by decide)).trans (by assumption) | exact (zup_ne (by decide)).trans ((zup_ne (by decide)).trans (zup_at)) | exact (zup_ne (by decide)).trans ((zup_ne (by decide)).trans (by assumption)) | exact (zup_ne (by decide)).trans ((zup_ne (by decide)).trans ((zup_ne (by decide)).trans (zup_at))) | exact (zup_ne (by decide)).trans ((zup_ne (by decide)).trans ((zup_ne (by decide)).trans (by assumption))) | exact (zup_ne (by decide)).trans ((zup_ne (by decide)).trans ((zup_ne (by decide)).trans ((zup_ne (by decide)).trans (zup_at)))) | exact (zup_ne (by decide)).trans ((zup_ne (by decide)).trans ((zup_ne (by decide)).trans ((zup_ne (by decide)).trans (by assumption)))) | exact (zup_ne (by decide)).trans ((zup_ne (by decide)).trans ((zup_ne (by decide)).trans ((zup_ne (by decide)).trans ((zup_ne (by decide)).trans (zup_at))))) | exact (zup_ne (by decide)).trans ((zup_ne (by decide)).trans ((zup_ne (by decide)).trans ((zup_ne (by decide)).trans ((zup_ne (by decide)).trans (by assumption)))))) (by omega) ?_
    refine q_if_eq (pc := 56) (by omega) 72 dX8_throwing_56 rfl (fun c56 => ?_) (fun c56 => ?_)
    · refine q_aload_n (pc := 72) dX8_throwing_72 rfl rfl ?_
      refine q_invokevirtual (pc := 73) (d' := d - 1) (mc' := 0) (ms' := 0) (As := []) (TX8, 26) cl_X8_229 dX8_throwing_73 rfl rfl (by first | assumption | exact zup_at | exact (zup_ne (by decide)).trans (zup_at) | exact (zup_ne (by decide)).trans (by assumption) | exact (zup_ne (by decide)).trans ((zup_ne (by decide)).trans (zup_at)) | exact (zup_ne (by decide)).trans ((zup_ne (by decide)).trans (by assumption)) | exact (zup_ne (by decide)).trans ((zup_ne (by decide)).trans ((zup_ne (by decide)).trans (zup_at))) | exact (zup_ne (by decide)).trans ((zup_ne (by decide)).trans ((zup_ne (by decide)).trans (by assumption))) | exact (zup_ne (by decide)).trans ((zup_ne (by decide)).trans ((zup_ne (by decide)).trans ((zup_ne (by decide)).trans (zup_at)))) | exact (zup_ne (by decide)).trans ((zup_ne (by decide)).trans ((zup_ne (by decide)).trans ((zup_ne (by decide)).trans (by assumption)))) | exact (zup_ne (by decide)).trans ((zup_ne (by decide)).trans ((zup_ne (by decide)).trans ((zup_ne (by decide)).trans ((zup_ne (by decide)).trans (zup_at))))) | exact (zup_ne (by decide)).trans ((zup_ne (by decide)).trans ((zup_ne (by decide)).trans ((zup_ne (by decide)).trans ((zup_ne (by decide)).trans (by assumption)))))) rfl (by omega) rfl 0 0 (Nat.le_refl 0) (Nat.le_refl 0) ?_
      refine c_X8_no hC (fun w9 hs9 hC9 => ?_)
      refine q_ireturn (pc := 76) dX8_throwing_76 rfl ?_
      exact zgm k (by unfold o_throwing; exact ((if_pos (by omega)).trans ((if_pos (by omega)).trans rfl))) hs9 hC9
    refine q_aload_n (pc := 59) dX8_throwing_59 rfl rfl ?_
    refine q_getfield (pc := 60) gf_X8_7 dX8_throwing_60 (by first | assumption | exact zup_at | exact (zup_ne (by decide)).trans (zup_at) | exact (zup_ne (by decide)).trans (by assumption) | exact (zup_ne (by decide)).trans ((zup_ne (by decide)).trans (zup_at)) | exact (zup_ne (by decide)).trans ((zup_ne (by decide)).trans (by assumption)) | exact (zup_ne (by decide)).trans ((zup_ne (by decide)).trans ((zup_ne (by decide)).trans (zup_at))) | exact (zup_ne (by decide)).trans ((zup_ne (by decide)).trans ((zup_ne (by decide)).trans (by assumption))) | exact (zup_ne (by decide)).trans ((zup_ne (by decide)).trans ((zup_ne (by decide)).trans ((zup_ne (by decide)).trans (zup_at)))) | exact (zup_ne (by decide)).trans ((zup_ne (by decide)).trans ((zup_ne (by decide)).trans ((zup_ne (by decide)).trans (by assumption)))) | exact (zup_ne (by decide)).trans ((zup_ne (by decide)).trans ((zup_ne (by decide)).trans ((zup_ne (by decide)).trans ((zup_ne (by decide)).trans (zup_at))))) | exact (zup_ne (by decide)).trans ((zup_ne (by decide)).trans ((zup_ne (by decide)).trans ((zup_ne (by decide)).trans ((zup_ne (by decide)).trans (by assumption)))))) rfl ?_
    refine q_bipush (pc := 63) (by decide) dX8_throwing_63 ?_
    refine q_iload (pc := 65) dX8_throwing_65 rfl ?_
    refine q_iadd (pc := 67) dX8_throwing_67 ?_
    refine q_iaload (pc := 68) dX8_throwing_68 (by first | assumption | exact zup_at | exact (zup_ne (by decide)).trans (zup_at) | exact (zup_ne (by decide)).trans (by assumption) | exact (zup_ne (by decide)).trans ((zup_ne (by decide)).trans (zup_at)) | exact (zup_ne (by decide)).trans ((zup_ne (by decide)).trans (by assumption)) | exact (zup_ne (by decide)).trans ((zup_ne (by decide)).trans ((zup_ne (by decide)).trans (zup_at))) | exact (zup_ne (by decide)).trans ((zup_ne (by decide)).trans ((zup_ne (by decide)).trans (by assumption))) | exact (zup_ne (by decide)).trans ((zup_ne (by decide)).trans ((zup_ne (by decide)).trans ((zup_ne (by decide)).trans (zup_at)))) | exact (zup_ne (by decide)).trans ((zup_ne (by decide)).trans ((zup_ne (by decide)).trans ((zup_ne (by decide)).trans (by assumption)))) | exact (zup_ne (by decide)).trans ((zup_ne (by decide)).trans ((zup_ne (by decide)).trans ((zup_ne (by decide)).trans ((zup_ne (by decide)).trans (zup_at))))) | exact (zup_ne (by decide)).trans ((zup_ne (by decide)).trans ((zup_ne (by decide)).trans ((zup_ne (by decide)).trans ((zup_ne (by decide)).trans (by assumption)))))) (by omega) ?_
    refine q_if_ne (pc := 69) (by omega) 77 dX8_throwing_69 rfl (fun c69 => ?_) (fun c69 => ?_)
    · refine q_aload_n (pc := 77) dX8_throwing_77 rfl rfl ?_
      refine q_invokevirtual (pc := 78) (d' := d - 1) (mc' := 0) (ms' := 0) (As := []) (TX8, 26) cl_X8_211 dX8_throwing_78 rfl rfl (by first | assumption | exact zup_at | exact (zup_ne (by decide)).trans (zup_at) | exact (zup_ne (by decide)).trans (by assumption) | exact (zup_ne (by decide)).trans ((zup_ne (by decide)).trans (zup_at)) | exact (zup_ne (by decide)).trans ((zup_ne (by decide)).trans (by assumption)) | exact (zup_ne (by decide)).trans ((zup_ne (by decide)).trans ((zup_ne (by decide)).trans (zup_at))) | exact (zup_ne (by decide)).trans ((zup_ne (by decide)).trans ((zup_ne (by decide)).trans (by assumption))) | exact (zup_ne (by decide)).trans ((zup_ne (by decide)).trans ((zup_ne (by decide)).trans ((zup_ne (by decide)).trans (zup_at)))) | exact (zup_ne (by decide)).trans ((zup_ne (by decide)).trans ((zup_ne (by decide)).trans ((zup_ne (by decide)).trans (by assumption)))) | exact (zup_ne (by decide)).trans ((zup_ne (by decide)).trans ((zup_ne (by decide)).trans ((zup_ne (by decide)).trans ((zup_ne (by decide)).trans (zup_at))))) | exact (zup_ne (by decide)).trans ((zup_ne (by decide)).trans ((zup_ne (by decide)).trans ((zup_ne (by decide)).trans ((zup_ne (by decide)).trans (by assumption)))))) rfl (by omega) rfl 0 0 (Nat.le_refl 0) (Nat.le_refl 0) ?_
      refine c_X8_remember (by omega) hC hO1.2.1 (fun w2 hs2 hC2 => ?_)
      obtain ⟨⟨q0, q1, q2, q3, q4, qi, qs, h722⟩, -⟩ := id hC2
      have h722 : w2.1 72 = some (zMO g S.2.2.2.1.1 S.2.2.2.1.2 (zru S.1.2.1) S.2.1.2 q0 q1 q2 q3 q4 qi qs) := h722
      have h732 : w2.1 73 = some (.inr (false, 168, S.1.1)) := hC2.2.1
      have hs2 := hs2.wide (b' := 72) (len' := 16) (by omega) (by omega)
      refine q_aload_n (pc := 81) dX8_throwing_81 rfl rfl ?_
      refine q_getfield (pc := 82) gf_X8_7 dX8_throwing_82 (by first | assumption | exact zup_at | exact (zup_ne (by decide)).trans (zup_at) | exact (zup_ne (by decide)).trans (by assumption) | exact (zup_ne (by decide)).trans ((zup_ne (by decide)).trans (zup_at)) | exact (zup_ne (by decide)).trans ((zup_ne (by decide)).trans (by assumption)) | exact (zup_ne (by decide)).trans ((zup_ne (by decide)).trans ((zup_ne (by decide)).trans (zup_at))) | exact (zup_ne (by decide)).trans ((zup_ne (by decide)).trans ((zup_ne (by decide)).trans (by assumption))) | exact (zup_ne (by decide)).trans ((zup_ne (by decide)).trans ((zup_ne (by decide)).trans ((zup_ne (by decide)).trans (zup_at)))) | exact (zup_ne (by decide)).trans ((zup_ne (by decide)).trans ((zup_ne (by decide)).trans ((zup_ne (by decide)).trans (by assumption)))) | exact (zup_ne (by decide)).trans ((zup_ne (by decide)).trans ((zup_ne (by decide)).trans ((zup_ne (by decide)).trans ((zup_ne (by decide)).trans (zup_at))))) | exact (zup_ne (by decide)).trans ((zup_ne (by decide)).trans ((zup_ne (by decide)).trans ((zup_ne (by decide)).trans ((zup_ne (by decide)).trans (by assumption)))))) rfl ?_
      refine q_bipush (pc := 85) (by decide) dX8_throwing_85 ?_
      refine q_bipush (pc := 87) (by decide) dX8_throwing_87 ?_
      refine q_iload_n (pc := 89) dX8_throwing_89 rfl ?_
      refine q_imul (pc := 90) dX8_throwing_90 ?_
      refine q_iadd (pc := 91) dX8_throwing_91 ?_
      refine q_iload_n (pc := 92) dX8_throwing_92 rfl ?_
      refine q_iadd (pc := 93) dX8_throwing_93 ?_
      refine q_dup2 (pc := 94) rfl rfl dX8_throwing_94 ?_
      refine q_iaload (pc := 95) dX8_throwing_95 (by first | assumption | exact zup_at | exact (zup_ne (by decide)).trans (zup_at) | exact (zup_ne (by decide)).trans (by assumption) | exact (zup_ne (by decide)).trans ((zup_ne (by decide)).trans (zup_at)) | exact (zup_ne (by decide)).trans ((zup_ne (by decide)).trans (by assumption)) | exact (zup_ne (by decide)).trans ((zup_ne (by decide)).trans ((zup_ne (by decide)).trans (zup_at))) | exact (zup_ne (by decide)).trans ((zup_ne (by decide)).trans ((zup_ne (by decide)).trans (by assumption))) | exact (zup_ne (by decide)).trans ((zup_ne (by decide)).trans ((zup_ne (by decide)).trans ((zup_ne (by decide)).trans (zup_at)))) | exact (zup_ne (by decide)).trans ((zup_ne (by decide)).trans ((zup_ne (by decide)).trans ((zup_ne (by decide)).trans (by assumption)))) | exact (zup_ne (by decide)).trans ((zup_ne (by decide)).trans ((zup_ne (by decide)).trans ((zup_ne (by decide)).trans ((zup_ne (by decide)).trans (zup_at))))) | exact (zup_ne (by decide)).trans ((zup_ne (by decide)).trans ((zup_ne (by decide)).trans ((zup_ne (by decide)).trans ((zup_ne (by decide)).trans (by assumption)))))) (by omega) ?_
      refine q_iconst (pc := 96) dX8_throwing_96 ?_
      refine q_isub (pc := 97) dX8_throwing_97 ?_
      refine q_iastore (pc := 98) dX8_throwing_98 (by first | assumption | exact zup_at | exact (zup_ne (by decide)).trans (zup_at) | exact (zup_ne (by decide)).trans (by assumption) | exact (zup_ne (by decide)).trans ((zup_ne (by decide)).trans (zup_at)) | exact (zup_ne (by decide)).trans ((zup_ne (by decide)).trans (by assumption)) | exact (zup_ne (by decide)).trans ((zup_ne (by decide)).trans ((zup_ne (by decide)).trans (zup_at))) | exact (zup_ne (by decide)).trans ((zup_ne (by decide)).trans ((zup_ne (by decide)).trans (by assumption))) | exact (zup_ne (by decide)).trans ((zup_ne (by decide)).trans ((zup_ne (by decide)).trans ((zup_ne (by decide)).trans (zup_at)))) | exact (zup_ne (by decide)).trans ((zup_ne (by decide)).trans ((zup_ne (by decide)).trans ((zup_ne (by decide)).trans (by assumption)))) | exact (zup_ne (by decide)).trans ((zup_ne (by decide)).trans ((zup_ne (by decide)).trans ((zup_ne (by decide)).trans ((zup_ne (by decide)).trans (zup_at))))) | exact (zup_ne (by decide)).trans ((zup_ne (by decide)).trans ((zup_ne (by decide)).trans ((zup_ne (by decide)).trans ((zup_ne (by decide)).trans (by assumption)))))) (by omega) ?_
      have hOn1 : zOK (zfu S.1.1 (18 + 10 * c + r) (S.1.1 (18 + 10 * c + r) - 1)) := zput_ok hO2 (by omega) (by omega) (by omega)
      have hOn2 : zOK (zlose (zfu S.1.1 (18 + 10 * c + r) (S.1.1 (18 + 10 * c + r) - 1)) c (zcost (S.1.1 (8 + c)))) := zlose_ok hOn1 (by rw [e0]; omega) hcb.1
      have eo : ∀ j, j < 18 ∨ 68 ≤ j → (zlose (zfu S.1.1 (18 + 10 * c + r) (S.1.1 (18 + 10 * c + r) - 1)) c (zcost (S.1.1 (8 + c)))) j = S.1.1 j := fun j hj => by rw [zlose_out (by omega) (by omega)]; simp only [zfu]; rw [if_neg (by omega)]
      have e1 := eo 1 (by omega)
      have e2 := eo 2 (by omega)
      have e4 := eo 4 (by omega)
      have e88 := eo (88 + q) (by omega)
      have e68 := eo (68 + s) (by omega)
      have ehat := zrch_out (N := S.1.1) (N' := (zlose (zfu S.1.1 (18 + 10 * c + r) (S.1.1 (18 + 10 * c + r) - 1)) c (zcost (S.1.1 (8 + c))))) (s := s) (k := q) (r := r) (v := S.1.1 4) eo (by omega) (by omega)
      have hM1 := hC2.o73 (zSame.up (by omega)) (zup_at (w := w2) (k := 73) (e := .inr (false, 168, (zfu S.1.1 (18 + 10 * c + r) (S.1.1 (18 + 10 * c + r) - 1)))))
      refine q_aload_n (pc := 99) dX8_throwing_99 rfl rfl ?_
      refine q_iload_n (pc := 100) dX8_throwing_100 rfl ?_
      refine q_invokevirtual (pc := 101) (d' := d - 1) (mc' := 0) (ms' := 0) (As := [_]) (TX8, 26) cl_X8_220 dX8_throwing_101 rfl rfl (by first | assumption | exact zup_at | exact (zup_ne (by decide)).trans (zup_at) | exact (zup_ne (by decide)).trans (by assumption) | exact (zup_ne (by decide)).trans ((zup_ne (by decide)).trans (zup_at)) | exact (zup_ne (by decide)).trans ((zup_ne (by decide)).trans (by assumption)) | exact (zup_ne (by decide)).trans ((zup_ne (by decide)).trans ((zup_ne (by decide)).trans (zup_at))) | exact (zup_ne (by decide)).trans ((zup_ne (by decide)).trans ((zup_ne (by decide)).trans (by assumption))) | exact (zup_ne (by decide)).trans ((zup_ne (by decide)).trans ((zup_ne (by decide)).trans ((zup_ne (by decide)).trans (zup_at)))) | exact (zup_ne (by decide)).trans ((zup_ne (by decide)).trans ((zup_ne (by decide)).trans ((zup_ne (by decide)).trans (by assumption)))) | exact (zup_ne (by decide)).trans ((zup_ne (by decide)).trans ((zup_ne (by decide)).trans ((zup_ne (by decide)).trans ((zup_ne (by decide)).trans (zup_at))))) | exact (zup_ne (by decide)).trans ((zup_ne (by decide)).trans ((zup_ne (by decide)).trans ((zup_ne (by decide)).trans ((zup_ne (by decide)).trans (by assumption)))))) rfl (by omega) rfl 0 0 (Nat.le_refl 0) (Nat.le_refl 0) ?_
      refine c_X8_openDoor (by omega) ((zup_ne (by decide)).trans h722) zup_at hOn1 (by rw [e0]; omega) (fun w3 hs3 h733 => ?_)
      rw [e8] at h733
      have h723 := (hs3.2 72 (by omega)).trans ((zup_ne (w := w2) (k := 73) (e := .inr (false, 168, (zfu S.1.1 (18 + 10 * c + r) (S.1.1 (18 + 10 * c + r) - 1)))) (by decide)).trans h722)
      have hM2 := hM1.o73 hs3 h733
      have hs3 := hs2.tr ((zSame.up (w := w2) (k := 73) (e := .inr (false, 168, (zfu S.1.1 (18 + 10 * c + r) (S.1.1 (18 + 10 * c + r) - 1)))) (b := 72) (len := 16) (by omega)).tr (hs3.wide (by omega) (by omega)))
      refine q_aload_n (pc := 104) dX8_throwing_104 rfl rfl ?_
      refine q_iload_n (pc := 105) dX8_throwing_105 rfl ?_
      refine q_iload_n (pc := 106) dX8_throwing_106 rfl ?_
      refine q_iload (pc := 107) dX8_throwing_107 rfl ?_
      refine q_aload_n (pc := 109) dX8_throwing_109 rfl rfl ?_
      refine q_getfield (pc := 110) gf_X8_7 dX8_throwing_110 (by first | assumption | exact zup_at | exact (zup_ne (by decide)).trans (zup_at) | exact (zup_ne (by decide)).trans (by assumption) | exact (zup_ne (by decide)).trans ((zup_ne (by decide)).trans (zup_at)) | exact (zup_ne (by decide)).trans ((zup_ne (by decide)).trans (by assumption)) | exact (zup_ne (by decide)).trans ((zup_ne (by decide)).trans ((zup_ne (by decide)).trans (zup_at))) | exact (zup_ne (by decide)).trans ((zup_ne (by decide)).trans ((zup_ne (by decide)).trans (by assumption))) | exact (zup_ne (by decide)).trans ((zup_ne (by decide)).trans ((zup_ne (by decide)).trans ((zup_ne (by decide)).trans (zup_at)))) | exact (zup_ne (by decide)).trans ((zup_ne (by decide)).trans ((zup_ne (by decide)).trans ((zup_ne (by decide)).trans (by assumption)))) | exact (zup_ne (by decide)).trans ((zup_ne (by decide)).trans ((zup_ne (by decide)).trans ((zup_ne (by decide)).trans ((zup_ne (by decide)).trans (zup_at))))) | exact (zup_ne (by decide)).trans ((zup_ne (by decide)).trans ((zup_ne (by decide)).trans ((zup_ne (by decide)).trans ((zup_ne (by decide)).trans (by assumption)))))) rfl ?_
      refine q_iconst (pc := 113) dX8_throwing_113 ?_
      refine q_iaload (pc := 114) dX8_throwing_114 (by first | assumption | exact zup_at | exact (zup_ne (by decide)).trans (zup_at) | exact (zup_ne (by decide)).trans (by assumption) | exact (zup_ne (by decide)).trans ((zup_ne (by decide)).trans (zup_at)) | exact (zup_ne (by decide)).trans ((zup_ne (by decide)).trans (by assumption)) | exact (zup_ne (by decide)).trans ((zup_ne (by decide)).trans ((zup_ne (by decide)).trans (zup_at))) | exact (zup_ne (by decide)).trans ((zup_ne (by decide)).trans ((zup_ne (by decide)).trans (by assumption))) | exact (zup_ne (by decide)).trans ((zup_ne (by decide)).trans ((zup_ne (by decide)).trans ((zup_ne (by decide)).trans (zup_at)))) | exact (zup_ne (by decide)).trans ((zup_ne (by decide)).trans ((zup_ne (by decide)).trans ((zup_ne (by decide)).trans (by assumption)))) | exact (zup_ne (by decide)).trans ((zup_ne (by decide)).trans ((zup_ne (by decide)).trans ((zup_ne (by decide)).trans ((zup_ne (by decide)).trans (zup_at))))) | exact (zup_ne (by decide)).trans ((zup_ne (by decide)).trans ((zup_ne (by decide)).trans ((zup_ne (by decide)).trans ((zup_ne (by decide)).trans (by assumption)))))) (by omega) ?_
      rw [e4]
      refine q_invokevirtual (pc := 115) (d' := d - 1) (mc' := 0) (ms' := 0) (As := [_, _, _, _]) (TX8, 26) cl_X8_232 dX8_throwing_115 rfl rfl (by first | assumption | exact zup_at | exact (zup_ne (by decide)).trans (zup_at) | exact (zup_ne (by decide)).trans (by assumption) | exact (zup_ne (by decide)).trans ((zup_ne (by decide)).trans (zup_at)) | exact (zup_ne (by decide)).trans ((zup_ne (by decide)).trans (by assumption)) | exact (zup_ne (by decide)).trans ((zup_ne (by decide)).trans ((zup_ne (by decide)).trans (zup_at))) | exact (zup_ne (by decide)).trans ((zup_ne (by decide)).trans ((zup_ne (by decide)).trans (by assumption))) | exact (zup_ne (by decide)).trans ((zup_ne (by decide)).trans ((zup_ne (by decide)).trans ((zup_ne (by decide)).trans (zup_at)))) | exact (zup_ne (by decide)).trans ((zup_ne (by decide)).trans ((zup_ne (by decide)).trans ((zup_ne (by decide)).trans (by assumption)))) | exact (zup_ne (by decide)).trans ((zup_ne (by decide)).trans ((zup_ne (by decide)).trans ((zup_ne (by decide)).trans ((zup_ne (by decide)).trans (zup_at))))) | exact (zup_ne (by decide)).trans ((zup_ne (by decide)).trans ((zup_ne (by decide)).trans ((zup_ne (by decide)).trans ((zup_ne (by decide)).trans (by assumption)))))) rfl (by omega) rfl 0 0 (Nat.le_refl 0) (Nat.le_refl 0) ?_
      refine c_X8_reaches (by omega) h723 h733 hOn2 (by rw [e1]; omega) (by omega) (by rw [e2]; omega) (by omega) ?_
      refine q_ifb_ne (pc := 118) 123 dX8_throwing_118 rfl (fun c118 => ?_) (fun c118 => ?_)
      · refine q_aload_n (pc := 123) dX8_throwing_123 rfl rfl ?_
        refine q_iload_n (pc := 124) dX8_throwing_124 rfl ?_
        refine q_iload_n (pc := 125) dX8_throwing_125 rfl ?_
        refine q_invokevirtual (pc := 126) (d' := d - 1) (mc' := 0) (ms' := 0) (As := [_, _]) (TX8, 26) cl_X8_236 dX8_throwing_126 rfl rfl (by first | assumption | exact zup_at | exact (zup_ne (by decide)).trans (zup_at) | exact (zup_ne (by decide)).trans (by assumption) | exact (zup_ne (by decide)).trans ((zup_ne (by decide)).trans (zup_at)) | exact (zup_ne (by decide)).trans ((zup_ne (by decide)).trans (by assumption)) | exact (zup_ne (by decide)).trans ((zup_ne (by decide)).trans ((zup_ne (by decide)).trans (zup_at))) | exact (zup_ne (by decide)).trans ((zup_ne (by decide)).trans ((zup_ne (by decide)).trans (by assumption))) | exact (zup_ne (by decide)).trans ((zup_ne (by decide)).trans ((zup_ne (by decide)).trans ((zup_ne (by decide)).trans (zup_at)))) | exact (zup_ne (by decide)).trans ((zup_ne (by decide)).trans ((zup_ne (by decide)).trans ((zup_ne (by decide)).trans (by assumption)))) | exact (zup_ne (by decide)).trans ((zup_ne (by decide)).trans ((zup_ne (by decide)).trans ((zup_ne (by decide)).trans ((zup_ne (by decide)).trans (zup_at))))) | exact (zup_ne (by decide)).trans ((zup_ne (by decide)).trans ((zup_ne (by decide)).trans ((zup_ne (by decide)).trans ((zup_ne (by decide)).trans (by assumption)))))) rfl (by omega) rfl 0 0 (Nat.le_refl 0) (Nat.le_refl 0) ?_
        refine c_X8_hitsOf (by omega) h723 h733 hOn2 (by rw [e1]; omega) (by omega) ?_
        rw [e68]
        have ez : zhat S.1.1 s q r (S.1.1 4) = zhits (S.1.1 (68 + s)) r := by rw [← ehat, ← e68]; exact if_pos c118
        have hhb := zhits_b (kind := S.1.1 (68 + s)) (r := r) (by omega)
        refine q_istore (pc := 129) [some _, some _, some _, some _, some _, some _] dX8_throwing_129 rfl (Nat.le_of_ble_eq_true rfl) rfl ?_
        refine q_aload_n (pc := 131) dX8_throwing_131 rfl rfl ?_
        refine q_getfield (pc := 132) gf_X8_7 dX8_throwing_132 (by first | assumption | exact zup_at | exact (zup_ne (by decide)).trans (zup_at) | exact (zup_ne (by decide)).trans (by assumption) | exact (zup_ne (by decide)).trans ((zup_ne (by decide)).trans (zup_at)) | exact (zup_ne (by decide)).trans ((zup_ne (by decide)).trans (by assumption)) | exact (zup_ne (by decide)).trans ((zup_ne (by decide)).trans ((zup_ne (by decide)).trans (zup_at))) | exact (zup_ne (by decide)).trans ((zup_ne (by decide)).trans ((zup_ne (by decide)).trans (by assumption))) | exact (zup_ne (by decide)).trans ((zup_ne (by decide)).trans ((zup_ne (by decide)).trans ((zup_ne (by decide)).trans (zup_at)))) | exact (zup_ne (by decide)).trans ((zup_ne (by decide)).trans ((zup_ne (by decide)).trans ((zup_ne (by decide)).trans (by assumption)))) | exact (zup_ne (by decide)).trans ((zup_ne (by decide)).trans ((zup_ne (by decide)).trans ((zup_ne (by decide)).trans ((zup_ne (by decide)).trans (zup_at))))) | exact (zup_ne (by decide)).trans ((zup_ne (by decide)).trans ((zup_ne (by decide)).trans ((zup_ne (by decide)).trans ((zup_ne (by decide)).trans (by assumption)))))) rfl ?_
        refine q_bipush (pc := 135) (by decide) dX8_throwing_135 ?_
        refine q_iload (pc := 137) dX8_throwing_137 rfl ?_
        refine q_iadd (pc := 139) dX8_throwing_139 ?_
        refine q_aload_n (pc := 140) dX8_throwing_140 rfl rfl ?_
        refine q_getfield (pc := 141) gf_X8_7 dX8_throwing_141 (by first | assumption | exact zup_at | exact (zup_ne (by decide)).trans (zup_at) | exact (zup_ne (by decide)).trans (by assumption) | exact (zup_ne (by decide)).trans ((zup_ne (by decide)).trans (zup_at)) | exact (zup_ne (by decide)).trans ((zup_ne (by decide)).trans (by assumption)) | exact (zup_ne (by decide)).trans ((zup_ne (by decide)).trans ((zup_ne (by decide)).trans (zup_at))) | exact (zup_ne (by decide)).trans ((zup_ne (by decide)).trans ((zup_ne (by decide)).trans (by assumption))) | exact (zup_ne (by decide)).trans ((zup_ne (by decide)).trans ((zup_ne (by decide)).trans ((zup_ne (by decide)).trans (zup_at)))) | exact (zup_ne (by decide)).trans ((zup_ne (by decide)).trans ((zup_ne (by decide)).trans ((zup_ne (by decide)).trans (by assumption)))) | exact (zup_ne (by decide)).trans ((zup_ne (by decide)).trans ((zup_ne (by decide)).trans ((zup_ne (by decide)).trans ((zup_ne (by decide)).trans (zup_at))))) | exact (zup_ne (by decide)).trans ((zup_ne (by decide)).trans ((zup_ne (by decide)).trans ((zup_ne (by decide)).trans ((zup_ne (by decide)).trans (by assumption)))))) rfl ?_
        refine q_bipush (pc := 144) (by decide) dX8_throwing_144 ?_
        refine q_iload (pc := 146) dX8_throwing_146 rfl ?_
        refine q_iadd (pc := 148) dX8_throwing_148 ?_
        refine q_iaload (pc := 149) dX8_throwing_149 (by first | assumption | exact zup_at | exact (zup_ne (by decide)).trans (zup_at) | exact (zup_ne (by decide)).trans (by assumption) | exact (zup_ne (by decide)).trans ((zup_ne (by decide)).trans (zup_at)) | exact (zup_ne (by decide)).trans ((zup_ne (by decide)).trans (by assumption)) | exact (zup_ne (by decide)).trans ((zup_ne (by decide)).trans ((zup_ne (by decide)).trans (zup_at))) | exact (zup_ne (by decide)).trans ((zup_ne (by decide)).trans ((zup_ne (by decide)).trans (by assumption))) | exact (zup_ne (by decide)).trans ((zup_ne (by decide)).trans ((zup_ne (by decide)).trans ((zup_ne (by decide)).trans (zup_at)))) | exact (zup_ne (by decide)).trans ((zup_ne (by decide)).trans ((zup_ne (by decide)).trans ((zup_ne (by decide)).trans (by assumption)))) | exact (zup_ne (by decide)).trans ((zup_ne (by decide)).trans ((zup_ne (by decide)).trans ((zup_ne (by decide)).trans ((zup_ne (by decide)).trans (zup_at))))) | exact (zup_ne (by decide)).trans ((zup_ne (by decide)).trans ((zup_ne (by decide)).trans ((zup_ne (by decide)).trans ((zup_ne (by decide)).trans (by assumption)))))) (by omega) ?_
        refine q_iload (pc := 150) dX8_throwing_150 rfl ?_
        rw [e88]
        refine q_iadd (pc := 152) dX8_throwing_152 ?_
        refine q_bipush (pc := 153) (by decide) dX8_throwing_153 ?_
        refine q_icmp_ge (pc := 155) (by omega) (by omega) 174 dX8_throwing_155 rfl (fun c155 => ?_) (fun c155 => ?_)
        · refine q_bipush (pc := 174) (by decide) dX8_throwing_174 ?_
          first | rw [show S.1.1 (88 + q) + zhits (S.1.1 (68 + s)) r = min 40 (S.1.1 (88 + q) + zhits (S.1.1 (68 + s)) r) by omega] | rw [show (40 : Int) = min 40 (S.1.1 (88 + q) + zhits (S.1.1 (68 + s)) r) by omega]
          refine q_iastore (pc := 176) dX8_throwing_176 (by first | assumption | exact zup_at | exact (zup_ne (by decide)).trans (zup_at) | exact (zup_ne (by decide)).trans (by assumption) | exact (zup_ne (by decide)).trans ((zup_ne (by decide)).trans (zup_at)) | exact (zup_ne (by decide)).trans ((zup_ne (by decide)).trans (by assumption)) | exact (zup_ne (by decide)).trans ((zup_ne (by decide)).trans ((zup_ne (by decide)).trans (zup_at))) | exact (zup_ne (by decide)).trans ((zup_ne (by decide)).trans ((zup_ne (by decide)).trans (by assumption))) | exact (zup_ne (by decide)).trans ((zup_ne (by decide)).trans ((zup_ne (by decide)).trans ((zup_ne (by decide)).trans (zup_at)))) | exact (zup_ne (by decide)).trans ((zup_ne (by decide)).trans ((zup_ne (by decide)).trans ((zup_ne (by decide)).trans (by assumption)))) | exact (zup_ne (by decide)).trans ((zup_ne (by decide)).trans ((zup_ne (by decide)).trans ((zup_ne (by decide)).trans ((zup_ne (by decide)).trans (zup_at))))) | exact (zup_ne (by decide)).trans ((zup_ne (by decide)).trans ((zup_ne (by decide)).trans ((zup_ne (by decide)).trans ((zup_ne (by decide)).trans (by assumption)))))) (by omega) ?_
          refine q_iload (pc := 177) dX8_throwing_177 rfl ?_
          refine q_ireturn (pc := 179) dX8_throwing_179 rfl ?_
          exact zgm k (by unfold o_throwing; exact (if_pos (by omega)).trans ((if_neg (by omega)).trans (by rw [ez]; unfold zthrow; rw [ez]))) (hs3.tr (zSame.up (by omega))) (hM2.o73 (zSame.up (by omega)) zup_at)
        refine q_aload_n (pc := 158) dX8_throwing_158 rfl rfl ?_
        refine q_getfield (pc := 159) gf_X8_7 dX8_throwing_159 (by first | assumption | exact zup_at | exact (zup_ne (by decide)).trans (zup_at) | exact (zup_ne (by decide)).trans (by assumption) | exact (zup_ne (by decide)).trans ((zup_ne (by decide)).trans (zup_at)) | exact (zup_ne (by decide)).trans ((zup_ne (by decide)).trans (by assumption)) | exact (zup_ne (by decide)).trans ((zup_ne (by decide)).trans ((zup_ne (by decide)).trans (zup_at))) | exact (zup_ne (by decide)).trans ((zup_ne (by decide)).trans ((zup_ne (by decide)).trans (by assumption))) | exact (zup_ne (by decide)).trans ((zup_ne (by decide)).trans ((zup_ne (by decide)).trans ((zup_ne (by decide)).trans (zup_at)))) | exact (zup_ne (by decide)).trans ((zup_ne (by decide)).trans ((zup_ne (by decide)).trans ((zup_ne (by decide)).trans (by assumption)))) | exact (zup_ne (by decide)).trans ((zup_ne (by decide)).trans ((zup_ne (by decide)).trans ((zup_ne (by decide)).trans ((zup_ne (by decide)).trans (zup_at))))) | exact (zup_ne (by decide)).trans ((zup_ne (by decide)).trans ((zup_ne (by decide)).trans ((zup_ne (by decide)).trans ((zup_ne (by decide)).trans (by assumption)))))) rfl ?_
        refine q_bipush (pc := 162) (by decide) dX8_throwing_162 ?_
        refine q_iload (pc := 164) dX8_throwing_164 rfl ?_
        refine q_iadd (pc := 166) dX8_throwing_166 ?_
        refine q_iaload (pc := 167) dX8_throwing_167 (by first | assumption | exact zup_at | exact (zup_ne (by decide)).trans (zup_at) | exact (zup_ne (by decide)).trans (by assumption) | exact (zup_ne (by decide)).trans ((zup_ne (by decide)).trans (zup_at)) | exact (zup_ne (by decide)).trans ((zup_ne (by decide)).trans (by assumption)) | exact (zup_ne (by decide)).trans ((zup_ne (by decide)).trans ((zup_ne (by decide)).trans (zup_at))) | exact (zup_ne (by decide)).trans ((zup_ne (by decide)).trans ((zup_ne (by decide)).trans (by assumption))) | exact (zup_ne (by decide)).trans ((zup_ne (by decide)).trans ((zup_ne (by decide)).trans ((zup_ne (by decide)).trans (zup_at)))) | exact (zup_ne (by decide)).trans ((zup_ne (by decide)).trans ((zup_ne (by decide)).trans ((zup_ne (by decide)).trans (by assumption)))) | exact (zup_ne (by decide)).trans ((zup_ne (by decide)).trans ((zup_ne (by decide)).trans ((zup_ne (by decide)).trans ((zup_ne (by decide)).trans (zup_at))))) | exact (zup_ne (by decide)).trans ((zup_ne (by decide)).trans ((zup_ne (by decide)).trans ((zup_ne (by decide)).trans ((zup_ne (by decide)).trans (by assumption)))))) (by omega) ?_
        refine q_iload (pc := 168) dX8_throwing_168 rfl ?_
        rw [e88]
        refine q_iadd (pc := 170) dX8_throwing_170 ?_
        refine q_goto (pc := 171) 176 dX8_throwing_171 rfl ?_
        first | rw [show S.1.1 (88 + q) + zhits (S.1.1 (68 + s)) r = min 40 (S.1.1 (88 + q) + zhits (S.1.1 (68 + s)) r) by omega] | rw [show (40 : Int) = min 40 (S.1.1 (88 + q) + zhits (S.1.1 (68 + s)) r) by omega]
        refine q_iastore (pc := 176) dX8_throwing_176 (by first | assumption | exact zup_at | exact (zup_ne (by decide)).trans (zup_at) | exact (zup_ne (by decide)).trans (by assumption) | exact (zup_ne (by decide)).trans ((zup_ne (by decide)).trans (zup_at)) | exact (zup_ne (by decide)).trans ((zup_ne (by decide)).trans (by assumption)) | exact (zup_ne (by decide)).trans ((zup_ne (by decide)).trans ((zup_ne (by decide)).trans (zup_at))) | exact (zup_ne (by decide)).trans ((zup_ne (by decide)).trans ((zup_ne (by decide)).trans (by assumption))) | exact (zup_ne (by decide)).trans ((zup_ne (by decide)).trans ((zup_ne (by decide)).trans ((zup_ne (by decide)).trans (zup_at)))) | exact (zup_ne (by decide)).trans ((zup_ne (by decide)).trans ((zup_ne (by decide)).trans ((zup_ne (by decide)).trans (by assumption)))) | exact (zup_ne (by decide)).trans ((zup_ne (by decide)).trans ((zup_ne (by decide)).trans ((zup_ne (by decide)).trans ((zup_ne (by decide)).trans (zup_at))))) | exact (zup_ne (by decide)).trans ((zup_ne (by decide)).trans ((zup_ne (by decide)).trans ((zup_ne (by decide)).trans ((zup_ne (by decide)).trans (by assumption)))))) (by omega) ?_
        refine q_iload (pc := 177) dX8_throwing_177 rfl ?_
        refine q_ireturn (pc := 179) dX8_throwing_179 rfl ?_
        exact zgm k (by unfold o_throwing; exact (if_pos (by omega)).trans ((if_neg (by omega)).trans (by rw [ez]; unfold zthrow; rw [ez]))) (hs3.tr (zSame.up (by omega))) (hM2.o73 (zSame.up (by omega)) zup_at)
      refine q_iconst (pc := 121) dX8_throwing_121 ?_
      refine q_ireturn (pc := 122) dX8_throwing_122 rfl ?_
      have ez : zhat S.1.1 s q r (S.1.1 4) = 0 := by rw [← ehat]; exact if_neg c118
      have ea := (zthrow_no (r := r) hO2 (by omega) (by omega) ez).resolve_right (by omega)
      exact zgm k (by unfold o_throwing; exact (if_pos (by omega)).trans ((if_neg (by omega)).trans (by rw [ez, ea]))) hs3 hM2
    refine q_aload_n (pc := 72) dX8_throwing_72 rfl rfl ?_
    refine q_invokevirtual (pc := 73) (d' := d - 1) (mc' := 0) (ms' := 0) (As := []) (TX8, 26) cl_X8_229 dX8_throwing_73 rfl rfl (by first | assumption | exact zup_at | exact (zup_ne (by decide)).trans (zup_at) | exact (zup_ne (by decide)).trans (by assumption) | exact (zup_ne (by decide)).trans ((zup_ne (by decide)).trans (zup_at)) | exact (zup_ne (by decide)).trans ((zup_ne (by decide)).trans (by assumption)) | exact (zup_ne (by decide)).trans ((zup_ne (by decide)).trans ((zup_ne (by decide)).trans (zup_at))) | exact (zup_ne (by decide)).trans ((zup_ne (by decide)).trans ((zup_ne (by decide)).trans (by assumption))) | exact (zup_ne (by decide)).trans ((zup_ne (by decide)).trans ((zup_ne (by decide)).trans ((zup_ne (by decide)).trans (zup_at)))) | exact (zup_ne (by decide)).trans ((zup_ne (by decide)).trans ((zup_ne (by decide)).trans ((zup_ne (by decide)).trans (by assumption)))) | exact (zup_ne (by decide)).trans ((zup_ne (by decide)).trans ((zup_ne (by decide)).trans ((zup_ne (by decide)).trans ((zup_ne (by decide)).trans (zup_at))))) | exact (zup_ne (by decide)).trans ((zup_ne (by decide)).trans ((zup_ne (by decide)).trans ((zup_ne (by decide)).trans ((zup_ne (by decide)).trans (by assumption)))))) rfl (by omega) rfl 0 0 (Nat.le_refl 0) (Nat.le_refl 0) ?_
    refine c_X8_no hC (fun w9 hs9 hC9 => ?_)
    refine q_ireturn (pc := 76) dX8_throwing_76 rfl ?_
    exact zgm k (by unfold o_throwing; exact ((if_pos (by omega)).trans ((if_pos (by omega)).trans rfl))) hs9 hC9
  refine q_aload_n (pc := 37) dX8_throwing_37 rfl rfl ?_
  refine q_invokevirtual (pc := 38) (d' := d - 1) (mc' := 0) (ms' := 0) (As := []) (TX8, 26) cl_X8_103 dX8_throwing_38 rfl rfl (by first | assumption | exact zup_at | exact (zup_ne (by decide)).trans (zup_at) | exact (zup_ne (by decide)).trans (by assumption) | exact (zup_ne (by decide)).trans ((zup_ne (by decide)).trans (zup_at)) | exact (zup_ne (by decide)).trans ((zup_ne (by decide)).trans (by assumption)) | exact (zup_ne (by decide)).trans ((zup_ne (by decide)).trans ((zup_ne (by decide)).trans (zup_at))) | exact (zup_ne (by decide)).trans ((zup_ne (by decide)).trans ((zup_ne (by decide)).trans (by assumption))) | exact (zup_ne (by decide)).trans ((zup_ne (by decide)).trans ((zup_ne (by decide)).trans ((zup_ne (by decide)).trans (zup_at)))) | exact (zup_ne (by decide)).trans ((zup_ne (by decide)).trans ((zup_ne (by decide)).trans ((zup_ne (by decide)).trans (by assumption)))) | exact (zup_ne (by decide)).trans ((zup_ne (by decide)).trans ((zup_ne (by decide)).trans ((zup_ne (by decide)).trans ((zup_ne (by decide)).trans (zup_at))))) | exact (zup_ne (by decide)).trans ((zup_ne (by decide)).trans ((zup_ne (by decide)).trans ((zup_ne (by decide)).trans ((zup_ne (by decide)).trans (by assumption)))))) rfl (by omega) rfl 0 0 (Nat.le_refl 0) (Nat.le_refl 0) ?_
  refine c_X8_bad hC (fun w9 hs9 hC9 => ?_)
  refine q_ireturn (pc := 41) dX8_throwing_41 rfl ?_
  exact zgm k (by unfold o_throwing; exact ((if_neg (by omega)).trans rfl)) hs9 hC9
set_option maxRecDepth 100000 in
set_option maxHeartbeats 8000000 in
theorem c_X8_hour (hd : 6 ≤ d) (hC : zMo g w S) (hO : zOKS S) (k : ∀ w', zSame w w' 72 16 → zMo g w' (o_hour S).2 → K (some (zI (o_hour S).1)) w') : zCall g d 0 0 mX8_hour [zR g 72] w K := by
  obtain ⟨⟨p0, p1, p2, p3, p4, it, sm, h72⟩, h73, h74, h75, h76, hScr, h84, h85, h86, h87⟩ := id hC
  have hO1 := hO.1
  have hO2 := hO1.1
  have hO3 := hO2.1
  have L : ∀ (q m : Nat) (w1 : zWd), (m : Int) + (q : Int) = S.1.1 2 → zSame w w1 72 16 → zMo g w1 (sMv S (zhourTo S.1.1 m)) → zRuns g d mX8_hour 0 0 8 [some (zR g 72), some (zI (zsg (fun k => zb (zhour S.1.1 (80 + k) = 0)) m 0)), some (zI (m : Int))] [] w1 K := by
    intro q
    induction q with
    | zero =>
      intro m w1 h1 hs hM
      have e : m = (S.1.1 2).toNat := by omega
      obtain ⟨⟨p0, p1, p2, p3, p4, it, sm, h72⟩, -⟩ := id hM
      have h73 : w1.1 73 = some (.inr (false, 168, zhourTo S.1.1 m)) := hM.2.1
      have e2 := zhourTo_out (N := S.1.1) (m := m) (j := 2) (by omega)
      refine q_iload_n (pc := 8) dX8_hour_8 rfl ?_
      refine q_aload_n (pc := 9) dX8_hour_9 rfl rfl ?_
      refine q_getfield (pc := 10) gf_X8_7 dX8_hour_10 (by assumption) rfl ?_
      refine q_iconst (pc := 13) dX8_hour_13 ?_
      refine q_iaload (pc := 14) dX8_hour_14 (by assumption) (by omega) ?_
      refine q_icmp_ge (pc := 15) (by omega) (by omega) 81 dX8_hour_15 rfl (fun c15 => ?_) (fun c15 => ?_)
      · refine q_iload_n (pc := 81) dX8_hour_81 rfl ?_
        refine q_ireturn (pc := 82) dX8_hour_82 rfl ?_
        rw [e] at hM ⊢; exact k _ hs hM
      exfalso; omega
    | succ q ih =>
      intro m w1 h1 hs hM
      have hih := ih (m + 1)
      obtain ⟨⟨p0, p1, p2, p3, p4, it, sm, h72⟩, -⟩ := id hM
      have h73 : w1.1 73 = some (.inr (false, 168, zhourTo S.1.1 m)) := hM.2.1
      have hom := zhourTo_ok hO2 (m := m) (by omega)
      have e2 := zhourTo_out (N := S.1.1) (m := m) (j := 2) (by omega)
      have ef := zhourTo_out (N := S.1.1) (m := m) (j := 80 + (m : Int)) (by omega)
      have en := zhourTo_out (N := S.1.1) (m := m) (j := 84 + (m : Int)) (by omega)
      have eh := zhourTo_out (N := S.1.1) (m := m) (j := 88 + (m : Int)) (by omega)
      have hk := hO2.2.2.2.2.1 (m : Int) (by omega) (by omega)
      have ha := zhourTo_at (N := S.1.1) (k := (m : Int)) (m := m + 1) (by omega) (by omega)
      have hb := zhourTo_at (N := S.1.1) (k := (m : Int)) (m := (S.1.1 2).toNat) (by omega) (by omega)
      have hab : zhour S.1.1 (80 + (m : Int)) = zhourTo S.1.1 (m + 1) (80 + (m : Int)) := by rw [ha]; exact hb
      have hbd : 0 ≤ zhourTo S.1.1 (m + 1) (80 + (m : Int)) ∧ zhourTo S.1.1 (m + 1) (80 + (m : Int)) ≤ 30 := by rw [ha]; split <;> omega
      have hst : zhourTo S.1.1 (m + 1) = zfu (zhourTo S.1.1 m) (80 + (m : Int)) (zhourTo S.1.1 (m + 1) (80 + (m : Int))) := by
        rw [ha]
        by_cases hz : zTn S.1.1 (m : Int)
        · rw [if_pos hz, zhourTo, if_pos hz]; exact (zfu_same (by rw [ef])).symm
        · rw [if_neg hz, zhourTo, if_neg hz]
      rw [zsg, Int.zero_add, hab] at hih
      have hzt : zb (zTn (zhourTo S.1.1 m) (m : Int)) = zb (zTn S.1.1 (m : Int)) := zb_iff (by unfold zTn; rw [en, eh])
      have J53 : ∀ (v : Int), zhourTo S.1.1 (m + 1) (80 + (m : Int)) = S.1.1 (80 + (m : Int)) - v → zRuns g d mX8_hour 0 0 53 [some (zR g 72), some (zI (zsg (fun k => zb (zhour S.1.1 (80 + k) = 0)) m 0)), some (zI (m : Int))] [zI v, zI (S.1.1 (80 + (m : Int))), zI (80 + (m : Int)), zR g 73] w1 K := by
        intro v hv
        refine q_isub (pc := 53) dX8_hour_53 ?_
        rw [← hv]
        have hM1 := hM.o73 (zSame.up (by omega)) (zup_at (w := w1) (k := 73) (e := .inr (false, 168, zfu (zhourTo S.1.1 m) (80 + (m : Int)) (zhourTo S.1.1 (m + 1) (80 + (m : Int))))))
        rw [← hst] at hM1
        refine q_iastore (pc := 54) dX8_hour_54 (by first | assumption | exact zup_at | exact (zup_ne (by decide)).trans (zup_at) | exact (zup_ne (by decide)).trans (by assumption) | exact (zup_ne (by decide)).trans ((zup_ne (by decide)).trans (zup_at)) | exact (zup_ne (by decide)).trans ((zup_ne (by decide)).trans (by assumption)) | exact (zup_ne (by decide)).trans ((zup_ne (by decide)).trans ((zup_ne (by decide)).trans (zup_at))) | exact (zup_ne (by decide)).trans ((zup_ne (by decide)).trans ((zup_ne (by decide)).trans (by assumption))) | exact (zup_ne (by decide)).trans ((zup_ne (by decide)).trans ((zup_ne (by decide)).trans ((zup_ne (by decide)).trans (zup_at)))) | exact (zup_ne (by decide)).trans ((zup_ne (by decide)).trans ((zup_ne (by decide)).trans ((zup_ne (by decide)).trans (by assumption)))) | exact (zup_ne (by decide)).trans ((zup_ne (by decide)).trans ((zup_ne (by decide)).trans ((zup_ne (by decide)).trans ((zup_ne (by decide)).trans (zup_at))))) | exact (zup_ne (by decide)).trans ((zup_ne (by decide)).trans ((zup_ne (by decide)).trans ((zup_ne (by decide)).trans ((zup_ne (by decide)).trans (by assumption)))))) (by omega) ?_
        rw [← hst]
        refine q_iload_n (pc := 55) dX8_hour_55 rfl ?_
        refine q_aload_n (pc := 56) dX8_hour_56 rfl rfl ?_
        refine q_getfield (pc := 57) gf_X8_7 dX8_hour_57 (by first | assumption | exact zup_at | exact (zup_ne (by decide)).trans (zup_at) | exact (zup_ne (by decide)).trans (by assumption) | exact (zup_ne (by decide)).trans ((zup_ne (by decide)).trans (zup_at)) | exact (zup_ne (by decide)).trans ((zup_ne (by decide)).trans (by assumption)) | exact (zup_ne (by decide)).trans ((zup_ne (by decide)).trans ((zup_ne (by decide)).trans (zup_at))) | exact (zup_ne (by decide)).trans ((zup_ne (by decide)).trans ((zup_ne (by decide)).trans (by assumption))) | exact (zup_ne (by decide)).trans ((zup_ne (by decide)).trans ((zup_ne (by decide)).trans ((zup_ne (by decide)).trans (zup_at)))) | exact (zup_ne (by decide)).trans ((zup_ne (by decide)).trans ((zup_ne (by decide)).trans ((zup_ne (by decide)).trans (by assumption)))) | exact (zup_ne (by decide)).trans ((zup_ne (by decide)).trans ((zup_ne (by decide)).trans ((zup_ne (by decide)).trans ((zup_ne (by decide)).trans (zup_at))))) | exact (zup_ne (by decide)).trans ((zup_ne (by decide)).trans ((zup_ne (by decide)).trans ((zup_ne (by decide)).trans ((zup_ne (by decide)).trans (by assumption)))))) rfl ?_
        refine q_bipush (pc := 60) (by decide) dX8_hour_60 ?_
        refine q_iload_n (pc := 62) dX8_hour_62 rfl ?_
        refine q_iadd (pc := 63) dX8_hour_63 ?_
        refine q_iaload (pc := 64) dX8_hour_64 (by first | assumption | exact zup_at | exact (zup_ne (by decide)).trans (zup_at) | exact (zup_ne (by decide)).trans (by assumption) | exact (zup_ne (by decide)).trans ((zup_ne (by decide)).trans (zup_at)) | exact (zup_ne (by decide)).trans ((zup_ne (by decide)).trans (by assumption)) | exact (zup_ne (by decide)).trans ((zup_ne (by decide)).trans ((zup_ne (by decide)).trans (zup_at))) | exact (zup_ne (by decide)).trans ((zup_ne (by decide)).trans ((zup_ne (by decide)).trans (by assumption))) | exact (zup_ne (by decide)).trans ((zup_ne (by decide)).trans ((zup_ne (by decide)).trans ((zup_ne (by decide)).trans (zup_at)))) | exact (zup_ne (by decide)).trans ((zup_ne (by decide)).trans ((zup_ne (by decide)).trans ((zup_ne (by decide)).trans (by assumption)))) | exact (zup_ne (by decide)).trans ((zup_ne (by decide)).trans ((zup_ne (by decide)).trans ((zup_ne (by decide)).trans ((zup_ne (by decide)).trans (zup_at))))) | exact (zup_ne (by decide)).trans ((zup_ne (by decide)).trans ((zup_ne (by decide)).trans ((zup_ne (by decide)).trans ((zup_ne (by decide)).trans (by assumption)))))) (by omega) ?_
        refine q_if_ne (pc := 65) (by omega) 72 dX8_hour_65 rfl (fun c65 => ?_) (fun c65 => ?_)
        · refine q_iconst (pc := 72) dX8_hour_72 ?_
          refine q_iadd (pc := 73) dX8_hour_73 ?_
          refine q_istore_n (pc := 74) [some _, some _, some _] dX8_hour_74 rfl (Nat.le_of_ble_eq_true rfl) rfl ?_
          refine q_iinc (pc := 75) [some _, some _, some _] dX8_hour_75 rfl rfl rfl ?_
          refine q_goto (pc := 78) 8 dX8_hour_78 rfl ?_
          first | (rw [zb_t c65] at hih; exact hih _ (by omega) (hs.tr (zSame.up (by omega))) hM1) | (rw [zb_f c65] at hih; exact hih _ (by omega) (hs.tr (zSame.up (by omega))) hM1)
        refine q_iconst (pc := 68) dX8_hour_68 ?_
        refine q_goto (pc := 69) 73 dX8_hour_69 rfl ?_
        refine q_iadd (pc := 73) dX8_hour_73 ?_
        refine q_istore_n (pc := 74) [some _, some _, some _] dX8_hour_74 rfl (Nat.le_of_ble_eq_true rfl) rfl ?_
        refine q_iinc (pc := 75) [some _, some _, some _] dX8_hour_75 rfl rfl rfl ?_
        refine q_goto (pc := 78) 8 dX8_hour_78 rfl ?_
        first | (rw [zb_t c65] at hih; exact hih _ (by omega) (hs.tr (zSame.up (by omega))) hM1) | (rw [zb_f c65] at hih; exact hih _ (by omega) (hs.tr (zSame.up (by omega))) hM1)
      refine q_iload_n (pc := 8) dX8_hour_8 rfl ?_
      refine q_aload_n (pc := 9) dX8_hour_9 rfl rfl ?_
      refine q_getfield (pc := 10) gf_X8_7 dX8_hour_10 (by assumption) rfl ?_
      refine q_iconst (pc := 13) dX8_hour_13 ?_
      refine q_iaload (pc := 14) dX8_hour_14 (by assumption) (by omega) ?_
      refine q_icmp_ge (pc := 15) (by omega) (by omega) 81 dX8_hour_15 rfl (fun c15 => ?_) (fun c15 => ?_)
      · exfalso; omega
      refine q_aload_n (pc := 18) dX8_hour_18 rfl rfl ?_
      refine q_getfield (pc := 19) gf_X8_7 dX8_hour_19 (by assumption) rfl ?_
      refine q_bipush (pc := 22) (by decide) dX8_hour_22 ?_
      refine q_iload_n (pc := 24) dX8_hour_24 rfl ?_
      refine q_iadd (pc := 25) dX8_hour_25 ?_
      refine q_dup2 (pc := 26) rfl rfl dX8_hour_26 ?_
      refine q_iaload (pc := 27) dX8_hour_27 (by assumption) (by omega) ?_
      rw [ef]
      refine q_aload_n (pc := 28) dX8_hour_28 rfl rfl ?_
      refine q_iload_n (pc := 29) dX8_hour_29 rfl ?_
      refine q_invokevirtual (pc := 30) (d' := d - 1) (mc' := 0) (ms' := 0) (As := [_]) (TX8, 26) cl_X8_239 dX8_hour_30 rfl rfl (by assumption) rfl (by omega) rfl 0 0 (Nat.le_refl 0) (Nat.le_refl 0) ?_
      refine c_X8_isTurned h72 h73 hom (by omega) ?_
      rw [hzt]
      refine q_ifb_ne (pc := 33) 52 dX8_hour_33 rfl (fun c33 => ?_) (fun c33 => ?_)
      · refine q_iconst (pc := 52) dX8_hour_52 ?_
        first | exact J53 _ (by rw [ha, if_pos c33]; omega) | exact J53 _ (by rw [ha, if_neg c33]; omega)
      refine q_aload_n (pc := 36) dX8_hour_36 rfl rfl ?_
      refine q_getfield (pc := 37) gf_X8_7 dX8_hour_37 (by assumption) rfl ?_
      refine q_bipush (pc := 40) (by decide) dX8_hour_40 ?_
      refine q_iload_n (pc := 42) dX8_hour_42 rfl ?_
      refine q_iadd (pc := 43) dX8_hour_43 ?_
      refine q_iaload (pc := 44) dX8_hour_44 (by assumption) (by omega) ?_
      rw [ef]
      refine q_if_le (pc := 45) (by omega) 52 dX8_hour_45 rfl (fun c45 => ?_) (fun c45 => ?_)
      · refine q_iconst (pc := 52) dX8_hour_52 ?_
        first | exact J53 _ (by rw [ha, if_pos c33]; omega) | exact J53 _ (by rw [ha, if_neg c33]; omega)
      refine q_iconst (pc := 48) dX8_hour_48 ?_
      refine q_goto (pc := 49) 53 dX8_hour_49 rfl ?_
      first | exact J53 _ (by rw [ha, if_pos c33]; omega) | exact J53 _ (by rw [ha, if_neg c33]; omega)
  refine zenter [some _, none, none] pn_X8 rfl (Nat.le_of_ble_eq_true rfl) ?_
  refine q_aload_n (pc := 0) dX8_hour_0 rfl rfl ?_
  refine q_invokevirtual (pc := 1) (d' := d - 1) (mc' := 0) (ms' := 0) (As := []) (TX8, 26) cl_X8_211 dX8_hour_1 rfl rfl (by assumption) rfl (by omega) rfl 0 0 (Nat.le_refl 0) (Nat.le_refl 0) ?_
  refine c_X8_remember (by omega) hC hO1.2.1 (fun w2 hs2 hC2 => ?_)
  refine q_iconst (pc := 4) dX8_hour_4 ?_
  refine q_istore_n (pc := 5) [some _, some _, none] dX8_hour_5 rfl (Nat.le_of_ble_eq_true rfl) rfl ?_
  refine q_iconst (pc := 6) dX8_hour_6 ?_
  refine q_istore_n (pc := 7) [some _, some _, some _] dX8_hour_7 rfl (Nat.le_of_ble_eq_true rfl) rfl ?_
  exact L (S.1.1 2).toNat 0 _ (by omega) (hs2.wide (by omega) (by omega)) hC2
set_option maxRecDepth 100000 in
set_option maxHeartbeats 8000000 in
theorem c_X8_undo (hd : 6 ≤ d) (hC : zMo g w S) (hO : zOKS S) (k : ∀ w', zSame w w' 72 16 → zMo g w' (o_undo S).2 → K (some (zI (o_undo S).1)) w') : zCall g d 0 0 mX8_undo [zR g 72] w K := by
  obtain ⟨⟨p0, p1, p2, p3, p4, it, sm, h72⟩, h73, h74, h75, h76, hScr, h84, h85, h86, h87⟩ := id hC
  have hO1 := hO.1
  have hu := hO1.2.1
  have L : S.1.2.1 ≠ 0 → ∀ (q m : Nat) (w1 : zWd), m + q = 60 → zSame w w1 72 16 → zMo g w1 (sN0 S (zuT S.1.1 S.1.2.2 (S.1.2.1 - 1) (m : Int)) (S.1.2.1 - 1)) → zRuns g d mX8_undo 0 0 24 [some (zR g 72), some (zI (m : Int))] [] w1 K := by
    intro hu0 q
    induction q with
    | zero =>
      intro m w1 h1 hs hM
      obtain rfl : m = 60 := by omega
      obtain ⟨⟨p0, p1, p2, p3, p4, it, sm, h72⟩, -⟩ := id hM
      have h73 : w1.1 73 = some (.inr (false, 168, zuT S.1.1 S.1.2.2 (S.1.2.1 - 1) 60)) := hM.2.1
      have hM : zMo g w1 (sN0 S (zuT S.1.1 S.1.2.2 (S.1.2.1 - 1) 60) (S.1.2.1 - 1)) := hM
      rw [zuT_60] at hM h73
      refine q_iload_n (pc := 24) dX8_undo_24 rfl ?_
      refine q_bipush (pc := 25) (by decide) dX8_undo_25 ?_
      refine q_icmp_ge (pc := 27) (by omega) (by omega) 59 dX8_undo_27 rfl (fun c27 => ?_) (fun c27 => ?_)
      · refine q_aload_n (pc := 59) dX8_undo_59 rfl rfl ?_
        refine q_getfield (pc := 60) gf_X8_7 dX8_undo_60 (by assumption) rfl ?_
        refine q_iconst (pc := 63) dX8_undo_63 ?_
        refine q_iaload (pc := 64) dX8_undo_64 (by assumption) (by omega) ?_
        refine q_ireturn (pc := 65) dX8_undo_65 rfl ?_
        exact zgm k (by unfold o_undo; exact (if_neg hu0).trans rfl) hs hM
      exfalso; omega
    | succ q ih =>
      intro m w1 h1 hs hM
      have hih := ih (m + 1)
      obtain ⟨⟨p0, p1, p2, p3, p4, it, sm, h72⟩, -⟩ := id hM
      have h72 : w1.1 72 = some (zMO g S.2.2.2.1.1 S.2.2.2.1.2 (S.1.2.1 - 1) S.2.1.2 p0 p1 p2 p3 p4 it sm) := h72
      have h73 : w1.1 73 = some (.inr (false, 168, zuT S.1.1 S.1.2.2 (S.1.2.1 - 1) (m : Int))) := hM.2.1
      have h75 : w1.1 75 = some (.inr (false, 480, S.1.2.2)) := hM.2.2.2.1
      have hz := zat_b (k := (m : Int)) (by omega)
      have hzs := zuT_s (N := S.1.1) (P := S.1.2.2) (i := S.1.2.1 - 1) (m := (m : Int)) (by omega)
      refine q_iload_n (pc := 24) dX8_undo_24 rfl ?_
      refine q_bipush (pc := 25) (by decide) dX8_undo_25 ?_
      refine q_icmp_ge (pc := 27) (by omega) (by omega) 59 dX8_undo_27 rfl (fun c27 => ?_) (fun c27 => ?_)
      · exfalso; omega
      refine q_aload_n (pc := 30) dX8_undo_30 rfl rfl ?_
      refine q_getfield (pc := 31) gf_X8_7 dX8_undo_31 (by assumption) rfl ?_
      refine q_iload_n (pc := 34) dX8_undo_34 rfl ?_
      refine q_invokestatic (pc := 35) (d' := d - 1) (mc' := 0) (ms' := 0) (As := [_]) cl_X8_98 dX8_undo_35 rfl rfl (by omega) rfl 0 0 (Nat.le_refl 0) (Nat.le_refl 0) ?_
      refine c_X8_undoneAt (by omega) ?_
      refine q_aload_n (pc := 38) dX8_undo_38 rfl rfl ?_
      refine q_getfield (pc := 39) gf_X8_20 dX8_undo_39 (by assumption) rfl ?_
      refine q_bipush (pc := 42) (by decide) dX8_undo_42 ?_
      refine q_aload_n (pc := 44) dX8_undo_44 rfl rfl ?_
      refine q_getfield (pc := 45) gf_X8_94 dX8_undo_45 (by assumption) rfl ?_
      refine q_imul (pc := 48) dX8_undo_48 ?_
      refine q_iload_n (pc := 49) dX8_undo_49 rfl ?_
      refine q_iadd (pc := 50) dX8_undo_50 ?_
      refine q_iaload (pc := 51) dX8_undo_51 (by assumption) (by omega) ?_
      refine q_iastore (pc := 52) dX8_undo_52 (by assumption) (by omega) ?_
      refine q_iinc (pc := 53) [some _, some _] dX8_undo_53 rfl rfl rfl ?_
      refine q_goto (pc := 56) 24 dX8_undo_56 rfl ?_
      exact hih _ (by omega) (hs.tr (zSame.up (by omega))) (by have h9 := hM.o73 (zSame.up (by omega)) (zup_at (w := w1) (k := 73) (e := .inr (false, 168, zfu (zuT S.1.1 S.1.2.2 (S.1.2.1 - 1) (m : Int)) (zat (m : Int)) (S.1.2.2 (60 * (S.1.2.1 - 1) + (m : Int)))))); rw [hzs] at h9 ⊢; exact h9)
  refine zenter [some _, none] pn_X8 rfl (Nat.le_of_ble_eq_true rfl) ?_
  refine q_aload_n (pc := 0) dX8_undo_0 rfl rfl ?_
  refine q_getfield (pc := 1) gf_X8_94 dX8_undo_1 (by assumption) rfl ?_
  refine q_if_ne (pc := 4) (by omega) 12 dX8_undo_4 rfl (fun c4 => ?_) (fun c4 => ?_)
  · refine q_aload_n (pc := 12) dX8_undo_12 rfl rfl ?_
    refine q_dup (pc := 13) rfl dX8_undo_13 ?_
    refine q_getfield (pc := 14) gf_X8_94 dX8_undo_14 (by assumption) rfl ?_
    refine q_iconst (pc := 17) dX8_undo_17 ?_
    refine q_isub (pc := 18) dX8_undo_18 ?_
    refine q_putfield2 (pc := 19) [_, _, _, _, _, _, _, _, _, _, _, _, _, _, _, _, _, _, _, _, _, _, _, _, _, _] pf_X8_94 dX8_undo_19 (by assumption) rfl rfl (Nat.le_of_ble_eq_true rfl) rfl ?_
    refine q_iconst (pc := 22) dX8_undo_22 ?_
    refine q_istore_n (pc := 23) [some _, some _] dX8_undo_23 rfl (Nat.le_of_ble_eq_true rfl) rfl ?_
    exact L c4 60 0 _ (by omega) (zSame.up (by omega)) (by rw [show ((0 : Nat) : Int) = 0 from rfl, zuT_0]; exact hC.o72 (zSame.up (by omega)) zup_at)
  refine q_aload_n (pc := 7) dX8_undo_7 rfl rfl ?_
  refine q_invokevirtual (pc := 8) (d' := d - 1) (mc' := 0) (ms' := 0) (As := []) (TX8, 26) cl_X8_229 dX8_undo_8 rfl rfl (by assumption) rfl (by omega) rfl 0 0 (Nat.le_refl 0) (Nat.le_refl 0) ?_
  refine c_X8_no hC (fun w9 hs9 hC9 => ?_)
  refine q_ireturn (pc := 11) dX8_undo_11 rfl ?_
  exact zgm k (by unfold o_undo; exact (if_pos c4).trans rfl) hs9 hC9
end X8E
