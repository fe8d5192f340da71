/-! the class's own calls, those that only look -/
section X7C
variable {g : zG} {d : Nat} {w : zWd} {K : Option Value → zWd → Prop} {S : zSt}
set_option maxRecDepth 100000 in
set_option maxHeartbeats 8000000 in
theorem c_X7_has {c r : Int} (hd : 6 ≤ d) (hC : zCl g w S) (hO : zOKS S) (h_c : zR32 c) (h_r : zR32 r) (k : ∀ w', zSame w w' 0 72 → zCl g w' (o_has S c r).2 → K (some (zI (o_has S c r).1)) w') : zCall g d 0 0 mX7_has [zR g 0, zI c, zI r] w K := by
  obtain ⟨hX, hS, hA, hB, hD, hI, hJ, hR, hT, hH⟩ := id hC
  have hO1 := hO.1
  have hO2 := hO1.1
  have hO3 := hO2.1
  refine zenter [some _, some _, some _] pn_X7 rfl (Nat.le_of_ble_eq_true rfl) ?_
  refine q_aload_n (pc := 0) dX7_has_0 rfl rfl ?_
  refine q_getfield (pc := 1) gf_X7_10 dX7_has_1 (by first | assumption | exact hS.o | exact hS.s0 | exact hS.s1 | exact hS.s2 | exact hS.s3 | exact hS.s4 | exact hS.s5 | exact hS.s6 | exact hS2.o | exact hS2.s0 | exact hS2.s1 | exact hS2.s2 | exact hS2.s3 | exact hS2.s4 | exact hS2.s5 | exact hS2.s6 | exact hS3.o | exact hS3.s0 | exact hS3.s1 | exact hS3.s2 | exact hS3.s3 | exact hS3.s4 | exact hS3.s5 | exact hS3.s6) rfl ?_
  refine q_getfield (pc := 4) gf_X7_70 dX7_has_4 (by first | assumption | exact hS.o | exact hS.s0 | exact hS.s1 | exact hS.s2 | exact hS.s3 | exact hS.s4 | exact hS.s5 | exact hS.s6 | exact hS2.o | exact hS2.s0 | exact hS2.s1 | exact hS2.s2 | exact hS2.s3 | exact hS2.s4 | exact hS2.s5 | exact hS2.s6 | exact hS3.o | exact hS3.s0 | exact hS3.s1 | exact hS3.s2 | exact hS3.s3 | exact hS3.s4 | exact hS3.s5 | exact hS3.s6) rfl ?_
  refine q_iload_n (pc := 7) dX7_has_7 rfl ?_
  refine q_invokevirtual (pc := 8) (d' := d - 1) (mc' := 0) (ms' := 0) (As := [_]) (TX4, 4) cl_X7_101 dX7_has_8 rfl rfl (by first | assumption | exact hS.o | exact hS.s0 | exact hS.s1 | exact hS.s2 | exact hS.s3 | exact hS.s4 | exact hS.s5 | exact hS.s6 | exact hS2.o | exact hS2.s0 | exact hS2.s1 | exact hS2.s2 | exact hS2.s3 | exact hS2.s4 | exact hS2.s5 | exact hS2.s6 | exact hS3.o | exact hS3.s0 | exact hS3.s1 | exact hS3.s2 | exact hS3.s3 | exact hS3.s4 | exact hS3.s5 | exact hS3.s6) rfl (by omega) rfl 0 0 (Nat.le_refl 0) (Nat.le_refl 0) ?_
  first | refine s_hold0 hS hO3 (by omega) ?_ | refine s_hold1 hS hO3 (by omega) ?_ | refine s_hold2 hS hO3 (by omega) ?_ | refine s_hold3 hS hO3 (by omega) ?_
  refine q_ifb_eq (pc := 11) 33 dX7_has_11 rfl (fun c11 => ?_) (fun c11 => ?_)
  · refine q_aload_n (pc := 33) dX7_has_33 rfl rfl ?_
    refine q_invokevirtual (pc := 34) (d' := d - 1) (mc' := 0) (ms' := 0) (As := []) (TX7, 15) cl_X7_66 dX7_has_34 rfl rfl (by first | assumption | exact hS.o | exact hS.s0 | exact hS.s1 | exact hS.s2 | exact hS.s3 | exact hS.s4 | exact hS.s5 | exact hS.s6 | exact hS2.o | exact hS2.s0 | exact hS2.s1 | exact hS2.s2 | exact hS2.s3 | exact hS2.s4 | exact hS2.s5 | exact hS2.s6 | exact hS3.o | exact hS3.s0 | exact hS3.s1 | exact hS3.s2 | exact hS3.s3 | exact hS3.s4 | exact hS3.s5 | exact hS3.s6) rfl (by omega) rfl 0 0 (Nat.le_refl 0) (Nat.le_refl 0) ?_
    refine c_X7_bad (by omega) hC (fun w9 hs9 hC9 => ?_)
    refine q_ireturn (pc := 37) dX7_has_37 rfl ?_
    first | exact zgo k (by unfold o_has; rw [if_pos (by omega)]) zSame.rf hC | exact zgo k (by unfold o_has; rw [if_neg (by omega)]) hs9 hC9
  refine q_iload_n (pc := 14) dX7_has_14 rfl ?_
  refine q_invokestatic (pc := 15) (d' := d - 1) (mc' := 0) (ms' := 0) (As := [_]) cl_X7_105 dX7_has_15 rfl rfl (by omega) rfl 0 0 (Nat.le_refl 0) (Nat.le_refl 0) ?_
  refine c_X7_isRings (by omega) (by omega) ?_
  refine q_ifb_eq (pc := 18) 33 dX7_has_18 rfl (fun c18 => ?_) (fun c18 => ?_)
  · refine q_aload_n (pc := 33) dX7_has_33 rfl rfl ?_
    refine q_invokevirtual (pc := 34) (d' := d - 1) (mc' := 0) (ms' := 0) (As := []) (TX7, 15) cl_X7_66 dX7_has_34 rfl rfl (by first | assumption | exact hS.o | exact hS.s0 | exact hS.s1 | exact hS.s2 | exact hS.s3 | exact hS.s4 | exact hS.s5 | exact hS.s6 | exact hS2.o | exact hS2.s0 | exact hS2.s1 | exact hS2.s2 | exact hS2.s3 | exact hS2.s4 | exact hS2.s5 | exact hS2.s6 | exact hS3.o | exact hS3.s0 | exact hS3.s1 | exact hS3.s2 | exact hS3.s3 | exact hS3.s4 | exact hS3.s5 | exact hS3.s6) rfl (by omega) rfl 0 0 (Nat.le_refl 0) (Nat.le_refl 0) ?_
    refine c_X7_bad (by omega) hC (fun w9 hs9 hC9 => ?_)
    refine q_ireturn (pc := 37) dX7_has_37 rfl ?_
    first | exact zgo k (by unfold o_has; rw [if_pos (by omega)]) zSame.rf hC | exact zgo k (by unfold o_has; rw [if_neg (by omega)]) hs9 hC9
  refine q_aload_n (pc := 21) dX7_has_21 rfl rfl ?_
  refine q_getfield (pc := 22) gf_X7_10 dX7_has_22 (by first | assumption | exact hS.o | exact hS.s0 | exact hS.s1 | exact hS.s2 | exact hS.s3 | exact hS.s4 | exact hS.s5 | exact hS.s6 | exact hS2.o | exact hS2.s0 | exact hS2.s1 | exact hS2.s2 | exact hS2.s3 | exact hS2.s4 | exact hS2.s5 | exact hS2.s6 | exact hS3.o | exact hS3.s0 | exact hS3.s1 | exact hS3.s2 | exact hS3.s3 | exact hS3.s4 | exact hS3.s5 | exact hS3.s6) rfl ?_
  refine q_iload_n (pc := 25) dX7_has_25 rfl ?_
  refine q_iload_n (pc := 26) dX7_has_26 rfl ?_
  refine q_invokevirtual (pc := 27) (d' := d - 1) (mc' := 0) (ms' := 0) (As := [_, _]) (TX6, 9) cl_X7_108 dX7_has_27 rfl rfl (by first | assumption | exact hS.o | exact hS.s0 | exact hS.s1 | exact hS.s2 | exact hS.s3 | exact hS.s4 | exact hS.s5 | exact hS.s6 | exact hS2.o | exact hS2.s0 | exact hS2.s1 | exact hS2.s2 | exact hS2.s3 | exact hS2.s4 | exact hS2.s5 | exact hS2.s6 | exact hS3.o | exact hS3.s0 | exact hS3.s1 | exact hS3.s2 | exact hS3.s3 | exact hS3.s4 | exact hS3.s5 | exact hS3.s6) rfl (by omega) rfl 0 0 (Nat.le_refl 0) (Nat.le_refl 0) ?_
  refine c_X6_stonesOf (by omega) hS hO3 (by omega) (by omega) ?_
  refine q_goto (pc := 30) 37 dX7_has_30 rfl ?_
  refine q_ireturn (pc := 37) dX7_has_37 rfl ?_
  first | exact zgo k (by unfold o_has; rw [if_pos (by omega)]) zSame.rf hC | exact zgo k (by unfold o_has; rw [if_neg (by omega)]) hs9 hC9
set_option maxRecDepth 100000 in
set_option maxHeartbeats 8000000 in
theorem c_X7_about {s x : Int} (hd : 6 ≤ d) (hC : zCl g w S) (hO : zOKS S) (h_s : zR32 s) (h_x : zR32 x) (k : ∀ w', zSame w w' 0 72 → zCl g w' (o_about S s x).2 → K (some (zI (o_about S s x).1)) w') : zCall g d 0 0 mX7_about [zR g 0, zI s, zI x] w K := by
  obtain ⟨hX, hS, hA, hB, hD, hI, hJ, hR, hT, hH⟩ := id hC
  have hO1 := hO.1
  have hO2 := hO1.1
  have hO3 := hO2.1
  refine zenter [some _, some _, some _] pn_X7 rfl (Nat.le_of_ble_eq_true rfl) ?_
  refine q_aload_n (pc := 0) dX7_about_0 rfl rfl ?_
  refine q_getfield (pc := 1) gf_X7_10 dX7_about_1 (by first | assumption | exact hS.o | exact hS.s0 | exact hS.s1 | exact hS.s2 | exact hS.s3 | exact hS.s4 | exact hS.s5 | exact hS.s6 | exact hS2.o | exact hS2.s0 | exact hS2.s1 | exact hS2.s2 | exact hS2.s3 | exact hS2.s4 | exact hS2.s5 | exact hS2.s6 | exact hS3.o | exact hS3.s0 | exact hS3.s1 | exact hS3.s2 | exact hS3.s3 | exact hS3.s4 | exact hS3.s5 | exact hS3.s6) rfl ?_
  refine q_getfield (pc := 4) gf_X7_126 dX7_about_4 (by first | assumption | exact hS.o | exact hS.s0 | exact hS.s1 | exact hS.s2 | exact hS.s3 | exact hS.s4 | exact hS.s5 | exact hS.s6 | exact hS2.o | exact hS2.s0 | exact hS2.s1 | exact hS2.s2 | exact hS2.s3 | exact hS2.s4 | exact hS2.s5 | exact hS2.s6 | exact hS3.o | exact hS3.s0 | exact hS3.s1 | exact hS3.s2 | exact hS3.s3 | exact hS3.s4 | exact hS3.s5 | exact hS3.s6) rfl ?_
  refine q_iload_n (pc := 7) dX7_about_7 rfl ?_
  refine q_invokevirtual (pc := 8) (d' := d - 1) (mc' := 0) (ms' := 0) (As := [_]) (TX4, 4) cl_X7_101 dX7_about_8 rfl rfl (by first | assumption | exact hS.o | exact hS.s0 | exact hS.s1 | exact hS.s2 | exact hS.s3 | exact hS.s4 | exact hS.s5 | exact hS.s6 | exact hS2.o | exact hS2.s0 | exact hS2.s1 | exact hS2.s2 | exact hS2.s3 | exact hS2.s4 | exact hS2.s5 | exact hS2.s6 | exact hS3.o | exact hS3.s0 | exact hS3.s1 | exact hS3.s2 | exact hS3.s3 | exact hS3.s4 | exact hS3.s5 | exact hS3.s6) rfl (by omega) rfl 0 0 (Nat.le_refl 0) (Nat.le_refl 0) ?_
  first | refine s_hold0 hS hO3 (by omega) ?_ | refine s_hold1 hS hO3 (by omega) ?_ | refine s_hold2 hS hO3 (by omega) ?_ | refine s_hold3 hS hO3 (by omega) ?_
  refine q_ifb_eq (pc := 11) 38 dX7_about_11 rfl (fun c11 => ?_) (fun c11 => ?_)
  · refine q_aload_n (pc := 38) dX7_about_38 rfl rfl ?_
    refine q_invokevirtual (pc := 39) (d' := d - 1) (mc' := 0) (ms' := 0) (As := []) (TX7, 15) cl_X7_66 dX7_about_39 rfl rfl (by first | assumption | exact hS.o | exact hS.s0 | exact hS.s1 | exact hS.s2 | exact hS.s3 | exact hS.s4 | exact hS.s5 | exact hS.s6 | exact hS2.o | exact hS2.s0 | exact hS2.s1 | exact hS2.s2 | exact hS2.s3 | exact hS2.s4 | exact hS2.s5 | exact hS2.s6 | exact hS3.o | exact hS3.s0 | exact hS3.s1 | exact hS3.s2 | exact hS3.s3 | exact hS3.s4 | exact hS3.s5 | exact hS3.s6) rfl (by omega) rfl 0 0 (Nat.le_refl 0) (Nat.le_refl 0) ?_
    refine c_X7_bad (by omega) hC (fun w9 hs9 hC9 => ?_)
    refine q_ireturn (pc := 42) dX7_about_42 rfl ?_
    first | exact zgo k (by unfold o_about; rw [if_pos (by omega), if_neg (by omega)]) zSame.rf hC | exact zgo k (by unfold o_about; rw [if_neg (by omega)]) hs9 hC9
  refine q_iload_n (pc := 14) dX7_about_14 rfl ?_
  refine q_iconst (pc := 15) dX7_about_15 ?_
  refine q_iconst (pc := 16) dX7_about_16 ?_
  refine q_invokestatic (pc := 17) (d' := d - 1) (mc' := 0) (ms' := 0) (As := [_, _, _]) cl_X7_62 dX7_about_17 rfl rfl (by omega) rfl 0 0 (Nat.le_refl 0) (Nat.le_refl 0) ?_
  refine c_X7_within (by omega) (by omega) (by omega) ?_
  refine q_ifb_eq (pc := 20) 38 dX7_about_20 rfl (fun c20 => ?_) (fun c20 => ?_)
  · refine q_aload_n (pc := 38) dX7_about_38 rfl rfl ?_
    refine q_invokevirtual (pc := 39) (d' := d - 1) (mc' := 0) (ms' := 0) (As := []) (TX7, 15) cl_X7_66 dX7_about_39 rfl rfl (by first | assumption | exact hS.o | exact hS.s0 | exact hS.s1 | exact hS.s2 | exact hS.s3 | exact hS.s4 | exact hS.s5 | exact hS.s6 | exact hS2.o | exact hS2.s0 | exact hS2.s1 | exact hS2.s2 | exact hS2.s3 | exact hS2.s4 | exact hS2.s5 | exact hS2.s6 | exact hS3.o | exact hS3.s0 | exact hS3.s1 | exact hS3.s2 | exact hS3.s3 | exact hS3.s4 | exact hS3.s5 | exact hS3.s6) rfl (by omega) rfl 0 0 (Nat.le_refl 0) (Nat.le_refl 0) ?_
    refine c_X7_bad (by omega) hC (fun w9 hs9 hC9 => ?_)
    refine q_ireturn (pc := 42) dX7_about_42 rfl ?_
    first | exact zgo k (by unfold o_about; rw [if_pos (by omega), if_neg (by omega)]) zSame.rf hC | exact zgo k (by unfold o_about; rw [if_neg (by omega)]) hs9 hC9
  refine q_aload_n (pc := 23) dX7_about_23 rfl rfl ?_
  refine q_getfield (pc := 24) gf_X7_10 dX7_about_24 (by first | assumption | exact hS.o | exact hS.s0 | exact hS.s1 | exact hS.s2 | exact hS.s3 | exact hS.s4 | exact hS.s5 | exact hS.s6 | exact hS2.o | exact hS2.s0 | exact hS2.s1 | exact hS2.s2 | exact hS2.s3 | exact hS2.s4 | exact hS2.s5 | exact hS2.s6 | exact hS3.o | exact hS3.s0 | exact hS3.s1 | exact hS3.s2 | exact hS3.s3 | exact hS3.s4 | exact hS3.s5 | exact hS3.s6) rfl ?_
  refine q_getfield (pc := 27) gf_X7_126 dX7_about_27 (by first | assumption | exact hS.o | exact hS.s0 | exact hS.s1 | exact hS.s2 | exact hS.s3 | exact hS.s4 | exact hS.s5 | exact hS.s6 | exact hS2.o | exact hS2.s0 | exact hS2.s1 | exact hS2.s2 | exact hS2.s3 | exact hS2.s4 | exact hS2.s5 | exact hS2.s6 | exact hS3.o | exact hS3.s0 | exact hS3.s1 | exact hS3.s2 | exact hS3.s3 | exact hS3.s4 | exact hS3.s5 | exact hS3.s6) rfl ?_
  refine q_iload_n (pc := 30) dX7_about_30 rfl ?_
  refine q_iload_n (pc := 31) dX7_about_31 rfl ?_
  refine q_invokevirtual (pc := 32) (d' := d - 1) (mc' := 0) (ms' := 0) (As := [_, _]) (TX4, 4) cl_X7_120 dX7_about_32 rfl rfl (by first | assumption | exact hS.o | exact hS.s0 | exact hS.s1 | exact hS.s2 | exact hS.s3 | exact hS.s4 | exact hS.s5 | exact hS.s6 | exact hS2.o | exact hS2.s0 | exact hS2.s1 | exact hS2.s2 | exact hS2.s3 | exact hS2.s4 | exact hS2.s5 | exact hS2.s6 | exact hS3.o | exact hS3.s0 | exact hS3.s1 | exact hS3.s2 | exact hS3.s3 | exact hS3.s4 | exact hS3.s5 | exact hS3.s6) rfl (by omega) rfl 0 0 (Nat.le_refl 0) (Nat.le_refl 0) ?_
  (by_cases hx : x = 0)
  · subst hx; exact s_get_sort (by omega) hS hO3 (by omega) (by first | exact q_goto (pc := 35) 42 dX7_about_35 rfl (q_ireturn (pc := 42) dX7_about_42 rfl (zgo k (by unfold o_about; rw [if_pos (by omega), if_pos (by omega)]) zSame.rf hC)))
  obtain rfl : x = 1 := by omega
  refine s_get_arm (by omega) hS hO3 (by omega) ?_
  refine q_goto (pc := 35) 42 dX7_about_35 rfl ?_
  refine q_ireturn (pc := 42) dX7_about_42 rfl ?_
  first | exact zgo k (by unfold o_about; rw [if_pos (by omega), if_neg (by omega)]) zSame.rf hC | exact zgo k (by unfold o_about; rw [if_neg (by omega)]) hs9 hC9
set_option maxRecDepth 100000 in
set_option maxHeartbeats 8000000 in
theorem c_X7_melts {c wk : Int} (hd : 6 ≤ d) (hC : zCl g w S) (hO : zOKS S) (h_c : zR32 c) (h_wk : zR32 wk) (k : ∀ w', zSame w w' 0 72 → zCl g w' (o_melts S c wk).2 → K (some (zI (o_melts S c wk).1)) w') : zCall g d 0 0 mX7_melts [zR g 0, zI c, zI wk] w K := by
  obtain ⟨hX, hS, hA, hB, hD, hI, hJ, hR, hT, hH⟩ := id hC
  have hO1 := hO.1
  have hO2 := hO1.1
  have hO3 := hO2.1
  refine zenter [some _, some _, some _] pn_X7 rfl (Nat.le_of_ble_eq_true rfl) ?_
  refine q_aload_n (pc := 0) dX7_melts_0 rfl rfl ?_
  refine q_getfield (pc := 1) gf_X7_10 dX7_melts_1 (by first | assumption | exact hS.o | exact hS.s0 | exact hS.s1 | exact hS.s2 | exact hS.s3 | exact hS.s4 | exact hS.s5 | exact hS.s6 | exact hS2.o | exact hS2.s0 | exact hS2.s1 | exact hS2.s2 | exact hS2.s3 | exact hS2.s4 | exact hS2.s5 | exact hS2.s6 | exact hS3.o | exact hS3.s0 | exact hS3.s1 | exact hS3.s2 | exact hS3.s3 | exact hS3.s4 | exact hS3.s5 | exact hS3.s6) rfl ?_
  refine q_getfield (pc := 4) gf_X7_70 dX7_melts_4 (by first | assumption | exact hS.o | exact hS.s0 | exact hS.s1 | exact hS.s2 | exact hS.s3 | exact hS.s4 | exact hS.s5 | exact hS.s6 | exact hS2.o | exact hS2.s0 | exact hS2.s1 | exact hS2.s2 | exact hS2.s3 | exact hS2.s4 | exact hS2.s5 | exact hS2.s6 | exact hS3.o | exact hS3.s0 | exact hS3.s1 | exact hS3.s2 | exact hS3.s3 | exact hS3.s4 | exact hS3.s5 | exact hS3.s6) rfl ?_
  refine q_iload_n (pc := 7) dX7_melts_7 rfl ?_
  refine q_invokevirtual (pc := 8) (d' := d - 1) (mc' := 0) (ms' := 0) (As := [_]) (TX4, 4) cl_X7_101 dX7_melts_8 rfl rfl (by first | assumption | exact hS.o | exact hS.s0 | exact hS.s1 | exact hS.s2 | exact hS.s3 | exact hS.s4 | exact hS.s5 | exact hS.s6 | exact hS2.o | exact hS2.s0 | exact hS2.s1 | exact hS2.s2 | exact hS2.s3 | exact hS2.s4 | exact hS2.s5 | exact hS2.s6 | exact hS3.o | exact hS3.s0 | exact hS3.s1 | exact hS3.s2 | exact hS3.s3 | exact hS3.s4 | exact hS3.s5 | exact hS3.s6) rfl (by omega) rfl 0 0 (Nat.le_refl 0) (Nat.le_refl 0) ?_
  first | refine s_hold0 hS hO3 (by omega) ?_ | refine s_hold1 hS hO3 (by omega) ?_ | refine s_hold2 hS hO3 (by omega) ?_ | refine s_hold3 hS hO3 (by omega) ?_
  refine q_ifb_eq (pc := 11) 37 dX7_melts_11 rfl (fun c11 => ?_) (fun c11 => ?_)
  · refine q_aload_n (pc := 37) dX7_melts_37 rfl rfl ?_
    refine q_invokevirtual (pc := 38) (d' := d - 1) (mc' := 0) (ms' := 0) (As := []) (TX7, 15) cl_X7_66 dX7_melts_38 rfl rfl (by first | assumption | exact hS.o | exact hS.s0 | exact hS.s1 | exact hS.s2 | exact hS.s3 | exact hS.s4 | exact hS.s5 | exact hS.s6 | exact hS2.o | exact hS2.s0 | exact hS2.s1 | exact hS2.s2 | exact hS2.s3 | exact hS2.s4 | exact hS2.s5 | exact hS2.s6 | exact hS3.o | exact hS3.s0 | exact hS3.s1 | exact hS3.s2 | exact hS3.s3 | exact hS3.s4 | exact hS3.s5 | exact hS3.s6) rfl (by omega) rfl 0 0 (Nat.le_refl 0) (Nat.le_refl 0) ?_
    refine c_X7_bad (by omega) hC (fun w9 hs9 hC9 => ?_)
    refine q_ireturn (pc := 41) dX7_melts_41 rfl ?_
    first | exact zgo k (by unfold o_melts; rw [if_pos (by omega)]) zSame.rf hC | exact zgo k (by unfold o_melts; rw [if_neg (by omega)]) hs9 hC9
  refine q_iload_n (pc := 14) dX7_melts_14 rfl ?_
  refine q_iconst (pc := 15) dX7_melts_15 ?_
  refine q_sipush (pc := 16) (by decide) dX7_melts_16 ?_
  refine q_invokestatic (pc := 19) (d' := d - 1) (mc' := 0) (ms' := 0) (As := [_, _, _]) cl_X7_62 dX7_melts_19 rfl rfl (by omega) rfl 0 0 (Nat.le_refl 0) (Nat.le_refl 0) ?_
  refine c_X7_within (by omega) (by omega) (by omega) ?_
  refine q_ifb_eq (pc := 22) 37 dX7_melts_22 rfl (fun c22 => ?_) (fun c22 => ?_)
  · refine q_aload_n (pc := 37) dX7_melts_37 rfl rfl ?_
    refine q_invokevirtual (pc := 38) (d' := d - 1) (mc' := 0) (ms' := 0) (As := []) (TX7, 15) cl_X7_66 dX7_melts_38 rfl rfl (by first | assumption | exact hS.o | exact hS.s0 | exact hS.s1 | exact hS.s2 | exact hS.s3 | exact hS.s4 | exact hS.s5 | exact hS.s6 | exact hS2.o | exact hS2.s0 | exact hS2.s1 | exact hS2.s2 | exact hS2.s3 | exact hS2.s4 | exact hS2.s5 | exact hS2.s6 | exact hS3.o | exact hS3.s0 | exact hS3.s1 | exact hS3.s2 | exact hS3.s3 | exact hS3.s4 | exact hS3.s5 | exact hS3.s6) rfl (by omega) rfl 0 0 (Nat.le_refl 0) (Nat.le_refl 0) ?_
    refine c_X7_bad (by omega) hC (fun w9 hs9 hC9 => ?_)
    refine q_ireturn (pc := 41) dX7_melts_41 rfl ?_
    first | exact zgo k (by unfold o_melts; rw [if_pos (by omega)]) zSame.rf hC | exact zgo k (by unfold o_melts; rw [if_neg (by omega)]) hs9 hC9
  refine q_aload_n (pc := 25) dX7_melts_25 rfl rfl ?_
  refine q_getfield (pc := 26) gf_X7_10 dX7_melts_26 (by first | assumption | exact hS.o | exact hS.s0 | exact hS.s1 | exact hS.s2 | exact hS.s3 | exact hS.s4 | exact hS.s5 | exact hS.s6 | exact hS2.o | exact hS2.s0 | exact hS2.s1 | exact hS2.s2 | exact hS2.s3 | exact hS2.s4 | exact hS2.s5 | exact hS2.s6 | exact hS3.o | exact hS3.s0 | exact hS3.s1 | exact hS3.s2 | exact hS3.s3 | exact hS3.s4 | exact hS3.s5 | exact hS3.s6) rfl ?_
  refine q_iload_n (pc := 29) dX7_melts_29 rfl ?_
  refine q_iload_n (pc := 30) dX7_melts_30 rfl ?_
  refine q_invokevirtual (pc := 31) (d' := d - 1) (mc' := 0) (ms' := 0) (As := [_, _]) (TX6, 9) cl_X7_197 dX7_melts_31 rfl rfl (by first | assumption | exact hS.o | exact hS.s0 | exact hS.s1 | exact hS.s2 | exact hS.s3 | exact hS.s4 | exact hS.s5 | exact hS.s6 | exact hS2.o | exact hS2.s0 | exact hS2.s1 | exact hS2.s2 | exact hS2.s3 | exact hS2.s4 | exact hS2.s5 | exact hS2.s6 | exact hS3.o | exact hS3.s0 | exact hS3.s1 | exact hS3.s2 | exact hS3.s3 | exact hS3.s4 | exact hS3.s5 | exact hS3.s6) rfl (by omega) rfl 0 0 (Nat.le_refl 0) (Nat.le_refl 0) ?_
  refine c_X6_meltIn (by omega) hS hO2 (by omega) (by omega) ?_
  refine q_goto (pc := 34) 41 dX7_melts_34 rfl ?_
  refine q_ireturn (pc := 41) dX7_melts_41 rfl ?_
  first | exact zgo k (by unfold o_melts; rw [if_pos (by omega)]) zSame.rf hC | exact zgo k (by unfold o_melts; rw [if_neg (by omega)]) hs9 hC9
set_option maxRecDepth 100000 in
set_option maxHeartbeats 8000000 in
theorem c_X7_then {c m dd x : Int} (hd : 6 ≤ d) (hC : zCl g w S) (hO : zOKS S) (h_c : zR32 c) (h_m : zR32 m) (h_dd : zR32 dd) (h_x : zR32 x) (k : ∀ w', zSame w w' 0 72 → zCl g w' (o_then S c m dd x).2 → K (some (zI (o_then S c m dd x).1)) w') : zCall g d 0 0 mX7_then [zR g 0, zI c, zI m, zI dd, zI x] w K := by
  obtain ⟨hX, hS, hA, hB, hD, hI, hJ, hR, hT, hH⟩ := id hC
  have hO1 := hO.1
  have hO2 := hO1.1
  have hO3 := hO2.1
  refine zenter [some _, some _, some _, some _, some _] pn_X7 rfl (Nat.le_of_ble_eq_true rfl) ?_
  refine q_aload_n (pc := 0) dX7_then_0 rfl rfl ?_
  refine q_getfield (pc := 1) gf_X7_10 dX7_then_1 (by first | assumption | exact hS.o | exact hS.s0 | exact hS.s1 | exact hS.s2 | exact hS.s3 | exact hS.s4 | exact hS.s5 | exact hS.s6 | exact hS2.o | exact hS2.s0 | exact hS2.s1 | exact hS2.s2 | exact hS2.s3 | exact hS2.s4 | exact hS2.s5 | exact hS2.s6 | exact hS3.o | exact hS3.s0 | exact hS3.s1 | exact hS3.s2 | exact hS3.s3 | exact hS3.s4 | exact hS3.s5 | exact hS3.s6) rfl ?_
  refine q_getfield (pc := 4) gf_X7_70 dX7_then_4 (by first | assumption | exact hS.o | exact hS.s0 | exact hS.s1 | exact hS.s2 | exact hS.s3 | exact hS.s4 | exact hS.s5 | exact hS.s6 | exact hS2.o | exact hS2.s0 | exact hS2.s1 | exact hS2.s2 | exact hS2.s3 | exact hS2.s4 | exact hS2.s5 | exact hS2.s6 | exact hS3.o | exact hS3.s0 | exact hS3.s1 | exact hS3.s2 | exact hS3.s3 | exact hS3.s4 | exact hS3.s5 | exact hS3.s6) rfl ?_
  refine q_iload_n (pc := 7) dX7_then_7 rfl ?_
  refine q_invokevirtual (pc := 8) (d' := d - 1) (mc' := 0) (ms' := 0) (As := [_]) (TX4, 4) cl_X7_101 dX7_then_8 rfl rfl (by first | assumption | exact hS.o | exact hS.s0 | exact hS.s1 | exact hS.s2 | exact hS.s3 | exact hS.s4 | exact hS.s5 | exact hS.s6 | exact hS2.o | exact hS2.s0 | exact hS2.s1 | exact hS2.s2 | exact hS2.s3 | exact hS2.s4 | exact hS2.s5 | exact hS2.s6 | exact hS3.o | exact hS3.s0 | exact hS3.s1 | exact hS3.s2 | exact hS3.s3 | exact hS3.s4 | exact hS3.s5 | exact hS3.s6) rfl (by omega) rfl 0 0 (Nat.le_refl 0) (Nat.le_refl 0) ?_
  first | refine s_hold0 hS hO3 (by omega) ?_ | refine s_hold1 hS hO3 (by omega) ?_ | refine s_hold2 hS hO3 (by omega) ?_ | refine s_hold3 hS hO3 (by omega) ?_
  refine q_ifb_eq (pc := 11) 44 dX7_then_11 rfl (fun c11 => ?_) (fun c11 => ?_)
  · refine q_aload_n (pc := 44) dX7_then_44 rfl rfl ?_
    refine q_invokevirtual (pc := 45) (d' := d - 1) (mc' := 0) (ms' := 0) (As := []) (TX7, 15) cl_X7_66 dX7_then_45 rfl rfl (by first | assumption | exact hS.o | exact hS.s0 | exact hS.s1 | exact hS.s2 | exact hS.s3 | exact hS.s4 | exact hS.s5 | exact hS.s6 | exact hS2.o | exact hS2.s0 | exact hS2.s1 | exact hS2.s2 | exact hS2.s3 | exact hS2.s4 | exact hS2.s5 | exact hS2.s6 | exact hS3.o | exact hS3.s0 | exact hS3.s1 | exact hS3.s2 | exact hS3.s3 | exact hS3.s4 | exact hS3.s5 | exact hS3.s6) rfl (by omega) rfl 0 0 (Nat.le_refl 0) (Nat.le_refl 0) ?_
    refine c_X7_bad (by omega) hC (fun w9 hs9 hC9 => ?_)
    refine q_ireturn (pc := 48) dX7_then_48 rfl ?_
    first | exact zgo k (by unfold o_then; rw [if_pos (by omega)]) zSame.rf hC | exact zgo k (by unfold o_then; rw [if_neg (by omega)]) hs9 hC9
  refine q_iload_n (pc := 14) dX7_then_14 rfl ?_
  refine q_iconst (pc := 15) dX7_then_15 ?_
  refine q_bipush (pc := 16) (by decide) dX7_then_16 ?_
  refine q_invokestatic (pc := 18) (d' := d - 1) (mc' := 0) (ms' := 0) (As := [_, _, _]) cl_X7_62 dX7_then_18 rfl rfl (by omega) rfl 0 0 (Nat.le_refl 0) (Nat.le_refl 0) ?_
  refine c_X7_within (by omega) (by omega) (by omega) ?_
  refine q_ifb_eq (pc := 21) 44 dX7_then_21 rfl (fun c21 => ?_) (fun c21 => ?_)
  · refine q_aload_n (pc := 44) dX7_then_44 rfl rfl ?_
    refine q_invokevirtual (pc := 45) (d' := d - 1) (mc' := 0) (ms' := 0) (As := []) (TX7, 15) cl_X7_66 dX7_then_45 rfl rfl (by first | assumption | exact hS.o | exact hS.s0 | exact hS.s1 | exact hS.s2 | exact hS.s3 | exact hS.s4 | exact hS.s5 | exact hS.s6 | exact hS2.o | exact hS2.s0 | exact hS2.s1 | exact hS2.s2 | exact hS2.s3 | exact hS2.s4 | exact hS2.s5 | exact hS2.s6 | exact hS3.o | exact hS3.s0 | exact hS3.s1 | exact hS3.s2 | exact hS3.s3 | exact hS3.s4 | exact hS3.s5 | exact hS3.s6) rfl (by omega) rfl 0 0 (Nat.le_refl 0) (Nat.le_refl 0) ?_
    refine c_X7_bad (by omega) hC (fun w9 hs9 hC9 => ?_)
    refine q_ireturn (pc := 48) dX7_then_48 rfl ?_
    first | exact zgo k (by unfold o_then; rw [if_pos (by omega)]) zSame.rf hC | exact zgo k (by unfold o_then; rw [if_neg (by omega)]) hs9 hC9
  refine q_iload_n (pc := 24) dX7_then_24 rfl ?_
  refine q_iconst (pc := 25) dX7_then_25 ?_
  refine q_bipush (pc := 26) (by decide) dX7_then_26 ?_
  refine q_invokestatic (pc := 28) (d' := d - 1) (mc' := 0) (ms' := 0) (As := [_, _, _]) cl_X7_62 dX7_then_28 rfl rfl (by omega) rfl 0 0 (Nat.le_refl 0) (Nat.le_refl 0) ?_
  refine c_X7_within (by omega) (by omega) (by omega) ?_
  refine q_ifb_eq (pc := 31) 44 dX7_then_31 rfl (fun c31 => ?_) (fun c31 => ?_)
  · refine q_aload_n (pc := 44) dX7_then_44 rfl rfl ?_
    refine q_invokevirtual (pc := 45) (d' := d - 1) (mc' := 0) (ms' := 0) (As := []) (TX7, 15) cl_X7_66 dX7_then_45 rfl rfl (by first | assumption | exact hS.o | exact hS.s0 | exact hS.s1 | exact hS.s2 | exact hS.s3 | exact hS.s4 | exact hS.s5 | exact hS.s6 | exact hS2.o | exact hS2.s0 | exact hS2.s1 | exact hS2.s2 | exact hS2.s3 | exact hS2.s4 | exact hS2.s5 | exact hS2.s6 | exact hS3.o | exact hS3.s0 | exact hS3.s1 | exact hS3.s2 | exact hS3.s3 | exact hS3.s4 | exact hS3.s5 | exact hS3.s6) rfl (by omega) rfl 0 0 (Nat.le_refl 0) (Nat.le_refl 0) ?_
    refine c_X7_bad (by omega) hC (fun w9 hs9 hC9 => ?_)
    refine q_ireturn (pc := 48) dX7_then_48 rfl ?_
    first | exact zgo k (by unfold o_then; rw [if_pos (by omega)]) zSame.rf hC | exact zgo k (by unfold o_then; rw [if_neg (by omega)]) hs9 hC9
  refine q_iload (pc := 34) dX7_then_34 rfl ?_
  refine q_iconst (pc := 36) dX7_then_36 ?_
  refine q_iconst (pc := 37) dX7_then_37 ?_
  refine q_invokestatic (pc := 38) (d' := d - 1) (mc' := 0) (ms' := 0) (As := [_, _, _]) cl_X7_62 dX7_then_38 rfl rfl (by omega) rfl 0 0 (Nat.le_refl 0) (Nat.le_refl 0) ?_
  refine c_X7_within (by omega) (by omega) (by omega) ?_
  refine q_ifb_ne (pc := 41) 49 dX7_then_41 rfl (fun c41 => ?_) (fun c41 => ?_)
  · refine q_aload_n (pc := 49) dX7_then_49 rfl rfl ?_
    refine q_getfield (pc := 50) gf_X7_37 dX7_then_50 (by first | assumption | exact hS.o | exact hS.s0 | exact hS.s1 | exact hS.s2 | exact hS.s3 | exact hS.s4 | exact hS.s5 | exact hS.s6 | exact hS2.o | exact hS2.s0 | exact hS2.s1 | exact hS2.s2 | exact hS2.s3 | exact hS2.s4 | exact hS2.s5 | exact hS2.s6 | exact hS3.o | exact hS3.s0 | exact hS3.s1 | exact hS3.s2 | exact hS3.s3 | exact hS3.s4 | exact hS3.s5 | exact hS3.s6) rfl ?_
    refine q_iload_n (pc := 53) dX7_then_53 rfl ?_
    refine q_iload_n (pc := 54) dX7_then_54 rfl ?_
    refine q_iload_n (pc := 55) dX7_then_55 rfl ?_
    refine q_iload (pc := 56) dX7_then_56 rfl ?_
    refine q_invokevirtual (pc := 58) (d' := d - 1) (mc' := 0) (ms' := 0) (As := [_, _, _, _]) (TX1, 1) cl_X7_200 dX7_then_58 rfl rfl hH.1 rfl (by omega) rfl 0 0 (Nat.le_refl 0) (Nat.le_refl 0) ?_
    refine c_X1_leftBehind (by omega) hH.1 hS hO2 (by omega) (by omega) (by omega) (by omega) ?_
    refine q_ireturn (pc := 61) dX7_then_61 rfl ?_
    first | exact zgo k (by unfold o_then; rw [if_pos (by omega)]) zSame.rf hC | exact zgo k (by unfold o_then; rw [if_neg (by omega)]) hs9 hC9
  refine q_aload_n (pc := 44) dX7_then_44 rfl rfl ?_
  refine q_invokevirtual (pc := 45) (d' := d - 1) (mc' := 0) (ms' := 0) (As := []) (TX7, 15) cl_X7_66 dX7_then_45 rfl rfl (by first | assumption | exact hS.o | exact hS.s0 | exact hS.s1 | exact hS.s2 | exact hS.s3 | exact hS.s4 | exact hS.s5 | exact hS.s6 | exact hS2.o | exact hS2.s0 | exact hS2.s1 | exact hS2.s2 | exact hS2.s3 | exact hS2.s4 | exact hS2.s5 | exact hS2.s6 | exact hS3.o | exact hS3.s0 | exact hS3.s1 | exact hS3.s2 | exact hS3.s3 | exact hS3.s4 | exact hS3.s5 | exact hS3.s6) rfl (by omega) rfl 0 0 (Nat.le_refl 0) (Nat.le_refl 0) ?_
  refine c_X7_bad (by omega) hC (fun w9 hs9 hC9 => ?_)
  refine q_ireturn (pc := 48) dX7_then_48 rfl ?_
  first | exact zgo k (by unfold o_then; rw [if_pos (by omega)]) zSame.rf hC | exact zgo k (by unfold o_then; rw [if_neg (by omega)]) hs9 hC9
set_option maxRecDepth 100000 in
set_option maxHeartbeats 8000000 in
theorem c_X7_lasts {c r : Int} (hd : 6 ≤ d) (hC : zCl g w S) (hO : zOKS S) (h_c : zR32 c) (h_r : zR32 r) (k : ∀ w', zSame w w' 0 72 → zCl g w' (o_lasts S c r).2 → K (some (zI (o_lasts S c r).1)) w') : zCall g d 0 0 mX7_lasts [zR g 0, zI c, zI r] w K := by
  obtain ⟨hX, hS, hA, hB, hD, hI, hJ, hR, hT, hH⟩ := id hC
  have hO1 := hO.1
  have hO2 := hO1.1
  have hO3 := hO2.1
  have hH1 := hH.1
  refine zenter [some _, some _, some _] pn_X7 rfl (Nat.le_of_ble_eq_true rfl) ?_
  refine q_aload_n (pc := 0) dX7_lasts_0 rfl rfl ?_
  refine q_getfield (pc := 1) gf_X7_10 dX7_lasts_1 (by first | assumption | exact hS.o | exact hS.s0 | exact hS.s1 | exact hS.s2 | exact hS.s3 | exact hS.s4 | exact hS.s5 | exact hS.s6 | exact hS2.o | exact hS2.s0 | exact hS2.s1 | exact hS2.s2 | exact hS2.s3 | exact hS2.s4 | exact hS2.s5 | exact hS2.s6 | exact hS3.o | exact hS3.s0 | exact hS3.s1 | exact hS3.s2 | exact hS3.s3 | exact hS3.s4 | exact hS3.s5 | exact hS3.s6) rfl ?_
  refine q_getfield (pc := 4) gf_X7_70 dX7_lasts_4 (by first | assumption | exact hS.o | exact hS.s0 | exact hS.s1 | exact hS.s2 | exact hS.s3 | exact hS.s4 | exact hS.s5 | exact hS.s6 | exact hS2.o | exact hS2.s0 | exact hS2.s1 | exact hS2.s2 | exact hS2.s3 | exact hS2.s4 | exact hS2.s5 | exact hS2.s6 | exact hS3.o | exact hS3.s0 | exact hS3.s1 | exact hS3.s2 | exact hS3.s3 | exact hS3.s4 | exact hS3.s5 | exact hS3.s6) rfl ?_
  refine q_iload_n (pc := 7) dX7_lasts_7 rfl ?_
  refine q_invokevirtual (pc := 8) (d' := d - 1) (mc' := 0) (ms' := 0) (As := [_]) (TX4, 4) cl_X7_101 dX7_lasts_8 rfl rfl (by first | assumption | exact hS.o | exact hS.s0 | exact hS.s1 | exact hS.s2 | exact hS.s3 | exact hS.s4 | exact hS.s5 | exact hS.s6 | exact hS2.o | exact hS2.s0 | exact hS2.s1 | exact hS2.s2 | exact hS2.s3 | exact hS2.s4 | exact hS2.s5 | exact hS2.s6 | exact hS3.o | exact hS3.s0 | exact hS3.s1 | exact hS3.s2 | exact hS3.s3 | exact hS3.s4 | exact hS3.s5 | exact hS3.s6) rfl (by omega) rfl 0 0 (Nat.le_refl 0) (Nat.le_refl 0) ?_
  first | refine s_hold0 hS hO3 (by omega) ?_ | refine s_hold1 hS hO3 (by omega) ?_ | refine s_hold2 hS hO3 (by omega) ?_ | refine s_hold3 hS hO3 (by omega) ?_
  refine q_ifb_eq (pc := 11) 33 dX7_lasts_11 rfl (fun c11 => ?_) (fun c11 => ?_)
  · refine q_aload_n (pc := 33) dX7_lasts_33 rfl rfl ?_
    refine q_invokevirtual (pc := 34) (d' := d - 1) (mc' := 0) (ms' := 0) (As := []) (TX7, 15) cl_X7_66 dX7_lasts_34 rfl rfl (by first | assumption | exact hS.o | exact hS.s0 | exact hS.s1 | exact hS.s2 | exact hS.s3 | exact hS.s4 | exact hS.s5 | exact hS.s6 | exact hS2.o | exact hS2.s0 | exact hS2.s1 | exact hS2.s2 | exact hS2.s3 | exact hS2.s4 | exact hS2.s5 | exact hS2.s6 | exact hS3.o | exact hS3.s0 | exact hS3.s1 | exact hS3.s2 | exact hS3.s3 | exact hS3.s4 | exact hS3.s5 | exact hS3.s6) rfl (by omega) rfl 0 0 (Nat.le_refl 0) (Nat.le_refl 0) ?_
    refine c_X7_bad (by omega) hC (fun w9 hs9 hC9 => ?_)
    refine q_ireturn (pc := 37) dX7_lasts_37 rfl ?_
    first | exact zgo k (by unfold o_lasts; rw [if_pos (by omega)]) zSame.rf hC | exact zgo k (by unfold o_lasts; rw [if_neg (by omega)]) hs9 hC9
  refine q_iload_n (pc := 14) dX7_lasts_14 rfl ?_
  refine q_invokestatic (pc := 15) (d' := d - 1) (mc' := 0) (ms' := 0) (As := [_]) cl_X7_105 dX7_lasts_15 rfl rfl (by omega) rfl 0 0 (Nat.le_refl 0) (Nat.le_refl 0) ?_
  refine c_X7_isRings (by omega) (by omega) ?_
  refine q_ifb_eq (pc := 18) 33 dX7_lasts_18 rfl (fun c18 => ?_) (fun c18 => ?_)
  · refine q_aload_n (pc := 33) dX7_lasts_33 rfl rfl ?_
    refine q_invokevirtual (pc := 34) (d' := d - 1) (mc' := 0) (ms' := 0) (As := []) (TX7, 15) cl_X7_66 dX7_lasts_34 rfl rfl (by first | assumption | exact hS.o | exact hS.s0 | exact hS.s1 | exact hS.s2 | exact hS.s3 | exact hS.s4 | exact hS.s5 | exact hS.s6 | exact hS2.o | exact hS2.s0 | exact hS2.s1 | exact hS2.s2 | exact hS2.s3 | exact hS2.s4 | exact hS2.s5 | exact hS2.s6 | exact hS3.o | exact hS3.s0 | exact hS3.s1 | exact hS3.s2 | exact hS3.s3 | exact hS3.s4 | exact hS3.s5 | exact hS3.s6) rfl (by omega) rfl 0 0 (Nat.le_refl 0) (Nat.le_refl 0) ?_
    refine c_X7_bad (by omega) hC (fun w9 hs9 hC9 => ?_)
    refine q_ireturn (pc := 37) dX7_lasts_37 rfl ?_
    first | exact zgo k (by unfold o_lasts; rw [if_pos (by omega)]) zSame.rf hC | exact zgo k (by unfold o_lasts; rw [if_neg (by omega)]) hs9 hC9
  refine q_aload_n (pc := 21) dX7_lasts_21 rfl rfl ?_
  refine q_getfield (pc := 22) gf_X7_37 dX7_lasts_22 (by first | assumption | exact hS.o | exact hS.s0 | exact hS.s1 | exact hS.s2 | exact hS.s3 | exact hS.s4 | exact hS.s5 | exact hS.s6 | exact hS2.o | exact hS2.s0 | exact hS2.s1 | exact hS2.s2 | exact hS2.s3 | exact hS2.s4 | exact hS2.s5 | exact hS2.s6 | exact hS3.o | exact hS3.s0 | exact hS3.s1 | exact hS3.s2 | exact hS3.s3 | exact hS3.s4 | exact hS3.s5 | exact hS3.s6) rfl ?_
  refine q_iload_n (pc := 25) dX7_lasts_25 rfl ?_
  refine q_iload_n (pc := 26) dX7_lasts_26 rfl ?_
  refine q_invokevirtual (pc := 27) (d' := d - 1) (mc' := 0) (ms' := 0) (As := [_, _]) (TX1, 1) cl_X7_203 dX7_lasts_27 rfl rfl (by first | assumption | exact hS.o | exact hS.s0 | exact hS.s1 | exact hS.s2 | exact hS.s3 | exact hS.s4 | exact hS.s5 | exact hS.s6 | exact hS2.o | exact hS2.s0 | exact hS2.s1 | exact hS2.s2 | exact hS2.s3 | exact hS2.s4 | exact hS2.s5 | exact hS2.s6 | exact hS3.o | exact hS3.s0 | exact hS3.s1 | exact hS3.s2 | exact hS3.s3 | exact hS3.s4 | exact hS3.s5 | exact hS3.s6) rfl (by omega) rfl 0 0 (Nat.le_refl 0) (Nat.le_refl 0) ?_
  refine c_X1_weeksKept (by omega) hH.1 hS hO2 (by omega) (by omega) ?_
  refine q_goto (pc := 30) 37 dX7_lasts_30 rfl ?_
  refine q_ireturn (pc := 37) dX7_lasts_37 rfl ?_
  first | exact zgo k (by unfold o_lasts; rw [if_pos (by omega)]) zSame.rf hC | exact zgo k (by unfold o_lasts; rw [if_neg (by omega)]) hs9 hC9
set_option maxRecDepth 100000 in
set_option maxHeartbeats 8000000 in
theorem c_X7_least {c r m : Int} (hd : 6 ≤ d) (hC : zCl g w S) (hO : zOKS S) (h_c : zR32 c) (h_r : zR32 r) (h_m : zR32 m) (k : ∀ w', zSame w w' 0 72 → zCl g w' (o_least S c r m).2 → K (some (zI (o_least S c r m).1)) w') : zCall g d 0 0 mX7_least [zR g 0, zI c, zI r, zI m] w K := by
  obtain ⟨hX, hS, hA, hB, hD, hI, hJ, hR, hT, hH⟩ := id hC
  have hO1 := hO.1
  have hO2 := hO1.1
  have hO3 := hO2.1
  have hH1 := hH.1
  refine zenter [some _, some _, some _, some _] pn_X7 rfl (Nat.le_of_ble_eq_true rfl) ?_
  refine q_aload_n (pc := 0) dX7_least_0 rfl rfl ?_
  refine q_getfield (pc := 1) gf_X7_10 dX7_least_1 (by first | assumption | exact hS.o | exact hS.s0 | exact hS.s1 | exact hS.s2 | exact hS.s3 | exact hS.s4 | exact hS.s5 | exact hS.s6 | exact hS2.o | exact hS2.s0 | exact hS2.s1 | exact hS2.s2 | exact hS2.s3 | exact hS2.s4 | exact hS2.s5 | exact hS2.s6 | exact hS3.o | exact hS3.s0 | exact hS3.s1 | exact hS3.s2 | exact hS3.s3 | exact hS3.s4 | exact hS3.s5 | exact hS3.s6) rfl ?_
  refine q_getfield (pc := 4) gf_X7_70 dX7_least_4 (by first | assumption | exact hS.o | exact hS.s0 | exact hS.s1 | exact hS.s2 | exact hS.s3 | exact hS.s4 | exact hS.s5 | exact hS.s6 | exact hS2.o | exact hS2.s0 | exact hS2.s1 | exact hS2.s2 | exact hS2.s3 | exact hS2.s4 | exact hS2.s5 | exact hS2.s6 | exact hS3.o | exact hS3.s0 | exact hS3.s1 | exact hS3.s2 | exact hS3.s3 | exact hS3.s4 | exact hS3.s5 | exact hS3.s6) rfl ?_
  refine q_iload_n (pc := 7) dX7_least_7 rfl ?_
  refine q_invokevirtual (pc := 8) (d' := d - 1) (mc' := 0) (ms' := 0) (As := [_]) (TX4, 4) cl_X7_101 dX7_least_8 rfl rfl (by first | assumption | exact hS.o | exact hS.s0 | exact hS.s1 | exact hS.s2 | exact hS.s3 | exact hS.s4 | exact hS.s5 | exact hS.s6 | exact hS2.o | exact hS2.s0 | exact hS2.s1 | exact hS2.s2 | exact hS2.s3 | exact hS2.s4 | exact hS2.s5 | exact hS2.s6 | exact hS3.o | exact hS3.s0 | exact hS3.s1 | exact hS3.s2 | exact hS3.s3 | exact hS3.s4 | exact hS3.s5 | exact hS3.s6) rfl (by omega) rfl 0 0 (Nat.le_refl 0) (Nat.le_refl 0) ?_
  first | refine s_hold0 hS hO3 (by omega) ?_ | refine s_hold1 hS hO3 (by omega) ?_ | refine s_hold2 hS hO3 (by omega) ?_ | refine s_hold3 hS hO3 (by omega) ?_
  refine q_ifb_eq (pc := 11) 31 dX7_least_11 rfl (fun c11 => ?_) (fun c11 => ?_)
  · refine q_aload_n (pc := 31) dX7_least_31 rfl rfl ?_
    refine q_invokevirtual (pc := 32) (d' := d - 1) (mc' := 0) (ms' := 0) (As := []) (TX7, 15) cl_X7_66 dX7_least_32 rfl rfl (by first | assumption | exact hS.o | exact hS.s0 | exact hS.s1 | exact hS.s2 | exact hS.s3 | exact hS.s4 | exact hS.s5 | exact hS.s6 | exact hS2.o | exact hS2.s0 | exact hS2.s1 | exact hS2.s2 | exact hS2.s3 | exact hS2.s4 | exact hS2.s5 | exact hS2.s6 | exact hS3.o | exact hS3.s0 | exact hS3.s1 | exact hS3.s2 | exact hS3.s3 | exact hS3.s4 | exact hS3.s5 | exact hS3.s6) rfl (by omega) rfl 0 0 (Nat.le_refl 0) (Nat.le_refl 0) ?_
    refine c_X7_bad (by omega) hC (fun w9 hs9 hC9 => ?_)
    refine q_ireturn (pc := 35) dX7_least_35 rfl ?_
    first | exact zgo k (by unfold o_least; rw [if_pos (by omega)]) zSame.rf hC | exact zgo k (by unfold o_least; rw [if_neg (by omega)]) hs9 hC9
  refine q_iload_n (pc := 14) dX7_least_14 rfl ?_
  refine q_invokestatic (pc := 15) (d' := d - 1) (mc' := 0) (ms' := 0) (As := [_]) cl_X7_105 dX7_least_15 rfl rfl (by omega) rfl 0 0 (Nat.le_refl 0) (Nat.le_refl 0) ?_
  refine c_X7_isRings (by omega) (by omega) ?_
  refine q_ifb_eq (pc := 18) 31 dX7_least_18 rfl (fun c18 => ?_) (fun c18 => ?_)
  · refine q_aload_n (pc := 31) dX7_least_31 rfl rfl ?_
    refine q_invokevirtual (pc := 32) (d' := d - 1) (mc' := 0) (ms' := 0) (As := []) (TX7, 15) cl_X7_66 dX7_least_32 rfl rfl (by first | assumption | exact hS.o | exact hS.s0 | exact hS.s1 | exact hS.s2 | exact hS.s3 | exact hS.s4 | exact hS.s5 | exact hS.s6 | exact hS2.o | exact hS2.s0 | exact hS2.s1 | exact hS2.s2 | exact hS2.s3 | exact hS2.s4 | exact hS2.s5 | exact hS2.s6 | exact hS3.o | exact hS3.s0 | exact hS3.s1 | exact hS3.s2 | exact hS3.s3 | exact hS3.s4 | exact hS3.s5 | exact hS3.s6) rfl (by omega) rfl 0 0 (Nat.le_refl 0) (Nat.le_refl 0) ?_
    refine c_X7_bad (by omega) hC (fun w9 hs9 hC9 => ?_)
    refine q_ireturn (pc := 35) dX7_least_35 rfl ?_
    first | exact zgo k (by unfold o_least; rw [if_pos (by omega)]) zSame.rf hC | exact zgo k (by unfold o_least; rw [if_neg (by omega)]) hs9 hC9
  refine q_iload_n (pc := 21) dX7_least_21 rfl ?_
  refine q_iconst (pc := 22) dX7_least_22 ?_
  refine q_bipush (pc := 23) (by decide) dX7_least_23 ?_
  refine q_invokestatic (pc := 25) (d' := d - 1) (mc' := 0) (ms' := 0) (As := [_, _, _]) cl_X7_62 dX7_least_25 rfl rfl (by omega) rfl 0 0 (Nat.le_refl 0) (Nat.le_refl 0) ?_
  refine c_X7_within (by omega) (by omega) (by omega) ?_
  refine q_ifb_ne (pc := 28) 36 dX7_least_28 rfl (fun c28 => ?_) (fun c28 => ?_)
  · refine q_aload_n (pc := 36) dX7_least_36 rfl rfl ?_
    refine q_getfield (pc := 37) gf_X7_37 dX7_least_37 (by first | assumption | exact hS.o | exact hS.s0 | exact hS.s1 | exact hS.s2 | exact hS.s3 | exact hS.s4 | exact hS.s5 | exact hS.s6 | exact hS2.o | exact hS2.s0 | exact hS2.s1 | exact hS2.s2 | exact hS2.s3 | exact hS2.s4 | exact hS2.s5 | exact hS2.s6 | exact hS3.o | exact hS3.s0 | exact hS3.s1 | exact hS3.s2 | exact hS3.s3 | exact hS3.s4 | exact hS3.s5 | exact hS3.s6) rfl ?_
    refine q_iload_n (pc := 40) dX7_least_40 rfl ?_
    refine q_iload_n (pc := 41) dX7_least_41 rfl ?_
    refine q_iload_n (pc := 42) dX7_least_42 rfl ?_
    refine q_invokevirtual (pc := 43) (d' := d - 1) (mc' := 0) (ms' := 0) (As := [_, _, _]) (TX1, 1) cl_X7_206 dX7_least_43 rfl rfl (by first | assumption | exact hS.o | exact hS.s0 | exact hS.s1 | exact hS.s2 | exact hS.s3 | exact hS.s4 | exact hS.s5 | exact hS.s6 | exact hS2.o | exact hS2.s0 | exact hS2.s1 | exact hS2.s2 | exact hS2.s3 | exact hS2.s4 | exact hS2.s5 | exact hS2.s6 | exact hS3.o | exact hS3.s0 | exact hS3.s1 | exact hS3.s2 | exact hS3.s3 | exact hS3.s4 | exact hS3.s5 | exact hS3.s6) rfl (by omega) rfl 0 0 (Nat.le_refl 0) (Nat.le_refl 0) ?_
    refine c_X1_leastStraw (by omega) hH.1 hS hO2 (by omega) (by omega) (by omega) ?_
    refine q_ireturn (pc := 46) dX7_least_46 rfl ?_
    first | exact zgo k (by unfold o_least; rw [if_pos (by omega)]) zSame.rf hC | exact zgo k (by unfold o_least; rw [if_neg (by omega)]) hs9 hC9
  refine q_aload_n (pc := 31) dX7_least_31 rfl rfl ?_
  refine q_invokevirtual (pc := 32) (d' := d - 1) (mc' := 0) (ms' := 0) (As := []) (TX7, 15) cl_X7_66 dX7_least_32 rfl rfl (by first | assumption | exact hS.o | exact hS.s0 | exact hS.s1 | exact hS.s2 | exact hS.s3 | exact hS.s4 | exact hS.s5 | exact hS.s6 | exact hS2.o | exact hS2.s0 | exact hS2.s1 | exact hS2.s2 | exact hS2.s3 | exact hS2.s4 | exact hS2.s5 | exact hS2.s6 | exact hS3.o | exact hS3.s0 | exact hS3.s1 | exact hS3.s2 | exact hS3.s3 | exact hS3.s4 | exact hS3.s5 | exact hS3.s6) rfl (by omega) rfl 0 0 (Nat.le_refl 0) (Nat.le_refl 0) ?_
  refine c_X7_bad (by omega) hC (fun w9 hs9 hC9 => ?_)
  refine q_ireturn (pc := 35) dX7_least_35 rfl ?_
  first | exact zgo k (by unfold o_least; rw [if_pos (by omega)]) zSame.rf hC | exact zgo k (by unfold o_least; rw [if_neg (by omega)]) hs9 hC9
set_option maxRecDepth 100000 in
set_option maxHeartbeats 8000000 in
theorem c_X7_throwsOf {s r x : Int} (hd : 6 ≤ d) (hC : zCl g w S) (hO : zOKS S) (h_s : zR32 s) (h_r : zR32 r) (h_x : zR32 x) (k : ∀ w', zSame w w' 0 72 → zCl g w' (o_throwsOf S s r x).2 → K (some (zI (o_throwsOf S s r x).1)) w') : zCall g d 0 0 mX7_throwsOf [zR g 0, zI s, zI r, zI x] w K := by
  obtain ⟨hX, hS, hA, hB, hD, hI, hJ, hR, hT, hH⟩ := id hC
  have hO1 := hO.1
  have hO2 := hO1.1
  have hO3 := hO2.1
  refine zenter [some _, some _, some _, some _] pn_X7 rfl (Nat.le_of_ble_eq_true rfl) ?_
  refine q_aload_n (pc := 0) dX7_throwsOf_0 rfl rfl ?_
  refine q_getfield (pc := 1) gf_X7_10 dX7_throwsOf_1 (by first | assumption | exact hS.o | exact hS.s0 | exact hS.s1 | exact hS.s2 | exact hS.s3 | exact hS.s4 | exact hS.s5 | exact hS.s6 | exact hS2.o | exact hS2.s0 | exact hS2.s1 | exact hS2.s2 | exact hS2.s3 | exact hS2.s4 | exact hS2.s5 | exact hS2.s6 | exact hS3.o | exact hS3.s0 | exact hS3.s1 | exact hS3.s2 | exact hS3.s3 | exact hS3.s4 | exact hS3.s5 | exact hS3.s6) rfl ?_
  refine q_getfield (pc := 4) gf_X7_126 dX7_throwsOf_4 (by first | assumption | exact hS.o | exact hS.s0 | exact hS.s1 | exact hS.s2 | exact hS.s3 | exact hS.s4 | exact hS.s5 | exact hS.s6 | exact hS2.o | exact hS2.s0 | exact hS2.s1 | exact hS2.s2 | exact hS2.s3 | exact hS2.s4 | exact hS2.s5 | exact hS2.s6 | exact hS3.o | exact hS3.s0 | exact hS3.s1 | exact hS3.s2 | exact hS3.s3 | exact hS3.s4 | exact hS3.s5 | exact hS3.s6) rfl ?_
  refine q_iload_n (pc := 7) dX7_throwsOf_7 rfl ?_
  refine q_invokevirtual (pc := 8) (d' := d - 1) (mc' := 0) (ms' := 0) (As := [_]) (TX4, 4) cl_X7_101 dX7_throwsOf_8 rfl rfl (by first | assumption | exact hS.o | exact hS.s0 | exact hS.s1 | exact hS.s2 | exact hS.s3 | exact hS.s4 | exact hS.s5 | exact hS.s6 | exact hS2.o | exact hS2.s0 | exact hS2.s1 | exact hS2.s2 | exact hS2.s3 | exact hS2.s4 | exact hS2.s5 | exact hS2.s6 | exact hS3.o | exact hS3.s0 | exact hS3.s1 | exact hS3.s2 | exact hS3.s3 | exact hS3.s4 | exact hS3.s5 | exact hS3.s6) rfl (by omega) rfl 0 0 (Nat.le_refl 0) (Nat.le_refl 0) ?_
  first | refine s_hold0 hS hO3 (by omega) ?_ | refine s_hold1 hS hO3 (by omega) ?_ | refine s_hold2 hS hO3 (by omega) ?_ | refine s_hold3 hS hO3 (by omega) ?_
  refine q_ifb_eq (pc := 11) 30 dX7_throwsOf_11 rfl (fun c11 => ?_) (fun c11 => ?_)
  · refine q_aload_n (pc := 30) dX7_throwsOf_30 rfl rfl ?_
    refine q_invokevirtual (pc := 31) (d' := d - 1) (mc' := 0) (ms' := 0) (As := []) (TX7, 15) cl_X7_66 dX7_throwsOf_31 rfl rfl (by first | assumption | exact hS.o | exact hS.s0 | exact hS.s1 | exact hS.s2 | exact hS.s3 | exact hS.s4 | exact hS.s5 | exact hS.s6 | exact hS2.o | exact hS2.s0 | exact hS2.s1 | exact hS2.s2 | exact hS2.s3 | exact hS2.s4 | exact hS2.s5 | exact hS2.s6 | exact hS3.o | exact hS3.s0 | exact hS3.s1 | exact hS3.s2 | exact hS3.s3 | exact hS3.s4 | exact hS3.s5 | exact hS3.s6) rfl (by omega) rfl 0 0 (Nat.le_refl 0) (Nat.le_refl 0) ?_
    refine c_X7_bad (by omega) hC (fun w9 hs9 hC9 => ?_)
    refine q_ireturn (pc := 34) dX7_throwsOf_34 rfl ?_
    first | exact zgo k (by unfold o_throwsOf; rw [if_pos (by omega), if_pos (by omega)]) zSame.rf hC | exact zgo k (by unfold o_throwsOf; rw [if_pos (by omega), if_neg (by omega)]) zSame.rf hC | exact zgo k (by unfold o_throwsOf; rw [if_neg (by omega)]) hs9 hC9
  refine q_iload_n (pc := 14) dX7_throwsOf_14 rfl ?_
  refine q_invokestatic (pc := 15) (d' := d - 1) (mc' := 0) (ms' := 0) (As := [_]) cl_X7_105 dX7_throwsOf_15 rfl rfl (by omega) rfl 0 0 (Nat.le_refl 0) (Nat.le_refl 0) ?_
  refine c_X7_isRings (by omega) (by omega) ?_
  refine q_ifb_eq (pc := 18) 30 dX7_throwsOf_18 rfl (fun c18 => ?_) (fun c18 => ?_)
  · refine q_aload_n (pc := 30) dX7_throwsOf_30 rfl rfl ?_
    refine q_invokevirtual (pc := 31) (d' := d - 1) (mc' := 0) (ms' := 0) (As := []) (TX7, 15) cl_X7_66 dX7_throwsOf_31 rfl rfl (by first | assumption | exact hS.o | exact hS.s0 | exact hS.s1 | exact hS.s2 | exact hS.s3 | exact hS.s4 | exact hS.s5 | exact hS.s6 | exact hS2.o | exact hS2.s0 | exact hS2.s1 | exact hS2.s2 | exact hS2.s3 | exact hS2.s4 | exact hS2.s5 | exact hS2.s6 | exact hS3.o | exact hS3.s0 | exact hS3.s1 | exact hS3.s2 | exact hS3.s3 | exact hS3.s4 | exact hS3.s5 | exact hS3.s6) rfl (by omega) rfl 0 0 (Nat.le_refl 0) (Nat.le_refl 0) ?_
    refine c_X7_bad (by omega) hC (fun w9 hs9 hC9 => ?_)
    refine q_ireturn (pc := 34) dX7_throwsOf_34 rfl ?_
    first | exact zgo k (by unfold o_throwsOf; rw [if_pos (by omega), if_pos (by omega)]) zSame.rf hC | exact zgo k (by unfold o_throwsOf; rw [if_pos (by omega), if_neg (by omega)]) zSame.rf hC | exact zgo k (by unfold o_throwsOf; rw [if_neg (by omega)]) hs9 hC9
  refine q_iload_n (pc := 21) dX7_throwsOf_21 rfl ?_
  refine q_iconst (pc := 22) dX7_throwsOf_22 ?_
  refine q_iconst (pc := 23) dX7_throwsOf_23 ?_
  refine q_invokestatic (pc := 24) (d' := d - 1) (mc' := 0) (ms' := 0) (As := [_, _, _]) cl_X7_62 dX7_throwsOf_24 rfl rfl (by omega) rfl 0 0 (Nat.le_refl 0) (Nat.le_refl 0) ?_
  refine c_X7_within (by omega) (by omega) (by omega) ?_
  refine q_ifb_ne (pc := 27) 35 dX7_throwsOf_27 rfl (fun c27 => ?_) (fun c27 => ?_)
  · refine q_iload_n (pc := 35) dX7_throwsOf_35 rfl ?_
    refine q_if_ne (pc := 36) (by omega) 58 dX7_throwsOf_36 rfl (fun c36 => ?_) (fun c36 => ?_)
    · refine q_aload_n (pc := 58) dX7_throwsOf_58 rfl rfl ?_
      refine q_getfield (pc := 59) gf_X7_10 dX7_throwsOf_59 (by first | assumption | exact hS.o | exact hS.s0 | exact hS.s1 | exact hS.s2 | exact hS.s3 | exact hS.s4 | exact hS.s5 | exact hS.s6 | exact hS2.o | exact hS2.s0 | exact hS2.s1 | exact hS2.s2 | exact hS2.s3 | exact hS2.s4 | exact hS2.s5 | exact hS2.s6 | exact hS3.o | exact hS3.s0 | exact hS3.s1 | exact hS3.s2 | exact hS3.s3 | exact hS3.s4 | exact hS3.s5 | exact hS3.s6) rfl ?_
      refine q_iload_n (pc := 62) dX7_throwsOf_62 rfl ?_
      refine q_iload_n (pc := 63) dX7_throwsOf_63 rfl ?_
      refine q_invokevirtual (pc := 64) (d' := d - 1) (mc' := 0) (ms' := 0) (As := [_, _]) (TX6, 9) cl_X7_213 dX7_throwsOf_64 rfl rfl (by first | assumption | exact hS.o | exact hS.s0 | exact hS.s1 | exact hS.s2 | exact hS.s3 | exact hS.s4 | exact hS.s5 | exact hS.s6 | exact hS2.o | exact hS2.s0 | exact hS2.s1 | exact hS2.s2 | exact hS2.s3 | exact hS2.s4 | exact hS2.s5 | exact hS2.s6 | exact hS3.o | exact hS3.s0 | exact hS3.s1 | exact hS3.s2 | exact hS3.s3 | exact hS3.s4 | exact hS3.s5 | exact hS3.s6) rfl (by omega) rfl 0 0 (Nat.le_refl 0) (Nat.le_refl 0) ?_
      refine c_X6_throwHits (by omega) hS hO2 (by omega) (by omega) ?_
      refine q_ireturn (pc := 67) dX7_throwsOf_67 rfl ?_
      first | exact zgo k (by unfold o_throwsOf; rw [if_pos (by omega), if_pos (by omega)]) zSame.rf hC | exact zgo k (by unfold o_throwsOf; rw [if_pos (by omega), if_neg (by omega)]) zSame.rf hC | exact zgo k (by unfold o_throwsOf; rw [if_neg (by omega)]) hs9 hC9
    refine q_aload_n (pc := 39) dX7_throwsOf_39 rfl rfl ?_
    refine q_getfield (pc := 40) gf_X7_10 dX7_throwsOf_40 (by first | assumption | exact hS.o | exact hS.s0 | exact hS.s1 | exact hS.s2 | exact hS.s3 | exact hS.s4 | exact hS.s5 | exact hS.s6 | exact hS2.o | exact hS2.s0 | exact hS2.s1 | exact hS2.s2 | exact hS2.s3 | exact hS2.s4 | exact hS2.s5 | exact hS2.s6 | exact hS3.o | exact hS3.s0 | exact hS3.s1 | exact hS3.s2 | exact hS3.s3 | exact hS3.s4 | exact hS3.s5 | exact hS3.s6) rfl ?_
    refine q_iload_n (pc := 43) dX7_throwsOf_43 rfl ?_
    refine q_iload_n (pc := 44) dX7_throwsOf_44 rfl ?_
    refine q_aload_n (pc := 45) dX7_throwsOf_45 rfl rfl ?_
    refine q_getfield (pc := 46) gf_X7_10 dX7_throwsOf_46 (by first | assumption | exact hS.o | exact hS.s0 | exact hS.s1 | exact hS.s2 | exact hS.s3 | exact hS.s4 | exact hS.s5 | exact hS.s6 | exact hS2.o | exact hS2.s0 | exact hS2.s1 | exact hS2.s2 | exact hS2.s3 | exact hS2.s4 | exact hS2.s5 | exact hS2.s6 | exact hS3.o | exact hS3.s0 | exact hS3.s1 | exact hS3.s2 | exact hS3.s3 | exact hS3.s4 | exact hS3.s5 | exact hS3.s6) rfl ?_
    refine q_getfield (pc := 49) gf_X7_182 dX7_throwsOf_49 (by first | assumption | exact hS.o | exact hS.s0 | exact hS.s1 | exact hS.s2 | exact hS.s3 | exact hS.s4 | exact hS.s5 | exact hS.s6 | exact hS2.o | exact hS2.s0 | exact hS2.s1 | exact hS2.s2 | exact hS2.s3 | exact hS2.s4 | exact hS2.s5 | exact hS2.s6 | exact hS3.o | exact hS3.s0 | exact hS3.s1 | exact hS3.s2 | exact hS3.s3 | exact hS3.s4 | exact hS3.s5 | exact hS3.s6) rfl ?_
    refine q_invokevirtual (pc := 52) (d' := d - 1) (mc' := 0) (ms' := 0) (As := [_, _, _]) (TX6, 9) cl_X7_210 dX7_throwsOf_52 rfl rfl (by first | assumption | exact hS.o | exact hS.s0 | exact hS.s1 | exact hS.s2 | exact hS.s3 | exact hS.s4 | exact hS.s5 | exact hS.s6 | exact hS2.o | exact hS2.s0 | exact hS2.s1 | exact hS2.s2 | exact hS2.s3 | exact hS2.s4 | exact hS2.s5 | exact hS2.s6 | exact hS3.o | exact hS3.s0 | exact hS3.s1 | exact hS3.s2 | exact hS3.s3 | exact hS3.s4 | exact hS3.s5 | exact hS3.s6) rfl (by omega) rfl 0 0 (Nat.le_refl 0) (Nat.le_refl 0) ?_
    refine c_X6_throwFar (by omega) hS hO2 (by omega) (by omega) (by omega) ?_
    refine q_goto (pc := 55) 67 dX7_throwsOf_55 rfl ?_
    refine q_ireturn (pc := 67) dX7_throwsOf_67 rfl ?_
    first | exact zgo k (by unfold o_throwsOf; rw [if_pos (by omega), if_pos (by omega)]) zSame.rf hC | exact zgo k (by unfold o_throwsOf; rw [if_pos (by omega), if_neg (by omega)]) zSame.rf hC | exact zgo k (by unfold o_throwsOf; rw [if_neg (by omega)]) hs9 hC9
  refine q_aload_n (pc := 30) dX7_throwsOf_30 rfl rfl ?_
  refine q_invokevirtual (pc := 31) (d' := d - 1) (mc' := 0) (ms' := 0) (As := []) (TX7, 15) cl_X7_66 dX7_throwsOf_31 rfl rfl (by first | assumption | exact hS.o | exact hS.s0 | exact hS.s1 | exact hS.s2 | exact hS.s3 | exact hS.s4 | exact hS.s5 | exact hS.s6 | exact hS2.o | exact hS2.s0 | exact hS2.s1 | exact hS2.s2 | exact hS2.s3 | exact hS2.s4 | exact hS2.s5 | exact hS2.s6 | exact hS3.o | exact hS3.s0 | exact hS3.s1 | exact hS3.s2 | exact hS3.s3 | exact hS3.s4 | exact hS3.s5 | exact hS3.s6) rfl (by omega) rfl 0 0 (Nat.le_refl 0) (Nat.le_refl 0) ?_
  refine c_X7_bad (by omega) hC (fun w9 hs9 hC9 => ?_)
  refine q_ireturn (pc := 34) dX7_throwsOf_34 rfl ?_
  first | exact zgo k (by unfold o_throwsOf; rw [if_pos (by omega), if_pos (by omega)]) zSame.rf hC | exact zgo k (by unfold o_throwsOf; rw [if_pos (by omega), if_neg (by omega)]) zSame.rf hC | exact zgo k (by unfold o_throwsOf; rw [if_neg (by omega)]) hs9 hC9
set_option maxRecDepth 100000 in
set_option maxHeartbeats 8000000 in
theorem c_X7_reach {s q : Int} (hd : 6 ≤ d) (hC : zCl g w S) (hO : zOKS S) (h_s : zR32 s) (h_q : zR32 q) (k : ∀ w', zSame w w' 0 72 → zCl g w' (o_reach S s q).2 → K (some (zI (o_reach S s q).1)) w') : zCall g d 0 0 mX7_reach [zR g 0, zI s, zI q] w K := by
  obtain ⟨hX, hS, hA, hB, hD, hI, hJ, hR, hT, hH⟩ := id hC
  have hO1 := hO.1
  have hO2 := hO1.1
  have hO3 := hO2.1
  have hH2 := hH.2.1
  refine zenter [some _, some _, some _] pn_X7 rfl (Nat.le_of_ble_eq_true rfl) ?_
  refine q_aload_n (pc := 0) dX7_reach_0 rfl rfl ?_
  refine q_getfield (pc := 1) gf_X7_10 dX7_reach_1 (by first | assumption | exact hS.o | exact hS.s0 | exact hS.s1 | exact hS.s2 | exact hS.s3 | exact hS.s4 | exact hS.s5 | exact hS.s6 | exact hS2.o | exact hS2.s0 | exact hS2.s1 | exact hS2.s2 | exact hS2.s3 | exact hS2.s4 | exact hS2.s5 | exact hS2.s6 | exact hS3.o | exact hS3.s0 | exact hS3.s1 | exact hS3.s2 | exact hS3.s3 | exact hS3.s4 | exact hS3.s5 | exact hS3.s6) rfl ?_
  refine q_getfield (pc := 4) gf_X7_126 dX7_reach_4 (by first | assumption | exact hS.o | exact hS.s0 | exact hS.s1 | exact hS.s2 | exact hS.s3 | exact hS.s4 | exact hS.s5 | exact hS.s6 | exact hS2.o | exact hS2.s0 | exact hS2.s1 | exact hS2.s2 | exact hS2.s3 | exact hS2.s4 | exact hS2.s5 | exact hS2.s6 | exact hS3.o | exact hS3.s0 | exact hS3.s1 | exact hS3.s2 | exact hS3.s3 | exact hS3.s4 | exact hS3.s5 | exact hS3.s6) rfl ?_
  refine q_iload_n (pc := 7) dX7_reach_7 rfl ?_
  refine q_invokevirtual (pc := 8) (d' := d - 1) (mc' := 0) (ms' := 0) (As := [_]) (TX4, 4) cl_X7_101 dX7_reach_8 rfl rfl (by first | assumption | exact hS.o | exact hS.s0 | exact hS.s1 | exact hS.s2 | exact hS.s3 | exact hS.s4 | exact hS.s5 | exact hS.s6 | exact hS2.o | exact hS2.s0 | exact hS2.s1 | exact hS2.s2 | exact hS2.s3 | exact hS2.s4 | exact hS2.s5 | exact hS2.s6 | exact hS3.o | exact hS3.s0 | exact hS3.s1 | exact hS3.s2 | exact hS3.s3 | exact hS3.s4 | exact hS3.s5 | exact hS3.s6) rfl (by omega) rfl 0 0 (Nat.le_refl 0) (Nat.le_refl 0) ?_
  first | refine s_hold0 hS hO3 (by omega) ?_ | refine s_hold1 hS hO3 (by omega) ?_ | refine s_hold2 hS hO3 (by omega) ?_ | refine s_hold3 hS hO3 (by omega) ?_
  refine q_ifb_eq (pc := 11) 40 dX7_reach_11 rfl (fun c11 => ?_) (fun c11 => ?_)
  · refine q_aload_n (pc := 40) dX7_reach_40 rfl rfl ?_
    refine q_invokevirtual (pc := 41) (d' := d - 1) (mc' := 0) (ms' := 0) (As := []) (TX7, 15) cl_X7_66 dX7_reach_41 rfl rfl (by first | assumption | exact hS.o | exact hS.s0 | exact hS.s1 | exact hS.s2 | exact hS.s3 | exact hS.s4 | exact hS.s5 | exact hS.s6 | exact hS2.o | exact hS2.s0 | exact hS2.s1 | exact hS2.s2 | exact hS2.s3 | exact hS2.s4 | exact hS2.s5 | exact hS2.s6 | exact hS3.o | exact hS3.s0 | exact hS3.s1 | exact hS3.s2 | exact hS3.s3 | exact hS3.s4 | exact hS3.s5 | exact hS3.s6) rfl (by omega) rfl 0 0 (Nat.le_refl 0) (Nat.le_refl 0) ?_
    refine c_X7_bad (by omega) hC (fun w9 hs9 hC9 => ?_)
    refine q_ireturn (pc := 44) dX7_reach_44 rfl ?_
    first | exact zgo k (by unfold o_reach; rw [if_pos (by omega)]) zSame.rf hC | exact zgo k (by unfold o_reach; rw [if_neg (by omega)]) hs9 hC9
  refine q_aload_n (pc := 14) dX7_reach_14 rfl rfl ?_
  refine q_getfield (pc := 15) gf_X7_10 dX7_reach_15 (by first | assumption | exact hS.o | exact hS.s0 | exact hS.s1 | exact hS.s2 | exact hS.s3 | exact hS.s4 | exact hS.s5 | exact hS.s6 | exact hS2.o | exact hS2.s0 | exact hS2.s1 | exact hS2.s2 | exact hS2.s3 | exact hS2.s4 | exact hS2.s5 | exact hS2.s6 | exact hS3.o | exact hS3.s0 | exact hS3.s1 | exact hS3.s2 | exact hS3.s3 | exact hS3.s4 | exact hS3.s5 | exact hS3.s6) rfl ?_
  refine q_getfield (pc := 18) gf_X7_132 dX7_reach_18 (by first | assumption | exact hS.o | exact hS.s0 | exact hS.s1 | exact hS.s2 | exact hS.s3 | exact hS.s4 | exact hS.s5 | exact hS.s6 | exact hS2.o | exact hS2.s0 | exact hS2.s1 | exact hS2.s2 | exact hS2.s3 | exact hS2.s4 | exact hS2.s5 | exact hS2.s6 | exact hS3.o | exact hS3.s0 | exact hS3.s1 | exact hS3.s2 | exact hS3.s3 | exact hS3.s4 | exact hS3.s5 | exact hS3.s6) rfl ?_
  refine q_iload_n (pc := 21) dX7_reach_21 rfl ?_
  refine q_invokevirtual (pc := 22) (d' := d - 1) (mc' := 0) (ms' := 0) (As := [_]) (TX4, 4) cl_X7_101 dX7_reach_22 rfl rfl (by first | assumption | exact hS.o | exact hS.s0 | exact hS.s1 | exact hS.s2 | exact hS.s3 | exact hS.s4 | exact hS.s5 | exact hS.s6 | exact hS2.o | exact hS2.s0 | exact hS2.s1 | exact hS2.s2 | exact hS2.s3 | exact hS2.s4 | exact hS2.s5 | exact hS2.s6 | exact hS3.o | exact hS3.s0 | exact hS3.s1 | exact hS3.s2 | exact hS3.s3 | exact hS3.s4 | exact hS3.s5 | exact hS3.s6) rfl (by omega) rfl 0 0 (Nat.le_refl 0) (Nat.le_refl 0) ?_
  first | refine s_hold0 hS hO3 (by omega) ?_ | refine s_hold1 hS hO3 (by omega) ?_ | refine s_hold2 hS hO3 (by omega) ?_ | refine s_hold3 hS hO3 (by omega) ?_
  refine q_ifb_eq (pc := 25) 40 dX7_reach_25 rfl (fun c25 => ?_) (fun c25 => ?_)
  · refine q_aload_n (pc := 40) dX7_reach_40 rfl rfl ?_
    refine q_invokevirtual (pc := 41) (d' := d - 1) (mc' := 0) (ms' := 0) (As := []) (TX7, 15) cl_X7_66 dX7_reach_41 rfl rfl (by first | assumption | exact hS.o | exact hS.s0 | exact hS.s1 | exact hS.s2 | exact hS.s3 | exact hS.s4 | exact hS.s5 | exact hS.s6 | exact hS2.o | exact hS2.s0 | exact hS2.s1 | exact hS2.s2 | exact hS2.s3 | exact hS2.s4 | exact hS2.s5 | exact hS2.s6 | exact hS3.o | exact hS3.s0 | exact hS3.s1 | exact hS3.s2 | exact hS3.s3 | exact hS3.s4 | exact hS3.s5 | exact hS3.s6) rfl (by omega) rfl 0 0 (Nat.le_refl 0) (Nat.le_refl 0) ?_
    refine c_X7_bad (by omega) hC (fun w9 hs9 hC9 => ?_)
    refine q_ireturn (pc := 44) dX7_reach_44 rfl ?_
    first | exact zgo k (by unfold o_reach; rw [if_pos (by omega)]) zSame.rf hC | exact zgo k (by unfold o_reach; rw [if_neg (by omega)]) hs9 hC9
  refine q_aload_n (pc := 28) dX7_reach_28 rfl rfl ?_
  refine q_getfield (pc := 29) gf_X7_44 dX7_reach_29 (by first | assumption | exact hS.o | exact hS.s0 | exact hS.s1 | exact hS.s2 | exact hS.s3 | exact hS.s4 | exact hS.s5 | exact hS.s6 | exact hS2.o | exact hS2.s0 | exact hS2.s1 | exact hS2.s2 | exact hS2.s3 | exact hS2.s4 | exact hS2.s5 | exact hS2.s6 | exact hS3.o | exact hS3.s0 | exact hS3.s1 | exact hS3.s2 | exact hS3.s3 | exact hS3.s4 | exact hS3.s5 | exact hS3.s6) rfl ?_
  refine q_iload_n (pc := 32) dX7_reach_32 rfl ?_
  refine q_iload_n (pc := 33) dX7_reach_33 rfl ?_
  refine q_invokevirtual (pc := 34) (d' := d - 1) (mc' := 0) (ms' := 0) (As := [_, _]) (TX0, 6) cl_X7_216 dX7_reach_34 rfl rfl (by first | assumption | exact hS.o | exact hS.s0 | exact hS.s1 | exact hS.s2 | exact hS.s3 | exact hS.s4 | exact hS.s5 | exact hS.s6 | exact hS2.o | exact hS2.s0 | exact hS2.s1 | exact hS2.s2 | exact hS2.s3 | exact hS2.s4 | exact hS2.s5 | exact hS2.s6 | exact hS3.o | exact hS3.s0 | exact hS3.s1 | exact hS3.s2 | exact hS3.s3 | exact hS3.s4 | exact hS3.s5 | exact hS3.s6) rfl (by omega) rfl 0 0 (Nat.le_refl 0) (Nat.le_refl 0) ?_
  refine c_X0_reachingRings (by omega) hH2 hS hO2 (by omega) (by omega) ?_
  refine q_goto (pc := 37) 44 dX7_reach_37 rfl ?_
  refine q_ireturn (pc := 44) dX7_reach_44 rfl ?_
  first | exact zgo k (by unfold o_reach; rw [if_pos (by omega)]) zSame.rf hC | exact zgo k (by unfold o_reach; rw [if_neg (by omega)]) hs9 hC9
set_option maxRecDepth 100000 in
set_option maxHeartbeats 8000000 in
theorem c_X7_cooled {i : Int} (hd : 6 ≤ d) (hC : zCl g w S) (hO : zOKS S) (h_i : zR32 i) (k : ∀ w', zSame w w' 0 72 → zCl g w' (o_cooled S i).2 → K (some (zI (o_cooled S i).1)) w') : zCall g d 0 0 mX7_cooled [zR g 0, zI i] w K := by
  obtain ⟨hX, hS, hA, hB, hD, hI, hJ, hR, hT, hH⟩ := id hC
  have hO1 := hO.1
  have hO2 := hO1.1
  have hO3 := hO2.1
  have hH8 := hH.2.2.2.2.2.2.2.1
  refine zenter [some _, some _] pn_X7 rfl (Nat.le_of_ble_eq_true rfl) ?_
  refine q_aload_n (pc := 0) dX7_cooled_0 rfl rfl ?_
  refine q_getfield (pc := 1) gf_X7_10 dX7_cooled_1 (by first | assumption | exact hS.o | exact hS.s0 | exact hS.s1 | exact hS.s2 | exact hS.s3 | exact hS.s4 | exact hS.s5 | exact hS.s6 | exact hS2.o | exact hS2.s0 | exact hS2.s1 | exact hS2.s2 | exact hS2.s3 | exact hS2.s4 | exact hS2.s5 | exact hS2.s6 | exact hS3.o | exact hS3.s0 | exact hS3.s1 | exact hS3.s2 | exact hS3.s3 | exact hS3.s4 | exact hS3.s5 | exact hS3.s6) rfl ?_
  refine q_getfield (pc := 4) gf_X7_237 dX7_cooled_4 (by first | assumption | exact hS.o | exact hS.s0 | exact hS.s1 | exact hS.s2 | exact hS.s3 | exact hS.s4 | exact hS.s5 | exact hS.s6 | exact hS2.o | exact hS2.s0 | exact hS2.s1 | exact hS2.s2 | exact hS2.s3 | exact hS2.s4 | exact hS2.s5 | exact hS2.s6 | exact hS3.o | exact hS3.s0 | exact hS3.s1 | exact hS3.s2 | exact hS3.s3 | exact hS3.s4 | exact hS3.s5 | exact hS3.s6) rfl ?_
  refine q_iload_n (pc := 7) dX7_cooled_7 rfl ?_
  refine q_invokevirtual (pc := 8) (d' := d - 1) (mc' := 0) (ms' := 0) (As := [_]) (TX4, 4) cl_X7_101 dX7_cooled_8 rfl rfl (by first | assumption | exact hS.o | exact hS.s0 | exact hS.s1 | exact hS.s2 | exact hS.s3 | exact hS.s4 | exact hS.s5 | exact hS.s6 | exact hS2.o | exact hS2.s0 | exact hS2.s1 | exact hS2.s2 | exact hS2.s3 | exact hS2.s4 | exact hS2.s5 | exact hS2.s6 | exact hS3.o | exact hS3.s0 | exact hS3.s1 | exact hS3.s2 | exact hS3.s3 | exact hS3.s4 | exact hS3.s5 | exact hS3.s6) rfl (by omega) rfl 0 0 (Nat.le_refl 0) (Nat.le_refl 0) ?_
  first | refine s_hold0 hS hO3 (by omega) ?_ | refine s_hold1 hS hO3 (by omega) ?_ | refine s_hold2 hS hO3 (by omega) ?_ | refine s_hold3 hS hO3 (by omega) ?_
  refine q_ifb_eq (pc := 11) 25 dX7_cooled_11 rfl (fun c11 => ?_) (fun c11 => ?_)
  · refine q_aload_n (pc := 25) dX7_cooled_25 rfl rfl ?_
    refine q_invokevirtual (pc := 26) (d' := d - 1) (mc' := 0) (ms' := 0) (As := []) (TX7, 15) cl_X7_66 dX7_cooled_26 rfl rfl (by first | assumption | exact hS.o | exact hS.s0 | exact hS.s1 | exact hS.s2 | exact hS.s3 | exact hS.s4 | exact hS.s5 | exact hS.s6 | exact hS2.o | exact hS2.s0 | exact hS2.s1 | exact hS2.s2 | exact hS2.s3 | exact hS2.s4 | exact hS2.s5 | exact hS2.s6 | exact hS3.o | exact hS3.s0 | exact hS3.s1 | exact hS3.s2 | exact hS3.s3 | exact hS3.s4 | exact hS3.s5 | exact hS3.s6) rfl (by omega) rfl 0 0 (Nat.le_refl 0) (Nat.le_refl 0) ?_
    refine c_X7_bad (by omega) hC (fun w9 hs9 hC9 => ?_)
    refine q_ireturn (pc := 29) dX7_cooled_29 rfl ?_
    first | exact zgo k (by unfold o_cooled; rw [if_pos (by omega)]) zSame.rf hC | exact zgo k (by unfold o_cooled; rw [if_neg (by omega)]) hs9 hC9
  refine q_aload_n (pc := 14) dX7_cooled_14 rfl rfl ?_
  refine q_getfield (pc := 15) gf_X7_51 dX7_cooled_15 (by first | assumption | exact hS.o | exact hS.s0 | exact hS.s1 | exact hS.s2 | exact hS.s3 | exact hS.s4 | exact hS.s5 | exact hS.s6 | exact hS2.o | exact hS2.s0 | exact hS2.s1 | exact hS2.s2 | exact hS2.s3 | exact hS2.s4 | exact hS2.s5 | exact hS2.s6 | exact hS3.o | exact hS3.s0 | exact hS3.s1 | exact hS3.s2 | exact hS3.s3 | exact hS3.s4 | exact hS3.s5 | exact hS3.s6) rfl ?_
  refine q_iload_n (pc := 18) dX7_cooled_18 rfl ?_
  refine q_invokevirtual (pc := 19) (d' := d - 1) (mc' := 0) (ms' := 0) (As := [_]) (TX5, 2) cl_X7_244 dX7_cooled_19 rfl rfl (by first | assumption | exact hS.o | exact hS.s0 | exact hS.s1 | exact hS.s2 | exact hS.s3 | exact hS.s4 | exact hS.s5 | exact hS.s6 | exact hS2.o | exact hS2.s0 | exact hS2.s1 | exact hS2.s2 | exact hS2.s3 | exact hS2.s4 | exact hS2.s5 | exact hS2.s6 | exact hS3.o | exact hS3.s0 | exact hS3.s1 | exact hS3.s2 | exact hS3.s3 | exact hS3.s4 | exact hS3.s5 | exact hS3.s6) rfl (by omega) rfl 0 0 (Nat.le_refl 0) (Nat.le_refl 0) ?_
  refine c_X5_doorsBy (by omega) hH8 hS hO2 (by omega) ?_
  refine q_goto (pc := 22) 29 dX7_cooled_22 rfl ?_
  refine q_ireturn (pc := 29) dX7_cooled_29 rfl ?_
  first | exact zgo k (by unfold o_cooled; rw [if_pos (by omega)]) zSame.rf hC | exact zgo k (by unfold o_cooled; rw [if_neg (by omega)]) hs9 hC9
set_option maxRecDepth 100000 in
set_option maxHeartbeats 8000000 in
theorem c_X7_even {c : Int} (hd : 6 ≤ d) (hC : zCl g w S) (hO : zOKS S) (h_c : zR32 c) (k : ∀ w', zSame w w' 0 72 → zCl g w' (o_even S c).2 → K (some (zI (o_even S c).1)) w') : zCall g d 0 0 mX7_even [zR g 0, zI c] w K := by
  obtain ⟨hX, hS, hA, hB, hD, hI, hJ, hR, hT, hH⟩ := id hC
  have hO1 := hO.1
  have hO2 := hO1.1
  have hO3 := hO2.1
  have hH8 := hH.2.2.2.2.2.2.2.1
  refine zenter [some _, some _] pn_X7 rfl (Nat.le_of_ble_eq_true rfl) ?_
  refine q_aload_n (pc := 0) dX7_even_0 rfl rfl ?_
  refine q_getfield (pc := 1) gf_X7_10 dX7_even_1 (by first | assumption | exact hS.o | exact hS.s0 | exact hS.s1 | exact hS.s2 | exact hS.s3 | exact hS.s4 | exact hS.s5 | exact hS.s6 | exact hS2.o | exact hS2.s0 | exact hS2.s1 | exact hS2.s2 | exact hS2.s3 | exact hS2.s4 | exact hS2.s5 | exact hS2.s6 | exact hS3.o | exact hS3.s0 | exact hS3.s1 | exact hS3.s2 | exact hS3.s3 | exact hS3.s4 | exact hS3.s5 | exact hS3.s6) rfl ?_
  refine q_getfield (pc := 4) gf_X7_70 dX7_even_4 (by first | assumption | exact hS.o | exact hS.s0 | exact hS.s1 | exact hS.s2 | exact hS.s3 | exact hS.s4 | exact hS.s5 | exact hS.s6 | exact hS2.o | exact hS2.s0 | exact hS2.s1 | exact hS2.s2 | exact hS2.s3 | exact hS2.s4 | exact hS2.s5 | exact hS2.s6 | exact hS3.o | exact hS3.s0 | exact hS3.s1 | exact hS3.s2 | exact hS3.s3 | exact hS3.s4 | exact hS3.s5 | exact hS3.s6) rfl ?_
  refine q_iload_n (pc := 7) dX7_even_7 rfl ?_
  refine q_invokevirtual (pc := 8) (d' := d - 1) (mc' := 0) (ms' := 0) (As := [_]) (TX4, 4) cl_X7_101 dX7_even_8 rfl rfl (by first | assumption | exact hS.o | exact hS.s0 | exact hS.s1 | exact hS.s2 | exact hS.s3 | exact hS.s4 | exact hS.s5 | exact hS.s6 | exact hS2.o | exact hS2.s0 | exact hS2.s1 | exact hS2.s2 | exact hS2.s3 | exact hS2.s4 | exact hS2.s5 | exact hS2.s6 | exact hS3.o | exact hS3.s0 | exact hS3.s1 | exact hS3.s2 | exact hS3.s3 | exact hS3.s4 | exact hS3.s5 | exact hS3.s6) rfl (by omega) rfl 0 0 (Nat.le_refl 0) (Nat.le_refl 0) ?_
  first | refine s_hold0 hS hO3 (by omega) ?_ | refine s_hold1 hS hO3 (by omega) ?_ | refine s_hold2 hS hO3 (by omega) ?_ | refine s_hold3 hS hO3 (by omega) ?_
  refine q_ifb_eq (pc := 11) 25 dX7_even_11 rfl (fun c11 => ?_) (fun c11 => ?_)
  · refine q_aload_n (pc := 25) dX7_even_25 rfl rfl ?_
    refine q_invokevirtual (pc := 26) (d' := d - 1) (mc' := 0) (ms' := 0) (As := []) (TX7, 15) cl_X7_66 dX7_even_26 rfl rfl (by first | assumption | exact hS.o | exact hS.s0 | exact hS.s1 | exact hS.s2 | exact hS.s3 | exact hS.s4 | exact hS.s5 | exact hS.s6 | exact hS2.o | exact hS2.s0 | exact hS2.s1 | exact hS2.s2 | exact hS2.s3 | exact hS2.s4 | exact hS2.s5 | exact hS2.s6 | exact hS3.o | exact hS3.s0 | exact hS3.s1 | exact hS3.s2 | exact hS3.s3 | exact hS3.s4 | exact hS3.s5 | exact hS3.s6) rfl (by omega) rfl 0 0 (Nat.le_refl 0) (Nat.le_refl 0) ?_
    refine c_X7_bad (by omega) hC (fun w9 hs9 hC9 => ?_)
    refine q_ireturn (pc := 29) dX7_even_29 rfl ?_
    first | exact zgo k (by unfold o_even; rw [if_pos (by omega)]) zSame.rf hC | exact zgo k (by unfold o_even; rw [if_neg (by omega)]) hs9 hC9
  refine q_aload_n (pc := 14) dX7_even_14 rfl rfl ?_
  refine q_getfield (pc := 15) gf_X7_51 dX7_even_15 (by first | assumption | exact hS.o | exact hS.s0 | exact hS.s1 | exact hS.s2 | exact hS.s3 | exact hS.s4 | exact hS.s5 | exact hS.s6 | exact hS2.o | exact hS2.s0 | exact hS2.s1 | exact hS2.s2 | exact hS2.s3 | exact hS2.s4 | exact hS2.s5 | exact hS2.s6 | exact hS3.o | exact hS3.s0 | exact hS3.s1 | exact hS3.s2 | exact hS3.s3 | exact hS3.s4 | exact hS3.s5 | exact hS3.s6) rfl ?_
  refine q_iload_n (pc := 18) dX7_even_18 rfl ?_
  refine q_invokevirtual (pc := 19) (d' := d - 1) (mc' := 0) (ms' := 0) (As := [_]) (TX5, 2) cl_X7_247 dX7_even_19 rfl rfl (by first | assumption | exact hS.o | exact hS.s0 | exact hS.s1 | exact hS.s2 | exact hS.s3 | exact hS.s4 | exact hS.s5 | exact hS.s6 | exact hS2.o | exact hS2.s0 | exact hS2.s1 | exact hS2.s2 | exact hS2.s3 | exact hS2.s4 | exact hS2.s5 | exact hS2.s6 | exact hS3.o | exact hS3.s0 | exact hS3.s1 | exact hS3.s2 | exact hS3.s3 | exact hS3.s4 | exact hS3.s5 | exact hS3.s6) rfl (by omega) rfl 0 0 (Nat.le_refl 0) (Nat.le_refl 0) ?_
  refine c_X5_doorsByAll (by omega) hH8 hS hO2 (by omega) ?_
  refine q_goto (pc := 22) 29 dX7_even_22 rfl ?_
  refine q_ireturn (pc := 29) dX7_even_29 rfl ?_
  first | exact zgo k (by unfold o_even; rw [if_pos (by omega)]) zSame.rf hC | exact zgo k (by unfold o_even; rw [if_neg (by omega)]) hs9 hC9
set_option maxRecDepth 100000 in
set_option maxHeartbeats 8000000 in
theorem c_X7_is {c : Int} (hd : 6 ≤ d) (hC : zCl g w S) (hO : zOKS S) (h_c : zR32 c) (k : ∀ w', zSame w w' 0 72 → zCl g w' (o_is S c).2 → K (some (zI (o_is S c).1)) w') : zCall g d 0 0 mX7_is [zR g 0, zI c] w K := by
  obtain ⟨hX, hS, hA, hB, hD, hI, hJ, hR, hT, hH⟩ := id hC
  have hO1 := hO.1
  have hO2 := hO1.1
  have hO3 := hO2.1
  have hH8 := hH.2.2.2.2.2.2.2.1
  refine zenter [some _, some _] pn_X7 rfl (Nat.le_of_ble_eq_true rfl) ?_
  refine q_aload_n (pc := 0) dX7_is_0 rfl rfl ?_
  refine q_getfield (pc := 1) gf_X7_10 dX7_is_1 (by first | assumption | exact hS.o | exact hS.s0 | exact hS.s1 | exact hS.s2 | exact hS.s3 | exact hS.s4 | exact hS.s5 | exact hS.s6 | exact hS2.o | exact hS2.s0 | exact hS2.s1 | exact hS2.s2 | exact hS2.s3 | exact hS2.s4 | exact hS2.s5 | exact hS2.s6 | exact hS3.o | exact hS3.s0 | exact hS3.s1 | exact hS3.s2 | exact hS3.s3 | exact hS3.s4 | exact hS3.s5 | exact hS3.s6) rfl ?_
  refine q_getfield (pc := 4) gf_X7_70 dX7_is_4 (by first | assumption | exact hS.o | exact hS.s0 | exact hS.s1 | exact hS.s2 | exact hS.s3 | exact hS.s4 | exact hS.s5 | exact hS.s6 | exact hS2.o | exact hS2.s0 | exact hS2.s1 | exact hS2.s2 | exact hS2.s3 | exact hS2.s4 | exact hS2.s5 | exact hS2.s6 | exact hS3.o | exact hS3.s0 | exact hS3.s1 | exact hS3.s2 | exact hS3.s3 | exact hS3.s4 | exact hS3.s5 | exact hS3.s6) rfl ?_
  refine q_iload_n (pc := 7) dX7_is_7 rfl ?_
  refine q_invokevirtual (pc := 8) (d' := d - 1) (mc' := 0) (ms' := 0) (As := [_]) (TX4, 4) cl_X7_101 dX7_is_8 rfl rfl (by first | assumption | exact hS.o | exact hS.s0 | exact hS.s1 | exact hS.s2 | exact hS.s3 | exact hS.s4 | exact hS.s5 | exact hS.s6 | exact hS2.o | exact hS2.s0 | exact hS2.s1 | exact hS2.s2 | exact hS2.s3 | exact hS2.s4 | exact hS2.s5 | exact hS2.s6 | exact hS3.o | exact hS3.s0 | exact hS3.s1 | exact hS3.s2 | exact hS3.s3 | exact hS3.s4 | exact hS3.s5 | exact hS3.s6) rfl (by omega) rfl 0 0 (Nat.le_refl 0) (Nat.le_refl 0) ?_
  first | refine s_hold0 hS hO3 (by omega) ?_ | refine s_hold1 hS hO3 (by omega) ?_ | refine s_hold2 hS hO3 (by omega) ?_ | refine s_hold3 hS hO3 (by omega) ?_
  refine q_ifb_eq (pc := 11) 25 dX7_is_11 rfl (fun c11 => ?_) (fun c11 => ?_)
  · refine q_aload_n (pc := 25) dX7_is_25 rfl rfl ?_
    refine q_invokevirtual (pc := 26) (d' := d - 1) (mc' := 0) (ms' := 0) (As := []) (TX7, 15) cl_X7_66 dX7_is_26 rfl rfl (by first | assumption | exact hS.o | exact hS.s0 | exact hS.s1 | exact hS.s2 | exact hS.s3 | exact hS.s4 | exact hS.s5 | exact hS.s6 | exact hS2.o | exact hS2.s0 | exact hS2.s1 | exact hS2.s2 | exact hS2.s3 | exact hS2.s4 | exact hS2.s5 | exact hS2.s6 | exact hS3.o | exact hS3.s0 | exact hS3.s1 | exact hS3.s2 | exact hS3.s3 | exact hS3.s4 | exact hS3.s5 | exact hS3.s6) rfl (by omega) rfl 0 0 (Nat.le_refl 0) (Nat.le_refl 0) ?_
    refine c_X7_bad (by omega) hC (fun w9 hs9 hC9 => ?_)
    refine q_ireturn (pc := 29) dX7_is_29 rfl ?_
    first | exact zgo k (by unfold o_is; rw [if_pos (by omega)]) zSame.rf hC | exact zgo k (by unfold o_is; rw [if_neg (by omega)]) hs9 hC9
  refine q_aload_n (pc := 14) dX7_is_14 rfl rfl ?_
  refine q_getfield (pc := 15) gf_X7_51 dX7_is_15 (by first | assumption | exact hS.o | exact hS.s0 | exact hS.s1 | exact hS.s2 | exact hS.s3 | exact hS.s4 | exact hS.s5 | exact hS.s6 | exact hS2.o | exact hS2.s0 | exact hS2.s1 | exact hS2.s2 | exact hS2.s3 | exact hS2.s4 | exact hS2.s5 | exact hS2.s6 | exact hS3.o | exact hS3.s0 | exact hS3.s1 | exact hS3.s2 | exact hS3.s3 | exact hS3.s4 | exact hS3.s5 | exact hS3.s6) rfl ?_
  refine q_iload_n (pc := 18) dX7_is_18 rfl ?_
  refine q_invokevirtual (pc := 19) (d' := d - 1) (mc' := 0) (ms' := 0) (As := [_]) (TX5, 2) cl_X7_256 dX7_is_19 rfl rfl (by first | assumption | exact hS.o | exact hS.s0 | exact hS.s1 | exact hS.s2 | exact hS.s3 | exact hS.s4 | exact hS.s5 | exact hS.s6 | exact hS2.o | exact hS2.s0 | exact hS2.s1 | exact hS2.s2 | exact hS2.s3 | exact hS2.s4 | exact hS2.s5 | exact hS2.s6 | exact hS3.o | exact hS3.s0 | exact hS3.s1 | exact hS3.s2 | exact hS3.s3 | exact hS3.s4 | exact hS3.s5 | exact hS3.s6) rfl (by omega) rfl 0 0 (Nat.le_refl 0) (Nat.le_refl 0) ?_
  refine c_X5_kindsOfCellar (by omega) hH8 hS hO2 (by omega) ?_
  refine q_goto (pc := 22) 29 dX7_is_22 rfl ?_
  refine q_ireturn (pc := 29) dX7_is_29 rfl ?_
  first | exact zgo k (by unfold o_is; rw [if_pos (by omega)]) zSame.rf hC | exact zgo k (by unfold o_is; rw [if_neg (by omega)]) hs9 hC9
set_option maxRecDepth 100000 in
set_option maxHeartbeats 8000000 in
theorem c_X7_who {s : Int} (hd : 6 ≤ d) (hC : zCl g w S) (hO : zOKS S) (h_s : zR32 s) (k : ∀ w', zSame w w' 0 72 → zCl g w' (o_who S s).2 → K (some (zI (o_who S s).1)) w') : zCall g d 0 0 mX7_who [zR g 0, zI s] w K := by
  obtain ⟨hX, hS, hA, hB, hD, hI, hJ, hR, hT, hH⟩ := id hC
  have hO1 := hO.1
  have hO2 := hO1.1
  have hO3 := hO2.1
  have hH8 := hH.2.2.2.2.2.2.2.1
  refine zenter [some _, some _] pn_X7 rfl (Nat.le_of_ble_eq_true rfl) ?_
  refine q_aload_n (pc := 0) dX7_who_0 rfl rfl ?_
  refine q_getfield (pc := 1) gf_X7_10 dX7_who_1 (by first | assumption | exact hS.o | exact hS.s0 | exact hS.s1 | exact hS.s2 | exact hS.s3 | exact hS.s4 | exact hS.s5 | exact hS.s6 | exact hS2.o | exact hS2.s0 | exact hS2.s1 | exact hS2.s2 | exact hS2.s3 | exact hS2.s4 | exact hS2.s5 | exact hS2.s6 | exact hS3.o | exact hS3.s0 | exact hS3.s1 | exact hS3.s2 | exact hS3.s3 | exact hS3.s4 | exact hS3.s5 | exact hS3.s6) rfl ?_
  refine q_getfield (pc := 4) gf_X7_126 dX7_who_4 (by first | assumption | exact hS.o | exact hS.s0 | exact hS.s1 | exact hS.s2 | exact hS.s3 | exact hS.s4 | exact hS.s5 | exact hS.s6 | exact hS2.o | exact hS2.s0 | exact hS2.s1 | exact hS2.s2 | exact hS2.s3 | exact hS2.s4 | exact hS2.s5 | exact hS2.s6 | exact hS3.o | exact hS3.s0 | exact hS3.s1 | exact hS3.s2 | exact hS3.s3 | exact hS3.s4 | exact hS3.s5 | exact hS3.s6) rfl ?_
  refine q_iload_n (pc := 7) dX7_who_7 rfl ?_
  refine q_invokevirtual (pc := 8) (d' := d - 1) (mc' := 0) (ms' := 0) (As := [_]) (TX4, 4) cl_X7_101 dX7_who_8 rfl rfl (by first | assumption | exact hS.o | exact hS.s0 | exact hS.s1 | exact hS.s2 | exact hS.s3 | exact hS.s4 | exact hS.s5 | exact hS.s6 | exact hS2.o | exact hS2.s0 | exact hS2.s1 | exact hS2.s2 | exact hS2.s3 | exact hS2.s4 | exact hS2.s5 | exact hS2.s6 | exact hS3.o | exact hS3.s0 | exact hS3.s1 | exact hS3.s2 | exact hS3.s3 | exact hS3.s4 | exact hS3.s5 | exact hS3.s6) rfl (by omega) rfl 0 0 (Nat.le_refl 0) (Nat.le_refl 0) ?_
  first | refine s_hold0 hS hO3 (by omega) ?_ | refine s_hold1 hS hO3 (by omega) ?_ | refine s_hold2 hS hO3 (by omega) ?_ | refine s_hold3 hS hO3 (by omega) ?_
  refine q_ifb_eq (pc := 11) 25 dX7_who_11 rfl (fun c11 => ?_) (fun c11 => ?_)
  · refine q_aload_n (pc := 25) dX7_who_25 rfl rfl ?_
    refine q_invokevirtual (pc := 26) (d' := d - 1) (mc' := 0) (ms' := 0) (As := []) (TX7, 15) cl_X7_66 dX7_who_26 rfl rfl (by first | assumption | exact hS.o | exact hS.s0 | exact hS.s1 | exact hS.s2 | exact hS.s3 | exact hS.s4 | exact hS.s5 | exact hS.s6 | exact hS2.o | exact hS2.s0 | exact hS2.s1 | exact hS2.s2 | exact hS2.s3 | exact hS2.s4 | exact hS2.s5 | exact hS2.s6 | exact hS3.o | exact hS3.s0 | exact hS3.s1 | exact hS3.s2 | exact hS3.s3 | exact hS3.s4 | exact hS3.s5 | exact hS3.s6) rfl (by omega) rfl 0 0 (Nat.le_refl 0) (Nat.le_refl 0) ?_
    refine c_X7_bad (by omega) hC (fun w9 hs9 hC9 => ?_)
    refine q_ireturn (pc := 29) dX7_who_29 rfl ?_
    first | exact zgo k (by unfold o_who; rw [if_pos (by omega)]) zSame.rf hC | exact zgo k (by unfold o_who; rw [if_neg (by omega)]) hs9 hC9
  refine q_aload_n (pc := 14) dX7_who_14 rfl rfl ?_
  refine q_getfield (pc := 15) gf_X7_51 dX7_who_15 (by first | assumption | exact hS.o | exact hS.s0 | exact hS.s1 | exact hS.s2 | exact hS.s3 | exact hS.s4 | exact hS.s5 | exact hS.s6 | exact hS2.o | exact hS2.s0 | exact hS2.s1 | exact hS2.s2 | exact hS2.s3 | exact hS2.s4 | exact hS2.s5 | exact hS2.s6 | exact hS3.o | exact hS3.s0 | exact hS3.s1 | exact hS3.s2 | exact hS3.s3 | exact hS3.s4 | exact hS3.s5 | exact hS3.s6) rfl ?_
  refine q_iload_n (pc := 18) dX7_who_18 rfl ?_
  refine q_invokevirtual (pc := 19) (d' := d - 1) (mc' := 0) (ms' := 0) (As := [_]) (TX5, 2) cl_X7_262 dX7_who_19 rfl rfl (by first | assumption | exact hS.o | exact hS.s0 | exact hS.s1 | exact hS.s2 | exact hS.s3 | exact hS.s4 | exact hS.s5 | exact hS.s6 | exact hS2.o | exact hS2.s0 | exact hS2.s1 | exact hS2.s2 | exact hS2.s3 | exact hS2.s4 | exact hS2.s5 | exact hS2.s6 | exact hS3.o | exact hS3.s0 | exact hS3.s1 | exact hS3.s2 | exact hS3.s3 | exact hS3.s4 | exact hS3.s5 | exact hS3.s6) rfl (by omega) rfl 0 0 (Nat.le_refl 0) (Nat.le_refl 0) ?_
  refine c_X5_kindsOfSlinger (by omega) hH8 hS hO2 (by omega) ?_
  refine q_goto (pc := 22) 29 dX7_who_22 rfl ?_
  refine q_ireturn (pc := 29) dX7_who_29 rfl ?_
  first | exact zgo k (by unfold o_who; rw [if_pos (by omega)]) zSame.rf hC | exact zgo k (by unfold o_who; rw [if_neg (by omega)]) hs9 hC9
set_option maxRecDepth 100000 in
set_option maxHeartbeats 8000000 in
theorem c_X7_parishes {a b q r : Int} (hd : 6 ≤ d) (hC : zCl g w S) (hO : zOKS S) (h_a : zR32 a) (h_b : zR32 b) (h_q : zR32 q) (h_r : zR32 r) (k : ∀ w', zSame w w' 0 72 → zCl g w' (o_parishes S a b q r).2 → K (some (zI (o_parishes S a b q r).1)) w') : zCall g d 0 0 mX7_parishes [zR g 0, zI a, zI b, zI q, zI r] w K := by
  obtain ⟨hX, hS, hA, hB, hD, hI, hJ, hR, hT, hH⟩ := id hC
  have hO1 := hO.1
  have hO2 := hO1.1
  have hO3 := hO2.1
  have hH2 := hH.2.1
  refine zenter [some _, some _, some _, some _, some _] pn_X7 rfl (Nat.le_of_ble_eq_true rfl) ?_
  refine q_aload_n (pc := 0) dX7_parishes_0 rfl rfl ?_
  refine q_getfield (pc := 1) gf_X7_10 dX7_parishes_1 (by first | assumption | exact hS.o | exact hS.s0 | exact hS.s1 | exact hS.s2 | exact hS.s3 | exact hS.s4 | exact hS.s5 | exact hS.s6 | exact hS2.o | exact hS2.s0 | exact hS2.s1 | exact hS2.s2 | exact hS2.s3 | exact hS2.s4 | exact hS2.s5 | exact hS2.s6 | exact hS3.o | exact hS3.s0 | exact hS3.s1 | exact hS3.s2 | exact hS3.s3 | exact hS3.s4 | exact hS3.s5 | exact hS3.s6) rfl ?_
  refine q_getfield (pc := 4) gf_X7_126 dX7_parishes_4 (by first | assumption | exact hS.o | exact hS.s0 | exact hS.s1 | exact hS.s2 | exact hS.s3 | exact hS.s4 | exact hS.s5 | exact hS.s6 | exact hS2.o | exact hS2.s0 | exact hS2.s1 | exact hS2.s2 | exact hS2.s3 | exact hS2.s4 | exact hS2.s5 | exact hS2.s6 | exact hS3.o | exact hS3.s0 | exact hS3.s1 | exact hS3.s2 | exact hS3.s3 | exact hS3.s4 | exact hS3.s5 | exact hS3.s6) rfl ?_
  refine q_iload_n (pc := 7) dX7_parishes_7 rfl ?_
  refine q_invokevirtual (pc := 8) (d' := d - 1) (mc' := 0) (ms' := 0) (As := [_]) (TX4, 4) cl_X7_101 dX7_parishes_8 rfl rfl (by first | assumption | exact hS.o | exact hS.s0 | exact hS.s1 | exact hS.s2 | exact hS.s3 | exact hS.s4 | exact hS.s5 | exact hS.s6 | exact hS2.o | exact hS2.s0 | exact hS2.s1 | exact hS2.s2 | exact hS2.s3 | exact hS2.s4 | exact hS2.s5 | exact hS2.s6 | exact hS3.o | exact hS3.s0 | exact hS3.s1 | exact hS3.s2 | exact hS3.s3 | exact hS3.s4 | exact hS3.s5 | exact hS3.s6) rfl (by omega) rfl 0 0 (Nat.le_refl 0) (Nat.le_refl 0) ?_
  first | refine s_hold0 hS hO3 (by omega) ?_ | refine s_hold1 hS hO3 (by omega) ?_ | refine s_hold2 hS hO3 (by omega) ?_ | refine s_hold3 hS hO3 (by omega) ?_
  refine q_ifb_eq (pc := 11) 55 dX7_parishes_11 rfl (fun c11 => ?_) (fun c11 => ?_)
  · refine q_aload_n (pc := 55) dX7_parishes_55 rfl rfl ?_
    refine q_invokevirtual (pc := 56) (d' := d - 1) (mc' := 0) (ms' := 0) (As := []) (TX7, 15) cl_X7_66 dX7_parishes_56 rfl rfl (by first | assumption | exact hS.o | exact hS.s0 | exact hS.s1 | exact hS.s2 | exact hS.s3 | exact hS.s4 | exact hS.s5 | exact hS.s6 | exact hS2.o | exact hS2.s0 | exact hS2.s1 | exact hS2.s2 | exact hS2.s3 | exact hS2.s4 | exact hS2.s5 | exact hS2.s6 | exact hS3.o | exact hS3.s0 | exact hS3.s1 | exact hS3.s2 | exact hS3.s3 | exact hS3.s4 | exact hS3.s5 | exact hS3.s6) rfl (by omega) rfl 0 0 (Nat.le_refl 0) (Nat.le_refl 0) ?_
    refine c_X7_bad (by omega) hC (fun w9 hs9 hC9 => ?_)
    refine q_ireturn (pc := 59) dX7_parishes_59 rfl ?_
    first | exact zgo k (by unfold o_parishes; rw [if_pos (by omega)]) zSame.rf hC | exact zgo k (by unfold o_parishes; rw [if_neg (by omega)]) hs9 hC9
  refine q_aload_n (pc := 14) dX7_parishes_14 rfl rfl ?_
  refine q_getfield (pc := 15) gf_X7_10 dX7_parishes_15 (by first | assumption | exact hS.o | exact hS.s0 | exact hS.s1 | exact hS.s2 | exact hS.s3 | exact hS.s4 | exact hS.s5 | exact hS.s6 | exact hS2.o | exact hS2.s0 | exact hS2.s1 | exact hS2.s2 | exact hS2.s3 | exact hS2.s4 | exact hS2.s5 | exact hS2.s6 | exact hS3.o | exact hS3.s0 | exact hS3.s1 | exact hS3.s2 | exact hS3.s3 | exact hS3.s4 | exact hS3.s5 | exact hS3.s6) rfl ?_
  refine q_getfield (pc := 18) gf_X7_126 dX7_parishes_18 (by first | assumption | exact hS.o | exact hS.s0 | exact hS.s1 | exact hS.s2 | exact hS.s3 | exact hS.s4 | exact hS.s5 | exact hS.s6 | exact hS2.o | exact hS2.s0 | exact hS2.s1 | exact hS2.s2 | exact hS2.s3 | exact hS2.s4 | exact hS2.s5 | exact hS2.s6 | exact hS3.o | exact hS3.s0 | exact hS3.s1 | exact hS3.s2 | exact hS3.s3 | exact hS3.s4 | exact hS3.s5 | exact hS3.s6) rfl ?_
  refine q_iload_n (pc := 21) dX7_parishes_21 rfl ?_
  refine q_invokevirtual (pc := 22) (d' := d - 1) (mc' := 0) (ms' := 0) (As := [_]) (TX4, 4) cl_X7_101 dX7_parishes_22 rfl rfl (by first | assumption | exact hS.o | exact hS.s0 | exact hS.s1 | exact hS.s2 | exact hS.s3 | exact hS.s4 | exact hS.s5 | exact hS.s6 | exact hS2.o | exact hS2.s0 | exact hS2.s1 | exact hS2.s2 | exact hS2.s3 | exact hS2.s4 | exact hS2.s5 | exact hS2.s6 | exact hS3.o | exact hS3.s0 | exact hS3.s1 | exact hS3.s2 | exact hS3.s3 | exact hS3.s4 | exact hS3.s5 | exact hS3.s6) rfl (by omega) rfl 0 0 (Nat.le_refl 0) (Nat.le_refl 0) ?_
  first | refine s_hold0 hS hO3 (by omega) ?_ | refine s_hold1 hS hO3 (by omega) ?_ | refine s_hold2 hS hO3 (by omega) ?_ | refine s_hold3 hS hO3 (by omega) ?_
  refine q_ifb_eq (pc := 25) 55 dX7_parishes_25 rfl (fun c25 => ?_) (fun c25 => ?_)
  · refine q_aload_n (pc := 55) dX7_parishes_55 rfl rfl ?_
    refine q_invokevirtual (pc := 56) (d' := d - 1) (mc' := 0) (ms' := 0) (As := []) (TX7, 15) cl_X7_66 dX7_parishes_56 rfl rfl (by first | assumption | exact hS.o | exact hS.s0 | exact hS.s1 | exact hS.s2 | exact hS.s3 | exact hS.s4 | exact hS.s5 | exact hS.s6 | exact hS2.o | exact hS2.s0 | exact hS2.s1 | exact hS2.s2 | exact hS2.s3 | exact hS2.s4 | exact hS2.s5 | exact hS2.s6 | exact hS3.o | exact hS3.s0 | exact hS3.s1 | exact hS3.s2 | exact hS3.s3 | exact hS3.s4 | exact hS3.s5 | exact hS3.s6) rfl (by omega) rfl 0 0 (Nat.le_refl 0) (Nat.le_refl 0) ?_
    refine c_X7_bad (by omega) hC (fun w9 hs9 hC9 => ?_)
    refine q_ireturn (pc := 59) dX7_parishes_59 rfl ?_
    first | exact zgo k (by unfold o_parishes; rw [if_pos (by omega)]) zSame.rf hC | exact zgo k (by unfold o_parishes; rw [if_neg (by omega)]) hs9 hC9
  refine q_iload_n (pc := 28) dX7_parishes_28 rfl ?_
  refine q_iload_n (pc := 29) dX7_parishes_29 rfl ?_
  refine q_icmp_eq (pc := 30) (by omega) (by omega) 55 dX7_parishes_30 rfl (fun c30 => ?_) (fun c30 => ?_)
  · refine q_aload_n (pc := 55) dX7_parishes_55 rfl rfl ?_
    refine q_invokevirtual (pc := 56) (d' := d - 1) (mc' := 0) (ms' := 0) (As := []) (TX7, 15) cl_X7_66 dX7_parishes_56 rfl rfl (by first | assumption | exact hS.o | exact hS.s0 | exact hS.s1 | exact hS.s2 | exact hS.s3 | exact hS.s4 | exact hS.s5 | exact hS.s6 | exact hS2.o | exact hS2.s0 | exact hS2.s1 | exact hS2.s2 | exact hS2.s3 | exact hS2.s4 | exact hS2.s5 | exact hS2.s6 | exact hS3.o | exact hS3.s0 | exact hS3.s1 | exact hS3.s2 | exact hS3.s3 | exact hS3.s4 | exact hS3.s5 | exact hS3.s6) rfl (by omega) rfl 0 0 (Nat.le_refl 0) (Nat.le_refl 0) ?_
    refine c_X7_bad (by omega) hC (fun w9 hs9 hC9 => ?_)
    refine q_ireturn (pc := 59) dX7_parishes_59 rfl ?_
    first | exact zgo k (by unfold o_parishes; rw [if_pos (by omega)]) zSame.rf hC | exact zgo k (by unfold o_parishes; rw [if_neg (by omega)]) hs9 hC9
  refine q_aload_n (pc := 33) dX7_parishes_33 rfl rfl ?_
  refine q_getfield (pc := 34) gf_X7_10 dX7_parishes_34 (by first | assumption | exact hS.o | exact hS.s0 | exact hS.s1 | exact hS.s2 | exact hS.s3 | exact hS.s4 | exact hS.s5 | exact hS.s6 | exact hS2.o | exact hS2.s0 | exact hS2.s1 | exact hS2.s2 | exact hS2.s3 | exact hS2.s4 | exact hS2.s5 | exact hS2.s6 | exact hS3.o | exact hS3.s0 | exact hS3.s1 | exact hS3.s2 | exact hS3.s3 | exact hS3.s4 | exact hS3.s5 | exact hS3.s6) rfl ?_
  refine q_getfield (pc := 37) gf_X7_132 dX7_parishes_37 (by first | assumption | exact hS.o | exact hS.s0 | exact hS.s1 | exact hS.s2 | exact hS.s3 | exact hS.s4 | exact hS.s5 | exact hS.s6 | exact hS2.o | exact hS2.s0 | exact hS2.s1 | exact hS2.s2 | exact hS2.s3 | exact hS2.s4 | exact hS2.s5 | exact hS2.s6 | exact hS3.o | exact hS3.s0 | exact hS3.s1 | exact hS3.s2 | exact hS3.s3 | exact hS3.s4 | exact hS3.s5 | exact hS3.s6) rfl ?_
  refine q_iload_n (pc := 40) dX7_parishes_40 rfl ?_
  refine q_invokevirtual (pc := 41) (d' := d - 1) (mc' := 0) (ms' := 0) (As := [_]) (TX4, 4) cl_X7_101 dX7_parishes_41 rfl rfl (by first | assumption | exact hS.o | exact hS.s0 | exact hS.s1 | exact hS.s2 | exact hS.s3 | exact hS.s4 | exact hS.s5 | exact hS.s6 | exact hS2.o | exact hS2.s0 | exact hS2.s1 | exact hS2.s2 | exact hS2.s3 | exact hS2.s4 | exact hS2.s5 | exact hS2.s6 | exact hS3.o | exact hS3.s0 | exact hS3.s1 | exact hS3.s2 | exact hS3.s3 | exact hS3.s4 | exact hS3.s5 | exact hS3.s6) rfl (by omega) rfl 0 0 (Nat.le_refl 0) (Nat.le_refl 0) ?_
  first | refine s_hold0 hS hO3 (by omega) ?_ | refine s_hold1 hS hO3 (by omega) ?_ | refine s_hold2 hS hO3 (by omega) ?_ | refine s_hold3 hS hO3 (by omega) ?_
  refine q_ifb_eq (pc := 44) 55 dX7_parishes_44 rfl (fun c44 => ?_) (fun c44 => ?_)
  · refine q_aload_n (pc := 55) dX7_parishes_55 rfl rfl ?_
    refine q_invokevirtual (pc := 56) (d' := d - 1) (mc' := 0) (ms' := 0) (As := []) (TX7, 15) cl_X7_66 dX7_parishes_56 rfl rfl (by first | assumption | exact hS.o | exact hS.s0 | exact hS.s1 | exact hS.s2 | exact hS.s3 | exact hS.s4 | exact hS.s5 | exact hS.s6 | exact hS2.o | exact hS2.s0 | exact hS2.s1 | exact hS2.s2 | exact hS2.s3 | exact hS2.s4 | exact hS2.s5 | exact hS2.s6 | exact hS3.o | exact hS3.s0 | exact hS3.s1 | exact hS3.s2 | exact hS3.s3 | exact hS3.s4 | exact hS3.s5 | exact hS3.s6) rfl (by omega) rfl 0 0 (Nat.le_refl 0) (Nat.le_refl 0) ?_
    refine c_X7_bad (by omega) hC (fun w9 hs9 hC9 => ?_)
    refine q_ireturn (pc := 59) dX7_parishes_59 rfl ?_
    first | exact zgo k (by unfold o_parishes; rw [if_pos (by omega)]) zSame.rf hC | exact zgo k (by unfold o_parishes; rw [if_neg (by omega)]) hs9 hC9
  refine q_iload (pc := 47) dX7_parishes_47 rfl ?_
  refine q_invokestatic (pc := 49) (d' := d - 1) (mc' := 0) (ms' := 0) (As := [_]) cl_X7_105 dX7_parishes_49 rfl rfl (by omega) rfl 0 0 (Nat.le_refl 0) (Nat.le_refl 0) ?_
  refine c_X7_isRings (by omega) (by omega) ?_
  refine q_ifb_ne (pc := 52) 60 dX7_parishes_52 rfl (fun c52 => ?_) (fun c52 => ?_)
  · refine q_aload_n (pc := 60) dX7_parishes_60 rfl rfl ?_
    refine q_getfield (pc := 61) gf_X7_44 dX7_parishes_61 (by first | assumption | exact hS.o | exact hS.s0 | exact hS.s1 | exact hS.s2 | exact hS.s3 | exact hS.s4 | exact hS.s5 | exact hS.s6 | exact hS2.o | exact hS2.s0 | exact hS2.s1 | exact hS2.s2 | exact hS2.s3 | exact hS2.s4 | exact hS2.s5 | exact hS2.s6 | exact hS3.o | exact hS3.s0 | exact hS3.s1 | exact hS3.s2 | exact hS3.s3 | exact hS3.s4 | exact hS3.s5 | exact hS3.s6) rfl ?_
    refine q_iload_n (pc := 64) dX7_parishes_64 rfl ?_
    refine q_iload_n (pc := 65) dX7_parishes_65 rfl ?_
    refine q_iload_n (pc := 66) dX7_parishes_66 rfl ?_
    refine q_iload (pc := 67) dX7_parishes_67 rfl ?_
    refine q_invokevirtual (pc := 69) (d' := d - 1) (mc' := 0) (ms' := 0) (As := [_, _, _, _]) (TX0, 6) cl_X7_268 dX7_parishes_69 rfl rfl (by first | assumption | exact hS.o | exact hS.s0 | exact hS.s1 | exact hS.s2 | exact hS.s3 | exact hS.s4 | exact hS.s5 | exact hS.s6 | exact hS2.o | exact hS2.s0 | exact hS2.s1 | exact hS2.s2 | exact hS2.s3 | exact hS2.s4 | exact hS2.s5 | exact hS2.s6 | exact hS3.o | exact hS3.s0 | exact hS3.s1 | exact hS3.s2 | exact hS3.s3 | exact hS3.s4 | exact hS3.s5 | exact hS3.s6) rfl (by omega) rfl 0 0 (Nat.le_refl 0) (Nat.le_refl 0) ?_
    refine c_X0_pairsThatRest (by omega) hH2 hS hO2 (by omega) (by omega) (by omega) (by omega) ?_
    refine q_ireturn (pc := 72) dX7_parishes_72 rfl ?_
    first | exact zgo k (by unfold o_parishes; rw [if_pos (by omega)]) zSame.rf hC | exact zgo k (by unfold o_parishes; rw [if_neg (by omega)]) hs9 hC9
  refine q_aload_n (pc := 55) dX7_parishes_55 rfl rfl ?_
  refine q_invokevirtual (pc := 56) (d' := d - 1) (mc' := 0) (ms' := 0) (As := []) (TX7, 15) cl_X7_66 dX7_parishes_56 rfl rfl (by first | assumption | exact hS.o | exact hS.s0 | exact hS.s1 | exact hS.s2 | exact hS.s3 | exact hS.s4 | exact hS.s5 | exact hS.s6 | exact hS2.o | exact hS2.s0 | exact hS2.s1 | exact hS2.s2 | exact hS2.s3 | exact hS2.s4 | exact hS2.s5 | exact hS2.s6 | exact hS3.o | exact hS3.s0 | exact hS3.s1 | exact hS3.s2 | exact hS3.s3 | exact hS3.s4 | exact hS3.s5 | exact hS3.s6) rfl (by omega) rfl 0 0 (Nat.le_refl 0) (Nat.le_refl 0) ?_
  refine c_X7_bad (by omega) hC (fun w9 hs9 hC9 => ?_)
  refine q_ireturn (pc := 59) dX7_parishes_59 rfl ?_
  first | exact zgo k (by unfold o_parishes; rw [if_pos (by omega)]) zSame.rf hC | exact zgo k (by unfold o_parishes; rw [if_neg (by omega)]) hs9 hC9
set_option maxRecDepth 100000 in
set_option maxHeartbeats 8000000 in
theorem c_X7_summers {seed n : Int} (hd : 6 ≤ d) (hC : zCl g w S) (hO : zOKS S) (h_seed : zR32 seed) (h_n : zR32 n) (k : ∀ w', zSame w w' 0 72 → zCl g w' (o_summers S seed n).2 → K (some (zI (o_summers S seed n).1)) w') : zCall g d 0 0 mX7_summers [zR g 0, zI seed, zI n] w K := by
  obtain ⟨hX, hS, hA, hB, hD, hI, hJ, hR, hT, hH⟩ := id hC
  have hO1 := hO.1
  have hO2 := hO1.1
  have hO3 := hO2.1
  have hH1 := hH.1
  refine zenter [some _, some _, some _] pn_X7 rfl (Nat.le_of_ble_eq_true rfl) ?_
  refine q_iload_n (pc := 0) dX7_summers_0 rfl ?_
  refine q_iconst (pc := 1) dX7_summers_1 ?_
  refine q_ldc_w (pc := 2) tw_4_176 dX7_summers_2 ?_
  refine q_invokestatic (pc := 5) (d' := d - 1) (mc' := 0) (ms' := 0) (As := [_, _, _]) cl_X7_62 dX7_summers_5 rfl rfl (by omega) rfl 0 0 (Nat.le_refl 0) (Nat.le_refl 0) ?_
  refine c_X7_within (by omega) (by omega) (by omega) ?_
  refine q_ifb_eq (pc := 8) 21 dX7_summers_8 rfl (fun c8 => ?_) (fun c8 => ?_)
  · refine q_aload_n (pc := 21) dX7_summers_21 rfl rfl ?_
    refine q_invokevirtual (pc := 22) (d' := d - 1) (mc' := 0) (ms' := 0) (As := []) (TX7, 15) cl_X7_66 dX7_summers_22 rfl rfl (by first | assumption | exact hS.o | exact hS.s0 | exact hS.s1 | exact hS.s2 | exact hS.s3 | exact hS.s4 | exact hS.s5 | exact hS.s6 | exact hS2.o | exact hS2.s0 | exact hS2.s1 | exact hS2.s2 | exact hS2.s3 | exact hS2.s4 | exact hS2.s5 | exact hS2.s6 | exact hS3.o | exact hS3.s0 | exact hS3.s1 | exact hS3.s2 | exact hS3.s3 | exact hS3.s4 | exact hS3.s5 | exact hS3.s6) rfl (by omega) rfl 0 0 (Nat.le_refl 0) (Nat.le_refl 0) ?_
    refine c_X7_bad (by omega) hC (fun w9 hs9 hC9 => ?_)
    refine q_ireturn (pc := 25) dX7_summers_25 rfl ?_
    first | exact zgo k (by unfold o_summers; rw [if_pos (by omega)]) zSame.rf hC | exact zgo k (by unfold o_summers; rw [if_neg (by omega)]) hs9 hC9
  refine q_iload_n (pc := 11) dX7_summers_11 rfl ?_
  refine q_iconst (pc := 12) dX7_summers_12 ?_
  refine q_bipush (pc := 13) (by decide) dX7_summers_13 ?_
  refine q_invokestatic (pc := 15) (d' := d - 1) (mc' := 0) (ms' := 0) (As := [_, _, _]) cl_X7_62 dX7_summers_15 rfl rfl (by omega) rfl 0 0 (Nat.le_refl 0) (Nat.le_refl 0) ?_
  refine c_X7_within (by omega) (by omega) (by omega) ?_
  refine q_ifb_ne (pc := 18) 26 dX7_summers_18 rfl (fun c18 => ?_) (fun c18 => ?_)
  · refine q_aload_n (pc := 26) dX7_summers_26 rfl rfl ?_
    refine q_getfield (pc := 27) gf_X7_37 dX7_summers_27 (by first | assumption | exact hS.o | exact hS.s0 | exact hS.s1 | exact hS.s2 | exact hS.s3 | exact hS.s4 | exact hS.s5 | exact hS.s6 | exact hS2.o | exact hS2.s0 | exact hS2.s1 | exact hS2.s2 | exact hS2.s3 | exact hS2.s4 | exact hS2.s5 | exact hS2.s6 | exact hS3.o | exact hS3.s0 | exact hS3.s1 | exact hS3.s2 | exact hS3.s3 | exact hS3.s4 | exact hS3.s5 | exact hS3.s6) rfl ?_
    refine q_iload_n (pc := 30) dX7_summers_30 rfl ?_
    refine q_iload_n (pc := 31) dX7_summers_31 rfl ?_
    refine q_invokevirtual (pc := 32) (d' := d - 1) (mc' := 0) (ms' := 0) (As := [_, _]) (TX1, 1) cl_X7_279 dX7_summers_32 rfl rfl (by first | assumption | exact hS.o | exact hS.s0 | exact hS.s1 | exact hS.s2 | exact hS.s3 | exact hS.s4 | exact hS.s5 | exact hS.s6 | exact hS2.o | exact hS2.s0 | exact hS2.s1 | exact hS2.s2 | exact hS2.s3 | exact hS2.s4 | exact hS2.s5 | exact hS2.s6 | exact hS3.o | exact hS3.s0 | exact hS3.s1 | exact hS3.s2 | exact hS3.s3 | exact hS3.s4 | exact hS3.s5 | exact hS3.s6) rfl (by omega) rfl 0 0 (Nat.le_refl 0) (Nat.le_refl 0) ?_
    refine c_X1_leftBySeed (by omega) hH1 hS hO2 (by omega) (by omega) ?_
    refine q_ireturn (pc := 35) dX7_summers_35 rfl ?_
    first | exact zgo k (by unfold o_summers; rw [if_pos (by omega)]) zSame.rf hC | exact zgo k (by unfold o_summers; rw [if_neg (by omega)]) hs9 hC9
  refine q_aload_n (pc := 21) dX7_summers_21 rfl rfl ?_
  refine q_invokevirtual (pc := 22) (d' := d - 1) (mc' := 0) (ms' := 0) (As := []) (TX7, 15) cl_X7_66 dX7_summers_22 rfl rfl (by first | assumption | exact hS.o | exact hS.s0 | exact hS.s1 | exact hS.s2 | exact hS.s3 | exact hS.s4 | exact hS.s5 | exact hS.s6 | exact hS2.o | exact hS2.s0 | exact hS2.s1 | exact hS2.s2 | exact hS2.s3 | exact hS2.s4 | exact hS2.s5 | exact hS2.s6 | exact hS3.o | exact hS3.s0 | exact hS3.s1 | exact hS3.s2 | exact hS3.s3 | exact hS3.s4 | exact hS3.s5 | exact hS3.s6) rfl (by omega) rfl 0 0 (Nat.le_refl 0) (Nat.le_refl 0) ?_
  refine c_X7_bad (by omega) hC (fun w9 hs9 hC9 => ?_)
  refine q_ireturn (pc := 25) dX7_summers_25 rfl ?_
  first | exact zgo k (by unfold o_summers; rw [if_pos (by omega)]) zSame.rf hC | exact zgo k (by unfold o_summers; rw [if_neg (by omega)]) hs9 hC9
set_option maxRecDepth 100000 in
set_option maxHeartbeats 8000000 in
theorem c_X7_of {c x : Int} (hd : 6 ≤ d) (hC : zCl g w S) (hO : zOKS S) (h_c : zR32 c) (h_x : zR32 x) (k : ∀ w', zSame w w' 0 72 → zCl g w' (o_of S c x).2 → K (some (zI (o_of S c x).1)) w') : zCall g d 0 0 mX7_of [zR g 0, zI c, zI x] w K := by
  obtain ⟨hX, hS, hA, hB, hD, hI, hJ, hR, hT, hH⟩ := id hC
  have hO1 := hO.1
  have hO2 := hO1.1
  have hO3 := hO2.1
  refine zenter [some _, some _, some _] pn_X7 rfl (Nat.le_of_ble_eq_true rfl) ?_
  refine q_aload_n (pc := 0) dX7_of_0 rfl rfl ?_
  refine q_getfield (pc := 1) gf_X7_10 dX7_of_1 (by first | assumption | exact hS.o | exact hS.s0 | exact hS.s1 | exact hS.s2 | exact hS.s3 | exact hS.s4 | exact hS.s5 | exact hS.s6 | exact hS2.o | exact hS2.s0 | exact hS2.s1 | exact hS2.s2 | exact hS2.s3 | exact hS2.s4 | exact hS2.s5 | exact hS2.s6 | exact hS3.o | exact hS3.s0 | exact hS3.s1 | exact hS3.s2 | exact hS3.s3 | exact hS3.s4 | exact hS3.s5 | exact hS3.s6) rfl ?_
  refine q_getfield (pc := 4) gf_X7_70 dX7_of_4 (by first | assumption | exact hS.o | exact hS.s0 | exact hS.s1 | exact hS.s2 | exact hS.s3 | exact hS.s4 | exact hS.s5 | exact hS.s6 | exact hS2.o | exact hS2.s0 | exact hS2.s1 | exact hS2.s2 | exact hS2.s3 | exact hS2.s4 | exact hS2.s5 | exact hS2.s6 | exact hS3.o | exact hS3.s0 | exact hS3.s1 | exact hS3.s2 | exact hS3.s3 | exact hS3.s4 | exact hS3.s5 | exact hS3.s6) rfl ?_
  refine q_iload_n (pc := 7) dX7_of_7 rfl ?_
  refine q_invokevirtual (pc := 8) (d' := d - 1) (mc' := 0) (ms' := 0) (As := [_]) (TX4, 4) cl_X7_101 dX7_of_8 rfl rfl (by first | assumption | exact hS.o | exact hS.s0 | exact hS.s1 | exact hS.s2 | exact hS.s3 | exact hS.s4 | exact hS.s5 | exact hS.s6 | exact hS2.o | exact hS2.s0 | exact hS2.s1 | exact hS2.s2 | exact hS2.s3 | exact hS2.s4 | exact hS2.s5 | exact hS2.s6 | exact hS3.o | exact hS3.s0 | exact hS3.s1 | exact hS3.s2 | exact hS3.s3 | exact hS3.s4 | exact hS3.s5 | exact hS3.s6) rfl (by omega) rfl 0 0 (Nat.le_refl 0) (Nat.le_refl 0) ?_
  first | refine s_hold0 hS hO3 (by omega) ?_ | refine s_hold1 hS hO3 (by omega) ?_ | refine s_hold2 hS hO3 (by omega) ?_ | refine s_hold3 hS hO3 (by omega) ?_
  refine q_ifb_ne (pc := 11) 19 dX7_of_11 rfl (fun c11 => ?_) (fun c11 => ?_)
  · refine q_iload_n (pc := 19) dX7_of_19 rfl ?_
    refine q_top (fun x20 hx20 => ?_)
    by_cases c20_0 : x20 = 0
    · refine q_tableIn (pc := 20) 52 dX7_of_20 c20_0 (by omega) (by decide) (by decide) rfl rfl ?_
      refine q_aload_n (pc := 52) dX7_of_52 rfl rfl ?_
      refine q_getfield (pc := 53) gf_X7_10 dX7_of_53 (by first | assumption | exact hS.o | exact hS.s0 | exact hS.s1 | exact hS.s2 | exact hS.s3 | exact hS.s4 | exact hS.s5 | exact hS.s6 | exact hS2.o | exact hS2.s0 | exact hS2.s1 | exact hS2.s2 | exact hS2.s3 | exact hS2.s4 | exact hS2.s5 | exact hS2.s6 | exact hS3.o | exact hS3.s0 | exact hS3.s1 | exact hS3.s2 | exact hS3.s3 | exact hS3.s4 | exact hS3.s5 | exact hS3.s6) rfl ?_
      refine q_getfield (pc := 56) gf_X7_70 dX7_of_56 (by first | assumption | exact hS.o | exact hS.s0 | exact hS.s1 | exact hS.s2 | exact hS.s3 | exact hS.s4 | exact hS.s5 | exact hS.s6 | exact hS2.o | exact hS2.s0 | exact hS2.s1 | exact hS2.s2 | exact hS2.s3 | exact hS2.s4 | exact hS2.s5 | exact hS2.s6 | exact hS3.o | exact hS3.s0 | exact hS3.s1 | exact hS3.s2 | exact hS3.s3 | exact hS3.s4 | exact hS3.s5 | exact hS3.s6) rfl ?_
      refine q_iload_n (pc := 59) dX7_of_59 rfl ?_
      refine q_iconst (pc := 60) dX7_of_60 ?_
      refine q_invokevirtual (pc := 61) (d' := d - 1) (mc' := 0) (ms' := 0) (As := [_, _]) (TX4, 4) cl_X7_120 dX7_of_61 rfl rfl (by first | assumption | exact hS.o | exact hS.s0 | exact hS.s1 | exact hS.s2 | exact hS.s3 | exact hS.s4 | exact hS.s5 | exact hS.s6 | exact hS2.o | exact hS2.s0 | exact hS2.s1 | exact hS2.s2 | exact hS2.s3 | exact hS2.s4 | exact hS2.s5 | exact hS2.s6 | exact hS3.o | exact hS3.s0 | exact hS3.s1 | exact hS3.s2 | exact hS3.s3 | exact hS3.s4 | exact hS3.s5 | exact hS3.s6) rfl (by omega) rfl 0 0 (Nat.le_refl 0) (Nat.le_refl 0) ?_
      refine s_get_kind (by omega) hS hO3 (by omega) ?_
      refine q_ireturn (pc := 64) dX7_of_64 rfl ?_
      exact zgo k (by unfold o_of; rw [if_pos (by omega), if_pos (by omega)]) zSame.rf hC
    by_cases c20_1 : x20 = 1
    · refine q_tableIn (pc := 20) 65 dX7_of_20 c20_1 (by omega) (by decide) (by decide) rfl rfl ?_
      refine q_aload_n (pc := 65) dX7_of_65 rfl rfl ?_
      refine q_getfield (pc := 66) gf_X7_10 dX7_of_66 (by first | assumption | exact hS.o | exact hS.s0 | exact hS.s1 | exact hS.s2 | exact hS.s3 | exact hS.s4 | exact hS.s5 | exact hS.s6 | exact hS2.o | exact hS2.s0 | exact hS2.s1 | exact hS2.s2 | exact hS2.s3 | exact hS2.s4 | exact hS2.s5 | exact hS2.s6 | exact hS3.o | exact hS3.s0 | exact hS3.s1 | exact hS3.s2 | exact hS3.s3 | exact hS3.s4 | exact hS3.s5 | exact hS3.s6) rfl ?_
      refine q_getfield (pc := 69) gf_X7_70 dX7_of_69 (by first | assumption | exact hS.o | exact hS.s0 | exact hS.s1 | exact hS.s2 | exact hS.s3 | exact hS.s4 | exact hS.s5 | exact hS.s6 | exact hS2.o | exact hS2.s0 | exact hS2.s1 | exact hS2.s2 | exact hS2.s3 | exact hS2.s4 | exact hS2.s5 | exact hS2.s6 | exact hS3.o | exact hS3.s0 | exact hS3.s1 | exact hS3.s2 | exact hS3.s3 | exact hS3.s4 | exact hS3.s5 | exact hS3.s6) rfl ?_
      refine q_iload_n (pc := 72) dX7_of_72 rfl ?_
      refine q_iconst (pc := 73) dX7_of_73 ?_
      refine q_invokevirtual (pc := 74) (d' := d - 1) (mc' := 0) (ms' := 0) (As := [_, _]) (TX4, 4) cl_X7_120 dX7_of_74 rfl rfl (by first | assumption | exact hS.o | exact hS.s0 | exact hS.s1 | exact hS.s2 | exact hS.s3 | exact hS.s4 | exact hS.s5 | exact hS.s6 | exact hS2.o | exact hS2.s0 | exact hS2.s1 | exact hS2.s2 | exact hS2.s3 | exact hS2.s4 | exact hS2.s5 | exact hS2.s6 | exact hS3.o | exact hS3.s0 | exact hS3.s1 | exact hS3.s2 | exact hS3.s3 | exact hS3.s4 | exact hS3.s5 | exact hS3.s6) rfl (by omega) rfl 0 0 (Nat.le_refl 0) (Nat.le_refl 0) ?_
      refine s_get_straw (by omega) hS hO3 (by omega) ?_
      refine q_ireturn (pc := 77) dX7_of_77 rfl ?_
      exact zgo k (by unfold o_of; rw [if_pos (by omega), if_neg (by omega), if_pos (by omega)]) zSame.rf hC
    by_cases c20_2 : x20 = 2
    · refine q_tableIn (pc := 20) 78 dX7_of_20 c20_2 (by omega) (by decide) (by decide) rfl rfl ?_
      refine q_aload_n (pc := 78) dX7_of_78 rfl rfl ?_
      refine q_getfield (pc := 79) gf_X7_10 dX7_of_79 (by first | assumption | exact hS.o | exact hS.s0 | exact hS.s1 | exact hS.s2 | exact hS.s3 | exact hS.s4 | exact hS.s5 | exact hS.s6 | exact hS2.o | exact hS2.s0 | exact hS2.s1 | exact hS2.s2 | exact hS2.s3 | exact hS2.s4 | exact hS2.s5 | exact hS2.s6 | exact hS3.o | exact hS3.s0 | exact hS3.s1 | exact hS3.s2 | exact hS3.s3 | exact hS3.s4 | exact hS3.s5 | exact hS3.s6) rfl ?_
      refine q_iload_n (pc := 82) dX7_of_82 rfl ?_
      refine q_invokevirtual (pc := 83) (d' := d - 1) (mc' := 0) (ms' := 0) (As := [_]) (TX6, 9) cl_X7_191 dX7_of_83 rfl rfl (by first | assumption | exact hS.o | exact hS.s0 | exact hS.s1 | exact hS.s2 | exact hS.s3 | exact hS.s4 | exact hS.s5 | exact hS.s6 | exact hS2.o | exact hS2.s0 | exact hS2.s1 | exact hS2.s2 | exact hS2.s3 | exact hS2.s4 | exact hS2.s5 | exact hS2.s6 | exact hS3.o | exact hS3.s0 | exact hS3.s1 | exact hS3.s2 | exact hS3.s3 | exact hS3.s4 | exact hS3.s5 | exact hS3.s6) rfl (by omega) rfl 0 0 (Nat.le_refl 0) (Nat.le_refl 0) ?_
      refine c_X6_doorCost (by omega) hS hO2 (by omega) ?_
      refine q_ireturn (pc := 86) dX7_of_86 rfl ?_
      exact zgo k (by unfold o_of; rw [if_pos (by omega), if_neg (by omega), if_neg (by omega), if_pos (by omega)]) zSame.rf hC
    by_cases c20_3 : x20 = 3
    · refine q_tableIn (pc := 20) 87 dX7_of_20 c20_3 (by omega) (by decide) (by decide) rfl rfl ?_
      refine q_aload_n (pc := 87) dX7_of_87 rfl rfl ?_
      refine q_getfield (pc := 88) gf_X7_10 dX7_of_88 (by first | assumption | exact hS.o | exact hS.s0 | exact hS.s1 | exact hS.s2 | exact hS.s3 | exact hS.s4 | exact hS.s5 | exact hS.s6 | exact hS2.o | exact hS2.s0 | exact hS2.s1 | exact hS2.s2 | exact hS2.s3 | exact hS2.s4 | exact hS2.s5 | exact hS2.s6 | exact hS3.o | exact hS3.s0 | exact hS3.s1 | exact hS3.s2 | exact hS3.s3 | exact hS3.s4 | exact hS3.s5 | exact hS3.s6) rfl ?_
      refine q_iload_n (pc := 91) dX7_of_91 rfl ?_
      refine q_iconst (pc := 92) dX7_of_92 ?_
      refine q_invokevirtual (pc := 93) (d' := d - 1) (mc' := 0) (ms' := 0) (As := [_, _]) (TX6, 9) cl_X7_166 dX7_of_93 rfl rfl (by first | assumption | exact hS.o | exact hS.s0 | exact hS.s1 | exact hS.s2 | exact hS.s3 | exact hS.s4 | exact hS.s5 | exact hS.s6 | exact hS2.o | exact hS2.s0 | exact hS2.s1 | exact hS2.s2 | exact hS2.s3 | exact hS2.s4 | exact hS2.s5 | exact hS2.s6 | exact hS3.o | exact hS3.s0 | exact hS3.s1 | exact hS3.s2 | exact hS3.s3 | exact hS3.s4 | exact hS3.s5 | exact hS3.s6) rfl (by omega) rfl 0 0 (Nat.le_refl 0) (Nat.le_refl 0) ?_
      refine c_X6_stonesFrom (by omega) hS hO3 (by omega) (by omega) ?_
      refine q_ireturn (pc := 96) dX7_of_96 rfl ?_
      exact zgo k (by unfold o_of; rw [if_pos (by omega), if_neg (by omega), if_neg (by omega), if_neg (by omega)]) zSame.rf hC
    refine q_tableOut (pc := 20) 97 dX7_of_20 (by omega) (by omega) rfl ?_
    refine q_aload_n (pc := 97) dX7_of_97 rfl rfl ?_
    refine q_invokevirtual (pc := 98) (d' := d - 1) (mc' := 0) (ms' := 0) (As := []) (TX7, 15) cl_X7_66 dX7_of_98 rfl rfl (by first | assumption | exact hS.o | exact hS.s0 | exact hS.s1 | exact hS.s2 | exact hS.s3 | exact hS.s4 | exact hS.s5 | exact hS.s6 | exact hS2.o | exact hS2.s0 | exact hS2.s1 | exact hS2.s2 | exact hS2.s3 | exact hS2.s4 | exact hS2.s5 | exact hS2.s6 | exact hS3.o | exact hS3.s0 | exact hS3.s1 | exact hS3.s2 | exact hS3.s3 | exact hS3.s4 | exact hS3.s5 | exact hS3.s6) rfl (by omega) rfl 0 0 (Nat.le_refl 0) (Nat.le_refl 0) ?_
    refine c_X7_bad (by omega) hC (fun w9 hs9 hC9 => ?_)
    refine q_ireturn (pc := 101) dX7_of_101 rfl ?_
    exact zgo k (by unfold o_of; rw [if_neg (by omega)]) hs9 hC9
  refine q_aload_n (pc := 14) dX7_of_14 rfl rfl ?_
  refine q_invokevirtual (pc := 15) (d' := d - 1) (mc' := 0) (ms' := 0) (As := []) (TX7, 15) cl_X7_66 dX7_of_15 rfl rfl (by first | assumption | exact hS.o | exact hS.s0 | exact hS.s1 | exact hS.s2 | exact hS.s3 | exact hS.s4 | exact hS.s5 | exact hS.s6 | exact hS2.o | exact hS2.s0 | exact hS2.s1 | exact hS2.s2 | exact hS2.s3 | exact hS2.s4 | exact hS2.s5 | exact hS2.s6 | exact hS3.o | exact hS3.s0 | exact hS3.s1 | exact hS3.s2 | exact hS3.s3 | exact hS3.s4 | exact hS3.s5 | exact hS3.s6) rfl (by omega) rfl 0 0 (Nat.le_refl 0) (Nat.le_refl 0) ?_
  refine c_X7_bad (by omega) hC (fun w9 hs9 hC9 => ?_)
  refine q_ireturn (pc := 18) dX7_of_18 rfl ?_
  exact zgo k (by unfold o_of; rw [if_neg (by omega)]) hs9 hC9
set_option maxRecDepth 100000 in
set_option maxHeartbeats 8000000 in
theorem c_X7_sky {q x : Int} (hd : 6 ≤ d) (hC : zCl g w S) (hO : zOKS S) (h_q : zR32 q) (h_x : zR32 x) (k : ∀ w', zSame w w' 0 72 → zCl g w' (o_sky S q x).2 → K (some (zI (o_sky S q x).1)) w') : zCall g d 0 0 mX7_sky [zR g 0, zI q, zI x] w K := by
  obtain ⟨hX, hS, hA, hB, hD, hI, hJ, hR, hT, hH⟩ := id hC
  have hO1 := hO.1
  have hO2 := hO1.1
  have hO3 := hO2.1
  refine zenter [some _, some _, some _] pn_X7 rfl (Nat.le_of_ble_eq_true rfl) ?_
  refine q_aload_n (pc := 0) dX7_sky_0 rfl rfl ?_
  refine q_getfield (pc := 1) gf_X7_10 dX7_sky_1 (by first | assumption | exact hS.o | exact hS.s0 | exact hS.s1 | exact hS.s2 | exact hS.s3 | exact hS.s4 | exact hS.s5 | exact hS.s6 | exact hS2.o | exact hS2.s0 | exact hS2.s1 | exact hS2.s2 | exact hS2.s3 | exact hS2.s4 | exact hS2.s5 | exact hS2.s6 | exact hS3.o | exact hS3.s0 | exact hS3.s1 | exact hS3.s2 | exact hS3.s3 | exact hS3.s4 | exact hS3.s5 | exact hS3.s6) rfl ?_
  refine q_getfield (pc := 4) gf_X7_132 dX7_sky_4 (by first | assumption | exact hS.o | exact hS.s0 | exact hS.s1 | exact hS.s2 | exact hS.s3 | exact hS.s4 | exact hS.s5 | exact hS.s6 | exact hS2.o | exact hS2.s0 | exact hS2.s1 | exact hS2.s2 | exact hS2.s3 | exact hS2.s4 | exact hS2.s5 | exact hS2.s6 | exact hS3.o | exact hS3.s0 | exact hS3.s1 | exact hS3.s2 | exact hS3.s3 | exact hS3.s4 | exact hS3.s5 | exact hS3.s6) rfl ?_
  refine q_iload_n (pc := 7) dX7_sky_7 rfl ?_
  refine q_invokevirtual (pc := 8) (d' := d - 1) (mc' := 0) (ms' := 0) (As := [_]) (TX4, 4) cl_X7_101 dX7_sky_8 rfl rfl (by first | assumption | exact hS.o | exact hS.s0 | exact hS.s1 | exact hS.s2 | exact hS.s3 | exact hS.s4 | exact hS.s5 | exact hS.s6 | exact hS2.o | exact hS2.s0 | exact hS2.s1 | exact hS2.s2 | exact hS2.s3 | exact hS2.s4 | exact hS2.s5 | exact hS2.s6 | exact hS3.o | exact hS3.s0 | exact hS3.s1 | exact hS3.s2 | exact hS3.s3 | exact hS3.s4 | exact hS3.s5 | exact hS3.s6) rfl (by omega) rfl 0 0 (Nat.le_refl 0) (Nat.le_refl 0) ?_
  first | refine s_hold0 hS hO3 (by omega) ?_ | refine s_hold1 hS hO3 (by omega) ?_ | refine s_hold2 hS hO3 (by omega) ?_ | refine s_hold3 hS hO3 (by omega) ?_
  refine q_ifb_eq (pc := 11) 23 dX7_sky_11 rfl (fun c11 => ?_) (fun c11 => ?_)
  · refine q_aload_n (pc := 23) dX7_sky_23 rfl rfl ?_
    refine q_invokevirtual (pc := 24) (d' := d - 1) (mc' := 0) (ms' := 0) (As := []) (TX7, 15) cl_X7_66 dX7_sky_24 rfl rfl (by first | assumption | exact hS.o | exact hS.s0 | exact hS.s1 | exact hS.s2 | exact hS.s3 | exact hS.s4 | exact hS.s5 | exact hS.s6 | exact hS2.o | exact hS2.s0 | exact hS2.s1 | exact hS2.s2 | exact hS2.s3 | exact hS2.s4 | exact hS2.s5 | exact hS2.s6 | exact hS3.o | exact hS3.s0 | exact hS3.s1 | exact hS3.s2 | exact hS3.s3 | exact hS3.s4 | exact hS3.s5 | exact hS3.s6) rfl (by omega) rfl 0 0 (Nat.le_refl 0) (Nat.le_refl 0) ?_
    refine c_X7_bad (by omega) hC (fun w9 hs9 hC9 => ?_)
    refine q_ireturn (pc := 27) dX7_sky_27 rfl ?_
    exact zgo k (by unfold o_sky; rw [if_neg (by omega)]) hs9 hC9
  refine q_iload_n (pc := 14) dX7_sky_14 rfl ?_
  refine q_iconst (pc := 15) dX7_sky_15 ?_
  refine q_iconst (pc := 16) dX7_sky_16 ?_
  refine q_invokestatic (pc := 17) (d' := d - 1) (mc' := 0) (ms' := 0) (As := [_, _, _]) cl_X7_62 dX7_sky_17 rfl rfl (by omega) rfl 0 0 (Nat.le_refl 0) (Nat.le_refl 0) ?_
  refine c_X7_within (by omega) (by omega) (by omega) ?_
  refine q_ifb_ne (pc := 20) 28 dX7_sky_20 rfl (fun c20 => ?_) (fun c20 => ?_)
  · refine q_iload_n (pc := 28) dX7_sky_28 rfl ?_
    refine q_iconst (pc := 29) dX7_sky_29 ?_
    refine q_icmp_ne (pc := 30) (by omega) (by omega) 50 dX7_sky_30 rfl (fun c30 => ?_) (fun c30 => ?_)
    · refine q_aload_n (pc := 50) dX7_sky_50 rfl rfl ?_
      refine q_getfield (pc := 51) gf_X7_10 dX7_sky_51 (by first | assumption | exact hS.o | exact hS.s0 | exact hS.s1 | exact hS.s2 | exact hS.s3 | exact hS.s4 | exact hS.s5 | exact hS.s6 | exact hS2.o | exact hS2.s0 | exact hS2.s1 | exact hS2.s2 | exact hS2.s3 | exact hS2.s4 | exact hS2.s5 | exact hS2.s6 | exact hS3.o | exact hS3.s0 | exact hS3.s1 | exact hS3.s2 | exact hS3.s3 | exact hS3.s4 | exact hS3.s5 | exact hS3.s6) rfl ?_
      refine q_getfield (pc := 54) gf_X7_132 dX7_sky_54 (by first | assumption | exact hS.o | exact hS.s0 | exact hS.s1 | exact hS.s2 | exact hS.s3 | exact hS.s4 | exact hS.s5 | exact hS.s6 | exact hS2.o | exact hS2.s0 | exact hS2.s1 | exact hS2.s2 | exact hS2.s3 | exact hS2.s4 | exact hS2.s5 | exact hS2.s6 | exact hS3.o | exact hS3.s0 | exact hS3.s1 | exact hS3.s2 | exact hS3.s3 | exact hS3.s4 | exact hS3.s5 | exact hS3.s6) rfl ?_
      refine q_iload_n (pc := 57) dX7_sky_57 rfl ?_
      refine q_iload_n (pc := 58) dX7_sky_58 rfl ?_
      refine q_invokevirtual (pc := 59) (d' := d - 1) (mc' := 0) (ms' := 0) (As := [_, _]) (TX4, 4) cl_X7_120 dX7_sky_59 rfl rfl (by first | assumption | exact hS.o | exact hS.s0 | exact hS.s1 | exact hS.s2 | exact hS.s3 | exact hS.s4 | exact hS.s5 | exact hS.s6 | exact hS2.o | exact hS2.s0 | exact hS2.s1 | exact hS2.s2 | exact hS2.s3 | exact hS2.s4 | exact hS2.s5 | exact hS2.s6 | exact hS3.o | exact hS3.s0 | exact hS3.s1 | exact hS3.s2 | exact hS3.s3 | exact hS3.s4 | exact hS3.s5 | exact hS3.s6) rfl (by omega) rfl 0 0 (Nat.le_refl 0) (Nat.le_refl 0) ?_
      (by_cases hx : x = 0)
      · subst hx; exact s_get_far (by omega) hS hO3 (by omega) (q_ireturn (pc := 62) dX7_sky_62 rfl (zgo k (by unfold o_sky; rw [if_pos (by omega), if_pos (by omega)]) zSame.rf hC))
      by_cases hx1 : x = 1
      · subst hx1; exact s_get_need (by omega) hS hO3 (by omega) (q_ireturn (pc := 62) dX7_sky_62 rfl (zgo k (by unfold o_sky; rw [if_pos (by omega), if_neg (by omega), if_pos (by omega)]) zSame.rf hC))
      obtain rfl : x = 2 := by omega
      refine s_get_hits (by omega) hS hO3 (by omega) ?_
      refine q_ireturn (pc := 62) dX7_sky_62 rfl ?_
      exact zgo k (by unfold o_sky; rw [if_pos (by omega), if_neg (by omega), if_neg (by omega), if_pos (by omega)]) zSame.rf hC
    refine q_aload_n (pc := 33) dX7_sky_33 rfl rfl ?_
    refine q_getfield (pc := 34) gf_X7_10 dX7_sky_34 (by first | assumption | exact hS.o | exact hS.s0 | exact hS.s1 | exact hS.s2 | exact hS.s3 | exact hS.s4 | exact hS.s5 | exact hS.s6 | exact hS2.o | exact hS2.s0 | exact hS2.s1 | exact hS2.s2 | exact hS2.s3 | exact hS2.s4 | exact hS2.s5 | exact hS2.s6 | exact hS3.o | exact hS3.s0 | exact hS3.s1 | exact hS3.s2 | exact hS3.s3 | exact hS3.s4 | exact hS3.s5 | exact hS3.s6) rfl ?_
    refine q_iload_n (pc := 37) dX7_sky_37 rfl ?_
    refine q_invokevirtual (pc := 38) (d' := d - 1) (mc' := 0) (ms' := 0) (As := [_]) (TX6, 9) cl_X7_194 dX7_sky_38 rfl rfl (by first | assumption | exact hS.o | exact hS.s0 | exact hS.s1 | exact hS.s2 | exact hS.s3 | exact hS.s4 | exact hS.s5 | exact hS.s6 | exact hS2.o | exact hS2.s0 | exact hS2.s1 | exact hS2.s2 | exact hS2.s3 | exact hS2.s4 | exact hS2.s5 | exact hS2.s6 | exact hS3.o | exact hS3.s0 | exact hS3.s1 | exact hS3.s2 | exact hS3.s3 | exact hS3.s4 | exact hS3.s5 | exact hS3.s6) rfl (by omega) rfl 0 0 (Nat.le_refl 0) (Nat.le_refl 0) ?_
    refine c_X6_isTurned (by omega) hS hO2 (by omega) ?_
    refine q_ifb_eq (pc := 41) 48 dX7_sky_41 rfl (fun c41 => ?_) (fun c41 => ?_)
    · refine q_iconst (pc := 48) dX7_sky_48 ?_
      refine q_ireturn (pc := 49) dX7_sky_49 rfl ?_
      first | (rw [← zb_t c41]; exact zgo k (by unfold o_sky; rw [if_pos (by omega), if_neg (by omega), if_neg (by omega), if_neg (by omega)]) zSame.rf hC) | (rw [← zb_f c41]; exact zgo k (by unfold o_sky; rw [if_pos (by omega), if_neg (by omega), if_neg (by omega), if_neg (by omega)]) zSame.rf hC)
    refine q_iconst (pc := 44) dX7_sky_44 ?_
    refine q_goto (pc := 45) 49 dX7_sky_45 rfl ?_
    refine q_ireturn (pc := 49) dX7_sky_49 rfl ?_
    first | (rw [← zb_t c41]; exact zgo k (by unfold o_sky; rw [if_pos (by omega), if_neg (by omega), if_neg (by omega), if_neg (by omega)]) zSame.rf hC) | (rw [← zb_f c41]; exact zgo k (by unfold o_sky; rw [if_pos (by omega), if_neg (by omega), if_neg (by omega), if_neg (by omega)]) zSame.rf hC)
  refine q_aload_n (pc := 23) dX7_sky_23 rfl rfl ?_
  refine q_invokevirtual (pc := 24) (d' := d - 1) (mc' := 0) (ms' := 0) (As := []) (TX7, 15) cl_X7_66 dX7_sky_24 rfl rfl (by first | assumption | exact hS.o | exact hS.s0 | exact hS.s1 | exact hS.s2 | exact hS.s3 | exact hS.s4 | exact hS.s5 | exact hS.s6 | exact hS2.o | exact hS2.s0 | exact hS2.s1 | exact hS2.s2 | exact hS2.s3 | exact hS2.s4 | exact hS2.s5 | exact hS2.s6 | exact hS3.o | exact hS3.s0 | exact hS3.s1 | exact hS3.s2 | exact hS3.s3 | exact hS3.s4 | exact hS3.s5 | exact hS3.s6) rfl (by omega) rfl 0 0 (Nat.le_refl 0) (Nat.le_refl 0) ?_
  refine c_X7_bad (by omega) hC (fun w9 hs9 hC9 => ?_)
  refine q_ireturn (pc := 27) dX7_sky_27 rfl ?_
  exact zgo k (by unfold o_sky; rw [if_neg (by omega)]) hs9 hC9
end X7C
