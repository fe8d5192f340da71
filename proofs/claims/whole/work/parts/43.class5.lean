/-! the class's own calls, the rest -/
section X7E
variable {g : zG} {d : Nat} {w : zWd} {K : Option Value → zWd → Prop} {S : zSt}
set_option maxRecDepth 100000 in
set_option maxHeartbeats 8000000 in
theorem c_X7_turn {q s c x : Int} (hd : 6 ≤ d) (hC : zCl g w S) (hO : zOKS S) (h_q : zR32 q) (h_s : zR32 s) (h_c : zR32 c) (h_x : zR32 x) (k : ∀ w', zSame w w' 0 72 → zCl g w' (o_turn S q s c x).2 → K (some (zI (o_turn S q s c x).1)) w') : zCall g d 0 0 mX7_turn [zR g 0, zI q, zI s, zI c, zI x] w K := by
  obtain ⟨hX, hS, hA, hB, hD, hI, hJ, hR, hT, hH⟩ := id hC
  have hO1 := hO.1
  have hO2 := hO1.1
  have hO3 := hO2.1
  have hH2 := hH.2.1
  obtain ⟨f1, hG1⟩ := hH.2.2.1
  refine zenter [some _, some _, some _, some _, some _, none] pn_X7 rfl (Nat.le_of_ble_eq_true rfl) ?_
  refine q_aload_n (pc := 0) dX7_turn_0 rfl rfl ?_
  refine q_getfield (pc := 1) gf_X7_10 dX7_turn_1 (by first | assumption | exact hS.o | exact hS.s0 | exact hS.s1 | exact hS.s2 | exact hS.s3 | exact hS.s4 | exact hS.s5 | exact hS.s6 | exact hS2.o | exact hS2.s0 | exact hS2.s1 | exact hS2.s2 | exact hS2.s3 | exact hS2.s4 | exact hS2.s5 | exact hS2.s6 | exact hS3.o | exact hS3.s0 | exact hS3.s1 | exact hS3.s2 | exact hS3.s3 | exact hS3.s4 | exact hS3.s5 | exact hS3.s6) rfl ?_
  refine q_getfield (pc := 4) gf_X7_132 dX7_turn_4 (by first | assumption | exact hS.o | exact hS.s0 | exact hS.s1 | exact hS.s2 | exact hS.s3 | exact hS.s4 | exact hS.s5 | exact hS.s6 | exact hS2.o | exact hS2.s0 | exact hS2.s1 | exact hS2.s2 | exact hS2.s3 | exact hS2.s4 | exact hS2.s5 | exact hS2.s6 | exact hS3.o | exact hS3.s0 | exact hS3.s1 | exact hS3.s2 | exact hS3.s3 | exact hS3.s4 | exact hS3.s5 | exact hS3.s6) rfl ?_
  refine q_iload_n (pc := 7) dX7_turn_7 rfl ?_
  refine q_invokevirtual (pc := 8) (d' := d - 1) (mc' := 0) (ms' := 0) (As := [_]) (TX4, 4) cl_X7_101 dX7_turn_8 rfl rfl (by first | assumption | exact hS.o | exact hS.s0 | exact hS.s1 | exact hS.s2 | exact hS.s3 | exact hS.s4 | exact hS.s5 | exact hS.s6 | exact hS2.o | exact hS2.s0 | exact hS2.s1 | exact hS2.s2 | exact hS2.s3 | exact hS2.s4 | exact hS2.s5 | exact hS2.s6 | exact hS3.o | exact hS3.s0 | exact hS3.s1 | exact hS3.s2 | exact hS3.s3 | exact hS3.s4 | exact hS3.s5 | exact hS3.s6) rfl (by omega) rfl 0 0 (Nat.le_refl 0) (Nat.le_refl 0) ?_
  first | refine s_hold0 hS hO3 (by omega) ?_ | refine s_hold1 hS hO3 (by omega) ?_ | refine s_hold2 hS hO3 (by omega) ?_ | refine s_hold3 hS hO3 (by omega) ?_
  refine q_ifb_eq (pc := 11) 52 dX7_turn_11 rfl (fun c11 => ?_) (fun c11 => ?_)
  · refine q_aload_n (pc := 52) dX7_turn_52 rfl rfl ?_
    refine q_invokevirtual (pc := 53) (d' := d - 1) (mc' := 0) (ms' := 0) (As := []) (TX7, 15) cl_X7_66 dX7_turn_53 rfl rfl (by first | assumption | exact hS.o | exact hS.s0 | exact hS.s1 | exact hS.s2 | exact hS.s3 | exact hS.s4 | exact hS.s5 | exact hS.s6 | exact hS2.o | exact hS2.s0 | exact hS2.s1 | exact hS2.s2 | exact hS2.s3 | exact hS2.s4 | exact hS2.s5 | exact hS2.s6 | exact hS3.o | exact hS3.s0 | exact hS3.s1 | exact hS3.s2 | exact hS3.s3 | exact hS3.s4 | exact hS3.s5 | exact hS3.s6) rfl (by omega) rfl 0 0 (Nat.le_refl 0) (Nat.le_refl 0) ?_
    refine c_X7_bad (by omega) hC (fun w9 hs9 hC9 => ?_)
    refine q_ireturn (pc := 56) dX7_turn_56 rfl ?_
    first | exact zgo k (by unfold o_turn; rw [if_pos (by omega), if_pos (by omega)]) (hs2.wide (by omega) (by omega)) hC2 | exact zgo k (by unfold o_turn; rw [if_pos (by omega), if_neg (by omega), if_pos (by omega)]) (hs2.wide (by omega) (by omega)) hC2 | exact zgo k (by unfold o_turn; rw [if_pos (by omega), if_neg (by omega), if_neg (by omega)]) (hs2.wide (by omega) (by omega)) hC2 | exact zgo k (by unfold o_turn; rw [if_neg (by omega)]) hs9 hC9
  refine q_aload_n (pc := 14) dX7_turn_14 rfl rfl ?_
  refine q_getfield (pc := 15) gf_X7_10 dX7_turn_15 (by first | assumption | exact hS.o | exact hS.s0 | exact hS.s1 | exact hS.s2 | exact hS.s3 | exact hS.s4 | exact hS.s5 | exact hS.s6 | exact hS2.o | exact hS2.s0 | exact hS2.s1 | exact hS2.s2 | exact hS2.s3 | exact hS2.s4 | exact hS2.s5 | exact hS2.s6 | exact hS3.o | exact hS3.s0 | exact hS3.s1 | exact hS3.s2 | exact hS3.s3 | exact hS3.s4 | exact hS3.s5 | exact hS3.s6) rfl ?_
  refine q_getfield (pc := 18) gf_X7_126 dX7_turn_18 (by first | assumption | exact hS.o | exact hS.s0 | exact hS.s1 | exact hS.s2 | exact hS.s3 | exact hS.s4 | exact hS.s5 | exact hS.s6 | exact hS2.o | exact hS2.s0 | exact hS2.s1 | exact hS2.s2 | exact hS2.s3 | exact hS2.s4 | exact hS2.s5 | exact hS2.s6 | exact hS3.o | exact hS3.s0 | exact hS3.s1 | exact hS3.s2 | exact hS3.s3 | exact hS3.s4 | exact hS3.s5 | exact hS3.s6) rfl ?_
  refine q_iload_n (pc := 21) dX7_turn_21 rfl ?_
  refine q_invokevirtual (pc := 22) (d' := d - 1) (mc' := 0) (ms' := 0) (As := [_]) (TX4, 4) cl_X7_101 dX7_turn_22 rfl rfl (by first | assumption | exact hS.o | exact hS.s0 | exact hS.s1 | exact hS.s2 | exact hS.s3 | exact hS.s4 | exact hS.s5 | exact hS.s6 | exact hS2.o | exact hS2.s0 | exact hS2.s1 | exact hS2.s2 | exact hS2.s3 | exact hS2.s4 | exact hS2.s5 | exact hS2.s6 | exact hS3.o | exact hS3.s0 | exact hS3.s1 | exact hS3.s2 | exact hS3.s3 | exact hS3.s4 | exact hS3.s5 | exact hS3.s6) rfl (by omega) rfl 0 0 (Nat.le_refl 0) (Nat.le_refl 0) ?_
  first | refine s_hold0 hS hO3 (by omega) ?_ | refine s_hold1 hS hO3 (by omega) ?_ | refine s_hold2 hS hO3 (by omega) ?_ | refine s_hold3 hS hO3 (by omega) ?_
  refine q_ifb_eq (pc := 25) 52 dX7_turn_25 rfl (fun c25 => ?_) (fun c25 => ?_)
  · refine q_aload_n (pc := 52) dX7_turn_52 rfl rfl ?_
    refine q_invokevirtual (pc := 53) (d' := d - 1) (mc' := 0) (ms' := 0) (As := []) (TX7, 15) cl_X7_66 dX7_turn_53 rfl rfl (by first | assumption | exact hS.o | exact hS.s0 | exact hS.s1 | exact hS.s2 | exact hS.s3 | exact hS.s4 | exact hS.s5 | exact hS.s6 | exact hS2.o | exact hS2.s0 | exact hS2.s1 | exact hS2.s2 | exact hS2.s3 | exact hS2.s4 | exact hS2.s5 | exact hS2.s6 | exact hS3.o | exact hS3.s0 | exact hS3.s1 | exact hS3.s2 | exact hS3.s3 | exact hS3.s4 | exact hS3.s5 | exact hS3.s6) rfl (by omega) rfl 0 0 (Nat.le_refl 0) (Nat.le_refl 0) ?_
    refine c_X7_bad (by omega) hC (fun w9 hs9 hC9 => ?_)
    refine q_ireturn (pc := 56) dX7_turn_56 rfl ?_
    first | exact zgo k (by unfold o_turn; rw [if_pos (by omega), if_pos (by omega)]) (hs2.wide (by omega) (by omega)) hC2 | exact zgo k (by unfold o_turn; rw [if_pos (by omega), if_neg (by omega), if_pos (by omega)]) (hs2.wide (by omega) (by omega)) hC2 | exact zgo k (by unfold o_turn; rw [if_pos (by omega), if_neg (by omega), if_neg (by omega)]) (hs2.wide (by omega) (by omega)) hC2 | exact zgo k (by unfold o_turn; rw [if_neg (by omega)]) hs9 hC9
  refine q_aload_n (pc := 28) dX7_turn_28 rfl rfl ?_
  refine q_getfield (pc := 29) gf_X7_10 dX7_turn_29 (by first | assumption | exact hS.o | exact hS.s0 | exact hS.s1 | exact hS.s2 | exact hS.s3 | exact hS.s4 | exact hS.s5 | exact hS.s6 | exact hS2.o | exact hS2.s0 | exact hS2.s1 | exact hS2.s2 | exact hS2.s3 | exact hS2.s4 | exact hS2.s5 | exact hS2.s6 | exact hS3.o | exact hS3.s0 | exact hS3.s1 | exact hS3.s2 | exact hS3.s3 | exact hS3.s4 | exact hS3.s5 | exact hS3.s6) rfl ?_
  refine q_getfield (pc := 32) gf_X7_70 dX7_turn_32 (by first | assumption | exact hS.o | exact hS.s0 | exact hS.s1 | exact hS.s2 | exact hS.s3 | exact hS.s4 | exact hS.s5 | exact hS.s6 | exact hS2.o | exact hS2.s0 | exact hS2.s1 | exact hS2.s2 | exact hS2.s3 | exact hS2.s4 | exact hS2.s5 | exact hS2.s6 | exact hS3.o | exact hS3.s0 | exact hS3.s1 | exact hS3.s2 | exact hS3.s3 | exact hS3.s4 | exact hS3.s5 | exact hS3.s6) rfl ?_
  refine q_iload_n (pc := 35) dX7_turn_35 rfl ?_
  refine q_invokevirtual (pc := 36) (d' := d - 1) (mc' := 0) (ms' := 0) (As := [_]) (TX4, 4) cl_X7_101 dX7_turn_36 rfl rfl (by first | assumption | exact hS.o | exact hS.s0 | exact hS.s1 | exact hS.s2 | exact hS.s3 | exact hS.s4 | exact hS.s5 | exact hS.s6 | exact hS2.o | exact hS2.s0 | exact hS2.s1 | exact hS2.s2 | exact hS2.s3 | exact hS2.s4 | exact hS2.s5 | exact hS2.s6 | exact hS3.o | exact hS3.s0 | exact hS3.s1 | exact hS3.s2 | exact hS3.s3 | exact hS3.s4 | exact hS3.s5 | exact hS3.s6) rfl (by omega) rfl 0 0 (Nat.le_refl 0) (Nat.le_refl 0) ?_
  first | refine s_hold0 hS hO3 (by omega) ?_ | refine s_hold1 hS hO3 (by omega) ?_ | refine s_hold2 hS hO3 (by omega) ?_ | refine s_hold3 hS hO3 (by omega) ?_
  refine q_ifb_eq (pc := 39) 52 dX7_turn_39 rfl (fun c39 => ?_) (fun c39 => ?_)
  · refine q_aload_n (pc := 52) dX7_turn_52 rfl rfl ?_
    refine q_invokevirtual (pc := 53) (d' := d - 1) (mc' := 0) (ms' := 0) (As := []) (TX7, 15) cl_X7_66 dX7_turn_53 rfl rfl (by first | assumption | exact hS.o | exact hS.s0 | exact hS.s1 | exact hS.s2 | exact hS.s3 | exact hS.s4 | exact hS.s5 | exact hS.s6 | exact hS2.o | exact hS2.s0 | exact hS2.s1 | exact hS2.s2 | exact hS2.s3 | exact hS2.s4 | exact hS2.s5 | exact hS2.s6 | exact hS3.o | exact hS3.s0 | exact hS3.s1 | exact hS3.s2 | exact hS3.s3 | exact hS3.s4 | exact hS3.s5 | exact hS3.s6) rfl (by omega) rfl 0 0 (Nat.le_refl 0) (Nat.le_refl 0) ?_
    refine c_X7_bad (by omega) hC (fun w9 hs9 hC9 => ?_)
    refine q_ireturn (pc := 56) dX7_turn_56 rfl ?_
    first | exact zgo k (by unfold o_turn; rw [if_pos (by omega), if_pos (by omega)]) (hs2.wide (by omega) (by omega)) hC2 | exact zgo k (by unfold o_turn; rw [if_pos (by omega), if_neg (by omega), if_pos (by omega)]) (hs2.wide (by omega) (by omega)) hC2 | exact zgo k (by unfold o_turn; rw [if_pos (by omega), if_neg (by omega), if_neg (by omega)]) (hs2.wide (by omega) (by omega)) hC2 | exact zgo k (by unfold o_turn; rw [if_neg (by omega)]) hs9 hC9
  refine q_iload (pc := 42) dX7_turn_42 rfl ?_
  refine q_iconst (pc := 44) dX7_turn_44 ?_
  refine q_iconst (pc := 45) dX7_turn_45 ?_
  refine q_invokestatic (pc := 46) (d' := d - 1) (mc' := 0) (ms' := 0) (As := [_, _, _]) cl_X7_62 dX7_turn_46 rfl rfl (by omega) rfl 0 0 (Nat.le_refl 0) (Nat.le_refl 0) ?_
  refine c_X7_within (by omega) (by omega) (by omega) ?_
  refine q_ifb_ne (pc := 49) 57 dX7_turn_49 rfl (fun c49 => ?_) (fun c49 => ?_)
  · refine q_aload_n (pc := 57) dX7_turn_57 rfl rfl ?_
    refine q_getfield (pc := 58) gf_X7_44 dX7_turn_58 (by first | assumption | exact hS.o | exact hS.s0 | exact hS.s1 | exact hS.s2 | exact hS.s3 | exact hS.s4 | exact hS.s5 | exact hS.s6 | exact hS2.o | exact hS2.s0 | exact hS2.s1 | exact hS2.s2 | exact hS2.s3 | exact hS2.s4 | exact hS2.s5 | exact hS2.s6 | exact hS3.o | exact hS3.s0 | exact hS3.s1 | exact hS3.s2 | exact hS3.s3 | exact hS3.s4 | exact hS3.s5 | exact hS3.s6) rfl ?_
    refine q_iload_n (pc := 61) dX7_turn_61 rfl ?_
    refine q_iload_n (pc := 62) dX7_turn_62 rfl ?_
    refine q_iload_n (pc := 63) dX7_turn_63 rfl ?_
    refine q_invokevirtual (pc := 64) (d' := d - 1) (mc' := 0) (ms' := 0) (As := [_, _, _]) (TX0, 6) cl_X7_219 dX7_turn_64 rfl rfl (by first | assumption | exact hS.o | exact hS.s0 | exact hS.s1 | exact hS.s2 | exact hS.s3 | exact hS.s4 | exact hS.s5 | exact hS.s6 | exact hS2.o | exact hS2.s0 | exact hS2.s1 | exact hS2.s2 | exact hS2.s3 | exact hS2.s4 | exact hS2.s5 | exact hS2.s6 | exact hS3.o | exact hS3.s0 | exact hS3.s1 | exact hS3.s2 | exact hS3.s3 | exact hS3.s4 | exact hS3.s5 | exact hS3.s6) rfl (by omega) rfl 0 0 (Nat.le_refl 0) (Nat.le_refl 0) ?_
    refine c_X0_priceToTurn (b := 1) (by omega) hH2 hG1 hS hO2 (by omega) (by omega) (by omega) (by omega) (fun w2 f2 hs2 hG2 => ?_)
    have hC2 := hC.hlp (hs2.wide (by omega) (by omega)) (hH.p65 hs2 hG2)
    have hb := zprice_b (N := S.1.1) (q := q) (c := s) (cc := c)
    refine q_istore (pc := 67) [some _, some _, some _, some _, some _, some _] dX7_turn_67 rfl (Nat.le_of_ble_eq_true rfl) rfl ?_
    refine q_iload (pc := 69) dX7_turn_69 rfl ?_
    refine q_iconst (pc := 71) dX7_turn_71 ?_
    refine q_icmp_ne (pc := 72) (by omega) (by omega) 77 dX7_turn_72 rfl (fun c72 => ?_) (fun c72 => ?_)
    · refine q_iload (pc := 77) dX7_turn_77 rfl ?_
      refine q_if_ne (pc := 79) (by omega) 91 dX7_turn_79 rfl (fun c79 => ?_) (fun c79 => ?_)
      · refine q_iload (pc := 91) dX7_turn_91 rfl ?_
        refine q_sipush (pc := 93) (by decide) dX7_turn_93 ?_
        refine q_irem (pc := 96) dX7_turn_96 (by omega) (by omega) (by omega) ?_
        refine q_ireturn (pc := 97) dX7_turn_97 rfl ?_
        first | exact zgo k (by unfold o_turn; rw [if_pos (by omega), if_pos (by omega)]) (hs2.wide (by omega) (by omega)) hC2 | exact zgo k (by unfold o_turn; rw [if_pos (by omega), if_neg (by omega), if_pos (by omega)]) (hs2.wide (by omega) (by omega)) hC2 | exact zgo k (by unfold o_turn; rw [if_pos (by omega), if_neg (by omega), if_neg (by omega)]) (hs2.wide (by omega) (by omega)) hC2 | exact zgo k (by unfold o_turn; rw [if_neg (by omega)]) hs9 hC9
      refine q_iload (pc := 82) dX7_turn_82 rfl ?_
      refine q_sipush (pc := 84) (by decide) dX7_turn_84 ?_
      refine q_idiv (pc := 87) dX7_turn_87 (by omega) (by omega) (by omega) ?_
      refine q_goto (pc := 88) 97 dX7_turn_88 rfl ?_
      refine q_ireturn (pc := 97) dX7_turn_97 rfl ?_
      first | exact zgo k (by unfold o_turn; rw [if_pos (by omega), if_pos (by omega)]) (hs2.wide (by omega) (by omega)) hC2 | exact zgo k (by unfold o_turn; rw [if_pos (by omega), if_neg (by omega), if_pos (by omega)]) (hs2.wide (by omega) (by omega)) hC2 | exact zgo k (by unfold o_turn; rw [if_pos (by omega), if_neg (by omega), if_neg (by omega)]) (hs2.wide (by omega) (by omega)) hC2 | exact zgo k (by unfold o_turn; rw [if_neg (by omega)]) hs9 hC9
    refine q_iconst (pc := 75) dX7_turn_75 ?_
    refine q_ireturn (pc := 76) dX7_turn_76 rfl ?_
    first | exact zgo k (by unfold o_turn; rw [if_pos (by omega), if_pos (by omega)]) (hs2.wide (by omega) (by omega)) hC2 | exact zgo k (by unfold o_turn; rw [if_pos (by omega), if_neg (by omega), if_pos (by omega)]) (hs2.wide (by omega) (by omega)) hC2 | exact zgo k (by unfold o_turn; rw [if_pos (by omega), if_neg (by omega), if_neg (by omega)]) (hs2.wide (by omega) (by omega)) hC2 | exact zgo k (by unfold o_turn; rw [if_neg (by omega)]) hs9 hC9
  refine q_aload_n (pc := 52) dX7_turn_52 rfl rfl ?_
  refine q_invokevirtual (pc := 53) (d' := d - 1) (mc' := 0) (ms' := 0) (As := []) (TX7, 15) cl_X7_66 dX7_turn_53 rfl rfl (by first | assumption | exact hS.o | exact hS.s0 | exact hS.s1 | exact hS.s2 | exact hS.s3 | exact hS.s4 | exact hS.s5 | exact hS.s6 | exact hS2.o | exact hS2.s0 | exact hS2.s1 | exact hS2.s2 | exact hS2.s3 | exact hS2.s4 | exact hS2.s5 | exact hS2.s6 | exact hS3.o | exact hS3.s0 | exact hS3.s1 | exact hS3.s2 | exact hS3.s3 | exact hS3.s4 | exact hS3.s5 | exact hS3.s6) rfl (by omega) rfl 0 0 (Nat.le_refl 0) (Nat.le_refl 0) ?_
  refine c_X7_bad (by omega) hC (fun w9 hs9 hC9 => ?_)
  refine q_ireturn (pc := 56) dX7_turn_56 rfl ?_
  first | exact zgo k (by unfold o_turn; rw [if_pos (by omega), if_pos (by omega)]) (hs2.wide (by omega) (by omega)) hC2 | exact zgo k (by unfold o_turn; rw [if_pos (by omega), if_neg (by omega), if_pos (by omega)]) (hs2.wide (by omega) (by omega)) hC2 | exact zgo k (by unfold o_turn; rw [if_pos (by omega), if_neg (by omega), if_neg (by omega)]) (hs2.wide (by omega) (by omega)) hC2 | exact zgo k (by unfold o_turn; rw [if_neg (by omega)]) hs9 hC9
set_option maxRecDepth 100000 in
set_option maxHeartbeats 8000000 in
theorem c_X7_meet {r s : Int} (hd : 6 ≤ d) (hC : zCl g w S) (hO : zOKS S) (h_r : zR32 r) (h_s : zR32 s) (k : ∀ w', zSame w w' 0 72 → zCl g w' (o_meet S r s).2 → K (some (zI (o_meet S r s).1)) w') : zCall g d 0 0 mX7_meet [zR g 0, zI r, zI s] w K := by
  obtain ⟨hX, hS, hA, hB, hD, hI, hJ, hR, hT, hH⟩ := id hC
  have hO1 := hO.1
  have hO2 := hO1.1
  have hO3 := hO2.1
  have hH2 := hH.2.1
  obtain ⟨f4, hG4⟩ := hH.2.2.2.1
  obtain ⟨f5, hG5⟩ := hH.2.2.2.2.1
  obtain ⟨f6, hG6⟩ := hH.2.2.2.2.2.1
  obtain ⟨f7, hG7⟩ := hH.2.2.2.2.2.2.1
  by_cases h0 : s = -1
  · have hz0 := h0
    refine zenter [some _, some _, some _, none] pn_X7 rfl (Nat.le_of_ble_eq_true rfl) ?_
    refine q_iload_n (pc := 0) dX7_meet_0 rfl ?_
    refine q_invokestatic (pc := 1) (d' := d - 1) (mc' := 0) (ms' := 0) (As := [_]) cl_X7_105 dX7_meet_1 rfl rfl (by omega) rfl 0 0 (Nat.le_refl 0) (Nat.le_refl 0) ?_
    refine c_X7_isRings (by omega) (by omega) ?_
    refine q_ifb_ne (pc := 4) 14 dX7_meet_4 rfl (fun c4 => ?_) (fun c4 => ?_)
    · refine q_aload_n (pc := 14) dX7_meet_14 rfl rfl ?_
      refine q_getfield (pc := 15) gf_X7_10 dX7_meet_15 (by first | assumption | exact hS.o | exact hS.s0 | exact hS.s1 | exact hS.s2 | exact hS.s3 | exact hS.s4 | exact hS.s5 | exact hS.s6 | exact hS2.o | exact hS2.s0 | exact hS2.s1 | exact hS2.s2 | exact hS2.s3 | exact hS2.s4 | exact hS2.s5 | exact hS2.s6 | exact hS3.o | exact hS3.s0 | exact hS3.s1 | exact hS3.s2 | exact hS3.s3 | exact hS3.s4 | exact hS3.s5 | exact hS3.s6) rfl ?_
      refine q_getfield (pc := 18) gf_X7_132 dX7_meet_18 (by first | assumption | exact hS.o | exact hS.s0 | exact hS.s1 | exact hS.s2 | exact hS.s3 | exact hS.s4 | exact hS.s5 | exact hS.s6 | exact hS2.o | exact hS2.s0 | exact hS2.s1 | exact hS2.s2 | exact hS2.s3 | exact hS2.s4 | exact hS2.s5 | exact hS2.s6 | exact hS3.o | exact hS3.s0 | exact hS3.s1 | exact hS3.s2 | exact hS3.s3 | exact hS3.s4 | exact hS3.s5 | exact hS3.s6) rfl ?_
      refine q_getfield (pc := 21) gf_X7_74 dX7_meet_21 (by first | assumption | exact hS.o | exact hS.s0 | exact hS.s1 | exact hS.s2 | exact hS.s3 | exact hS.s4 | exact hS.s5 | exact hS.s6 | exact hS2.o | exact hS2.s0 | exact hS2.s1 | exact hS2.s2 | exact hS2.s3 | exact hS2.s4 | exact hS2.s5 | exact hS2.s6 | exact hS3.o | exact hS3.s0 | exact hS3.s1 | exact hS3.s2 | exact hS3.s3 | exact hS3.s4 | exact hS3.s5 | exact hS3.s6) rfl ?_
      refine q_if_ne (pc := 24) (by omega) 29 dX7_meet_24 rfl (fun c24 => ?_) (fun c24 => ?_)
      · refine q_iload_n (pc := 29) dX7_meet_29 rfl ?_
        refine q_iconst (pc := 30) dX7_meet_30 ?_
        refine q_icmp_eq (pc := 31) (by omega) (by omega) 55 dX7_meet_31 rfl (fun c31 => ?_) (fun c31 => ?_)
        · refine q_aload_n (pc := 55) dX7_meet_55 rfl rfl ?_
          refine q_getfield (pc := 56) gf_X7_44 dX7_meet_56 (by first | assumption | exact hS.o | exact hS.s0 | exact hS.s1 | exact hS.s2 | exact hS.s3 | exact hS.s4 | exact hS.s5 | exact hS.s6 | exact hS2.o | exact hS2.s0 | exact hS2.s1 | exact hS2.s2 | exact hS2.s3 | exact hS2.s4 | exact hS2.s5 | exact hS2.s6 | exact hS3.o | exact hS3.s0 | exact hS3.s1 | exact hS3.s2 | exact hS3.s3 | exact hS3.s4 | exact hS3.s5 | exact hS3.s6) rfl ?_
          refine q_iload_n (pc := 59) dX7_meet_59 rfl ?_
          refine q_invokevirtual (pc := 60) (d' := d - 1) (mc' := 0) (ms' := 0) (As := [_]) (TX0, 6) cl_X7_225 dX7_meet_60 rfl rfl (by first | assumption | exact hS.o | exact hS.s0 | exact hS.s1 | exact hS.s2 | exact hS.s3 | exact hS.s4 | exact hS.s5 | exact hS.s6 | exact hS2.o | exact hS2.s0 | exact hS2.s1 | exact hS2.s2 | exact hS2.s3 | exact hS2.s4 | exact hS2.s5 | exact hS2.s6 | exact hS3.o | exact hS3.s0 | exact hS3.s1 | exact hS3.s2 | exact hS3.s3 | exact hS3.s4 | exact hS3.s5 | exact hS3.s6) rfl (by omega) rfl 0 0 (Nat.le_refl 0) (Nat.le_refl 0) ?_
          refine c_X0_mostTurned (b := 1) (by omega) hH2 hG4 hG5 hG6 hG7 hS hO2 (by omega) (by omega) (by omega) (fun w2 fh fo fw fb hs2 g4 g5 g6 g7 hB2 => ?_)
          have hC2 := hC.hlp (hs2.wide (by omega) (by omega)) (hH.p66 hs2 g4 g5 g6 g7)
          have hX2 := hC2.1
          have hY2 := hC2.2.2.2.2.2.2.2.2.2.2.1
          have hm := zmw_b (N := S.1.1) (r := r) (zpw (S.1.1 2) (S.1.1 1).toNat).toNat
          refine q_istore_n (pc := 63) [some _, some _, some _, some _] dX7_meet_63 rfl (Nat.le_of_ble_eq_true rfl) rfl ?_
          refine q_iload_n (pc := 64) dX7_meet_64 rfl ?_
          refine q_iconst (pc := 65) dX7_meet_65 ?_
          refine q_icmp_ne (pc := 66) (by omega) (by omega) 73 dX7_meet_66 rfl (fun c66 => ?_) (fun c66 => ?_)
          · exfalso; omega
          refine q_iload_n (pc := 69) dX7_meet_69 rfl ?_
          refine q_goto (pc := 70) 81 dX7_meet_70 rfl ?_
          refine q_ireturn (pc := 81) dX7_meet_81 rfl ?_
          first | exact zgo k (by unfold o_meet zmeet; rw [if_pos (by omega), if_neg (by omega), if_neg (by omega), if_pos (by omega)]) (hs2.wide (by omega) (by omega)) hC2 | exact zgo k (by unfold o_meet zmeet; rw [if_pos (by omega), if_neg (by omega), if_neg (by omega), if_neg (by omega)]) (hs2.wide (by omega) (by omega)) hC2 | exact zgo k (by unfold o_meet zmeet; rw [if_neg (by omega)]) hs9 hC9 | exact zgo k (by unfold o_meet zmeet; rw [if_pos (by omega), if_neg (by omega), if_pos (by omega)]) hs9 hC9 | exact zgo k (by unfold o_meet zmeet; rw [if_pos (by omega), if_pos (by omega)]) zSame.rf hC
        exfalso; omega
      refine q_iconst (pc := 27) dX7_meet_27 ?_
      refine q_ireturn (pc := 28) dX7_meet_28 rfl ?_
      first | exact zgo k (by unfold o_meet zmeet; rw [if_pos (by omega), if_neg (by omega), if_neg (by omega), if_pos (by omega)]) (hs2.wide (by omega) (by omega)) hC2 | exact zgo k (by unfold o_meet zmeet; rw [if_pos (by omega), if_neg (by omega), if_neg (by omega), if_neg (by omega)]) (hs2.wide (by omega) (by omega)) hC2 | exact zgo k (by unfold o_meet zmeet; rw [if_neg (by omega)]) hs9 hC9 | exact zgo k (by unfold o_meet zmeet; rw [if_pos (by omega), if_neg (by omega), if_pos (by omega)]) hs9 hC9 | exact zgo k (by unfold o_meet zmeet; rw [if_pos (by omega), if_pos (by omega)]) zSame.rf hC
    refine q_aload_n (pc := 7) dX7_meet_7 rfl rfl ?_
    refine q_bipush (pc := 8) (by decide) dX7_meet_8 ?_
    refine q_invokevirtual (pc := 10) (d' := d - 1) (mc' := 0) (ms' := 0) (As := [_]) (TX7, 15) cl_X7_222 dX7_meet_10 rfl rfl (by first | assumption | exact hS.o | exact hS.s0 | exact hS.s1 | exact hS.s2 | exact hS.s3 | exact hS.s4 | exact hS.s5 | exact hS.s6 | exact hS2.o | exact hS2.s0 | exact hS2.s1 | exact hS2.s2 | exact hS2.s3 | exact hS2.s4 | exact hS2.s5 | exact hS2.s6 | exact hS3.o | exact hS3.s0 | exact hS3.s1 | exact hS3.s2 | exact hS3.s3 | exact hS3.s4 | exact hS3.s5 | exact hS3.s6) rfl (by omega) rfl 0 0 (Nat.le_refl 0) (Nat.le_refl 0) ?_
    refine c_X7_refusedAsBad hC (fun w9 hs9 hC9 => ?_)
    refine q_ireturn (pc := 13) dX7_meet_13 rfl ?_
    first | exact zgo k (by unfold o_meet zmeet; rw [if_pos (by omega), if_neg (by omega), if_neg (by omega), if_pos (by omega)]) (hs2.wide (by omega) (by omega)) hC2 | exact zgo k (by unfold o_meet zmeet; rw [if_pos (by omega), if_neg (by omega), if_neg (by omega), if_neg (by omega)]) (hs2.wide (by omega) (by omega)) hC2 | exact zgo k (by unfold o_meet zmeet; rw [if_neg (by omega)]) hs9 hC9 | exact zgo k (by unfold o_meet zmeet; rw [if_pos (by omega), if_neg (by omega), if_pos (by omega)]) hs9 hC9 | exact zgo k (by unfold o_meet zmeet; rw [if_pos (by omega), if_pos (by omega)]) zSame.rf hC
  · have hz0 := h0
    refine zenter [some _, some _, some _, none] pn_X7 rfl (Nat.le_of_ble_eq_true rfl) ?_
    refine q_iload_n (pc := 0) dX7_meet_0 rfl ?_
    refine q_invokestatic (pc := 1) (d' := d - 1) (mc' := 0) (ms' := 0) (As := [_]) cl_X7_105 dX7_meet_1 rfl rfl (by omega) rfl 0 0 (Nat.le_refl 0) (Nat.le_refl 0) ?_
    refine c_X7_isRings (by omega) (by omega) ?_
    refine q_ifb_ne (pc := 4) 14 dX7_meet_4 rfl (fun c4 => ?_) (fun c4 => ?_)
    · refine q_aload_n (pc := 14) dX7_meet_14 rfl rfl ?_
      refine q_getfield (pc := 15) gf_X7_10 dX7_meet_15 (by first | assumption | exact hS.o | exact hS.s0 | exact hS.s1 | exact hS.s2 | exact hS.s3 | exact hS.s4 | exact hS.s5 | exact hS.s6 | exact hS2.o | exact hS2.s0 | exact hS2.s1 | exact hS2.s2 | exact hS2.s3 | exact hS2.s4 | exact hS2.s5 | exact hS2.s6 | exact hS3.o | exact hS3.s0 | exact hS3.s1 | exact hS3.s2 | exact hS3.s3 | exact hS3.s4 | exact hS3.s5 | exact hS3.s6) rfl ?_
      refine q_getfield (pc := 18) gf_X7_132 dX7_meet_18 (by first | assumption | exact hS.o | exact hS.s0 | exact hS.s1 | exact hS.s2 | exact hS.s3 | exact hS.s4 | exact hS.s5 | exact hS.s6 | exact hS2.o | exact hS2.s0 | exact hS2.s1 | exact hS2.s2 | exact hS2.s3 | exact hS2.s4 | exact hS2.s5 | exact hS2.s6 | exact hS3.o | exact hS3.s0 | exact hS3.s1 | exact hS3.s2 | exact hS3.s3 | exact hS3.s4 | exact hS3.s5 | exact hS3.s6) rfl ?_
      refine q_getfield (pc := 21) gf_X7_74 dX7_meet_21 (by first | assumption | exact hS.o | exact hS.s0 | exact hS.s1 | exact hS.s2 | exact hS.s3 | exact hS.s4 | exact hS.s5 | exact hS.s6 | exact hS2.o | exact hS2.s0 | exact hS2.s1 | exact hS2.s2 | exact hS2.s3 | exact hS2.s4 | exact hS2.s5 | exact hS2.s6 | exact hS3.o | exact hS3.s0 | exact hS3.s1 | exact hS3.s2 | exact hS3.s3 | exact hS3.s4 | exact hS3.s5 | exact hS3.s6) rfl ?_
      refine q_if_ne (pc := 24) (by omega) 29 dX7_meet_24 rfl (fun c24 => ?_) (fun c24 => ?_)
      · refine q_iload_n (pc := 29) dX7_meet_29 rfl ?_
        refine q_iconst (pc := 30) dX7_meet_30 ?_
        refine q_icmp_eq (pc := 31) (by omega) (by omega) 55 dX7_meet_31 rfl (fun c31 => ?_) (fun c31 => ?_)
        · refine q_aload_n (pc := 55) dX7_meet_55 rfl rfl ?_
          refine q_getfield (pc := 56) gf_X7_44 dX7_meet_56 (by first | assumption | exact hS.o | exact hS.s0 | exact hS.s1 | exact hS.s2 | exact hS.s3 | exact hS.s4 | exact hS.s5 | exact hS.s6 | exact hS2.o | exact hS2.s0 | exact hS2.s1 | exact hS2.s2 | exact hS2.s3 | exact hS2.s4 | exact hS2.s5 | exact hS2.s6 | exact hS3.o | exact hS3.s0 | exact hS3.s1 | exact hS3.s2 | exact hS3.s3 | exact hS3.s4 | exact hS3.s5 | exact hS3.s6) rfl ?_
          refine q_iload_n (pc := 59) dX7_meet_59 rfl ?_
          refine q_invokevirtual (pc := 60) (d' := d - 1) (mc' := 0) (ms' := 0) (As := [_]) (TX0, 6) cl_X7_225 dX7_meet_60 rfl rfl (by first | assumption | exact hS.o | exact hS.s0 | exact hS.s1 | exact hS.s2 | exact hS.s3 | exact hS.s4 | exact hS.s5 | exact hS.s6 | exact hS2.o | exact hS2.s0 | exact hS2.s1 | exact hS2.s2 | exact hS2.s3 | exact hS2.s4 | exact hS2.s5 | exact hS2.s6 | exact hS3.o | exact hS3.s0 | exact hS3.s1 | exact hS3.s2 | exact hS3.s3 | exact hS3.s4 | exact hS3.s5 | exact hS3.s6) rfl (by omega) rfl 0 0 (Nat.le_refl 0) (Nat.le_refl 0) ?_
          refine c_X0_mostTurned (b := 1) (by omega) hH2 hG4 hG5 hG6 hG7 hS hO2 (by omega) (by omega) (by omega) (fun w2 fh fo fw fb hs2 g4 g5 g6 g7 hB2 => ?_)
          have hC2 := hC.hlp (hs2.wide (by omega) (by omega)) (hH.p66 hs2 g4 g5 g6 g7)
          have hX2 := hC2.1
          have hY2 := hC2.2.2.2.2.2.2.2.2.2.2.1
          have hm := zmw_b (N := S.1.1) (r := r) (zpw (S.1.1 2) (S.1.1 1).toNat).toNat
          refine q_istore_n (pc := 63) [some _, some _, some _, some _] dX7_meet_63 rfl (Nat.le_of_ble_eq_true rfl) rfl ?_
          refine q_iload_n (pc := 64) dX7_meet_64 rfl ?_
          refine q_iconst (pc := 65) dX7_meet_65 ?_
          refine q_icmp_ne (pc := 66) (by omega) (by omega) 73 dX7_meet_66 rfl (fun c66 => ?_) (fun c66 => ?_)
          · refine q_aload_n (pc := 73) dX7_meet_73 rfl rfl ?_
            refine q_getfield (pc := 74) gf_X7_44 dX7_meet_74 (by first | assumption | exact hS.o | exact hS.s0 | exact hS.s1 | exact hS.s2 | exact hS.s3 | exact hS.s4 | exact hS.s5 | exact hS.s6 | exact hS2.o | exact hS2.s0 | exact hS2.s1 | exact hS2.s2 | exact hS2.s3 | exact hS2.s4 | exact hS2.s5 | exact hS2.s6 | exact hS3.o | exact hS3.s0 | exact hS3.s1 | exact hS3.s2 | exact hS3.s3 | exact hS3.s4 | exact hS3.s5 | exact hS3.s6) rfl ?_
            refine q_iload_n (pc := 77) dX7_meet_77 rfl ?_
            refine q_invokevirtual (pc := 78) (d' := d - 1) (mc' := 0) (ms' := 0) (As := [_]) (TX0, 6) cl_X7_228 dX7_meet_78 rfl rfl (by first | assumption | exact hS.o | exact hS.s0 | exact hS.s1 | exact hS.s2 | exact hS.s3 | exact hS.s4 | exact hS.s5 | exact hS.s6 | exact hS2.o | exact hS2.s0 | exact hS2.s1 | exact hS2.s2 | exact hS2.s3 | exact hS2.s4 | exact hS2.s5 | exact hS2.s6 | exact hS3.o | exact hS3.s0 | exact hS3.s1 | exact hS3.s2 | exact hS3.s3 | exact hS3.s4 | exact hS3.s5 | exact hS3.s6) rfl (by omega) rfl 0 0 (Nat.le_refl 0) (Nat.le_refl 0) ?_
            refine c_X0_givenCloud hY2 g7 (by omega) ?_
            rw [hB2 s (by omega) (by omega)]
            refine q_ireturn (pc := 81) dX7_meet_81 rfl ?_
            first | exact zgo k (by unfold o_meet zmeet; rw [if_pos (by omega), if_neg (by omega), if_neg (by omega), if_neg (by omega)]) (hs2.wide (by omega) (by omega)) hC2 | exact zgo k (by unfold o_meet zmeet; rw [if_pos (by omega), if_neg (by omega), if_neg (by omega), if_pos (by omega)]) (hs2.wide (by omega) (by omega)) hC2 | exact zgo k (by unfold o_meet zmeet; rw [if_pos (by omega), if_neg (by omega), if_neg (by omega), if_neg (by omega)]) (hs2.wide (by omega) (by omega)) hC2 | exact zgo k (by unfold o_meet zmeet; rw [if_neg (by omega)]) hs9 hC9 | exact zgo k (by unfold o_meet zmeet; rw [if_pos (by omega), if_neg (by omega), if_pos (by omega)]) hs9 hC9 | exact zgo k (by unfold o_meet zmeet; rw [if_pos (by omega), if_pos (by omega)]) zSame.rf hC
          exfalso; omega
        refine q_aload_n (pc := 34) dX7_meet_34 rfl rfl ?_
        refine q_getfield (pc := 35) gf_X7_10 dX7_meet_35 (by first | assumption | exact hS.o | exact hS.s0 | exact hS.s1 | exact hS.s2 | exact hS.s3 | exact hS.s4 | exact hS.s5 | exact hS.s6 | exact hS2.o | exact hS2.s0 | exact hS2.s1 | exact hS2.s2 | exact hS2.s3 | exact hS2.s4 | exact hS2.s5 | exact hS2.s6 | exact hS3.o | exact hS3.s0 | exact hS3.s1 | exact hS3.s2 | exact hS3.s3 | exact hS3.s4 | exact hS3.s5 | exact hS3.s6) rfl ?_
        refine q_getfield (pc := 38) gf_X7_126 dX7_meet_38 (by first | assumption | exact hS.o | exact hS.s0 | exact hS.s1 | exact hS.s2 | exact hS.s3 | exact hS.s4 | exact hS.s5 | exact hS.s6 | exact hS2.o | exact hS2.s0 | exact hS2.s1 | exact hS2.s2 | exact hS2.s3 | exact hS2.s4 | exact hS2.s5 | exact hS2.s6 | exact hS3.o | exact hS3.s0 | exact hS3.s1 | exact hS3.s2 | exact hS3.s3 | exact hS3.s4 | exact hS3.s5 | exact hS3.s6) rfl ?_
        refine q_iload_n (pc := 41) dX7_meet_41 rfl ?_
        refine q_invokevirtual (pc := 42) (d' := d - 1) (mc' := 0) (ms' := 0) (As := [_]) (TX4, 4) cl_X7_101 dX7_meet_42 rfl rfl (by first | assumption | exact hS.o | exact hS.s0 | exact hS.s1 | exact hS.s2 | exact hS.s3 | exact hS.s4 | exact hS.s5 | exact hS.s6 | exact hS2.o | exact hS2.s0 | exact hS2.s1 | exact hS2.s2 | exact hS2.s3 | exact hS2.s4 | exact hS2.s5 | exact hS2.s6 | exact hS3.o | exact hS3.s0 | exact hS3.s1 | exact hS3.s2 | exact hS3.s3 | exact hS3.s4 | exact hS3.s5 | exact hS3.s6) rfl (by omega) rfl 0 0 (Nat.le_refl 0) (Nat.le_refl 0) ?_
        first | refine s_hold0 hS hO3 (by omega) ?_ | refine s_hold1 hS hO3 (by omega) ?_ | refine s_hold2 hS hO3 (by omega) ?_ | refine s_hold3 hS hO3 (by omega) ?_
        refine q_ifb_ne (pc := 45) 55 dX7_meet_45 rfl (fun c45 => ?_) (fun c45 => ?_)
        · refine q_aload_n (pc := 55) dX7_meet_55 rfl rfl ?_
          refine q_getfield (pc := 56) gf_X7_44 dX7_meet_56 (by first | assumption | exact hS.o | exact hS.s0 | exact hS.s1 | exact hS.s2 | exact hS.s3 | exact hS.s4 | exact hS.s5 | exact hS.s6 | exact hS2.o | exact hS2.s0 | exact hS2.s1 | exact hS2.s2 | exact hS2.s3 | exact hS2.s4 | exact hS2.s5 | exact hS2.s6 | exact hS3.o | exact hS3.s0 | exact hS3.s1 | exact hS3.s2 | exact hS3.s3 | exact hS3.s4 | exact hS3.s5 | exact hS3.s6) rfl ?_
          refine q_iload_n (pc := 59) dX7_meet_59 rfl ?_
          refine q_invokevirtual (pc := 60) (d' := d - 1) (mc' := 0) (ms' := 0) (As := [_]) (TX0, 6) cl_X7_225 dX7_meet_60 rfl rfl (by first | assumption | exact hS.o | exact hS.s0 | exact hS.s1 | exact hS.s2 | exact hS.s3 | exact hS.s4 | exact hS.s5 | exact hS.s6 | exact hS2.o | exact hS2.s0 | exact hS2.s1 | exact hS2.s2 | exact hS2.s3 | exact hS2.s4 | exact hS2.s5 | exact hS2.s6 | exact hS3.o | exact hS3.s0 | exact hS3.s1 | exact hS3.s2 | exact hS3.s3 | exact hS3.s4 | exact hS3.s5 | exact hS3.s6) rfl (by omega) rfl 0 0 (Nat.le_refl 0) (Nat.le_refl 0) ?_
          refine c_X0_mostTurned (b := 1) (by omega) hH2 hG4 hG5 hG6 hG7 hS hO2 (by omega) (by omega) (by omega) (fun w2 fh fo fw fb hs2 g4 g5 g6 g7 hB2 => ?_)
          have hC2 := hC.hlp (hs2.wide (by omega) (by omega)) (hH.p66 hs2 g4 g5 g6 g7)
          have hX2 := hC2.1
          have hY2 := hC2.2.2.2.2.2.2.2.2.2.2.1
          have hm := zmw_b (N := S.1.1) (r := r) (zpw (S.1.1 2) (S.1.1 1).toNat).toNat
          refine q_istore_n (pc := 63) [some _, some _, some _, some _] dX7_meet_63 rfl (Nat.le_of_ble_eq_true rfl) rfl ?_
          refine q_iload_n (pc := 64) dX7_meet_64 rfl ?_
          refine q_iconst (pc := 65) dX7_meet_65 ?_
          refine q_icmp_ne (pc := 66) (by omega) (by omega) 73 dX7_meet_66 rfl (fun c66 => ?_) (fun c66 => ?_)
          · refine q_aload_n (pc := 73) dX7_meet_73 rfl rfl ?_
            refine q_getfield (pc := 74) gf_X7_44 dX7_meet_74 (by first | assumption | exact hS.o | exact hS.s0 | exact hS.s1 | exact hS.s2 | exact hS.s3 | exact hS.s4 | exact hS.s5 | exact hS.s6 | exact hS2.o | exact hS2.s0 | exact hS2.s1 | exact hS2.s2 | exact hS2.s3 | exact hS2.s4 | exact hS2.s5 | exact hS2.s6 | exact hS3.o | exact hS3.s0 | exact hS3.s1 | exact hS3.s2 | exact hS3.s3 | exact hS3.s4 | exact hS3.s5 | exact hS3.s6) rfl ?_
            refine q_iload_n (pc := 77) dX7_meet_77 rfl ?_
            refine q_invokevirtual (pc := 78) (d' := d - 1) (mc' := 0) (ms' := 0) (As := [_]) (TX0, 6) cl_X7_228 dX7_meet_78 rfl rfl (by first | assumption | exact hS.o | exact hS.s0 | exact hS.s1 | exact hS.s2 | exact hS.s3 | exact hS.s4 | exact hS.s5 | exact hS.s6 | exact hS2.o | exact hS2.s0 | exact hS2.s1 | exact hS2.s2 | exact hS2.s3 | exact hS2.s4 | exact hS2.s5 | exact hS2.s6 | exact hS3.o | exact hS3.s0 | exact hS3.s1 | exact hS3.s2 | exact hS3.s3 | exact hS3.s4 | exact hS3.s5 | exact hS3.s6) rfl (by omega) rfl 0 0 (Nat.le_refl 0) (Nat.le_refl 0) ?_
            refine c_X0_givenCloud hY2 g7 (by omega) ?_
            rw [hB2 s (by omega) (by omega)]
            refine q_ireturn (pc := 81) dX7_meet_81 rfl ?_
            first | exact zgo k (by unfold o_meet zmeet; rw [if_pos (by omega), if_neg (by omega), if_neg (by omega), if_neg (by omega)]) (hs2.wide (by omega) (by omega)) hC2 | exact zgo k (by unfold o_meet zmeet; rw [if_pos (by omega), if_neg (by omega), if_neg (by omega), if_pos (by omega)]) (hs2.wide (by omega) (by omega)) hC2 | exact zgo k (by unfold o_meet zmeet; rw [if_pos (by omega), if_neg (by omega), if_neg (by omega), if_neg (by omega)]) (hs2.wide (by omega) (by omega)) hC2 | exact zgo k (by unfold o_meet zmeet; rw [if_neg (by omega)]) hs9 hC9 | exact zgo k (by unfold o_meet zmeet; rw [if_pos (by omega), if_neg (by omega), if_pos (by omega)]) hs9 hC9 | exact zgo k (by unfold o_meet zmeet; rw [if_pos (by omega), if_pos (by omega)]) zSame.rf hC
          exfalso; omega
        refine q_aload_n (pc := 48) dX7_meet_48 rfl rfl ?_
        refine q_bipush (pc := 49) (by decide) dX7_meet_49 ?_
        refine q_invokevirtual (pc := 51) (d' := d - 1) (mc' := 0) (ms' := 0) (As := [_]) (TX7, 15) cl_X7_222 dX7_meet_51 rfl rfl (by first | assumption | exact hS.o | exact hS.s0 | exact hS.s1 | exact hS.s2 | exact hS.s3 | exact hS.s4 | exact hS.s5 | exact hS.s6 | exact hS2.o | exact hS2.s0 | exact hS2.s1 | exact hS2.s2 | exact hS2.s3 | exact hS2.s4 | exact hS2.s5 | exact hS2.s6 | exact hS3.o | exact hS3.s0 | exact hS3.s1 | exact hS3.s2 | exact hS3.s3 | exact hS3.s4 | exact hS3.s5 | exact hS3.s6) rfl (by omega) rfl 0 0 (Nat.le_refl 0) (Nat.le_refl 0) ?_
        refine c_X7_refusedAsBad hC (fun w9 hs9 hC9 => ?_)
        refine q_ireturn (pc := 54) dX7_meet_54 rfl ?_
        first | exact zgo k (by unfold o_meet zmeet; rw [if_pos (by omega), if_neg (by omega), if_neg (by omega), if_neg (by omega)]) (hs2.wide (by omega) (by omega)) hC2 | exact zgo k (by unfold o_meet zmeet; rw [if_pos (by omega), if_neg (by omega), if_neg (by omega), if_pos (by omega)]) (hs2.wide (by omega) (by omega)) hC2 | exact zgo k (by unfold o_meet zmeet; rw [if_pos (by omega), if_neg (by omega), if_neg (by omega), if_neg (by omega)]) (hs2.wide (by omega) (by omega)) hC2 | exact zgo k (by unfold o_meet zmeet; rw [if_neg (by omega)]) hs9 hC9 | exact zgo k (by unfold o_meet zmeet; rw [if_pos (by omega), if_neg (by omega), if_pos (by omega)]) hs9 hC9 | exact zgo k (by unfold o_meet zmeet; rw [if_pos (by omega), if_pos (by omega)]) zSame.rf hC
      refine q_iconst (pc := 27) dX7_meet_27 ?_
      refine q_ireturn (pc := 28) dX7_meet_28 rfl ?_
      first | exact zgo k (by unfold o_meet zmeet; rw [if_pos (by omega), if_neg (by omega), if_neg (by omega), if_neg (by omega)]) (hs2.wide (by omega) (by omega)) hC2 | exact zgo k (by unfold o_meet zmeet; rw [if_pos (by omega), if_neg (by omega), if_neg (by omega), if_pos (by omega)]) (hs2.wide (by omega) (by omega)) hC2 | exact zgo k (by unfold o_meet zmeet; rw [if_pos (by omega), if_neg (by omega), if_neg (by omega), if_neg (by omega)]) (hs2.wide (by omega) (by omega)) hC2 | exact zgo k (by unfold o_meet zmeet; rw [if_neg (by omega)]) hs9 hC9 | exact zgo k (by unfold o_meet zmeet; rw [if_pos (by omega), if_neg (by omega), if_pos (by omega)]) hs9 hC9 | exact zgo k (by unfold o_meet zmeet; rw [if_pos (by omega), if_pos (by omega)]) zSame.rf hC
    refine q_aload_n (pc := 7) dX7_meet_7 rfl rfl ?_
    refine q_bipush (pc := 8) (by decide) dX7_meet_8 ?_
    refine q_invokevirtual (pc := 10) (d' := d - 1) (mc' := 0) (ms' := 0) (As := [_]) (TX7, 15) cl_X7_222 dX7_meet_10 rfl rfl (by first | assumption | exact hS.o | exact hS.s0 | exact hS.s1 | exact hS.s2 | exact hS.s3 | exact hS.s4 | exact hS.s5 | exact hS.s6 | exact hS2.o | exact hS2.s0 | exact hS2.s1 | exact hS2.s2 | exact hS2.s3 | exact hS2.s4 | exact hS2.s5 | exact hS2.s6 | exact hS3.o | exact hS3.s0 | exact hS3.s1 | exact hS3.s2 | exact hS3.s3 | exact hS3.s4 | exact hS3.s5 | exact hS3.s6) rfl (by omega) rfl 0 0 (Nat.le_refl 0) (Nat.le_refl 0) ?_
    refine c_X7_refusedAsBad hC (fun w9 hs9 hC9 => ?_)
    refine q_ireturn (pc := 13) dX7_meet_13 rfl ?_
    first | exact zgo k (by unfold o_meet zmeet; rw [if_pos (by omega), if_neg (by omega), if_neg (by omega), if_neg (by omega)]) (hs2.wide (by omega) (by omega)) hC2 | exact zgo k (by unfold o_meet zmeet; rw [if_pos (by omega), if_neg (by omega), if_neg (by omega), if_pos (by omega)]) (hs2.wide (by omega) (by omega)) hC2 | exact zgo k (by unfold o_meet zmeet; rw [if_pos (by omega), if_neg (by omega), if_neg (by omega), if_neg (by omega)]) (hs2.wide (by omega) (by omega)) hC2 | exact zgo k (by unfold o_meet zmeet; rw [if_neg (by omega)]) hs9 hC9 | exact zgo k (by unfold o_meet zmeet; rw [if_pos (by omega), if_neg (by omega), if_pos (by omega)]) hs9 hC9 | exact zgo k (by unfold o_meet zmeet; rw [if_pos (by omega), if_pos (by omega)]) zSame.rf hC
set_option maxRecDepth 100000 in
set_option maxHeartbeats 8000000 in
theorem c_X7_doors {r x : Int} (hd : 6 ≤ d) (hC : zCl g w S) (hO : zOKS S) (h_r : zR32 r) (h_x : zR32 x) (k : ∀ w', zSame w w' 0 72 → zCl g w' (o_doors S r x).2 → K (some (zI (o_doors S r x).1)) w') : zCall g d 0 0 mX7_doors [zR g 0, zI r, zI x] w K := by
  obtain ⟨hX, hS, hA, hB, hD, hI, hJ, hR, hT, hH⟩ := id hC
  have hO1 := hO.1
  have hO2 := hO1.1
  have hO3 := hO2.1
  have hH1 := hH.1
  refine zenter [some _, some _, some _, none] pn_X7 rfl (Nat.le_of_ble_eq_true rfl) ?_
  refine q_iload_n (pc := 0) dX7_doors_0 rfl ?_
  refine q_invokestatic (pc := 1) (d' := d - 1) (mc' := 0) (ms' := 0) (As := [_]) cl_X7_105 dX7_doors_1 rfl rfl (by omega) rfl 0 0 (Nat.le_refl 0) (Nat.le_refl 0) ?_
  refine c_X7_isRings (by omega) (by omega) ?_
  refine q_ifb_eq (pc := 4) 16 dX7_doors_4 rfl (fun c4 => ?_) (fun c4 => ?_)
  · refine q_aload_n (pc := 16) dX7_doors_16 rfl rfl ?_
    refine q_invokevirtual (pc := 17) (d' := d - 1) (mc' := 0) (ms' := 0) (As := []) (TX7, 15) cl_X7_66 dX7_doors_17 rfl rfl (by first | assumption | exact hS.o | exact hS.s0 | exact hS.s1 | exact hS.s2 | exact hS.s3 | exact hS.s4 | exact hS.s5 | exact hS.s6 | exact hS2.o | exact hS2.s0 | exact hS2.s1 | exact hS2.s2 | exact hS2.s3 | exact hS2.s4 | exact hS2.s5 | exact hS2.s6 | exact hS3.o | exact hS3.s0 | exact hS3.s1 | exact hS3.s2 | exact hS3.s3 | exact hS3.s4 | exact hS3.s5 | exact hS3.s6) rfl (by omega) rfl 0 0 (Nat.le_refl 0) (Nat.le_refl 0) ?_
    refine c_X7_bad (by omega) hC (fun w9 hs9 hC9 => ?_)
    refine q_ireturn (pc := 20) dX7_doors_20 rfl ?_
    first | exact zgo k (by unfold o_doors; rw [if_pos (by omega), if_pos (by omega)]) zSame.rf hC | exact zgo k (by unfold o_doors; rw [if_pos (by omega), if_neg (by omega)]) zSame.rf hC | exact zgo k (by unfold o_doors; rw [if_neg (by omega)]) hs9 hC9
  refine q_iload_n (pc := 7) dX7_doors_7 rfl ?_
  refine q_iconst (pc := 8) dX7_doors_8 ?_
  refine q_iconst (pc := 9) dX7_doors_9 ?_
  refine q_invokestatic (pc := 10) (d' := d - 1) (mc' := 0) (ms' := 0) (As := [_, _, _]) cl_X7_62 dX7_doors_10 rfl rfl (by omega) rfl 0 0 (Nat.le_refl 0) (Nat.le_refl 0) ?_
  refine c_X7_within (by omega) (by omega) (by omega) ?_
  refine q_ifb_ne (pc := 13) 21 dX7_doors_13 rfl (fun c13 => ?_) (fun c13 => ?_)
  · refine q_aload_n (pc := 21) dX7_doors_21 rfl rfl ?_
    refine q_getfield (pc := 22) gf_X7_37 dX7_doors_22 (by first | assumption | exact hS.o | exact hS.s0 | exact hS.s1 | exact hS.s2 | exact hS.s3 | exact hS.s4 | exact hS.s5 | exact hS.s6 | exact hS2.o | exact hS2.s0 | exact hS2.s1 | exact hS2.s2 | exact hS2.s3 | exact hS2.s4 | exact hS2.s5 | exact hS2.s6 | exact hS3.o | exact hS3.s0 | exact hS3.s1 | exact hS3.s2 | exact hS3.s3 | exact hS3.s4 | exact hS3.s5 | exact hS3.s6) rfl ?_
    refine q_iload_n (pc := 25) dX7_doors_25 rfl ?_
    refine q_invokevirtual (pc := 26) (d' := d - 1) (mc' := 0) (ms' := 0) (As := [_]) (TX1, 1) cl_X7_231 dX7_doors_26 rfl rfl (by first | assumption | exact hS.o | exact hS.s0 | exact hS.s1 | exact hS.s2 | exact hS.s3 | exact hS.s4 | exact hS.s5 | exact hS.s6 | exact hS2.o | exact hS2.s0 | exact hS2.s1 | exact hS2.s2 | exact hS2.s3 | exact hS2.s4 | exact hS2.s5 | exact hS2.s6 | exact hS3.o | exact hS3.s0 | exact hS3.s1 | exact hS3.s2 | exact hS3.s3 | exact hS3.s4 | exact hS3.s5 | exact hS3.s6) rfl (by omega) rfl 0 0 (Nat.le_refl 0) (Nat.le_refl 0) ?_
    refine c_X1_cheapestDoor (by omega) hH1 hS hO2 (by omega) ?_
    have hb := zbd_b (N := S.1.1) (r := r) (S.1.1 0).toNat
    refine q_istore_n (pc := 29) [some _, some _, some _, some _] dX7_doors_29 rfl (Nat.le_of_ble_eq_true rfl) rfl ?_
    refine q_iload_n (pc := 30) dX7_doors_30 rfl ?_
    refine q_iconst (pc := 31) dX7_doors_31 ?_
    refine q_icmp_eq (pc := 32) (by omega) (by omega) 39 dX7_doors_32 rfl (fun c32 => ?_) (fun c32 => ?_)
    · refine q_iload_n (pc := 39) dX7_doors_39 rfl ?_
      refine q_goto (pc := 40) 52 dX7_doors_40 rfl ?_
      refine q_ireturn (pc := 52) dX7_doors_52 rfl ?_
      first | exact zgo k (by unfold o_doors; rw [if_pos (by omega), if_pos (by omega)]) zSame.rf hC | exact zgo k (by unfold o_doors; rw [if_pos (by omega), if_neg (by omega)]) zSame.rf hC | exact zgo k (by unfold o_doors; rw [if_neg (by omega)]) hs9 hC9
    refine q_iload_n (pc := 35) dX7_doors_35 rfl ?_
    refine q_if_ne (pc := 36) (by omega) 43 dX7_doors_36 rfl (fun c36 => ?_) (fun c36 => ?_)
    · refine q_aload_n (pc := 43) dX7_doors_43 rfl rfl ?_
      refine q_getfield (pc := 44) gf_X7_37 dX7_doors_44 (by first | assumption | exact hS.o | exact hS.s0 | exact hS.s1 | exact hS.s2 | exact hS.s3 | exact hS.s4 | exact hS.s5 | exact hS.s6 | exact hS2.o | exact hS2.s0 | exact hS2.s1 | exact hS2.s2 | exact hS2.s3 | exact hS2.s4 | exact hS2.s5 | exact hS2.s6 | exact hS3.o | exact hS3.s0 | exact hS3.s1 | exact hS3.s2 | exact hS3.s3 | exact hS3.s4 | exact hS3.s5 | exact hS3.s6) rfl ?_
      refine q_iload_n (pc := 47) dX7_doors_47 rfl ?_
      refine q_iload_n (pc := 48) dX7_doors_48 rfl ?_
      refine q_invokevirtual (pc := 49) (d' := d - 1) (mc' := 0) (ms' := 0) (As := [_, _]) (TX1, 1) cl_X7_234 dX7_doors_49 rfl rfl (by first | assumption | exact hS.o | exact hS.s0 | exact hS.s1 | exact hS.s2 | exact hS.s3 | exact hS.s4 | exact hS.s5 | exact hS.s6 | exact hS2.o | exact hS2.s0 | exact hS2.s1 | exact hS2.s2 | exact hS2.s3 | exact hS2.s4 | exact hS2.s5 | exact hS2.s6 | exact hS3.o | exact hS3.s0 | exact hS3.s1 | exact hS3.s2 | exact hS3.s3 | exact hS3.s4 | exact hS3.s5 | exact hS3.s6) rfl (by omega) rfl 0 0 (Nat.le_refl 0) (Nat.le_refl 0) ?_
      refine c_X1_lostByDoor (by omega) hH1 hS hO2 (by omega) (by omega) ?_
      refine q_ireturn (pc := 52) dX7_doors_52 rfl ?_
      first | exact zgo k (by unfold o_doors; rw [if_pos (by omega), if_pos (by omega)]) zSame.rf hC | exact zgo k (by unfold o_doors; rw [if_pos (by omega), if_neg (by omega)]) zSame.rf hC | exact zgo k (by unfold o_doors; rw [if_neg (by omega)]) hs9 hC9
    refine q_iload_n (pc := 39) dX7_doors_39 rfl ?_
    refine q_goto (pc := 40) 52 dX7_doors_40 rfl ?_
    refine q_ireturn (pc := 52) dX7_doors_52 rfl ?_
    first | exact zgo k (by unfold o_doors; rw [if_pos (by omega), if_pos (by omega)]) zSame.rf hC | exact zgo k (by unfold o_doors; rw [if_pos (by omega), if_neg (by omega)]) zSame.rf hC | exact zgo k (by unfold o_doors; rw [if_neg (by omega)]) hs9 hC9
  refine q_aload_n (pc := 16) dX7_doors_16 rfl rfl ?_
  refine q_invokevirtual (pc := 17) (d' := d - 1) (mc' := 0) (ms' := 0) (As := []) (TX7, 15) cl_X7_66 dX7_doors_17 rfl rfl (by first | assumption | exact hS.o | exact hS.s0 | exact hS.s1 | exact hS.s2 | exact hS.s3 | exact hS.s4 | exact hS.s5 | exact hS.s6 | exact hS2.o | exact hS2.s0 | exact hS2.s1 | exact hS2.s2 | exact hS2.s3 | exact hS2.s4 | exact hS2.s5 | exact hS2.s6 | exact hS3.o | exact hS3.s0 | exact hS3.s1 | exact hS3.s2 | exact hS3.s3 | exact hS3.s4 | exact hS3.s5 | exact hS3.s6) rfl (by omega) rfl 0 0 (Nat.le_refl 0) (Nat.le_refl 0) ?_
  refine c_X7_bad (by omega) hC (fun w9 hs9 hC9 => ?_)
  refine q_ireturn (pc := 20) dX7_doors_20 rfl ?_
  first | exact zgo k (by unfold o_doors; rw [if_pos (by omega), if_pos (by omega)]) zSame.rf hC | exact zgo k (by unfold o_doors; rw [if_pos (by omega), if_neg (by omega)]) zSame.rf hC | exact zgo k (by unfold o_doors; rw [if_neg (by omega)]) hs9 hC9
set_option maxRecDepth 100000 in
set_option maxHeartbeats 8000000 in
theorem c_X7_rings {c wk x y : Int} (hd : 6 ≤ d) (hC : zCl g w S) (hO : zOKS S) (h_c : zR32 c) (h_wk : zR32 wk) (h_x : zR32 x) (h_y : zR32 y) (k : ∀ w', zSame w w' 0 72 → zCl g w' (o_rings S c wk x y).2 → K (some (zI (o_rings S c wk x y).1)) w') : zCall g d 0 0 mX7_rings [zR g 0, zI c, zI wk, zI x, zI y] w K := by
  obtain ⟨hX, hS, hA, hB, hD, hI, hJ, hR, hT, hH⟩ := id hC
  have hO1 := hO.1
  have hO2 := hO1.1
  have hO3 := hO2.1
  refine zenter [some _, some _, some _, some _, some _] pn_X7 rfl (Nat.le_of_ble_eq_true rfl) ?_
  refine q_aload_n (pc := 0) dX7_rings_0 rfl rfl ?_
  refine q_getfield (pc := 1) gf_X7_10 dX7_rings_1 (by first | assumption | exact hS.o | exact hS.s0 | exact hS.s1 | exact hS.s2 | exact hS.s3 | exact hS.s4 | exact hS.s5 | exact hS.s6 | exact hS2.o | exact hS2.s0 | exact hS2.s1 | exact hS2.s2 | exact hS2.s3 | exact hS2.s4 | exact hS2.s5 | exact hS2.s6 | exact hS3.o | exact hS3.s0 | exact hS3.s1 | exact hS3.s2 | exact hS3.s3 | exact hS3.s4 | exact hS3.s5 | exact hS3.s6) rfl ?_
  refine q_getfield (pc := 4) gf_X7_70 dX7_rings_4 (by first | assumption | exact hS.o | exact hS.s0 | exact hS.s1 | exact hS.s2 | exact hS.s3 | exact hS.s4 | exact hS.s5 | exact hS.s6 | exact hS2.o | exact hS2.s0 | exact hS2.s1 | exact hS2.s2 | exact hS2.s3 | exact hS2.s4 | exact hS2.s5 | exact hS2.s6 | exact hS3.o | exact hS3.s0 | exact hS3.s1 | exact hS3.s2 | exact hS3.s3 | exact hS3.s4 | exact hS3.s5 | exact hS3.s6) rfl ?_
  refine q_iload_n (pc := 7) dX7_rings_7 rfl ?_
  refine q_invokevirtual (pc := 8) (d' := d - 1) (mc' := 0) (ms' := 0) (As := [_]) (TX4, 4) cl_X7_101 dX7_rings_8 rfl rfl (by first | assumption | exact hS.o | exact hS.s0 | exact hS.s1 | exact hS.s2 | exact hS.s3 | exact hS.s4 | exact hS.s5 | exact hS.s6 | exact hS2.o | exact hS2.s0 | exact hS2.s1 | exact hS2.s2 | exact hS2.s3 | exact hS2.s4 | exact hS2.s5 | exact hS2.s6 | exact hS3.o | exact hS3.s0 | exact hS3.s1 | exact hS3.s2 | exact hS3.s3 | exact hS3.s4 | exact hS3.s5 | exact hS3.s6) rfl (by omega) rfl 0 0 (Nat.le_refl 0) (Nat.le_refl 0) ?_
  first | refine s_hold0 hS hO3 (by omega) ?_ | refine s_hold1 hS hO3 (by omega) ?_ | refine s_hold2 hS hO3 (by omega) ?_ | refine s_hold3 hS hO3 (by omega) ?_
  refine q_ifb_eq (pc := 11) 41 dX7_rings_11 rfl (fun c11 => ?_) (fun c11 => ?_)
  · refine q_aload_n (pc := 41) dX7_rings_41 rfl rfl ?_
    refine q_invokevirtual (pc := 42) (d' := d - 1) (mc' := 0) (ms' := 0) (As := []) (TX7, 15) cl_X7_66 dX7_rings_42 rfl rfl (by first | assumption | exact hS.o | exact hS.s0 | exact hS.s1 | exact hS.s2 | exact hS.s3 | exact hS.s4 | exact hS.s5 | exact hS.s6 | exact hS2.o | exact hS2.s0 | exact hS2.s1 | exact hS2.s2 | exact hS2.s3 | exact hS2.s4 | exact hS2.s5 | exact hS2.s6 | exact hS3.o | exact hS3.s0 | exact hS3.s1 | exact hS3.s2 | exact hS3.s3 | exact hS3.s4 | exact hS3.s5 | exact hS3.s6) rfl (by omega) rfl 0 0 (Nat.le_refl 0) (Nat.le_refl 0) ?_
    refine c_X7_bad (by omega) hC (fun w9 hs9 hC9 => ?_)
    refine q_ireturn (pc := 45) dX7_rings_45 rfl ?_
    first | exact zgo k (by unfold o_rings; rw [if_pos (by omega), if_neg (by omega)]) (hs2.wide (by omega) (by omega)) (hC.now hs2 hS2) | exact zgo k (by unfold o_rings; rw [if_pos (by omega), if_pos (by omega)]) hs9 hC9 | exact zgo k (by unfold o_rings; rw [if_neg (by omega)]) hs9 hC9
  refine q_iload_n (pc := 14) dX7_rings_14 rfl ?_
  refine q_iconst (pc := 15) dX7_rings_15 ?_
  refine q_bipush (pc := 16) (by decide) dX7_rings_16 ?_
  refine q_invokestatic (pc := 18) (d' := d - 1) (mc' := 0) (ms' := 0) (As := [_, _, _]) cl_X7_62 dX7_rings_18 rfl rfl (by omega) rfl 0 0 (Nat.le_refl 0) (Nat.le_refl 0) ?_
  refine c_X7_within (by omega) (by omega) (by omega) ?_
  refine q_ifb_eq (pc := 21) 41 dX7_rings_21 rfl (fun c21 => ?_) (fun c21 => ?_)
  · refine q_aload_n (pc := 41) dX7_rings_41 rfl rfl ?_
    refine q_invokevirtual (pc := 42) (d' := d - 1) (mc' := 0) (ms' := 0) (As := []) (TX7, 15) cl_X7_66 dX7_rings_42 rfl rfl (by first | assumption | exact hS.o | exact hS.s0 | exact hS.s1 | exact hS.s2 | exact hS.s3 | exact hS.s4 | exact hS.s5 | exact hS.s6 | exact hS2.o | exact hS2.s0 | exact hS2.s1 | exact hS2.s2 | exact hS2.s3 | exact hS2.s4 | exact hS2.s5 | exact hS2.s6 | exact hS3.o | exact hS3.s0 | exact hS3.s1 | exact hS3.s2 | exact hS3.s3 | exact hS3.s4 | exact hS3.s5 | exact hS3.s6) rfl (by omega) rfl 0 0 (Nat.le_refl 0) (Nat.le_refl 0) ?_
    refine c_X7_bad (by omega) hC (fun w9 hs9 hC9 => ?_)
    refine q_ireturn (pc := 45) dX7_rings_45 rfl ?_
    first | exact zgo k (by unfold o_rings; rw [if_pos (by omega), if_neg (by omega)]) (hs2.wide (by omega) (by omega)) (hC.now hs2 hS2) | exact zgo k (by unfold o_rings; rw [if_pos (by omega), if_pos (by omega)]) hs9 hC9 | exact zgo k (by unfold o_rings; rw [if_neg (by omega)]) hs9 hC9
  refine q_iload_n (pc := 24) dX7_rings_24 rfl ?_
  refine q_invokestatic (pc := 25) (d' := d - 1) (mc' := 0) (ms' := 0) (As := [_]) cl_X7_105 dX7_rings_25 rfl rfl (by omega) rfl 0 0 (Nat.le_refl 0) (Nat.le_refl 0) ?_
  refine c_X7_isRings (by omega) (by omega) ?_
  refine q_ifb_eq (pc := 28) 41 dX7_rings_28 rfl (fun c28 => ?_) (fun c28 => ?_)
  · refine q_aload_n (pc := 41) dX7_rings_41 rfl rfl ?_
    refine q_invokevirtual (pc := 42) (d' := d - 1) (mc' := 0) (ms' := 0) (As := []) (TX7, 15) cl_X7_66 dX7_rings_42 rfl rfl (by first | assumption | exact hS.o | exact hS.s0 | exact hS.s1 | exact hS.s2 | exact hS.s3 | exact hS.s4 | exact hS.s5 | exact hS.s6 | exact hS2.o | exact hS2.s0 | exact hS2.s1 | exact hS2.s2 | exact hS2.s3 | exact hS2.s4 | exact hS2.s5 | exact hS2.s6 | exact hS3.o | exact hS3.s0 | exact hS3.s1 | exact hS3.s2 | exact hS3.s3 | exact hS3.s4 | exact hS3.s5 | exact hS3.s6) rfl (by omega) rfl 0 0 (Nat.le_refl 0) (Nat.le_refl 0) ?_
    refine c_X7_bad (by omega) hC (fun w9 hs9 hC9 => ?_)
    refine q_ireturn (pc := 45) dX7_rings_45 rfl ?_
    first | exact zgo k (by unfold o_rings; rw [if_pos (by omega), if_neg (by omega)]) (hs2.wide (by omega) (by omega)) (hC.now hs2 hS2) | exact zgo k (by unfold o_rings; rw [if_pos (by omega), if_pos (by omega)]) hs9 hC9 | exact zgo k (by unfold o_rings; rw [if_neg (by omega)]) hs9 hC9
  refine q_iload (pc := 31) dX7_rings_31 rfl ?_
  refine q_iconst (pc := 33) dX7_rings_33 ?_
  refine q_iload_n (pc := 34) dX7_rings_34 rfl ?_
  refine q_invokestatic (pc := 35) (d' := d - 1) (mc' := 0) (ms' := 0) (As := [_, _, _]) cl_X7_62 dX7_rings_35 rfl rfl (by omega) rfl 0 0 (Nat.le_refl 0) (Nat.le_refl 0) ?_
  refine c_X7_within (by omega) (by omega) (by omega) ?_
  refine q_ifb_ne (pc := 38) 46 dX7_rings_38 rfl (fun c38 => ?_) (fun c38 => ?_)
  · refine q_aload_n (pc := 46) dX7_rings_46 rfl rfl ?_
    refine q_getfield (pc := 47) gf_X7_10 dX7_rings_47 (by first | assumption | exact hS.o | exact hS.s0 | exact hS.s1 | exact hS.s2 | exact hS.s3 | exact hS.s4 | exact hS.s5 | exact hS.s6 | exact hS2.o | exact hS2.s0 | exact hS2.s1 | exact hS2.s2 | exact hS2.s3 | exact hS2.s4 | exact hS2.s5 | exact hS2.s6 | exact hS3.o | exact hS3.s0 | exact hS3.s1 | exact hS3.s2 | exact hS3.s3 | exact hS3.s4 | exact hS3.s5 | exact hS3.s6) rfl ?_
    refine q_getfield (pc := 50) gf_X7_237 dX7_rings_50 (by first | assumption | exact hS.o | exact hS.s0 | exact hS.s1 | exact hS.s2 | exact hS.s3 | exact hS.s4 | exact hS.s5 | exact hS.s6 | exact hS2.o | exact hS2.s0 | exact hS2.s1 | exact hS2.s2 | exact hS2.s3 | exact hS2.s4 | exact hS2.s5 | exact hS2.s6 | exact hS3.o | exact hS3.s0 | exact hS3.s1 | exact hS3.s2 | exact hS3.s3 | exact hS3.s4 | exact hS3.s5 | exact hS3.s6) rfl ?_
    refine q_invokevirtual (pc := 53) (d' := d - 1) (mc' := 0) (ms' := 0) (As := []) (TX4, 4) cl_X7_84 dX7_rings_53 rfl rfl (by first | assumption | exact hS.o | exact hS.s0 | exact hS.s1 | exact hS.s2 | exact hS.s3 | exact hS.s4 | exact hS.s5 | exact hS.s6 | exact hS2.o | exact hS2.s0 | exact hS2.s1 | exact hS2.s2 | exact hS2.s3 | exact hS2.s4 | exact hS2.s5 | exact hS2.s6 | exact hS3.o | exact hS3.s0 | exact hS3.s1 | exact hS3.s2 | exact hS3.s3 | exact hS3.s4 | exact hS3.s5 | exact hS3.s6) rfl (by omega) rfl 0 0 (Nat.le_refl 0) (Nat.le_refl 0) ?_
    first | refine s_full0 hS hO3 ?_ | refine s_full1 hS hO3 ?_ | refine s_full2 hS hO3 ?_ | refine s_full3 hS hO3 ?_ | refine s_full4 hS hO3 ?_ | refine s_full5 hS hO3 ?_
    refine q_ifb_eq (pc := 56) 64 dX7_rings_56 rfl (fun c56 => ?_) (fun c56 => ?_)
    · refine q_aload_n (pc := 64) dX7_rings_64 rfl rfl ?_
      refine q_getfield (pc := 65) gf_X7_10 dX7_rings_65 (by first | assumption | exact hS.o | exact hS.s0 | exact hS.s1 | exact hS.s2 | exact hS.s3 | exact hS.s4 | exact hS.s5 | exact hS.s6 | exact hS2.o | exact hS2.s0 | exact hS2.s1 | exact hS2.s2 | exact hS2.s3 | exact hS2.s4 | exact hS2.s5 | exact hS2.s6 | exact hS3.o | exact hS3.s0 | exact hS3.s1 | exact hS3.s2 | exact hS3.s3 | exact hS3.s4 | exact hS3.s5 | exact hS3.s6) rfl ?_
      refine q_getfield (pc := 68) gf_X7_237 dX7_rings_68 (by first | assumption | exact hS.o | exact hS.s0 | exact hS.s1 | exact hS.s2 | exact hS.s3 | exact hS.s4 | exact hS.s5 | exact hS.s6 | exact hS2.o | exact hS2.s0 | exact hS2.s1 | exact hS2.s2 | exact hS2.s3 | exact hS2.s4 | exact hS2.s5 | exact hS2.s6 | exact hS3.o | exact hS3.s0 | exact hS3.s1 | exact hS3.s2 | exact hS3.s3 | exact hS3.s4 | exact hS3.s5 | exact hS3.s6) rfl ?_
      refine q_iload_n (pc := 71) dX7_rings_71 rfl ?_
      refine q_iload_n (pc := 72) dX7_rings_72 rfl ?_
      refine q_iload_n (pc := 73) dX7_rings_73 rfl ?_
      refine q_iload (pc := 74) dX7_rings_74 rfl ?_
      refine q_iconst (pc := 76) dX7_rings_76 ?_
      refine q_invokevirtual (pc := 77) (d' := d - 1) (mc' := 0) (ms' := 0) (As := [_, _, _, _, _]) (TX4, 4) cl_X7_240 dX7_rings_77 rfl rfl (by first | assumption | exact hS.o | exact hS.s0 | exact hS.s1 | exact hS.s2 | exact hS.s3 | exact hS.s4 | exact hS.s5 | exact hS.s6 | exact hS2.o | exact hS2.s0 | exact hS2.s1 | exact hS2.s2 | exact hS2.s3 | exact hS2.s4 | exact hS2.s5 | exact hS2.s6 | exact hS3.o | exact hS3.s0 | exact hS3.s1 | exact hS3.s2 | exact hS3.s3 | exact hS3.s4 | exact hS3.s5 | exact hS3.s6) rfl (by omega) rfl 0 0 (Nat.le_refl 0) (Nat.le_refl 0) ?_
      refine s_add_ring (by omega) hS hO2 (by omega) (fun w2 hs2 hS2 => ?_)
      refine q_ireturn (pc := 80) dX7_rings_80 rfl ?_
      first | exact zgo k (by unfold o_rings; rw [if_pos (by omega), if_neg (by omega)]) (hs2.wide (by omega) (by omega)) (hC.now hs2 hS2) | exact zgo k (by unfold o_rings; rw [if_pos (by omega), if_pos (by omega)]) hs9 hC9 | exact zgo k (by unfold o_rings; rw [if_neg (by omega)]) hs9 hC9
    refine q_aload_n (pc := 59) dX7_rings_59 rfl rfl ?_
    refine q_invokevirtual (pc := 60) (d' := d - 1) (mc' := 0) (ms' := 0) (As := []) (TX7, 15) cl_X7_88 dX7_rings_60 rfl rfl (by first | assumption | exact hS.o | exact hS.s0 | exact hS.s1 | exact hS.s2 | exact hS.s3 | exact hS.s4 | exact hS.s5 | exact hS.s6 | exact hS2.o | exact hS2.s0 | exact hS2.s1 | exact hS2.s2 | exact hS2.s3 | exact hS2.s4 | exact hS2.s5 | exact hS2.s6 | exact hS3.o | exact hS3.s0 | exact hS3.s1 | exact hS3.s2 | exact hS3.s3 | exact hS3.s4 | exact hS3.s5 | exact hS3.s6) rfl (by omega) rfl 0 0 (Nat.le_refl 0) (Nat.le_refl 0) ?_
    refine c_X7_full hC (fun w9 hs9 hC9 => ?_)
    refine q_ireturn (pc := 63) dX7_rings_63 rfl ?_
    first | exact zgo k (by unfold o_rings; rw [if_pos (by omega), if_neg (by omega)]) (hs2.wide (by omega) (by omega)) (hC.now hs2 hS2) | exact zgo k (by unfold o_rings; rw [if_pos (by omega), if_pos (by omega)]) hs9 hC9 | exact zgo k (by unfold o_rings; rw [if_neg (by omega)]) hs9 hC9
  refine q_aload_n (pc := 41) dX7_rings_41 rfl rfl ?_
  refine q_invokevirtual (pc := 42) (d' := d - 1) (mc' := 0) (ms' := 0) (As := []) (TX7, 15) cl_X7_66 dX7_rings_42 rfl rfl (by first | assumption | exact hS.o | exact hS.s0 | exact hS.s1 | exact hS.s2 | exact hS.s3 | exact hS.s4 | exact hS.s5 | exact hS.s6 | exact hS2.o | exact hS2.s0 | exact hS2.s1 | exact hS2.s2 | exact hS2.s3 | exact hS2.s4 | exact hS2.s5 | exact hS2.s6 | exact hS3.o | exact hS3.s0 | exact hS3.s1 | exact hS3.s2 | exact hS3.s3 | exact hS3.s4 | exact hS3.s5 | exact hS3.s6) rfl (by omega) rfl 0 0 (Nat.le_refl 0) (Nat.le_refl 0) ?_
  refine c_X7_bad (by omega) hC (fun w9 hs9 hC9 => ?_)
  refine q_ireturn (pc := 45) dX7_rings_45 rfl ?_
  first | exact zgo k (by unfold o_rings; rw [if_pos (by omega), if_neg (by omega)]) (hs2.wide (by omega) (by omega)) (hC.now hs2 hS2) | exact zgo k (by unfold o_rings; rw [if_pos (by omega), if_pos (by omega)]) hs9 hC9 | exact zgo k (by unfold o_rings; rw [if_neg (by omega)]) hs9 hC9
set_option maxRecDepth 100000 in
set_option maxHeartbeats 8000000 in
theorem c_X7_note {c s wk x co : Int} (hd : 6 ≤ d) (hC : zCl g w S) (hO : zOKS S) (h_c : zR32 c) (h_s : zR32 s) (h_wk : zR32 wk) (h_x : zR32 x) (h_co : zR32 co) (k : ∀ w', zSame w w' 0 72 → zCl g w' (o_note S c s wk x co).2 → K (some (zI (o_note S c s wk x co).1)) w') : zCall g d 0 0 mX7_note [zR g 0, zI c, zI s, zI wk, zI x, zI co] w K := by
  obtain ⟨hX, hS, hA, hB, hD, hI, hJ, hR, hT, hH⟩ := id hC
  have hO1 := hO.1
  have hO2 := hO1.1
  have hO3 := hO2.1
  refine zenter [some _, some _, some _, some _, some _, some _] pn_X7 rfl (Nat.le_of_ble_eq_true rfl) ?_
  refine q_aload_n (pc := 0) dX7_note_0 rfl rfl ?_
  refine q_getfield (pc := 1) gf_X7_10 dX7_note_1 (by first | assumption | exact hS.o | exact hS.s0 | exact hS.s1 | exact hS.s2 | exact hS.s3 | exact hS.s4 | exact hS.s5 | exact hS.s6 | exact hS2.o | exact hS2.s0 | exact hS2.s1 | exact hS2.s2 | exact hS2.s3 | exact hS2.s4 | exact hS2.s5 | exact hS2.s6 | exact hS3.o | exact hS3.s0 | exact hS3.s1 | exact hS3.s2 | exact hS3.s3 | exact hS3.s4 | exact hS3.s5 | exact hS3.s6) rfl ?_
  refine q_getfield (pc := 4) gf_X7_70 dX7_note_4 (by first | assumption | exact hS.o | exact hS.s0 | exact hS.s1 | exact hS.s2 | exact hS.s3 | exact hS.s4 | exact hS.s5 | exact hS.s6 | exact hS2.o | exact hS2.s0 | exact hS2.s1 | exact hS2.s2 | exact hS2.s3 | exact hS2.s4 | exact hS2.s5 | exact hS2.s6 | exact hS3.o | exact hS3.s0 | exact hS3.s1 | exact hS3.s2 | exact hS3.s3 | exact hS3.s4 | exact hS3.s5 | exact hS3.s6) rfl ?_
  refine q_iload_n (pc := 7) dX7_note_7 rfl ?_
  refine q_invokevirtual (pc := 8) (d' := d - 1) (mc' := 0) (ms' := 0) (As := [_]) (TX4, 4) cl_X7_101 dX7_note_8 rfl rfl (by first | assumption | exact hS.o | exact hS.s0 | exact hS.s1 | exact hS.s2 | exact hS.s3 | exact hS.s4 | exact hS.s5 | exact hS.s6 | exact hS2.o | exact hS2.s0 | exact hS2.s1 | exact hS2.s2 | exact hS2.s3 | exact hS2.s4 | exact hS2.s5 | exact hS2.s6 | exact hS3.o | exact hS3.s0 | exact hS3.s1 | exact hS3.s2 | exact hS3.s3 | exact hS3.s4 | exact hS3.s5 | exact hS3.s6) rfl (by omega) rfl 0 0 (Nat.le_refl 0) (Nat.le_refl 0) ?_
  first | refine s_hold0 hS hO3 (by omega) ?_ | refine s_hold1 hS hO3 (by omega) ?_ | refine s_hold2 hS hO3 (by omega) ?_ | refine s_hold3 hS hO3 (by omega) ?_
  refine q_ifb_eq (pc := 11) 54 dX7_note_11 rfl (fun c11 => ?_) (fun c11 => ?_)
  · refine q_aload_n (pc := 54) dX7_note_54 rfl rfl ?_
    refine q_invokevirtual (pc := 55) (d' := d - 1) (mc' := 0) (ms' := 0) (As := []) (TX7, 15) cl_X7_66 dX7_note_55 rfl rfl (by first | assumption | exact hS.o | exact hS.s0 | exact hS.s1 | exact hS.s2 | exact hS.s3 | exact hS.s4 | exact hS.s5 | exact hS.s6 | exact hS2.o | exact hS2.s0 | exact hS2.s1 | exact hS2.s2 | exact hS2.s3 | exact hS2.s4 | exact hS2.s5 | exact hS2.s6 | exact hS3.o | exact hS3.s0 | exact hS3.s1 | exact hS3.s2 | exact hS3.s3 | exact hS3.s4 | exact hS3.s5 | exact hS3.s6) rfl (by omega) rfl 0 0 (Nat.le_refl 0) (Nat.le_refl 0) ?_
    refine c_X7_bad (by omega) hC (fun w9 hs9 hC9 => ?_)
    refine q_ireturn (pc := 58) dX7_note_58 rfl ?_
    first | exact zgo k (by unfold o_note; rw [if_pos (by omega), if_neg (by omega)]) (hs2.wide (by omega) (by omega)) (hC.now hs2 hS2) | exact zgo k (by unfold o_note; rw [if_pos (by omega), if_pos (by omega)]) hs9 hC9 | exact zgo k (by unfold o_note; rw [if_neg (by omega)]) hs9 hC9
  refine q_iload_n (pc := 14) dX7_note_14 rfl ?_
  refine q_iconst (pc := 15) dX7_note_15 ?_
  refine q_bipush (pc := 16) (by decide) dX7_note_16 ?_
  refine q_invokestatic (pc := 18) (d' := d - 1) (mc' := 0) (ms' := 0) (As := [_, _, _]) cl_X7_62 dX7_note_18 rfl rfl (by omega) rfl 0 0 (Nat.le_refl 0) (Nat.le_refl 0) ?_
  refine c_X7_within (by omega) (by omega) (by omega) ?_
  refine q_ifb_eq (pc := 21) 54 dX7_note_21 rfl (fun c21 => ?_) (fun c21 => ?_)
  · refine q_aload_n (pc := 54) dX7_note_54 rfl rfl ?_
    refine q_invokevirtual (pc := 55) (d' := d - 1) (mc' := 0) (ms' := 0) (As := []) (TX7, 15) cl_X7_66 dX7_note_55 rfl rfl (by first | assumption | exact hS.o | exact hS.s0 | exact hS.s1 | exact hS.s2 | exact hS.s3 | exact hS.s4 | exact hS.s5 | exact hS.s6 | exact hS2.o | exact hS2.s0 | exact hS2.s1 | exact hS2.s2 | exact hS2.s3 | exact hS2.s4 | exact hS2.s5 | exact hS2.s6 | exact hS3.o | exact hS3.s0 | exact hS3.s1 | exact hS3.s2 | exact hS3.s3 | exact hS3.s4 | exact hS3.s5 | exact hS3.s6) rfl (by omega) rfl 0 0 (Nat.le_refl 0) (Nat.le_refl 0) ?_
    refine c_X7_bad (by omega) hC (fun w9 hs9 hC9 => ?_)
    refine q_ireturn (pc := 58) dX7_note_58 rfl ?_
    first | exact zgo k (by unfold o_note; rw [if_pos (by omega), if_neg (by omega)]) (hs2.wide (by omega) (by omega)) (hC.now hs2 hS2) | exact zgo k (by unfold o_note; rw [if_pos (by omega), if_pos (by omega)]) hs9 hC9 | exact zgo k (by unfold o_note; rw [if_neg (by omega)]) hs9 hC9
  refine q_iload_n (pc := 24) dX7_note_24 rfl ?_
  refine q_iconst (pc := 25) dX7_note_25 ?_
  refine q_bipush (pc := 26) (by decide) dX7_note_26 ?_
  refine q_invokestatic (pc := 28) (d' := d - 1) (mc' := 0) (ms' := 0) (As := [_, _, _]) cl_X7_62 dX7_note_28 rfl rfl (by omega) rfl 0 0 (Nat.le_refl 0) (Nat.le_refl 0) ?_
  refine c_X7_within (by omega) (by omega) (by omega) ?_
  refine q_ifb_eq (pc := 31) 54 dX7_note_31 rfl (fun c31 => ?_) (fun c31 => ?_)
  · refine q_aload_n (pc := 54) dX7_note_54 rfl rfl ?_
    refine q_invokevirtual (pc := 55) (d' := d - 1) (mc' := 0) (ms' := 0) (As := []) (TX7, 15) cl_X7_66 dX7_note_55 rfl rfl (by first | assumption | exact hS.o | exact hS.s0 | exact hS.s1 | exact hS.s2 | exact hS.s3 | exact hS.s4 | exact hS.s5 | exact hS.s6 | exact hS2.o | exact hS2.s0 | exact hS2.s1 | exact hS2.s2 | exact hS2.s3 | exact hS2.s4 | exact hS2.s5 | exact hS2.s6 | exact hS3.o | exact hS3.s0 | exact hS3.s1 | exact hS3.s2 | exact hS3.s3 | exact hS3.s4 | exact hS3.s5 | exact hS3.s6) rfl (by omega) rfl 0 0 (Nat.le_refl 0) (Nat.le_refl 0) ?_
    refine c_X7_bad (by omega) hC (fun w9 hs9 hC9 => ?_)
    refine q_ireturn (pc := 58) dX7_note_58 rfl ?_
    first | exact zgo k (by unfold o_note; rw [if_pos (by omega), if_neg (by omega)]) (hs2.wide (by omega) (by omega)) (hC.now hs2 hS2) | exact zgo k (by unfold o_note; rw [if_pos (by omega), if_pos (by omega)]) hs9 hC9 | exact zgo k (by unfold o_note; rw [if_neg (by omega)]) hs9 hC9
  refine q_iload (pc := 34) dX7_note_34 rfl ?_
  refine q_iconst (pc := 36) dX7_note_36 ?_
  refine q_iconst (pc := 37) dX7_note_37 ?_
  refine q_invokestatic (pc := 38) (d' := d - 1) (mc' := 0) (ms' := 0) (As := [_, _, _]) cl_X7_62 dX7_note_38 rfl rfl (by omega) rfl 0 0 (Nat.le_refl 0) (Nat.le_refl 0) ?_
  refine c_X7_within (by omega) (by omega) (by omega) ?_
  refine q_ifb_eq (pc := 41) 54 dX7_note_41 rfl (fun c41 => ?_) (fun c41 => ?_)
  · refine q_aload_n (pc := 54) dX7_note_54 rfl rfl ?_
    refine q_invokevirtual (pc := 55) (d' := d - 1) (mc' := 0) (ms' := 0) (As := []) (TX7, 15) cl_X7_66 dX7_note_55 rfl rfl (by first | assumption | exact hS.o | exact hS.s0 | exact hS.s1 | exact hS.s2 | exact hS.s3 | exact hS.s4 | exact hS.s5 | exact hS.s6 | exact hS2.o | exact hS2.s0 | exact hS2.s1 | exact hS2.s2 | exact hS2.s3 | exact hS2.s4 | exact hS2.s5 | exact hS2.s6 | exact hS3.o | exact hS3.s0 | exact hS3.s1 | exact hS3.s2 | exact hS3.s3 | exact hS3.s4 | exact hS3.s5 | exact hS3.s6) rfl (by omega) rfl 0 0 (Nat.le_refl 0) (Nat.le_refl 0) ?_
    refine c_X7_bad (by omega) hC (fun w9 hs9 hC9 => ?_)
    refine q_ireturn (pc := 58) dX7_note_58 rfl ?_
    first | exact zgo k (by unfold o_note; rw [if_pos (by omega), if_neg (by omega)]) (hs2.wide (by omega) (by omega)) (hC.now hs2 hS2) | exact zgo k (by unfold o_note; rw [if_pos (by omega), if_pos (by omega)]) hs9 hC9 | exact zgo k (by unfold o_note; rw [if_neg (by omega)]) hs9 hC9
  refine q_iload (pc := 44) dX7_note_44 rfl ?_
  refine q_iconst (pc := 46) dX7_note_46 ?_
  refine q_iconst (pc := 47) dX7_note_47 ?_
  refine q_invokestatic (pc := 48) (d' := d - 1) (mc' := 0) (ms' := 0) (As := [_, _, _]) cl_X7_62 dX7_note_48 rfl rfl (by omega) rfl 0 0 (Nat.le_refl 0) (Nat.le_refl 0) ?_
  refine c_X7_within (by omega) (by omega) (by omega) ?_
  refine q_ifb_ne (pc := 51) 59 dX7_note_51 rfl (fun c51 => ?_) (fun c51 => ?_)
  · refine q_aload_n (pc := 59) dX7_note_59 rfl rfl ?_
    refine q_getfield (pc := 60) gf_X7_10 dX7_note_60 (by first | assumption | exact hS.o | exact hS.s0 | exact hS.s1 | exact hS.s2 | exact hS.s3 | exact hS.s4 | exact hS.s5 | exact hS.s6 | exact hS2.o | exact hS2.s0 | exact hS2.s1 | exact hS2.s2 | exact hS2.s3 | exact hS2.s4 | exact hS2.s5 | exact hS2.s6 | exact hS3.o | exact hS3.s0 | exact hS3.s1 | exact hS3.s2 | exact hS3.s3 | exact hS3.s4 | exact hS3.s5 | exact hS3.s6) rfl ?_
    refine q_getfield (pc := 63) gf_X7_250 dX7_note_63 (by first | assumption | exact hS.o | exact hS.s0 | exact hS.s1 | exact hS.s2 | exact hS.s3 | exact hS.s4 | exact hS.s5 | exact hS.s6 | exact hS2.o | exact hS2.s0 | exact hS2.s1 | exact hS2.s2 | exact hS2.s3 | exact hS2.s4 | exact hS2.s5 | exact hS2.s6 | exact hS3.o | exact hS3.s0 | exact hS3.s1 | exact hS3.s2 | exact hS3.s3 | exact hS3.s4 | exact hS3.s5 | exact hS3.s6) rfl ?_
    refine q_invokevirtual (pc := 66) (d' := d - 1) (mc' := 0) (ms' := 0) (As := []) (TX4, 4) cl_X7_84 dX7_note_66 rfl rfl (by first | assumption | exact hS.o | exact hS.s0 | exact hS.s1 | exact hS.s2 | exact hS.s3 | exact hS.s4 | exact hS.s5 | exact hS.s6 | exact hS2.o | exact hS2.s0 | exact hS2.s1 | exact hS2.s2 | exact hS2.s3 | exact hS2.s4 | exact hS2.s5 | exact hS2.s6 | exact hS3.o | exact hS3.s0 | exact hS3.s1 | exact hS3.s2 | exact hS3.s3 | exact hS3.s4 | exact hS3.s5 | exact hS3.s6) rfl (by omega) rfl 0 0 (Nat.le_refl 0) (Nat.le_refl 0) ?_
    first | refine s_full0 hS hO3 ?_ | refine s_full1 hS hO3 ?_ | refine s_full2 hS hO3 ?_ | refine s_full3 hS hO3 ?_ | refine s_full4 hS hO3 ?_ | refine s_full5 hS hO3 ?_
    refine q_ifb_eq (pc := 69) 77 dX7_note_69 rfl (fun c69 => ?_) (fun c69 => ?_)
    · refine q_aload_n (pc := 77) dX7_note_77 rfl rfl ?_
      refine q_getfield (pc := 78) gf_X7_10 dX7_note_78 (by first | assumption | exact hS.o | exact hS.s0 | exact hS.s1 | exact hS.s2 | exact hS.s3 | exact hS.s4 | exact hS.s5 | exact hS.s6 | exact hS2.o | exact hS2.s0 | exact hS2.s1 | exact hS2.s2 | exact hS2.s3 | exact hS2.s4 | exact hS2.s5 | exact hS2.s6 | exact hS3.o | exact hS3.s0 | exact hS3.s1 | exact hS3.s2 | exact hS3.s3 | exact hS3.s4 | exact hS3.s5 | exact hS3.s6) rfl ?_
      refine q_getfield (pc := 81) gf_X7_250 dX7_note_81 (by first | assumption | exact hS.o | exact hS.s0 | exact hS.s1 | exact hS.s2 | exact hS.s3 | exact hS.s4 | exact hS.s5 | exact hS.s6 | exact hS2.o | exact hS2.s0 | exact hS2.s1 | exact hS2.s2 | exact hS2.s3 | exact hS2.s4 | exact hS2.s5 | exact hS2.s6 | exact hS3.o | exact hS3.s0 | exact hS3.s1 | exact hS3.s2 | exact hS3.s3 | exact hS3.s4 | exact hS3.s5 | exact hS3.s6) rfl ?_
      refine q_iload_n (pc := 84) dX7_note_84 rfl ?_
      refine q_iload_n (pc := 85) dX7_note_85 rfl ?_
      refine q_iload_n (pc := 86) dX7_note_86 rfl ?_
      refine q_iload (pc := 87) dX7_note_87 rfl ?_
      refine q_iload (pc := 89) dX7_note_89 rfl ?_
      refine q_invokevirtual (pc := 91) (d' := d - 1) (mc' := 0) (ms' := 0) (As := [_, _, _, _, _]) (TX4, 4) cl_X7_240 dX7_note_91 rfl rfl (by first | assumption | exact hS.o | exact hS.s0 | exact hS.s1 | exact hS.s2 | exact hS.s3 | exact hS.s4 | exact hS.s5 | exact hS.s6 | exact hS2.o | exact hS2.s0 | exact hS2.s1 | exact hS2.s2 | exact hS2.s3 | exact hS2.s4 | exact hS2.s5 | exact hS2.s6 | exact hS3.o | exact hS3.s0 | exact hS3.s1 | exact hS3.s2 | exact hS3.s3 | exact hS3.s4 | exact hS3.s5 | exact hS3.s6) rfl (by omega) rfl 0 0 (Nat.le_refl 0) (Nat.le_refl 0) ?_
      refine s_add_note (by omega) hS hO2 (by omega) (fun w2 hs2 hS2 => ?_)
      refine q_ireturn (pc := 94) dX7_note_94 rfl ?_
      first | exact zgo k (by unfold o_note; rw [if_pos (by omega), if_neg (by omega)]) (hs2.wide (by omega) (by omega)) (hC.now hs2 hS2) | exact zgo k (by unfold o_note; rw [if_pos (by omega), if_pos (by omega)]) hs9 hC9 | exact zgo k (by unfold o_note; rw [if_neg (by omega)]) hs9 hC9
    refine q_aload_n (pc := 72) dX7_note_72 rfl rfl ?_
    refine q_invokevirtual (pc := 73) (d' := d - 1) (mc' := 0) (ms' := 0) (As := []) (TX7, 15) cl_X7_88 dX7_note_73 rfl rfl (by first | assumption | exact hS.o | exact hS.s0 | exact hS.s1 | exact hS.s2 | exact hS.s3 | exact hS.s4 | exact hS.s5 | exact hS.s6 | exact hS2.o | exact hS2.s0 | exact hS2.s1 | exact hS2.s2 | exact hS2.s3 | exact hS2.s4 | exact hS2.s5 | exact hS2.s6 | exact hS3.o | exact hS3.s0 | exact hS3.s1 | exact hS3.s2 | exact hS3.s3 | exact hS3.s4 | exact hS3.s5 | exact hS3.s6) rfl (by omega) rfl 0 0 (Nat.le_refl 0) (Nat.le_refl 0) ?_
    refine c_X7_full hC (fun w9 hs9 hC9 => ?_)
    refine q_ireturn (pc := 76) dX7_note_76 rfl ?_
    first | exact zgo k (by unfold o_note; rw [if_pos (by omega), if_neg (by omega)]) (hs2.wide (by omega) (by omega)) (hC.now hs2 hS2) | exact zgo k (by unfold o_note; rw [if_pos (by omega), if_pos (by omega)]) hs9 hC9 | exact zgo k (by unfold o_note; rw [if_neg (by omega)]) hs9 hC9
  refine q_aload_n (pc := 54) dX7_note_54 rfl rfl ?_
  refine q_invokevirtual (pc := 55) (d' := d - 1) (mc' := 0) (ms' := 0) (As := []) (TX7, 15) cl_X7_66 dX7_note_55 rfl rfl (by first | assumption | exact hS.o | exact hS.s0 | exact hS.s1 | exact hS.s2 | exact hS.s3 | exact hS.s4 | exact hS.s5 | exact hS.s6 | exact hS2.o | exact hS2.s0 | exact hS2.s1 | exact hS2.s2 | exact hS2.s3 | exact hS2.s4 | exact hS2.s5 | exact hS2.s6 | exact hS3.o | exact hS3.s0 | exact hS3.s1 | exact hS3.s2 | exact hS3.s3 | exact hS3.s4 | exact hS3.s5 | exact hS3.s6) rfl (by omega) rfl 0 0 (Nat.le_refl 0) (Nat.le_refl 0) ?_
  refine c_X7_bad (by omega) hC (fun w9 hs9 hC9 => ?_)
  refine q_ireturn (pc := 58) dX7_note_58 rfl ?_
  first | exact zgo k (by unfold o_note; rw [if_pos (by omega), if_neg (by omega)]) (hs2.wide (by omega) (by omega)) (hC.now hs2 hS2) | exact zgo k (by unfold o_note; rw [if_pos (by omega), if_pos (by omega)]) hs9 hC9 | exact zgo k (by unfold o_note; rw [if_neg (by omega)]) hs9 hC9
set_option maxRecDepth 100000 in
set_option maxHeartbeats 8000000 in
theorem c_X7_flew {s r v x h : Int} (hd : 6 ≤ d) (hC : zCl g w S) (hO : zOKS S) (h_s : zR32 s) (h_r : zR32 r) (h_v : zR32 v) (h_x : zR32 x) (h_h : zR32 h) (k : ∀ w', zSame w w' 0 72 → zCl g w' (o_flew S s r v x h).2 → K (some (zI (o_flew S s r v x h).1)) w') : zCall g d 0 0 mX7_flew [zR g 0, zI s, zI r, zI v, zI x, zI h] w K := by
  obtain ⟨hX, hS, hA, hB, hD, hI, hJ, hR, hT, hH⟩ := id hC
  have hO1 := hO.1
  have hO2 := hO1.1
  have hO3 := hO2.1
  refine zenter [some _, some _, some _, some _, some _, some _] pn_X7 rfl (Nat.le_of_ble_eq_true rfl) ?_
  refine q_aload_n (pc := 0) dX7_flew_0 rfl rfl ?_
  refine q_getfield (pc := 1) gf_X7_10 dX7_flew_1 (by first | assumption | exact hS.o | exact hS.s0 | exact hS.s1 | exact hS.s2 | exact hS.s3 | exact hS.s4 | exact hS.s5 | exact hS.s6 | exact hS2.o | exact hS2.s0 | exact hS2.s1 | exact hS2.s2 | exact hS2.s3 | exact hS2.s4 | exact hS2.s5 | exact hS2.s6 | exact hS3.o | exact hS3.s0 | exact hS3.s1 | exact hS3.s2 | exact hS3.s3 | exact hS3.s4 | exact hS3.s5 | exact hS3.s6) rfl ?_
  refine q_getfield (pc := 4) gf_X7_126 dX7_flew_4 (by first | assumption | exact hS.o | exact hS.s0 | exact hS.s1 | exact hS.s2 | exact hS.s3 | exact hS.s4 | exact hS.s5 | exact hS.s6 | exact hS2.o | exact hS2.s0 | exact hS2.s1 | exact hS2.s2 | exact hS2.s3 | exact hS2.s4 | exact hS2.s5 | exact hS2.s6 | exact hS3.o | exact hS3.s0 | exact hS3.s1 | exact hS3.s2 | exact hS3.s3 | exact hS3.s4 | exact hS3.s5 | exact hS3.s6) rfl ?_
  refine q_iload_n (pc := 7) dX7_flew_7 rfl ?_
  refine q_invokevirtual (pc := 8) (d' := d - 1) (mc' := 0) (ms' := 0) (As := [_]) (TX4, 4) cl_X7_101 dX7_flew_8 rfl rfl (by first | assumption | exact hS.o | exact hS.s0 | exact hS.s1 | exact hS.s2 | exact hS.s3 | exact hS.s4 | exact hS.s5 | exact hS.s6 | exact hS2.o | exact hS2.s0 | exact hS2.s1 | exact hS2.s2 | exact hS2.s3 | exact hS2.s4 | exact hS2.s5 | exact hS2.s6 | exact hS3.o | exact hS3.s0 | exact hS3.s1 | exact hS3.s2 | exact hS3.s3 | exact hS3.s4 | exact hS3.s5 | exact hS3.s6) rfl (by omega) rfl 0 0 (Nat.le_refl 0) (Nat.le_refl 0) ?_
  first | refine s_hold0 hS hO3 (by omega) ?_ | refine s_hold1 hS hO3 (by omega) ?_ | refine s_hold2 hS hO3 (by omega) ?_ | refine s_hold3 hS hO3 (by omega) ?_
  refine q_ifb_eq (pc := 11) 53 dX7_flew_11 rfl (fun c11 => ?_) (fun c11 => ?_)
  · refine q_aload_n (pc := 53) dX7_flew_53 rfl rfl ?_
    refine q_invokevirtual (pc := 54) (d' := d - 1) (mc' := 0) (ms' := 0) (As := []) (TX7, 15) cl_X7_66 dX7_flew_54 rfl rfl (by first | assumption | exact hS.o | exact hS.s0 | exact hS.s1 | exact hS.s2 | exact hS.s3 | exact hS.s4 | exact hS.s5 | exact hS.s6 | exact hS2.o | exact hS2.s0 | exact hS2.s1 | exact hS2.s2 | exact hS2.s3 | exact hS2.s4 | exact hS2.s5 | exact hS2.s6 | exact hS3.o | exact hS3.s0 | exact hS3.s1 | exact hS3.s2 | exact hS3.s3 | exact hS3.s4 | exact hS3.s5 | exact hS3.s6) rfl (by omega) rfl 0 0 (Nat.le_refl 0) (Nat.le_refl 0) ?_
    refine c_X7_bad (by omega) hC (fun w9 hs9 hC9 => ?_)
    refine q_ireturn (pc := 57) dX7_flew_57 rfl ?_
    first | exact zgo k (by unfold o_flew; rw [if_pos (by omega), if_neg (by omega)]) (hs2.wide (by omega) (by omega)) (hC.now hs2 hS2) | exact zgo k (by unfold o_flew; rw [if_pos (by omega), if_pos (by omega)]) hs9 hC9 | exact zgo k (by unfold o_flew; rw [if_neg (by omega)]) hs9 hC9
  refine q_iload_n (pc := 14) dX7_flew_14 rfl ?_
  refine q_invokestatic (pc := 15) (d' := d - 1) (mc' := 0) (ms' := 0) (As := [_]) cl_X7_105 dX7_flew_15 rfl rfl (by omega) rfl 0 0 (Nat.le_refl 0) (Nat.le_refl 0) ?_
  refine c_X7_isRings (by omega) (by omega) ?_
  refine q_ifb_eq (pc := 18) 53 dX7_flew_18 rfl (fun c18 => ?_) (fun c18 => ?_)
  · refine q_aload_n (pc := 53) dX7_flew_53 rfl rfl ?_
    refine q_invokevirtual (pc := 54) (d' := d - 1) (mc' := 0) (ms' := 0) (As := []) (TX7, 15) cl_X7_66 dX7_flew_54 rfl rfl (by first | assumption | exact hS.o | exact hS.s0 | exact hS.s1 | exact hS.s2 | exact hS.s3 | exact hS.s4 | exact hS.s5 | exact hS.s6 | exact hS2.o | exact hS2.s0 | exact hS2.s1 | exact hS2.s2 | exact hS2.s3 | exact hS2.s4 | exact hS2.s5 | exact hS2.s6 | exact hS3.o | exact hS3.s0 | exact hS3.s1 | exact hS3.s2 | exact hS3.s3 | exact hS3.s4 | exact hS3.s5 | exact hS3.s6) rfl (by omega) rfl 0 0 (Nat.le_refl 0) (Nat.le_refl 0) ?_
    refine c_X7_bad (by omega) hC (fun w9 hs9 hC9 => ?_)
    refine q_ireturn (pc := 57) dX7_flew_57 rfl ?_
    first | exact zgo k (by unfold o_flew; rw [if_pos (by omega), if_neg (by omega)]) (hs2.wide (by omega) (by omega)) (hC.now hs2 hS2) | exact zgo k (by unfold o_flew; rw [if_pos (by omega), if_pos (by omega)]) hs9 hC9 | exact zgo k (by unfold o_flew; rw [if_neg (by omega)]) hs9 hC9
  refine q_iload_n (pc := 21) dX7_flew_21 rfl ?_
  refine q_iconst (pc := 22) dX7_flew_22 ?_
  refine q_bipush (pc := 23) (by decide) dX7_flew_23 ?_
  refine q_invokestatic (pc := 25) (d' := d - 1) (mc' := 0) (ms' := 0) (As := [_, _, _]) cl_X7_62 dX7_flew_25 rfl rfl (by omega) rfl 0 0 (Nat.le_refl 0) (Nat.le_refl 0) ?_
  refine c_X7_within (by omega) (by omega) (by omega) ?_
  refine q_ifb_eq (pc := 28) 53 dX7_flew_28 rfl (fun c28 => ?_) (fun c28 => ?_)
  · refine q_aload_n (pc := 53) dX7_flew_53 rfl rfl ?_
    refine q_invokevirtual (pc := 54) (d' := d - 1) (mc' := 0) (ms' := 0) (As := []) (TX7, 15) cl_X7_66 dX7_flew_54 rfl rfl (by first | assumption | exact hS.o | exact hS.s0 | exact hS.s1 | exact hS.s2 | exact hS.s3 | exact hS.s4 | exact hS.s5 | exact hS.s6 | exact hS2.o | exact hS2.s0 | exact hS2.s1 | exact hS2.s2 | exact hS2.s3 | exact hS2.s4 | exact hS2.s5 | exact hS2.s6 | exact hS3.o | exact hS3.s0 | exact hS3.s1 | exact hS3.s2 | exact hS3.s3 | exact hS3.s4 | exact hS3.s5 | exact hS3.s6) rfl (by omega) rfl 0 0 (Nat.le_refl 0) (Nat.le_refl 0) ?_
    refine c_X7_bad (by omega) hC (fun w9 hs9 hC9 => ?_)
    refine q_ireturn (pc := 57) dX7_flew_57 rfl ?_
    first | exact zgo k (by unfold o_flew; rw [if_pos (by omega), if_neg (by omega)]) (hs2.wide (by omega) (by omega)) (hC.now hs2 hS2) | exact zgo k (by unfold o_flew; rw [if_pos (by omega), if_pos (by omega)]) hs9 hC9 | exact zgo k (by unfold o_flew; rw [if_neg (by omega)]) hs9 hC9
  refine q_iload (pc := 31) dX7_flew_31 rfl ?_
  refine q_iconst (pc := 33) dX7_flew_33 ?_
  refine q_bipush (pc := 34) (by decide) dX7_flew_34 ?_
  refine q_invokestatic (pc := 36) (d' := d - 1) (mc' := 0) (ms' := 0) (As := [_, _, _]) cl_X7_62 dX7_flew_36 rfl rfl (by omega) rfl 0 0 (Nat.le_refl 0) (Nat.le_refl 0) ?_
  refine c_X7_within (by omega) (by omega) (by omega) ?_
  refine q_ifb_eq (pc := 39) 53 dX7_flew_39 rfl (fun c39 => ?_) (fun c39 => ?_)
  · refine q_aload_n (pc := 53) dX7_flew_53 rfl rfl ?_
    refine q_invokevirtual (pc := 54) (d' := d - 1) (mc' := 0) (ms' := 0) (As := []) (TX7, 15) cl_X7_66 dX7_flew_54 rfl rfl (by first | assumption | exact hS.o | exact hS.s0 | exact hS.s1 | exact hS.s2 | exact hS.s3 | exact hS.s4 | exact hS.s5 | exact hS.s6 | exact hS2.o | exact hS2.s0 | exact hS2.s1 | exact hS2.s2 | exact hS2.s3 | exact hS2.s4 | exact hS2.s5 | exact hS2.s6 | exact hS3.o | exact hS3.s0 | exact hS3.s1 | exact hS3.s2 | exact hS3.s3 | exact hS3.s4 | exact hS3.s5 | exact hS3.s6) rfl (by omega) rfl 0 0 (Nat.le_refl 0) (Nat.le_refl 0) ?_
    refine c_X7_bad (by omega) hC (fun w9 hs9 hC9 => ?_)
    refine q_ireturn (pc := 57) dX7_flew_57 rfl ?_
    first | exact zgo k (by unfold o_flew; rw [if_pos (by omega), if_neg (by omega)]) (hs2.wide (by omega) (by omega)) (hC.now hs2 hS2) | exact zgo k (by unfold o_flew; rw [if_pos (by omega), if_pos (by omega)]) hs9 hC9 | exact zgo k (by unfold o_flew; rw [if_neg (by omega)]) hs9 hC9
  refine q_iload (pc := 42) dX7_flew_42 rfl ?_
  refine q_iconst (pc := 44) dX7_flew_44 ?_
  refine q_bipush (pc := 45) (by decide) dX7_flew_45 ?_
  refine q_invokestatic (pc := 47) (d' := d - 1) (mc' := 0) (ms' := 0) (As := [_, _, _]) cl_X7_62 dX7_flew_47 rfl rfl (by omega) rfl 0 0 (Nat.le_refl 0) (Nat.le_refl 0) ?_
  refine c_X7_within (by omega) (by omega) (by omega) ?_
  refine q_ifb_ne (pc := 50) 58 dX7_flew_50 rfl (fun c50 => ?_) (fun c50 => ?_)
  · refine q_aload_n (pc := 58) dX7_flew_58 rfl rfl ?_
    refine q_getfield (pc := 59) gf_X7_10 dX7_flew_59 (by first | assumption | exact hS.o | exact hS.s0 | exact hS.s1 | exact hS.s2 | exact hS.s3 | exact hS.s4 | exact hS.s5 | exact hS.s6 | exact hS2.o | exact hS2.s0 | exact hS2.s1 | exact hS2.s2 | exact hS2.s3 | exact hS2.s4 | exact hS2.s5 | exact hS2.s6 | exact hS3.o | exact hS3.s0 | exact hS3.s1 | exact hS3.s2 | exact hS3.s3 | exact hS3.s4 | exact hS3.s5 | exact hS3.s6) rfl ?_
    refine q_getfield (pc := 62) gf_X7_253 dX7_flew_62 (by first | assumption | exact hS.o | exact hS.s0 | exact hS.s1 | exact hS.s2 | exact hS.s3 | exact hS.s4 | exact hS.s5 | exact hS.s6 | exact hS2.o | exact hS2.s0 | exact hS2.s1 | exact hS2.s2 | exact hS2.s3 | exact hS2.s4 | exact hS2.s5 | exact hS2.s6 | exact hS3.o | exact hS3.s0 | exact hS3.s1 | exact hS3.s2 | exact hS3.s3 | exact hS3.s4 | exact hS3.s5 | exact hS3.s6) rfl ?_
    refine q_invokevirtual (pc := 65) (d' := d - 1) (mc' := 0) (ms' := 0) (As := []) (TX4, 4) cl_X7_84 dX7_flew_65 rfl rfl (by first | assumption | exact hS.o | exact hS.s0 | exact hS.s1 | exact hS.s2 | exact hS.s3 | exact hS.s4 | exact hS.s5 | exact hS.s6 | exact hS2.o | exact hS2.s0 | exact hS2.s1 | exact hS2.s2 | exact hS2.s3 | exact hS2.s4 | exact hS2.s5 | exact hS2.s6 | exact hS3.o | exact hS3.s0 | exact hS3.s1 | exact hS3.s2 | exact hS3.s3 | exact hS3.s4 | exact hS3.s5 | exact hS3.s6) rfl (by omega) rfl 0 0 (Nat.le_refl 0) (Nat.le_refl 0) ?_
    first | refine s_full0 hS hO3 ?_ | refine s_full1 hS hO3 ?_ | refine s_full2 hS hO3 ?_ | refine s_full3 hS hO3 ?_ | refine s_full4 hS hO3 ?_ | refine s_full5 hS hO3 ?_
    refine q_ifb_eq (pc := 68) 76 dX7_flew_68 rfl (fun c68 => ?_) (fun c68 => ?_)
    · refine q_aload_n (pc := 76) dX7_flew_76 rfl rfl ?_
      refine q_getfield (pc := 77) gf_X7_10 dX7_flew_77 (by first | assumption | exact hS.o | exact hS.s0 | exact hS.s1 | exact hS.s2 | exact hS.s3 | exact hS.s4 | exact hS.s5 | exact hS.s6 | exact hS2.o | exact hS2.s0 | exact hS2.s1 | exact hS2.s2 | exact hS2.s3 | exact hS2.s4 | exact hS2.s5 | exact hS2.s6 | exact hS3.o | exact hS3.s0 | exact hS3.s1 | exact hS3.s2 | exact hS3.s3 | exact hS3.s4 | exact hS3.s5 | exact hS3.s6) rfl ?_
      refine q_getfield (pc := 80) gf_X7_253 dX7_flew_80 (by first | assumption | exact hS.o | exact hS.s0 | exact hS.s1 | exact hS.s2 | exact hS.s3 | exact hS.s4 | exact hS.s5 | exact hS.s6 | exact hS2.o | exact hS2.s0 | exact hS2.s1 | exact hS2.s2 | exact hS2.s3 | exact hS2.s4 | exact hS2.s5 | exact hS2.s6 | exact hS3.o | exact hS3.s0 | exact hS3.s1 | exact hS3.s2 | exact hS3.s3 | exact hS3.s4 | exact hS3.s5 | exact hS3.s6) rfl ?_
      refine q_iload_n (pc := 83) dX7_flew_83 rfl ?_
      refine q_iload_n (pc := 84) dX7_flew_84 rfl ?_
      refine q_iload_n (pc := 85) dX7_flew_85 rfl ?_
      refine q_iload (pc := 86) dX7_flew_86 rfl ?_
      refine q_iload (pc := 88) dX7_flew_88 rfl ?_
      refine q_invokevirtual (pc := 90) (d' := d - 1) (mc' := 0) (ms' := 0) (As := [_, _, _, _, _]) (TX4, 4) cl_X7_240 dX7_flew_90 rfl rfl (by first | assumption | exact hS.o | exact hS.s0 | exact hS.s1 | exact hS.s2 | exact hS.s3 | exact hS.s4 | exact hS.s5 | exact hS.s6 | exact hS2.o | exact hS2.s0 | exact hS2.s1 | exact hS2.s2 | exact hS2.s3 | exact hS2.s4 | exact hS2.s5 | exact hS2.s6 | exact hS3.o | exact hS3.s0 | exact hS3.s1 | exact hS3.s2 | exact hS3.s3 | exact hS3.s4 | exact hS3.s5 | exact hS3.s6) rfl (by omega) rfl 0 0 (Nat.le_refl 0) (Nat.le_refl 0) ?_
      refine s_add_flight (by omega) hS hO2 (by omega) (fun w2 hs2 hS2 => ?_)
      refine q_ireturn (pc := 93) dX7_flew_93 rfl ?_
      first | exact zgo k (by unfold o_flew; rw [if_pos (by omega), if_neg (by omega)]) (hs2.wide (by omega) (by omega)) (hC.now hs2 hS2) | exact zgo k (by unfold o_flew; rw [if_pos (by omega), if_pos (by omega)]) hs9 hC9 | exact zgo k (by unfold o_flew; rw [if_neg (by omega)]) hs9 hC9
    refine q_aload_n (pc := 71) dX7_flew_71 rfl rfl ?_
    refine q_invokevirtual (pc := 72) (d' := d - 1) (mc' := 0) (ms' := 0) (As := []) (TX7, 15) cl_X7_88 dX7_flew_72 rfl rfl (by first | assumption | exact hS.o | exact hS.s0 | exact hS.s1 | exact hS.s2 | exact hS.s3 | exact hS.s4 | exact hS.s5 | exact hS.s6 | exact hS2.o | exact hS2.s0 | exact hS2.s1 | exact hS2.s2 | exact hS2.s3 | exact hS2.s4 | exact hS2.s5 | exact hS2.s6 | exact hS3.o | exact hS3.s0 | exact hS3.s1 | exact hS3.s2 | exact hS3.s3 | exact hS3.s4 | exact hS3.s5 | exact hS3.s6) rfl (by omega) rfl 0 0 (Nat.le_refl 0) (Nat.le_refl 0) ?_
    refine c_X7_full hC (fun w9 hs9 hC9 => ?_)
    refine q_ireturn (pc := 75) dX7_flew_75 rfl ?_
    first | exact zgo k (by unfold o_flew; rw [if_pos (by omega), if_neg (by omega)]) (hs2.wide (by omega) (by omega)) (hC.now hs2 hS2) | exact zgo k (by unfold o_flew; rw [if_pos (by omega), if_pos (by omega)]) hs9 hC9 | exact zgo k (by unfold o_flew; rw [if_neg (by omega)]) hs9 hC9
  refine q_aload_n (pc := 53) dX7_flew_53 rfl rfl ?_
  refine q_invokevirtual (pc := 54) (d' := d - 1) (mc' := 0) (ms' := 0) (As := []) (TX7, 15) cl_X7_66 dX7_flew_54 rfl rfl (by first | assumption | exact hS.o | exact hS.s0 | exact hS.s1 | exact hS.s2 | exact hS.s3 | exact hS.s4 | exact hS.s5 | exact hS.s6 | exact hS2.o | exact hS2.s0 | exact hS2.s1 | exact hS2.s2 | exact hS2.s3 | exact hS2.s4 | exact hS2.s5 | exact hS2.s6 | exact hS3.o | exact hS3.s0 | exact hS3.s1 | exact hS3.s2 | exact hS3.s3 | exact hS3.s4 | exact hS3.s5 | exact hS3.s6) rfl (by omega) rfl 0 0 (Nat.le_refl 0) (Nat.le_refl 0) ?_
  refine c_X7_bad (by omega) hC (fun w9 hs9 hC9 => ?_)
  refine q_ireturn (pc := 57) dX7_flew_57 rfl ?_
  first | exact zgo k (by unfold o_flew; rw [if_pos (by omega), if_neg (by omega)]) (hs2.wide (by omega) (by omega)) (hC.now hs2 hS2) | exact zgo k (by unfold o_flew; rw [if_pos (by omega), if_pos (by omega)]) hs9 hC9 | exact zgo k (by unfold o_flew; rw [if_neg (by omega)]) hs9 hC9
set_option maxRecDepth 100000 in
set_option maxHeartbeats 8000000 in
theorem c_X7_forget {x : Int} (hd : 6 ≤ d) (hC : zCl g w S) (hO : zOKS S) (h_x : zR32 x) (k : ∀ w', zSame w w' 0 72 → zCl g w' (o_forget S x).2 → K (some (zI (o_forget S x).1)) w') : zCall g d 0 0 mX7_forget [zR g 0, zI x] w K := by
  obtain ⟨hX, hS, hA, hB, hD, hI, hJ, hR, hT, hH⟩ := id hC
  have hO1 := hO.1
  have hO2 := hO1.1
  have hO3 := hO2.1
  refine zenter [some _, some _] pn_X7 rfl (Nat.le_of_ble_eq_true rfl) ?_
  refine q_iload_n (pc := 0) dX7_forget_0 rfl ?_
  refine q_top (fun x1 hx1 => ?_)
  by_cases c1_0 : x1 = 0
  · refine q_tableIn (pc := 1) 28 dX7_forget_1 c1_0 (by omega) (by decide) (by decide) rfl rfl ?_
    refine q_aload_n (pc := 28) dX7_forget_28 rfl rfl ?_
    refine q_getfield (pc := 29) gf_X7_10 dX7_forget_29 (by first | assumption | exact hS.o | exact hS.s0 | exact hS.s1 | exact hS.s2 | exact hS.s3 | exact hS.s4 | exact hS.s5 | exact hS.s6 | exact hS2.o | exact hS2.s0 | exact hS2.s1 | exact hS2.s2 | exact hS2.s3 | exact hS2.s4 | exact hS2.s5 | exact hS2.s6 | exact hS3.o | exact hS3.s0 | exact hS3.s1 | exact hS3.s2 | exact hS3.s3 | exact hS3.s4 | exact hS3.s5 | exact hS3.s6) rfl ?_
    refine q_getfield (pc := 32) gf_X7_237 dX7_forget_32 (by first | assumption | exact hS.o | exact hS.s0 | exact hS.s1 | exact hS.s2 | exact hS.s3 | exact hS.s4 | exact hS.s5 | exact hS.s6 | exact hS2.o | exact hS2.s0 | exact hS2.s1 | exact hS2.s2 | exact hS2.s3 | exact hS2.s4 | exact hS2.s5 | exact hS2.s6 | exact hS3.o | exact hS3.s0 | exact hS3.s1 | exact hS3.s2 | exact hS3.s3 | exact hS3.s4 | exact hS3.s5 | exact hS3.s6) rfl ?_
    refine q_invokevirtual (pc := 35) (d' := d - 1) (mc' := 0) (ms' := 0) (As := []) (TX4, 4) cl_X7_94 dX7_forget_35 rfl rfl (by first | assumption | exact hS.o | exact hS.s0 | exact hS.s1 | exact hS.s2 | exact hS.s3 | exact hS.s4 | exact hS.s5 | exact hS.s6 | exact hS2.o | exact hS2.s0 | exact hS2.s1 | exact hS2.s2 | exact hS2.s3 | exact hS2.s4 | exact hS2.s5 | exact hS2.s6 | exact hS3.o | exact hS3.s0 | exact hS3.s1 | exact hS3.s2 | exact hS3.s3 | exact hS3.s4 | exact hS3.s5 | exact hS3.s6) rfl (by omega) rfl 0 0 (Nat.le_refl 0) (Nat.le_refl 0) ?_
    refine s_empty_rings hS hO2 (fun w2 hs2 hS2 => ?_)
    refine q_ireturn (pc := 38) dX7_forget_38 rfl ?_
    exact zgo k (by (obtain rfl : x = 0 := by omega); unfold o_forget; rw [if_pos (by omega), show (5 : Int) + 0 = 5 by omega]) (hs2.wide (by omega) (by omega)) (hC.now hs2 hS2)
  by_cases c1_1 : x1 = 1
  · refine q_tableIn (pc := 1) 39 dX7_forget_1 c1_1 (by omega) (by decide) (by decide) rfl rfl ?_
    refine q_aload_n (pc := 39) dX7_forget_39 rfl rfl ?_
    refine q_getfield (pc := 40) gf_X7_10 dX7_forget_40 (by first | assumption | exact hS.o | exact hS.s0 | exact hS.s1 | exact hS.s2 | exact hS.s3 | exact hS.s4 | exact hS.s5 | exact hS.s6 | exact hS2.o | exact hS2.s0 | exact hS2.s1 | exact hS2.s2 | exact hS2.s3 | exact hS2.s4 | exact hS2.s5 | exact hS2.s6 | exact hS3.o | exact hS3.s0 | exact hS3.s1 | exact hS3.s2 | exact hS3.s3 | exact hS3.s4 | exact hS3.s5 | exact hS3.s6) rfl ?_
    refine q_getfield (pc := 43) gf_X7_250 dX7_forget_43 (by first | assumption | exact hS.o | exact hS.s0 | exact hS.s1 | exact hS.s2 | exact hS.s3 | exact hS.s4 | exact hS.s5 | exact hS.s6 | exact hS2.o | exact hS2.s0 | exact hS2.s1 | exact hS2.s2 | exact hS2.s3 | exact hS2.s4 | exact hS2.s5 | exact hS2.s6 | exact hS3.o | exact hS3.s0 | exact hS3.s1 | exact hS3.s2 | exact hS3.s3 | exact hS3.s4 | exact hS3.s5 | exact hS3.s6) rfl ?_
    refine q_invokevirtual (pc := 46) (d' := d - 1) (mc' := 0) (ms' := 0) (As := []) (TX4, 4) cl_X7_94 dX7_forget_46 rfl rfl (by first | assumption | exact hS.o | exact hS.s0 | exact hS.s1 | exact hS.s2 | exact hS.s3 | exact hS.s4 | exact hS.s5 | exact hS.s6 | exact hS2.o | exact hS2.s0 | exact hS2.s1 | exact hS2.s2 | exact hS2.s3 | exact hS2.s4 | exact hS2.s5 | exact hS2.s6 | exact hS3.o | exact hS3.s0 | exact hS3.s1 | exact hS3.s2 | exact hS3.s3 | exact hS3.s4 | exact hS3.s5 | exact hS3.s6) rfl (by omega) rfl 0 0 (Nat.le_refl 0) (Nat.le_refl 0) ?_
    refine s_empty_notes hS hO2 (fun w2 hs2 hS2 => ?_)
    refine q_ireturn (pc := 49) dX7_forget_49 rfl ?_
    exact zgo k (by (obtain rfl : x = 1 := by omega); unfold o_forget; rw [if_pos (by omega), show (5 : Int) + 1 = 6 by omega]) (hs2.wide (by omega) (by omega)) (hC.now hs2 hS2)
  by_cases c1_2 : x1 = 2
  · refine q_tableIn (pc := 1) 50 dX7_forget_1 c1_2 (by omega) (by decide) (by decide) rfl rfl ?_
    refine q_aload_n (pc := 50) dX7_forget_50 rfl rfl ?_
    refine q_getfield (pc := 51) gf_X7_10 dX7_forget_51 (by first | assumption | exact hS.o | exact hS.s0 | exact hS.s1 | exact hS.s2 | exact hS.s3 | exact hS.s4 | exact hS.s5 | exact hS.s6 | exact hS2.o | exact hS2.s0 | exact hS2.s1 | exact hS2.s2 | exact hS2.s3 | exact hS2.s4 | exact hS2.s5 | exact hS2.s6 | exact hS3.o | exact hS3.s0 | exact hS3.s1 | exact hS3.s2 | exact hS3.s3 | exact hS3.s4 | exact hS3.s5 | exact hS3.s6) rfl ?_
    refine q_getfield (pc := 54) gf_X7_253 dX7_forget_54 (by first | assumption | exact hS.o | exact hS.s0 | exact hS.s1 | exact hS.s2 | exact hS.s3 | exact hS.s4 | exact hS.s5 | exact hS.s6 | exact hS2.o | exact hS2.s0 | exact hS2.s1 | exact hS2.s2 | exact hS2.s3 | exact hS2.s4 | exact hS2.s5 | exact hS2.s6 | exact hS3.o | exact hS3.s0 | exact hS3.s1 | exact hS3.s2 | exact hS3.s3 | exact hS3.s4 | exact hS3.s5 | exact hS3.s6) rfl ?_
    refine q_invokevirtual (pc := 57) (d' := d - 1) (mc' := 0) (ms' := 0) (As := []) (TX4, 4) cl_X7_94 dX7_forget_57 rfl rfl (by first | assumption | exact hS.o | exact hS.s0 | exact hS.s1 | exact hS.s2 | exact hS.s3 | exact hS.s4 | exact hS.s5 | exact hS.s6 | exact hS2.o | exact hS2.s0 | exact hS2.s1 | exact hS2.s2 | exact hS2.s3 | exact hS2.s4 | exact hS2.s5 | exact hS2.s6 | exact hS3.o | exact hS3.s0 | exact hS3.s1 | exact hS3.s2 | exact hS3.s3 | exact hS3.s4 | exact hS3.s5 | exact hS3.s6) rfl (by omega) rfl 0 0 (Nat.le_refl 0) (Nat.le_refl 0) ?_
    refine s_empty_thrown hS hO2 (fun w2 hs2 hS2 => ?_)
    refine q_ireturn (pc := 60) dX7_forget_60 rfl ?_
    exact zgo k (by (obtain rfl : x = 2 := by omega); unfold o_forget; rw [if_pos (by omega), show (5 : Int) + 2 = 7 by omega]) (hs2.wide (by omega) (by omega)) (hC.now hs2 hS2)
  refine q_tableOut (pc := 1) 61 dX7_forget_1 (by omega) (by omega) rfl ?_
  refine q_aload_n (pc := 61) dX7_forget_61 rfl rfl ?_
  refine q_invokevirtual (pc := 62) (d' := d - 1) (mc' := 0) (ms' := 0) (As := []) (TX7, 15) cl_X7_66 dX7_forget_62 rfl rfl (by first | assumption | exact hS.o | exact hS.s0 | exact hS.s1 | exact hS.s2 | exact hS.s3 | exact hS.s4 | exact hS.s5 | exact hS.s6 | exact hS2.o | exact hS2.s0 | exact hS2.s1 | exact hS2.s2 | exact hS2.s3 | exact hS2.s4 | exact hS2.s5 | exact hS2.s6 | exact hS3.o | exact hS3.s0 | exact hS3.s1 | exact hS3.s2 | exact hS3.s3 | exact hS3.s4 | exact hS3.s5 | exact hS3.s6) rfl (by omega) rfl 0 0 (Nat.le_refl 0) (Nat.le_refl 0) ?_
  refine c_X7_bad (by omega) hC (fun w9 hs9 hC9 => ?_)
  refine q_ireturn (pc := 65) dX7_forget_65 rfl ?_
  exact zgo k (by unfold o_forget; rw [if_neg (by omega)]) hs9 hC9
set_option maxRecDepth 100000 in
set_option maxHeartbeats 8000000 in
theorem c_X7_watch {c : Int} (hd : 6 ≤ d) (hC : zCl g w S) (hO : zOKS S) (h_c : zR32 c) (k : ∀ w', zSame w w' 0 72 → zCl g w' (o_watch S c).2 → K (some (zI (o_watch S c).1)) w') : zCall g d 0 0 mX7_watch [zR g 0, zI c] w K := by
  obtain ⟨hX, hS, hA, hB, hD, hI, hJ, hR, hT, hH⟩ := id hC
  have hO1 := hO.1
  have hO2 := hO1.1
  have hO3 := hO2.1
  have hH8 := hH.2.2.2.2.2.2.2.1
  obtain ⟨f9, hG9⟩ := hH.2.2.2.2.2.2.2.2
  refine zenter [some _, some _] pn_X7 rfl (Nat.le_of_ble_eq_true rfl) ?_
  refine q_aload_n (pc := 0) dX7_watch_0 rfl rfl ?_
  refine q_getfield (pc := 1) gf_X7_10 dX7_watch_1 (by first | assumption | exact hS.o | exact hS.s0 | exact hS.s1 | exact hS.s2 | exact hS.s3 | exact hS.s4 | exact hS.s5 | exact hS.s6 | exact hS2.o | exact hS2.s0 | exact hS2.s1 | exact hS2.s2 | exact hS2.s3 | exact hS2.s4 | exact hS2.s5 | exact hS2.s6 | exact hS3.o | exact hS3.s0 | exact hS3.s1 | exact hS3.s2 | exact hS3.s3 | exact hS3.s4 | exact hS3.s5 | exact hS3.s6) rfl ?_
  refine q_getfield (pc := 4) gf_X7_70 dX7_watch_4 (by first | assumption | exact hS.o | exact hS.s0 | exact hS.s1 | exact hS.s2 | exact hS.s3 | exact hS.s4 | exact hS.s5 | exact hS.s6 | exact hS2.o | exact hS2.s0 | exact hS2.s1 | exact hS2.s2 | exact hS2.s3 | exact hS2.s4 | exact hS2.s5 | exact hS2.s6 | exact hS3.o | exact hS3.s0 | exact hS3.s1 | exact hS3.s2 | exact hS3.s3 | exact hS3.s4 | exact hS3.s5 | exact hS3.s6) rfl ?_
  refine q_iload_n (pc := 7) dX7_watch_7 rfl ?_
  refine q_invokevirtual (pc := 8) (d' := d - 1) (mc' := 0) (ms' := 0) (As := [_]) (TX4, 4) cl_X7_101 dX7_watch_8 rfl rfl (by first | assumption | exact hS.o | exact hS.s0 | exact hS.s1 | exact hS.s2 | exact hS.s3 | exact hS.s4 | exact hS.s5 | exact hS.s6 | exact hS2.o | exact hS2.s0 | exact hS2.s1 | exact hS2.s2 | exact hS2.s3 | exact hS2.s4 | exact hS2.s5 | exact hS2.s6 | exact hS3.o | exact hS3.s0 | exact hS3.s1 | exact hS3.s2 | exact hS3.s3 | exact hS3.s4 | exact hS3.s5 | exact hS3.s6) rfl (by omega) rfl 0 0 (Nat.le_refl 0) (Nat.le_refl 0) ?_
  first | refine s_hold0 hS hO3 (by omega) ?_ | refine s_hold1 hS hO3 (by omega) ?_ | refine s_hold2 hS hO3 (by omega) ?_ | refine s_hold3 hS hO3 (by omega) ?_
  refine q_ifb_eq (pc := 11) 25 dX7_watch_11 rfl (fun c11 => ?_) (fun c11 => ?_)
  · refine q_aload_n (pc := 25) dX7_watch_25 rfl rfl ?_
    refine q_invokevirtual (pc := 26) (d' := d - 1) (mc' := 0) (ms' := 0) (As := []) (TX7, 15) cl_X7_66 dX7_watch_26 rfl rfl (by first | assumption | exact hS.o | exact hS.s0 | exact hS.s1 | exact hS.s2 | exact hS.s3 | exact hS.s4 | exact hS.s5 | exact hS.s6 | exact hS2.o | exact hS2.s0 | exact hS2.s1 | exact hS2.s2 | exact hS2.s3 | exact hS2.s4 | exact hS2.s5 | exact hS2.s6 | exact hS3.o | exact hS3.s0 | exact hS3.s1 | exact hS3.s2 | exact hS3.s3 | exact hS3.s4 | exact hS3.s5 | exact hS3.s6) rfl (by omega) rfl 0 0 (Nat.le_refl 0) (Nat.le_refl 0) ?_
    refine c_X7_bad (by omega) hC (fun w9 hs9 hC9 => ?_)
    refine q_ireturn (pc := 29) dX7_watch_29 rfl ?_
    first | exact zgo k (by unfold o_watch; rw [if_pos (by omega)]) (hs2.wide (by omega) (by omega)) (hC.hlp (hs2.wide (by omega) (by omega)) (hH.p71 hs2 hG2)) | exact zgo k (by unfold o_watch; rw [if_neg (by omega)]) hs9 hC9
  refine q_aload_n (pc := 14) dX7_watch_14 rfl rfl ?_
  refine q_getfield (pc := 15) gf_X7_51 dX7_watch_15 (by first | assumption | exact hS.o | exact hS.s0 | exact hS.s1 | exact hS.s2 | exact hS.s3 | exact hS.s4 | exact hS.s5 | exact hS.s6 | exact hS2.o | exact hS2.s0 | exact hS2.s1 | exact hS2.s2 | exact hS2.s3 | exact hS2.s4 | exact hS2.s5 | exact hS2.s6 | exact hS3.o | exact hS3.s0 | exact hS3.s1 | exact hS3.s2 | exact hS3.s3 | exact hS3.s4 | exact hS3.s5 | exact hS3.s6) rfl ?_
  refine q_iload_n (pc := 18) dX7_watch_18 rfl ?_
  refine q_invokevirtual (pc := 19) (d' := d - 1) (mc' := 0) (ms' := 0) (As := [_]) (TX5, 2) cl_X7_259 dX7_watch_19 rfl rfl (by first | assumption | exact hS.o | exact hS.s0 | exact hS.s1 | exact hS.s2 | exact hS.s3 | exact hS.s4 | exact hS.s5 | exact hS.s6 | exact hS2.o | exact hS2.s0 | exact hS2.s1 | exact hS2.s2 | exact hS2.s3 | exact hS2.s4 | exact hS2.s5 | exact hS2.s6 | exact hS3.o | exact hS3.s0 | exact hS3.s1 | exact hS3.s2 | exact hS3.s3 | exact hS3.s4 | exact hS3.s5 | exact hS3.s6) rfl (by omega) rfl 0 0 (Nat.le_refl 0) (Nat.le_refl 0) ?_
  refine c_X5_weekToWatch (b := 1) (sb := 70) (by omega) hH8 hG9 hS hO2 (by omega) (by omega) (fun w2 f2 hs2 hG2 => ?_)
  refine q_goto (pc := 22) 29 dX7_watch_22 rfl ?_
  refine q_ireturn (pc := 29) dX7_watch_29 rfl ?_
  first | exact zgo k (by unfold o_watch; rw [if_pos (by omega)]) (hs2.wide (by omega) (by omega)) (hC.hlp (hs2.wide (by omega) (by omega)) (hH.p71 hs2 hG2)) | exact zgo k (by unfold o_watch; rw [if_neg (by omega)]) hs9 hC9
set_option maxRecDepth 100000 in
set_option maxHeartbeats 8000000 in
theorem c_X7_ask {s : Int} (hd : 6 ≤ d) (hC : zCl g w S) (hO : zOKS S) (h_s : zR32 s) (k : ∀ w', zSame w w' 0 72 → zCl g w' (o_ask S s).2 → K (some (zI (o_ask S s).1)) w') : zCall g d 0 0 mX7_ask [zR g 0, zI s] w K := by
  obtain ⟨hX, hS, hA, hB, hD, hI, hJ, hR, hT, hH⟩ := id hC
  have hO1 := hO.1
  have hO2 := hO1.1
  have hO3 := hO2.1
  have hH8 := hH.2.2.2.2.2.2.2.1
  obtain ⟨f9, hG9⟩ := hH.2.2.2.2.2.2.2.2
  refine zenter [some _, some _] pn_X7 rfl (Nat.le_of_ble_eq_true rfl) ?_
  refine q_aload_n (pc := 0) dX7_ask_0 rfl rfl ?_
  refine q_getfield (pc := 1) gf_X7_10 dX7_ask_1 (by first | assumption | exact hS.o | exact hS.s0 | exact hS.s1 | exact hS.s2 | exact hS.s3 | exact hS.s4 | exact hS.s5 | exact hS.s6 | exact hS2.o | exact hS2.s0 | exact hS2.s1 | exact hS2.s2 | exact hS2.s3 | exact hS2.s4 | exact hS2.s5 | exact hS2.s6 | exact hS3.o | exact hS3.s0 | exact hS3.s1 | exact hS3.s2 | exact hS3.s3 | exact hS3.s4 | exact hS3.s5 | exact hS3.s6) rfl ?_
  refine q_getfield (pc := 4) gf_X7_126 dX7_ask_4 (by first | assumption | exact hS.o | exact hS.s0 | exact hS.s1 | exact hS.s2 | exact hS.s3 | exact hS.s4 | exact hS.s5 | exact hS.s6 | exact hS2.o | exact hS2.s0 | exact hS2.s1 | exact hS2.s2 | exact hS2.s3 | exact hS2.s4 | exact hS2.s5 | exact hS2.s6 | exact hS3.o | exact hS3.s0 | exact hS3.s1 | exact hS3.s2 | exact hS3.s3 | exact hS3.s4 | exact hS3.s5 | exact hS3.s6) rfl ?_
  refine q_iload_n (pc := 7) dX7_ask_7 rfl ?_
  refine q_invokevirtual (pc := 8) (d' := d - 1) (mc' := 0) (ms' := 0) (As := [_]) (TX4, 4) cl_X7_101 dX7_ask_8 rfl rfl (by first | assumption | exact hS.o | exact hS.s0 | exact hS.s1 | exact hS.s2 | exact hS.s3 | exact hS.s4 | exact hS.s5 | exact hS.s6 | exact hS2.o | exact hS2.s0 | exact hS2.s1 | exact hS2.s2 | exact hS2.s3 | exact hS2.s4 | exact hS2.s5 | exact hS2.s6 | exact hS3.o | exact hS3.s0 | exact hS3.s1 | exact hS3.s2 | exact hS3.s3 | exact hS3.s4 | exact hS3.s5 | exact hS3.s6) rfl (by omega) rfl 0 0 (Nat.le_refl 0) (Nat.le_refl 0) ?_
  first | refine s_hold0 hS hO3 (by omega) ?_ | refine s_hold1 hS hO3 (by omega) ?_ | refine s_hold2 hS hO3 (by omega) ?_ | refine s_hold3 hS hO3 (by omega) ?_
  refine q_ifb_eq (pc := 11) 25 dX7_ask_11 rfl (fun c11 => ?_) (fun c11 => ?_)
  · refine q_aload_n (pc := 25) dX7_ask_25 rfl rfl ?_
    refine q_invokevirtual (pc := 26) (d' := d - 1) (mc' := 0) (ms' := 0) (As := []) (TX7, 15) cl_X7_66 dX7_ask_26 rfl rfl (by first | assumption | exact hS.o | exact hS.s0 | exact hS.s1 | exact hS.s2 | exact hS.s3 | exact hS.s4 | exact hS.s5 | exact hS.s6 | exact hS2.o | exact hS2.s0 | exact hS2.s1 | exact hS2.s2 | exact hS2.s3 | exact hS2.s4 | exact hS2.s5 | exact hS2.s6 | exact hS3.o | exact hS3.s0 | exact hS3.s1 | exact hS3.s2 | exact hS3.s3 | exact hS3.s4 | exact hS3.s5 | exact hS3.s6) rfl (by omega) rfl 0 0 (Nat.le_refl 0) (Nat.le_refl 0) ?_
    refine c_X7_bad (by omega) hC (fun w9 hs9 hC9 => ?_)
    refine q_ireturn (pc := 29) dX7_ask_29 rfl ?_
    first | exact zgo k (by unfold o_ask; rw [if_pos (by omega)]) (hs2.wide (by omega) (by omega)) (hC.hlp (hs2.wide (by omega) (by omega)) (hH.p71 hs2 hG2)) | exact zgo k (by unfold o_ask; rw [if_neg (by omega)]) hs9 hC9
  refine q_aload_n (pc := 14) dX7_ask_14 rfl rfl ?_
  refine q_getfield (pc := 15) gf_X7_51 dX7_ask_15 (by first | assumption | exact hS.o | exact hS.s0 | exact hS.s1 | exact hS.s2 | exact hS.s3 | exact hS.s4 | exact hS.s5 | exact hS.s6 | exact hS2.o | exact hS2.s0 | exact hS2.s1 | exact hS2.s2 | exact hS2.s3 | exact hS2.s4 | exact hS2.s5 | exact hS2.s6 | exact hS3.o | exact hS3.s0 | exact hS3.s1 | exact hS3.s2 | exact hS3.s3 | exact hS3.s4 | exact hS3.s5 | exact hS3.s6) rfl ?_
  refine q_iload_n (pc := 18) dX7_ask_18 rfl ?_
  refine q_invokevirtual (pc := 19) (d' := d - 1) (mc' := 0) (ms' := 0) (As := [_]) (TX5, 2) cl_X7_265 dX7_ask_19 rfl rfl (by first | assumption | exact hS.o | exact hS.s0 | exact hS.s1 | exact hS.s2 | exact hS.s3 | exact hS.s4 | exact hS.s5 | exact hS.s6 | exact hS2.o | exact hS2.s0 | exact hS2.s1 | exact hS2.s2 | exact hS2.s3 | exact hS2.s4 | exact hS2.s5 | exact hS2.s6 | exact hS3.o | exact hS3.s0 | exact hS3.s1 | exact hS3.s2 | exact hS3.s3 | exact hS3.s4 | exact hS3.s5 | exact hS3.s6) rfl (by omega) rfl 0 0 (Nat.le_refl 0) (Nat.le_refl 0) ?_
  refine c_X5_throwToAsk (b := 1) (sb := 70) (by omega) hH8 hG9 hS hO2 (by omega) (by omega) (fun w2 f2 hs2 hG2 => ?_)
  refine q_goto (pc := 22) 29 dX7_ask_22 rfl ?_
  refine q_ireturn (pc := 29) dX7_ask_29 rfl ?_
  first | exact zgo k (by unfold o_ask; rw [if_pos (by omega)]) (hs2.wide (by omega) (by omega)) (hC.hlp (hs2.wide (by omega) (by omega)) (hH.p71 hs2 hG2)) | exact zgo k (by unfold o_ask; rw [if_neg (by omega)]) hs9 hC9
set_option maxRecDepth 100000 in
set_option maxHeartbeats 8000000 in
theorem c_X7_gusts {s q r n c : Int} (hd : 6 ≤ d) (hC : zCl g w S) (hO : zOKS S) (h_s : zR32 s) (h_q : zR32 q) (h_r : zR32 r) (h_n : zR32 n) (h_c : zR32 c) (k : ∀ w', zSame w w' 0 72 → zCl g w' (o_gusts S s q r n c).2 → K (some (zI (o_gusts S s q r n c).1)) w') : zCall g d 0 0 mX7_gusts [zR g 0, zI s, zI q, zI r, zI n, zI c] w K := by
  obtain ⟨hX, hS, hA, hB, hD, hI, hJ, hR, hT, hH⟩ := id hC
  have hO1 := hO.1
  have hO2 := hO1.1
  have hO3 := hO2.1
  refine zenter [some _, some _, some _, some _, some _, some _, none, none] pn_X7 rfl (Nat.le_of_ble_eq_true rfl) ?_
  refine q_aload_n (pc := 0) dX7_gusts_0 rfl rfl ?_
  refine q_getfield (pc := 1) gf_X7_10 dX7_gusts_1 (by first | assumption | exact hS.o | exact hS.s0 | exact hS.s1 | exact hS.s2 | exact hS.s3 | exact hS.s4 | exact hS.s5 | exact hS.s6 | exact hS2.o | exact hS2.s0 | exact hS2.s1 | exact hS2.s2 | exact hS2.s3 | exact hS2.s4 | exact hS2.s5 | exact hS2.s6 | exact hS3.o | exact hS3.s0 | exact hS3.s1 | exact hS3.s2 | exact hS3.s3 | exact hS3.s4 | exact hS3.s5 | exact hS3.s6) rfl ?_
  refine q_getfield (pc := 4) gf_X7_126 dX7_gusts_4 (by first | assumption | exact hS.o | exact hS.s0 | exact hS.s1 | exact hS.s2 | exact hS.s3 | exact hS.s4 | exact hS.s5 | exact hS.s6 | exact hS2.o | exact hS2.s0 | exact hS2.s1 | exact hS2.s2 | exact hS2.s3 | exact hS2.s4 | exact hS2.s5 | exact hS2.s6 | exact hS3.o | exact hS3.s0 | exact hS3.s1 | exact hS3.s2 | exact hS3.s3 | exact hS3.s4 | exact hS3.s5 | exact hS3.s6) rfl ?_
  refine q_iload_n (pc := 7) dX7_gusts_7 rfl ?_
  refine q_invokevirtual (pc := 8) (d' := d - 1) (mc' := 0) (ms' := 0) (As := [_]) (TX4, 4) cl_X7_101 dX7_gusts_8 rfl rfl (by first | assumption | exact hS.o | exact hS.s0 | exact hS.s1 | exact hS.s2 | exact hS.s3 | exact hS.s4 | exact hS.s5 | exact hS.s6 | exact hS2.o | exact hS2.s0 | exact hS2.s1 | exact hS2.s2 | exact hS2.s3 | exact hS2.s4 | exact hS2.s5 | exact hS2.s6 | exact hS3.o | exact hS3.s0 | exact hS3.s1 | exact hS3.s2 | exact hS3.s3 | exact hS3.s4 | exact hS3.s5 | exact hS3.s6) rfl (by omega) rfl 0 0 (Nat.le_refl 0) (Nat.le_refl 0) ?_
  first | refine s_hold0 hS hO3 (by omega) ?_ | refine s_hold1 hS hO3 (by omega) ?_ | refine s_hold2 hS hO3 (by omega) ?_ | refine s_hold3 hS hO3 (by omega) ?_
  refine q_ifb_eq (pc := 11) 57 dX7_gusts_11 rfl (fun c11 => ?_) (fun c11 => ?_)
  · refine q_aload_n (pc := 57) dX7_gusts_57 rfl rfl ?_
    refine q_invokevirtual (pc := 58) (d' := d - 1) (mc' := 0) (ms' := 0) (As := []) (TX7, 15) cl_X7_66 dX7_gusts_58 rfl rfl (by first | assumption | exact hS.o | exact hS.s0 | exact hS.s1 | exact hS.s2 | exact hS.s3 | exact hS.s4 | exact hS.s5 | exact hS.s6 | exact hS2.o | exact hS2.s0 | exact hS2.s1 | exact hS2.s2 | exact hS2.s3 | exact hS2.s4 | exact hS2.s5 | exact hS2.s6 | exact hS3.o | exact hS3.s0 | exact hS3.s1 | exact hS3.s2 | exact hS3.s3 | exact hS3.s4 | exact hS3.s5 | exact hS3.s6) rfl (by omega) rfl 0 0 (Nat.le_refl 0) (Nat.le_refl 0) ?_
    refine c_X7_bad (by omega) hC (fun w9 hs9 hC9 => ?_)
    refine q_ireturn (pc := 61) dX7_gusts_61 rfl ?_
    first | exact zgo k (by unfold o_gusts; rw [if_pos (by omega)]) hs2 hC2 | exact zgo k (by unfold o_gusts; rw [if_neg (by omega)]) hs9 hC9
  refine q_aload_n (pc := 14) dX7_gusts_14 rfl rfl ?_
  refine q_getfield (pc := 15) gf_X7_10 dX7_gusts_15 (by first | assumption | exact hS.o | exact hS.s0 | exact hS.s1 | exact hS.s2 | exact hS.s3 | exact hS.s4 | exact hS.s5 | exact hS.s6 | exact hS2.o | exact hS2.s0 | exact hS2.s1 | exact hS2.s2 | exact hS2.s3 | exact hS2.s4 | exact hS2.s5 | exact hS2.s6 | exact hS3.o | exact hS3.s0 | exact hS3.s1 | exact hS3.s2 | exact hS3.s3 | exact hS3.s4 | exact hS3.s5 | exact hS3.s6) rfl ?_
  refine q_getfield (pc := 18) gf_X7_132 dX7_gusts_18 (by first | assumption | exact hS.o | exact hS.s0 | exact hS.s1 | exact hS.s2 | exact hS.s3 | exact hS.s4 | exact hS.s5 | exact hS.s6 | exact hS2.o | exact hS2.s0 | exact hS2.s1 | exact hS2.s2 | exact hS2.s3 | exact hS2.s4 | exact hS2.s5 | exact hS2.s6 | exact hS3.o | exact hS3.s0 | exact hS3.s1 | exact hS3.s2 | exact hS3.s3 | exact hS3.s4 | exact hS3.s5 | exact hS3.s6) rfl ?_
  refine q_iload_n (pc := 21) dX7_gusts_21 rfl ?_
  refine q_invokevirtual (pc := 22) (d' := d - 1) (mc' := 0) (ms' := 0) (As := [_]) (TX4, 4) cl_X7_101 dX7_gusts_22 rfl rfl (by first | assumption | exact hS.o | exact hS.s0 | exact hS.s1 | exact hS.s2 | exact hS.s3 | exact hS.s4 | exact hS.s5 | exact hS.s6 | exact hS2.o | exact hS2.s0 | exact hS2.s1 | exact hS2.s2 | exact hS2.s3 | exact hS2.s4 | exact hS2.s5 | exact hS2.s6 | exact hS3.o | exact hS3.s0 | exact hS3.s1 | exact hS3.s2 | exact hS3.s3 | exact hS3.s4 | exact hS3.s5 | exact hS3.s6) rfl (by omega) rfl 0 0 (Nat.le_refl 0) (Nat.le_refl 0) ?_
  first | refine s_hold0 hS hO3 (by omega) ?_ | refine s_hold1 hS hO3 (by omega) ?_ | refine s_hold2 hS hO3 (by omega) ?_ | refine s_hold3 hS hO3 (by omega) ?_
  refine q_ifb_eq (pc := 25) 57 dX7_gusts_25 rfl (fun c25 => ?_) (fun c25 => ?_)
  · refine q_aload_n (pc := 57) dX7_gusts_57 rfl rfl ?_
    refine q_invokevirtual (pc := 58) (d' := d - 1) (mc' := 0) (ms' := 0) (As := []) (TX7, 15) cl_X7_66 dX7_gusts_58 rfl rfl (by first | assumption | exact hS.o | exact hS.s0 | exact hS.s1 | exact hS.s2 | exact hS.s3 | exact hS.s4 | exact hS.s5 | exact hS.s6 | exact hS2.o | exact hS2.s0 | exact hS2.s1 | exact hS2.s2 | exact hS2.s3 | exact hS2.s4 | exact hS2.s5 | exact hS2.s6 | exact hS3.o | exact hS3.s0 | exact hS3.s1 | exact hS3.s2 | exact hS3.s3 | exact hS3.s4 | exact hS3.s5 | exact hS3.s6) rfl (by omega) rfl 0 0 (Nat.le_refl 0) (Nat.le_refl 0) ?_
    refine c_X7_bad (by omega) hC (fun w9 hs9 hC9 => ?_)
    refine q_ireturn (pc := 61) dX7_gusts_61 rfl ?_
    first | exact zgo k (by unfold o_gusts; rw [if_pos (by omega)]) hs2 hC2 | exact zgo k (by unfold o_gusts; rw [if_neg (by omega)]) hs9 hC9
  refine q_iload_n (pc := 28) dX7_gusts_28 rfl ?_
  refine q_invokestatic (pc := 29) (d' := d - 1) (mc' := 0) (ms' := 0) (As := [_]) cl_X7_105 dX7_gusts_29 rfl rfl (by omega) rfl 0 0 (Nat.le_refl 0) (Nat.le_refl 0) ?_
  refine c_X7_isRings (by omega) (by omega) ?_
  refine q_ifb_eq (pc := 32) 57 dX7_gusts_32 rfl (fun c32 => ?_) (fun c32 => ?_)
  · refine q_aload_n (pc := 57) dX7_gusts_57 rfl rfl ?_
    refine q_invokevirtual (pc := 58) (d' := d - 1) (mc' := 0) (ms' := 0) (As := []) (TX7, 15) cl_X7_66 dX7_gusts_58 rfl rfl (by first | assumption | exact hS.o | exact hS.s0 | exact hS.s1 | exact hS.s2 | exact hS.s3 | exact hS.s4 | exact hS.s5 | exact hS.s6 | exact hS2.o | exact hS2.s0 | exact hS2.s1 | exact hS2.s2 | exact hS2.s3 | exact hS2.s4 | exact hS2.s5 | exact hS2.s6 | exact hS3.o | exact hS3.s0 | exact hS3.s1 | exact hS3.s2 | exact hS3.s3 | exact hS3.s4 | exact hS3.s5 | exact hS3.s6) rfl (by omega) rfl 0 0 (Nat.le_refl 0) (Nat.le_refl 0) ?_
    refine c_X7_bad (by omega) hC (fun w9 hs9 hC9 => ?_)
    refine q_ireturn (pc := 61) dX7_gusts_61 rfl ?_
    first | exact zgo k (by unfold o_gusts; rw [if_pos (by omega)]) hs2 hC2 | exact zgo k (by unfold o_gusts; rw [if_neg (by omega)]) hs9 hC9
  refine q_iload (pc := 35) dX7_gusts_35 rfl ?_
  refine q_iconst (pc := 37) dX7_gusts_37 ?_
  refine q_bipush (pc := 38) (by decide) dX7_gusts_38 ?_
  refine q_invokestatic (pc := 40) (d' := d - 1) (mc' := 0) (ms' := 0) (As := [_, _, _]) cl_X7_62 dX7_gusts_40 rfl rfl (by omega) rfl 0 0 (Nat.le_refl 0) (Nat.le_refl 0) ?_
  refine c_X7_within (by omega) (by omega) (by omega) ?_
  refine q_ifb_eq (pc := 43) 57 dX7_gusts_43 rfl (fun c43 => ?_) (fun c43 => ?_)
  · refine q_aload_n (pc := 57) dX7_gusts_57 rfl rfl ?_
    refine q_invokevirtual (pc := 58) (d' := d - 1) (mc' := 0) (ms' := 0) (As := []) (TX7, 15) cl_X7_66 dX7_gusts_58 rfl rfl (by first | assumption | exact hS.o | exact hS.s0 | exact hS.s1 | exact hS.s2 | exact hS.s3 | exact hS.s4 | exact hS.s5 | exact hS.s6 | exact hS2.o | exact hS2.s0 | exact hS2.s1 | exact hS2.s2 | exact hS2.s3 | exact hS2.s4 | exact hS2.s5 | exact hS2.s6 | exact hS3.o | exact hS3.s0 | exact hS3.s1 | exact hS3.s2 | exact hS3.s3 | exact hS3.s4 | exact hS3.s5 | exact hS3.s6) rfl (by omega) rfl 0 0 (Nat.le_refl 0) (Nat.le_refl 0) ?_
    refine c_X7_bad (by omega) hC (fun w9 hs9 hC9 => ?_)
    refine q_ireturn (pc := 61) dX7_gusts_61 rfl ?_
    first | exact zgo k (by unfold o_gusts; rw [if_pos (by omega)]) hs2 hC2 | exact zgo k (by unfold o_gusts; rw [if_neg (by omega)]) hs9 hC9
  refine q_iload (pc := 46) dX7_gusts_46 rfl ?_
  refine q_iconst (pc := 48) dX7_gusts_48 ?_
  refine q_bipush (pc := 49) (by decide) dX7_gusts_49 ?_
  refine q_invokestatic (pc := 51) (d' := d - 1) (mc' := 0) (ms' := 0) (As := [_, _, _]) cl_X7_62 dX7_gusts_51 rfl rfl (by omega) rfl 0 0 (Nat.le_refl 0) (Nat.le_refl 0) ?_
  refine c_X7_within (by omega) (by omega) (by omega) ?_
  refine q_ifb_ne (pc := 54) 62 dX7_gusts_54 rfl (fun c54 => ?_) (fun c54 => ?_)
  · refine q_aload_n (pc := 62) dX7_gusts_62 rfl rfl ?_
    refine q_getfield (pc := 63) gf_X7_10 dX7_gusts_63 (by first | assumption | exact hS.o | exact hS.s0 | exact hS.s1 | exact hS.s2 | exact hS.s3 | exact hS.s4 | exact hS.s5 | exact hS.s6 | exact hS2.o | exact hS2.s0 | exact hS2.s1 | exact hS2.s2 | exact hS2.s3 | exact hS2.s4 | exact hS2.s5 | exact hS2.s6 | exact hS3.o | exact hS3.s0 | exact hS3.s1 | exact hS3.s2 | exact hS3.s3 | exact hS3.s4 | exact hS3.s5 | exact hS3.s6) rfl ?_
    refine q_iload_n (pc := 66) dX7_gusts_66 rfl ?_
    refine q_iload_n (pc := 67) dX7_gusts_67 rfl ?_
    refine q_iload_n (pc := 68) dX7_gusts_68 rfl ?_
    refine q_aload_n (pc := 69) dX7_gusts_69 rfl rfl ?_
    refine q_getfield (pc := 70) gf_X7_10 dX7_gusts_70 (by first | assumption | exact hS.o | exact hS.s0 | exact hS.s1 | exact hS.s2 | exact hS.s3 | exact hS.s4 | exact hS.s5 | exact hS.s6 | exact hS2.o | exact hS2.s0 | exact hS2.s1 | exact hS2.s2 | exact hS2.s3 | exact hS2.s4 | exact hS2.s5 | exact hS2.s6 | exact hS3.o | exact hS3.s0 | exact hS3.s1 | exact hS3.s2 | exact hS3.s3 | exact hS3.s4 | exact hS3.s5 | exact hS3.s6) rfl ?_
    refine q_getfield (pc := 73) gf_X7_182 dX7_gusts_73 (by first | assumption | exact hS.o | exact hS.s0 | exact hS.s1 | exact hS.s2 | exact hS.s3 | exact hS.s4 | exact hS.s5 | exact hS.s6 | exact hS2.o | exact hS2.s0 | exact hS2.s1 | exact hS2.s2 | exact hS2.s3 | exact hS2.s4 | exact hS2.s5 | exact hS2.s6 | exact hS3.o | exact hS3.s0 | exact hS3.s1 | exact hS3.s2 | exact hS3.s3 | exact hS3.s4 | exact hS3.s5 | exact hS3.s6) rfl ?_
    refine q_invokevirtual (pc := 76) (d' := d - 1) (mc' := 0) (ms' := 0) (As := [_, _, _, _]) (TX6, 9) cl_X7_271 dX7_gusts_76 rfl rfl (by first | assumption | exact hS.o | exact hS.s0 | exact hS.s1 | exact hS.s2 | exact hS.s3 | exact hS.s4 | exact hS.s5 | exact hS.s6 | exact hS2.o | exact hS2.s0 | exact hS2.s1 | exact hS2.s2 | exact hS2.s3 | exact hS2.s4 | exact hS2.s5 | exact hS2.s6 | exact hS3.o | exact hS3.s0 | exact hS3.s1 | exact hS3.s2 | exact hS3.s3 | exact hS3.s4 | exact hS3.s5 | exact hS3.s6) rfl (by omega) rfl 0 0 (Nat.le_refl 0) (Nat.le_refl 0) ?_
    refine c_X6_hitsAt (by omega) hS hO2 (by omega) (by omega) (by omega) (by omega) ?_
    refine q_istore (pc := 79) [some _, some _, some _, some _, some _, some _, some _, none] dX7_gusts_79 rfl (Nat.le_of_ble_eq_true rfl) rfl ?_
    refine q_aload_n (pc := 81) dX7_gusts_81 rfl rfl ?_
    refine q_getfield (pc := 82) gf_X7_10 dX7_gusts_82 (by first | assumption | exact hS.o | exact hS.s0 | exact hS.s1 | exact hS.s2 | exact hS.s3 | exact hS.s4 | exact hS.s5 | exact hS.s6 | exact hS2.o | exact hS2.s0 | exact hS2.s1 | exact hS2.s2 | exact hS2.s3 | exact hS2.s4 | exact hS2.s5 | exact hS2.s6 | exact hS3.o | exact hS3.s0 | exact hS3.s1 | exact hS3.s2 | exact hS3.s3 | exact hS3.s4 | exact hS3.s5 | exact hS3.s6) rfl ?_
    refine q_iload_n (pc := 85) dX7_gusts_85 rfl ?_
    refine q_iload_n (pc := 86) dX7_gusts_86 rfl ?_
    refine q_iload_n (pc := 87) dX7_gusts_87 rfl ?_
    refine q_bipush (pc := 88) (by decide) dX7_gusts_88 ?_
    refine q_aload_n (pc := 90) dX7_gusts_90 rfl rfl ?_
    refine q_getfield (pc := 91) gf_X7_10 dX7_gusts_91 (by first | assumption | exact hS.o | exact hS.s0 | exact hS.s1 | exact hS.s2 | exact hS.s3 | exact hS.s4 | exact hS.s5 | exact hS.s6 | exact hS2.o | exact hS2.s0 | exact hS2.s1 | exact hS2.s2 | exact hS2.s3 | exact hS2.s4 | exact hS2.s5 | exact hS2.s6 | exact hS3.o | exact hS3.s0 | exact hS3.s1 | exact hS3.s2 | exact hS3.s3 | exact hS3.s4 | exact hS3.s5 | exact hS3.s6) rfl ?_
    refine q_getfield (pc := 94) gf_X7_182 dX7_gusts_94 (by first | assumption | exact hS.o | exact hS.s0 | exact hS.s1 | exact hS.s2 | exact hS.s3 | exact hS.s4 | exact hS.s5 | exact hS.s6 | exact hS2.o | exact hS2.s0 | exact hS2.s1 | exact hS2.s2 | exact hS2.s3 | exact hS2.s4 | exact hS2.s5 | exact hS2.s6 | exact hS3.o | exact hS3.s0 | exact hS3.s1 | exact hS3.s2 | exact hS3.s3 | exact hS3.s4 | exact hS3.s5 | exact hS3.s6) rfl ?_
    refine q_iconst (pc := 97) dX7_gusts_97 ?_
    refine q_iadd (pc := 98) dX7_gusts_98 ?_
    refine q_min (pc := 99) tw_2_66 tw_2_67 tw_1_4 tw_2_68 dX7_gusts_99 (by omega) rfl (by omega) (by omega) ?_
    refine q_invokevirtual (pc := 102) (d' := d - 1) (mc' := 0) (ms' := 0) (As := [_, _, _, _]) (TX6, 9) cl_X7_271 dX7_gusts_102 rfl rfl (by first | assumption | exact hS.o | exact hS.s0 | exact hS.s1 | exact hS.s2 | exact hS.s3 | exact hS.s4 | exact hS.s5 | exact hS.s6 | exact hS2.o | exact hS2.s0 | exact hS2.s1 | exact hS2.s2 | exact hS2.s3 | exact hS2.s4 | exact hS2.s5 | exact hS2.s6 | exact hS3.o | exact hS3.s0 | exact hS3.s1 | exact hS3.s2 | exact hS3.s3 | exact hS3.s4 | exact hS3.s5 | exact hS3.s6) rfl (by omega) rfl 0 0 (Nat.le_refl 0) (Nat.le_refl 0) ?_
    refine c_X6_hitsAt (by omega) hS hO2 (by omega) (by omega) (by omega) (by omega) ?_
    refine q_istore (pc := 105) [some _, some _, some _, some _, some _, some _, some _, some _] dX7_gusts_105 rfl (Nat.le_of_ble_eq_true rfl) rfl ?_
    have hgb := zgust_b (N := S.1.1) (s := s) (q := q) (r := r) (n := n) (c := c) (by omega) (by omega) (by omega)
    refine q_aload_n (pc := 107) dX7_gusts_107 rfl rfl ?_
    refine q_iload (pc := 108) dX7_gusts_108 rfl ?_
    refine q_iload (pc := 110) dX7_gusts_110 rfl ?_
    refine q_iload (pc := 112) dX7_gusts_112 rfl ?_
    refine q_imul (pc := 114) dX7_gusts_114 ?_
    refine q_bipush (pc := 115) (by decide) dX7_gusts_115 ?_
    refine q_iload (pc := 117) dX7_gusts_117 rfl ?_
    refine q_isub (pc := 119) dX7_gusts_119 ?_
    refine q_iload (pc := 120) dX7_gusts_120 rfl ?_
    refine q_imul (pc := 122) dX7_gusts_122 ?_
    refine q_iadd (pc := 123) dX7_gusts_123 ?_
    refine q_imul (pc := 124) dX7_gusts_124 ?_
    refine q_bipush (pc := 125) (by decide) dX7_gusts_125 ?_
    refine q_invokevirtual (pc := 127) (d' := d - 1) (mc' := 0) (ms' := 0) (As := [_, _]) (TX7, 15) cl_X7_274 dX7_gusts_127 rfl rfl (by first | assumption | exact hS.o | exact hS.s0 | exact hS.s1 | exact hS.s2 | exact hS.s3 | exact hS.s4 | exact hS.s5 | exact hS.s6 | exact hS2.o | exact hS2.s0 | exact hS2.s1 | exact hS2.s2 | exact hS2.s3 | exact hS2.s4 | exact hS2.s5 | exact hS2.s6 | exact hS3.o | exact hS3.s0 | exact hS3.s1 | exact hS3.s2 | exact hS3.s3 | exact hS3.s4 | exact hS3.s5 | exact hS3.s6) rfl (by omega) rfl 0 0 (Nat.le_refl 0) (Nat.le_refl 0) ?_
    refine c_X7_keepFraction (top := zgust S.1.1 s q r n c) hC (by omega) (fun w2 hs2 hC2 => ?_)
    refine q_iconst (pc := 130) dX7_gusts_130 ?_
    refine q_ireturn (pc := 131) dX7_gusts_131 rfl ?_
    first | exact zgo k (by unfold o_gusts; rw [if_pos (by omega)]) hs2 hC2 | exact zgo k (by unfold o_gusts; rw [if_neg (by omega)]) hs9 hC9
  refine q_aload_n (pc := 57) dX7_gusts_57 rfl rfl ?_
  refine q_invokevirtual (pc := 58) (d' := d - 1) (mc' := 0) (ms' := 0) (As := []) (TX7, 15) cl_X7_66 dX7_gusts_58 rfl rfl (by first | assumption | exact hS.o | exact hS.s0 | exact hS.s1 | exact hS.s2 | exact hS.s3 | exact hS.s4 | exact hS.s5 | exact hS.s6 | exact hS2.o | exact hS2.s0 | exact hS2.s1 | exact hS2.s2 | exact hS2.s3 | exact hS2.s4 | exact hS2.s5 | exact hS2.s6 | exact hS3.o | exact hS3.s0 | exact hS3.s1 | exact hS3.s2 | exact hS3.s3 | exact hS3.s4 | exact hS3.s5 | exact hS3.s6) rfl (by omega) rfl 0 0 (Nat.le_refl 0) (Nat.le_refl 0) ?_
  refine c_X7_bad (by omega) hC (fun w9 hs9 hC9 => ?_)
  refine q_ireturn (pc := 61) dX7_gusts_61 rfl ?_
  first | exact zgo k (by unfold o_gusts; rw [if_pos (by omega)]) hs2 hC2 | exact zgo k (by unfold o_gusts; rw [if_neg (by omega)]) hs9 hC9
set_option maxRecDepth 100000 in
set_option maxHeartbeats 8000000 in
theorem c_X7_part {x : Int} (hd : 6 ≤ d) (hC : zCl g w S) (hO : zOKS S) (h_x : zR32 x) (k : ∀ w', zSame w w' 0 72 → zCl g w' (o_part S x).2 → K (some (zJ (o_part S x).1)) w') : zCall g d 0 0 mX7_part [zR g 0, zI x] w K := by
  obtain ⟨hX, hS, hA, hB, hD, hI, hJ, hR, hT, hH⟩ := id hC
  have hO1 := hO.1
  have hO2 := hO1.1
  have hO3 := hO2.1
  refine zenter [some _, some _] pn_X7 rfl (Nat.le_of_ble_eq_true rfl) ?_
  refine q_iload_n (pc := 0) dX7_part_0 rfl ?_
  refine q_top (fun x1 hx1 => ?_)
  by_cases c1_0 : x1 = 0
  · refine q_lookup (pc := 1) 28 dX7_part_1 (by omega) rfl (by rw [c1_0]) rfl ?_
    refine q_aload_n (pc := 28) dX7_part_28 rfl rfl ?_
    refine q_getfield (pc := 29) gf_X7_55 dX7_part_29 (by first | assumption | exact hS.o | exact hS.s0 | exact hS.s1 | exact hS.s2 | exact hS.s3 | exact hS.s4 | exact hS.s5 | exact hS.s6 | exact hS2.o | exact hS2.s0 | exact hS2.s1 | exact hS2.s2 | exact hS2.s3 | exact hS2.s4 | exact hS2.s5 | exact hS2.s6 | exact hS3.o | exact hS3.s0 | exact hS3.s1 | exact hS3.s2 | exact hS3.s3 | exact hS3.s4 | exact hS3.s5 | exact hS3.s6) rfl ?_
    refine q_lreturn (pc := 32) dX7_part_32 rfl ?_
    first | exact zgoJ k (by unfold o_part; rw [if_pos (by omega)]) zSame.rf hC | exact zgoJ k (by unfold o_part; rw [if_neg (by omega), if_pos (by omega)]) zSame.rf hC | exact zgoJ k (by unfold o_part; rw [if_neg (by omega), if_neg (by omega)]) hs9 hC9
  by_cases c1_1 : x1 = 1
  · refine q_lookup (pc := 1) 33 dX7_part_1 (by omega) rfl (by rw [c1_1]) rfl ?_
    refine q_aload_n (pc := 33) dX7_part_33 rfl rfl ?_
    refine q_getfield (pc := 34) gf_X7_59 dX7_part_34 (by first | assumption | exact hS.o | exact hS.s0 | exact hS.s1 | exact hS.s2 | exact hS.s3 | exact hS.s4 | exact hS.s5 | exact hS.s6 | exact hS2.o | exact hS2.s0 | exact hS2.s1 | exact hS2.s2 | exact hS2.s3 | exact hS2.s4 | exact hS2.s5 | exact hS2.s6 | exact hS3.o | exact hS3.s0 | exact hS3.s1 | exact hS3.s2 | exact hS3.s3 | exact hS3.s4 | exact hS3.s5 | exact hS3.s6) rfl ?_
    refine q_lreturn (pc := 37) dX7_part_37 rfl ?_
    first | exact zgoJ k (by unfold o_part; rw [if_pos (by omega)]) zSame.rf hC | exact zgoJ k (by unfold o_part; rw [if_neg (by omega), if_pos (by omega)]) zSame.rf hC | exact zgoJ k (by unfold o_part; rw [if_neg (by omega), if_neg (by omega)]) hs9 hC9
  refine q_lookup (pc := 1) (o := 37) 38 dX7_part_1 (by omega) rfl (by rw [Op.lookupswitch.offset_cons, if_neg (fun q9 => c1_0 q9.symm), Op.lookupswitch.offset_cons, if_neg (fun q9 => c1_1 q9.symm)]; try rfl) rfl ?_
  refine q_aload_n (pc := 38) dX7_part_38 rfl rfl ?_
  refine q_invokevirtual (pc := 39) (d' := d - 1) (mc' := 0) (ms' := 0) (As := []) (TX7, 15) cl_X7_66 dX7_part_39 rfl rfl (by first | assumption | exact hS.o | exact hS.s0 | exact hS.s1 | exact hS.s2 | exact hS.s3 | exact hS.s4 | exact hS.s5 | exact hS.s6 | exact hS2.o | exact hS2.s0 | exact hS2.s1 | exact hS2.s2 | exact hS2.s3 | exact hS2.s4 | exact hS2.s5 | exact hS2.s6 | exact hS3.o | exact hS3.s0 | exact hS3.s1 | exact hS3.s2 | exact hS3.s3 | exact hS3.s4 | exact hS3.s5 | exact hS3.s6) rfl (by omega) rfl 0 0 (Nat.le_refl 0) (Nat.le_refl 0) ?_
  refine c_X7_bad (by omega) hC (fun w9 hs9 hC9 => ?_)
  refine q_i2l (pc := 42) dX7_part_42 (by omega) ?_
  refine q_lreturn (pc := 43) dX7_part_43 rfl ?_
  first | exact zgoJ k (by unfold o_part; rw [if_pos (by omega)]) zSame.rf hC | exact zgoJ k (by unfold o_part; rw [if_neg (by omega), if_pos (by omega)]) zSame.rf hC | exact zgoJ k (by unfold o_part; rw [if_neg (by omega), if_neg (by omega)]) hs9 hC9
set_option maxRecDepth 100000 in
set_option maxHeartbeats 8000000 in
theorem c_X7_image {i : Int} (hd : 6 ≤ d) (hC : zCl g w S) (hO : zOKS S) (h_i : zR32 i) (k : ∀ w', zSame w w' 0 72 → zCl g w' (o_image S i).2 → K (some (zI (o_image S i).1)) w') : zCall g d 0 0 mX7_image [zR g 0, zI i] w K := by
  obtain ⟨hX, hS, hA, hB, hD, hI, hJ, hR, hT, hH⟩ := id hC
  have hO1 := hO.1
  have hO2 := hO1.1
  have hO3 := hO2.1
  obtain ⟨aa3, aa4, an0, an1, an2, an3, an4, an5, an6, aC0, aC1, aC2, aC3, aC4, aC5, aC6, hA7⟩ := hA.s7
  have hAo := hA7.o
  obtain ⟨ba3, ba4, bn0, bn1, bn2, bn3, bn4, bn5, bn6, bC0, bC1, bC2, bC3, bC4, bC5, bC6, hB7⟩ := hB.s7
  have hBo := hB7.o
  refine zenter [some _, some _] pn_X7 rfl (Nat.le_of_ble_eq_true rfl) ?_
  refine q_iload_n (pc := 0) dX7_image_0 rfl ?_
  refine q_top (fun x1 hx1 => ?_)
  by_cases c1_0 : x1 = 0
  · refine q_lookup (pc := 1) 28 dX7_image_1 (by omega) rfl (by rw [c1_0]) rfl ?_
    refine q_aload_n (pc := 28) dX7_image_28 rfl rfl ?_
    refine q_getfield (pc := 29) gf_X7_16 dX7_image_29 (by first | assumption | exact hS.o | exact hS.s0 | exact hS.s1 | exact hS.s2 | exact hS.s3 | exact hS.s4 | exact hS.s5 | exact hS.s6 | exact hS2.o | exact hS2.s0 | exact hS2.s1 | exact hS2.s2 | exact hS2.s3 | exact hS2.s4 | exact hS2.s5 | exact hS2.s6 | exact hS3.o | exact hS3.s0 | exact hS3.s1 | exact hS3.s2 | exact hS3.s3 | exact hS3.s4 | exact hS3.s5 | exact hS3.s6) rfl ?_
    refine q_aload_n (pc := 32) dX7_image_32 rfl rfl ?_
    refine q_getfield (pc := 33) gf_X7_10 dX7_image_33 (by first | assumption | exact hS.o | exact hS.s0 | exact hS.s1 | exact hS.s2 | exact hS.s3 | exact hS.s4 | exact hS.s5 | exact hS.s6 | exact hS2.o | exact hS2.s0 | exact hS2.s1 | exact hS2.s2 | exact hS2.s3 | exact hS2.s4 | exact hS2.s5 | exact hS2.s6 | exact hS3.o | exact hS3.s0 | exact hS3.s1 | exact hS3.s2 | exact hS3.s3 | exact hS3.s4 | exact hS3.s5 | exact hS3.s6) rfl ?_
    refine q_invokevirtual (pc := 36) (d' := d - 1) (mc' := 0) (ms' := 0) (As := [_]) (TX6, 9) cl_X7_151 dX7_image_36 rfl rfl hAo rfl (by omega) rfl 0 0 (Nat.le_refl 0) (Nat.le_refl 0) ?_
    refine c_X6_copyFrom (b := 16) (b2 := 1) (by omega) hA hS hO2 hO1.2.1 (by omega) (fun w2 hs2 hS2 => ?_)
    have hX2 := (hs2.2 0 (by omega)).trans hX
    refine q_aload_n (pc := 39) dX7_image_39 rfl rfl ?_
    refine q_iconst (pc := 40) dX7_image_40 ?_
    refine q_putfield2 (pc := 41) [_, _, _, _, _, _, _, _, _, _, _, _, _, _, _] pf_X7_282 dX7_image_41 (by first | assumption | exact hS.o | exact hS.s0 | exact hS.s1 | exact hS.s2 | exact hS.s3 | exact hS.s4 | exact hS.s5 | exact hS.s6 | exact hS2.o | exact hS2.s0 | exact hS2.s1 | exact hS2.s2 | exact hS2.s3 | exact hS2.s4 | exact hS2.s5 | exact hS2.s6 | exact hS3.o | exact hS3.s0 | exact hS3.s1 | exact hS3.s2 | exact hS3.s3 | exact hS3.s4 | exact hS3.s5 | exact hS3.s6) rfl rfl (Nat.le_of_ble_eq_true rfl) rfl ?_
    refine q_iconst (pc := 44) dX7_image_44 ?_
    refine q_ireturn (pc := 45) dX7_image_45 rfl ?_
    exact zgo k (by (obtain rfl : i = 0 := by omega); unfold o_image; rw [if_pos (by omega)]) ((hs2.wide (by omega) (by omega)).tr (zSame.up (by omega))) (hC.img0 hO hs2 hS2 (by rw [zObj]; simp only [zfu_00.1, zfu_00.2.1, zfu_00.2.2]))
  by_cases c1_1 : x1 = 1
  · refine q_lookup (pc := 1) 46 dX7_image_1 (by omega) rfl (by rw [c1_1]) rfl ?_
    refine q_aload_n (pc := 46) dX7_image_46 rfl rfl ?_
    refine q_getfield (pc := 47) gf_X7_19 dX7_image_47 (by first | assumption | exact hS.o | exact hS.s0 | exact hS.s1 | exact hS.s2 | exact hS.s3 | exact hS.s4 | exact hS.s5 | exact hS.s6 | exact hS2.o | exact hS2.s0 | exact hS2.s1 | exact hS2.s2 | exact hS2.s3 | exact hS2.s4 | exact hS2.s5 | exact hS2.s6 | exact hS3.o | exact hS3.s0 | exact hS3.s1 | exact hS3.s2 | exact hS3.s3 | exact hS3.s4 | exact hS3.s5 | exact hS3.s6) rfl ?_
    refine q_aload_n (pc := 50) dX7_image_50 rfl rfl ?_
    refine q_getfield (pc := 51) gf_X7_10 dX7_image_51 (by first | assumption | exact hS.o | exact hS.s0 | exact hS.s1 | exact hS.s2 | exact hS.s3 | exact hS.s4 | exact hS.s5 | exact hS.s6 | exact hS2.o | exact hS2.s0 | exact hS2.s1 | exact hS2.s2 | exact hS2.s3 | exact hS2.s4 | exact hS2.s5 | exact hS2.s6 | exact hS3.o | exact hS3.s0 | exact hS3.s1 | exact hS3.s2 | exact hS3.s3 | exact hS3.s4 | exact hS3.s5 | exact hS3.s6) rfl ?_
    refine q_invokevirtual (pc := 54) (d' := d - 1) (mc' := 0) (ms' := 0) (As := [_]) (TX6, 9) cl_X7_151 dX7_image_54 rfl rfl hBo rfl (by omega) rfl 0 0 (Nat.le_refl 0) (Nat.le_refl 0) ?_
    refine c_X6_copyFrom (b := 31) (b2 := 1) (by omega) hB hS hO2 hO1.2.1 (by omega) (fun w2 hs2 hS2 => ?_)
    have hX2 := (hs2.2 0 (by omega)).trans hX
    refine q_aload_n (pc := 57) dX7_image_57 rfl rfl ?_
    refine q_iconst (pc := 58) dX7_image_58 ?_
    refine q_putfield2 (pc := 59) [_, _, _, _, _, _, _, _, _, _, _, _, _, _, _] pf_X7_286 dX7_image_59 (by first | assumption | exact hS.o | exact hS.s0 | exact hS.s1 | exact hS.s2 | exact hS.s3 | exact hS.s4 | exact hS.s5 | exact hS.s6 | exact hS2.o | exact hS2.s0 | exact hS2.s1 | exact hS2.s2 | exact hS2.s3 | exact hS2.s4 | exact hS2.s5 | exact hS2.s6 | exact hS3.o | exact hS3.s0 | exact hS3.s1 | exact hS3.s2 | exact hS3.s3 | exact hS3.s4 | exact hS3.s5 | exact hS3.s6) rfl rfl (Nat.le_of_ble_eq_true rfl) rfl ?_
    refine q_iconst (pc := 62) dX7_image_62 ?_
    refine q_ireturn (pc := 63) dX7_image_63 rfl ?_
    exact zgo k (by (obtain rfl : i = 1 := by omega); unfold o_image; rw [if_pos (by omega)]) ((hs2.wide (by omega) (by omega)).tr (zSame.up (by omega))) (hC.img1 hO hs2 hS2 (by rw [zObj]; simp only [zfu_11.1, zfu_11.2.1, zfu_11.2.2]))
  refine q_lookup (pc := 1) (o := 63) 64 dX7_image_1 (by omega) rfl (by rw [Op.lookupswitch.offset_cons, if_neg (fun q9 => c1_0 q9.symm), Op.lookupswitch.offset_cons, if_neg (fun q9 => c1_1 q9.symm)]; try rfl) rfl ?_
  refine q_aload_n (pc := 64) dX7_image_64 rfl rfl ?_
  refine q_invokevirtual (pc := 65) (d' := d - 1) (mc' := 0) (ms' := 0) (As := []) (TX7, 15) cl_X7_66 dX7_image_65 rfl rfl (by first | assumption | exact hS.o | exact hS.s0 | exact hS.s1 | exact hS.s2 | exact hS.s3 | exact hS.s4 | exact hS.s5 | exact hS.s6 | exact hS2.o | exact hS2.s0 | exact hS2.s1 | exact hS2.s2 | exact hS2.s3 | exact hS2.s4 | exact hS2.s5 | exact hS2.s6 | exact hS3.o | exact hS3.s0 | exact hS3.s1 | exact hS3.s2 | exact hS3.s3 | exact hS3.s4 | exact hS3.s5 | exact hS3.s6) rfl (by omega) rfl 0 0 (Nat.le_refl 0) (Nat.le_refl 0) ?_
  refine c_X7_bad (by omega) hC (fun w9 hs9 hC9 => ?_)
  refine q_ireturn (pc := 68) dX7_image_68 rfl ?_
  exact zgo k (by unfold o_image; rw [if_neg (by omega)]) hs9 hC9
set_option maxRecDepth 100000 in
set_option maxHeartbeats 8000000 in
theorem c_X7_from {i : Int} (hd : 6 ≤ d) (hC : zCl g w S) (hO : zOKS S) (h_i : zR32 i) (k : ∀ w', zSame w w' 0 72 → zCl g w' (o_from S i).2 → K (some (zI (o_from S i).1)) w') : zCall g d 0 0 mX7_from [zR g 0, zI i] w K := by
  obtain ⟨hX, hS, hA, hB, hD, hI, hJ, hR, hT, hH⟩ := id hC
  have hO1 := hO.1
  have hO2 := hO1.1
  have hO3 := hO2.1
  by_cases h0 : i = 0
  · subst h0
    have hk := hO.2.2 0 (by omega) (by omega)
    have hk1 := hk.1
    refine zenter [some _, some _, none] pn_X7 rfl (Nat.le_of_ble_eq_true rfl) ?_
    refine q_iload_n (pc := 0) dX7_from_0 rfl ?_
    refine q_iconst (pc := 1) dX7_from_1 ?_
    refine q_iconst (pc := 2) dX7_from_2 ?_
    refine q_invokestatic (pc := 3) (d' := d - 1) (mc' := 0) (ms' := 0) (As := [_, _, _]) cl_X7_62 dX7_from_3 rfl rfl (by omega) rfl 0 0 (Nat.le_refl 0) (Nat.le_refl 0) ?_
    refine c_X7_within (by omega) (by omega) (by omega) ?_
    refine q_ifb_ne (pc := 6) 14 dX7_from_6 rfl (fun c6 => ?_) (fun c6 => ?_)
    · refine q_iload_n (pc := 14) dX7_from_14 rfl ?_
      refine q_if_ne (pc := 15) (by omega) 25 dX7_from_15 rfl (fun c15 => ?_) (fun c15 => ?_)
      · exfalso; omega
      refine q_aload_n (pc := 18) dX7_from_18 rfl rfl ?_
      refine q_getfield (pc := 19) gf_X7_282 dX7_from_19 (by first | assumption | exact hS.o | exact hS.s0 | exact hS.s1 | exact hS.s2 | exact hS.s3 | exact hS.s4 | exact hS.s5 | exact hS.s6 | exact hS2.o | exact hS2.s0 | exact hS2.s1 | exact hS2.s2 | exact hS2.s3 | exact hS2.s4 | exact hS2.s5 | exact hS2.s6 | exact hS3.o | exact hS3.s0 | exact hS3.s1 | exact hS3.s2 | exact hS3.s3 | exact hS3.s4 | exact hS3.s5 | exact hS3.s6) rfl ?_
      refine q_goto (pc := 22) 29 dX7_from_22 rfl ?_
      refine q_istore_n (pc := 29) [some _, some _, some _] dX7_from_29 rfl (Nat.le_of_ble_eq_true rfl) rfl ?_
      refine q_iload_n (pc := 30) dX7_from_30 rfl ?_
      refine q_if_ne (pc := 31) (by omega) 39 dX7_from_31 rfl (fun c31 => ?_) (fun c31 => ?_)
      · refine q_aload_n (pc := 39) dX7_from_39 rfl rfl ?_
        refine q_getfield (pc := 40) gf_X7_10 dX7_from_40 (by first | assumption | exact hS.o | exact hS.s0 | exact hS.s1 | exact hS.s2 | exact hS.s3 | exact hS.s4 | exact hS.s5 | exact hS.s6 | exact hS2.o | exact hS2.s0 | exact hS2.s1 | exact hS2.s2 | exact hS2.s3 | exact hS2.s4 | exact hS2.s5 | exact hS2.s6 | exact hS3.o | exact hS3.s0 | exact hS3.s1 | exact hS3.s2 | exact hS3.s3 | exact hS3.s4 | exact hS3.s5 | exact hS3.s6) rfl ?_
        refine q_iload_n (pc := 43) dX7_from_43 rfl ?_
        refine q_if_ne (pc := 44) (by omega) 54 dX7_from_44 rfl (fun c44 => ?_) (fun c44 => ?_)
        · exfalso; omega
        refine q_aload_n (pc := 47) dX7_from_47 rfl rfl ?_
        refine q_getfield (pc := 48) gf_X7_16 dX7_from_48 (by first | assumption | exact hS.o | exact hS.s0 | exact hS.s1 | exact hS.s2 | exact hS.s3 | exact hS.s4 | exact hS.s5 | exact hS.s6 | exact hS2.o | exact hS2.s0 | exact hS2.s1 | exact hS2.s2 | exact hS2.s3 | exact hS2.s4 | exact hS2.s5 | exact hS2.s6 | exact hS3.o | exact hS3.s0 | exact hS3.s1 | exact hS3.s2 | exact hS3.s3 | exact hS3.s4 | exact hS3.s5 | exact hS3.s6) rfl ?_
        refine q_goto (pc := 51) 58 dX7_from_51 rfl ?_
        refine q_invokevirtual (pc := 58) (d' := d - 1) (mc' := 0) (ms' := 0) (As := [_]) (TX6, 9) cl_X7_151 dX7_from_58 rfl rfl (by first | assumption | exact hS.o | exact hS.s0 | exact hS.s1 | exact hS.s2 | exact hS.s3 | exact hS.s4 | exact hS.s5 | exact hS.s6 | exact hS2.o | exact hS2.s0 | exact hS2.s1 | exact hS2.s2 | exact hS2.s3 | exact hS2.s4 | exact hS2.s5 | exact hS2.s6 | exact hS3.o | exact hS3.s0 | exact hS3.s1 | exact hS3.s2 | exact hS3.s3 | exact hS3.s4 | exact hS3.s5 | exact hS3.s6) rfl (by omega) rfl 0 0 (Nat.le_refl 0) (Nat.le_refl 0) ?_
        refine c_X6_copyFrom (b := 1) (b2 := 16) (by omega) hS.shp (hI (by omega)) (hk.2 (by omega)).1 (hk.2 (by omega)).2.1 (by omega) (fun w2 hs2 hS2 => ?_)
        refine q_iconst (pc := 61) dX7_from_61 ?_
        refine q_ireturn (pc := 62) dX7_from_62 rfl ?_
        first | exact zgo k (by unfold o_from; rw [if_pos (by omega), if_neg (by omega)]) (hs2.wide (by omega) (by omega)) (hC.now hs2 hS2) | exact zgo k (by unfold o_from; rw [if_pos (by omega), if_pos (by omega)]) hs9 hC9 | exact zgo k (by unfold o_from; rw [if_neg (by omega)]) hs9 hC9
      refine q_aload_n (pc := 34) dX7_from_34 rfl rfl ?_
      refine q_invokevirtual (pc := 35) (d' := d - 1) (mc' := 0) (ms' := 0) (As := []) (TX7, 15) cl_X7_172 dX7_from_35 rfl rfl (by first | assumption | exact hS.o | exact hS.s0 | exact hS.s1 | exact hS.s2 | exact hS.s3 | exact hS.s4 | exact hS.s5 | exact hS.s6 | exact hS2.o | exact hS2.s0 | exact hS2.s1 | exact hS2.s2 | exact hS2.s3 | exact hS2.s4 | exact hS2.s5 | exact hS2.s6 | exact hS3.o | exact hS3.s0 | exact hS3.s1 | exact hS3.s2 | exact hS3.s3 | exact hS3.s4 | exact hS3.s5 | exact hS3.s6) rfl (by omega) rfl 0 0 (Nat.le_refl 0) (Nat.le_refl 0) ?_
      refine c_X7_no hC (fun w9 hs9 hC9 => ?_)
      refine q_ireturn (pc := 38) dX7_from_38 rfl ?_
      first | exact zgo k (by unfold o_from; rw [if_pos (by omega), if_neg (by omega)]) (hs2.wide (by omega) (by omega)) (hC.now hs2 hS2) | exact zgo k (by unfold o_from; rw [if_pos (by omega), if_pos (by omega)]) hs9 hC9 | exact zgo k (by unfold o_from; rw [if_neg (by omega)]) hs9 hC9
    exfalso; omega
  by_cases h1 : i = 1
  · subst h1
    have hk := hO.2.2 1 (by omega) (by omega)
    have hk1 := hk.1
    refine zenter [some _, some _, none] pn_X7 rfl (Nat.le_of_ble_eq_true rfl) ?_
    refine q_iload_n (pc := 0) dX7_from_0 rfl ?_
    refine q_iconst (pc := 1) dX7_from_1 ?_
    refine q_iconst (pc := 2) dX7_from_2 ?_
    refine q_invokestatic (pc := 3) (d' := d - 1) (mc' := 0) (ms' := 0) (As := [_, _, _]) cl_X7_62 dX7_from_3 rfl rfl (by omega) rfl 0 0 (Nat.le_refl 0) (Nat.le_refl 0) ?_
    refine c_X7_within (by omega) (by omega) (by omega) ?_
    refine q_ifb_ne (pc := 6) 14 dX7_from_6 rfl (fun c6 => ?_) (fun c6 => ?_)
    · refine q_iload_n (pc := 14) dX7_from_14 rfl ?_
      refine q_if_ne (pc := 15) (by omega) 25 dX7_from_15 rfl (fun c15 => ?_) (fun c15 => ?_)
      · refine q_aload_n (pc := 25) dX7_from_25 rfl rfl ?_
        refine q_getfield (pc := 26) gf_X7_286 dX7_from_26 (by first | assumption | exact hS.o | exact hS.s0 | exact hS.s1 | exact hS.s2 | exact hS.s3 | exact hS.s4 | exact hS.s5 | exact hS.s6 | exact hS2.o | exact hS2.s0 | exact hS2.s1 | exact hS2.s2 | exact hS2.s3 | exact hS2.s4 | exact hS2.s5 | exact hS2.s6 | exact hS3.o | exact hS3.s0 | exact hS3.s1 | exact hS3.s2 | exact hS3.s3 | exact hS3.s4 | exact hS3.s5 | exact hS3.s6) rfl ?_
        refine q_istore_n (pc := 29) [some _, some _, some _] dX7_from_29 rfl (Nat.le_of_ble_eq_true rfl) rfl ?_
        refine q_iload_n (pc := 30) dX7_from_30 rfl ?_
        refine q_if_ne (pc := 31) (by omega) 39 dX7_from_31 rfl (fun c31 => ?_) (fun c31 => ?_)
        · refine q_aload_n (pc := 39) dX7_from_39 rfl rfl ?_
          refine q_getfield (pc := 40) gf_X7_10 dX7_from_40 (by first | assumption | exact hS.o | exact hS.s0 | exact hS.s1 | exact hS.s2 | exact hS.s3 | exact hS.s4 | exact hS.s5 | exact hS.s6 | exact hS2.o | exact hS2.s0 | exact hS2.s1 | exact hS2.s2 | exact hS2.s3 | exact hS2.s4 | exact hS2.s5 | exact hS2.s6 | exact hS3.o | exact hS3.s0 | exact hS3.s1 | exact hS3.s2 | exact hS3.s3 | exact hS3.s4 | exact hS3.s5 | exact hS3.s6) rfl ?_
          refine q_iload_n (pc := 43) dX7_from_43 rfl ?_
          refine q_if_ne (pc := 44) (by omega) 54 dX7_from_44 rfl (fun c44 => ?_) (fun c44 => ?_)
          · refine q_aload_n (pc := 54) dX7_from_54 rfl rfl ?_
            refine q_getfield (pc := 55) gf_X7_19 dX7_from_55 (by first | assumption | exact hS.o | exact hS.s0 | exact hS.s1 | exact hS.s2 | exact hS.s3 | exact hS.s4 | exact hS.s5 | exact hS.s6 | exact hS2.o | exact hS2.s0 | exact hS2.s1 | exact hS2.s2 | exact hS2.s3 | exact hS2.s4 | exact hS2.s5 | exact hS2.s6 | exact hS3.o | exact hS3.s0 | exact hS3.s1 | exact hS3.s2 | exact hS3.s3 | exact hS3.s4 | exact hS3.s5 | exact hS3.s6) rfl ?_
            refine q_invokevirtual (pc := 58) (d' := d - 1) (mc' := 0) (ms' := 0) (As := [_]) (TX6, 9) cl_X7_151 dX7_from_58 rfl rfl (by first | assumption | exact hS.o | exact hS.s0 | exact hS.s1 | exact hS.s2 | exact hS.s3 | exact hS.s4 | exact hS.s5 | exact hS.s6 | exact hS2.o | exact hS2.s0 | exact hS2.s1 | exact hS2.s2 | exact hS2.s3 | exact hS2.s4 | exact hS2.s5 | exact hS2.s6 | exact hS3.o | exact hS3.s0 | exact hS3.s1 | exact hS3.s2 | exact hS3.s3 | exact hS3.s4 | exact hS3.s5 | exact hS3.s6) rfl (by omega) rfl 0 0 (Nat.le_refl 0) (Nat.le_refl 0) ?_
            refine c_X6_copyFrom (b := 1) (b2 := 31) (by omega) hS.shp (hJ (by omega)) (hk.2 (by omega)).1 (hk.2 (by omega)).2.1 (by omega) (fun w2 hs2 hS2 => ?_)
            refine q_iconst (pc := 61) dX7_from_61 ?_
            refine q_ireturn (pc := 62) dX7_from_62 rfl ?_
            first | exact zgo k (by unfold o_from; rw [if_pos (by omega), if_neg (by omega)]) (hs2.wide (by omega) (by omega)) (hC.now hs2 hS2) | exact zgo k (by unfold o_from; rw [if_pos (by omega), if_pos (by omega)]) hs9 hC9 | exact zgo k (by unfold o_from; rw [if_neg (by omega)]) hs9 hC9
          exfalso; omega
        refine q_aload_n (pc := 34) dX7_from_34 rfl rfl ?_
        refine q_invokevirtual (pc := 35) (d' := d - 1) (mc' := 0) (ms' := 0) (As := []) (TX7, 15) cl_X7_172 dX7_from_35 rfl rfl (by first | assumption | exact hS.o | exact hS.s0 | exact hS.s1 | exact hS.s2 | exact hS.s3 | exact hS.s4 | exact hS.s5 | exact hS.s6 | exact hS2.o | exact hS2.s0 | exact hS2.s1 | exact hS2.s2 | exact hS2.s3 | exact hS2.s4 | exact hS2.s5 | exact hS2.s6 | exact hS3.o | exact hS3.s0 | exact hS3.s1 | exact hS3.s2 | exact hS3.s3 | exact hS3.s4 | exact hS3.s5 | exact hS3.s6) rfl (by omega) rfl 0 0 (Nat.le_refl 0) (Nat.le_refl 0) ?_
        refine c_X7_no hC (fun w9 hs9 hC9 => ?_)
        refine q_ireturn (pc := 38) dX7_from_38 rfl ?_
        first | exact zgo k (by unfold o_from; rw [if_pos (by omega), if_neg (by omega)]) (hs2.wide (by omega) (by omega)) (hC.now hs2 hS2) | exact zgo k (by unfold o_from; rw [if_pos (by omega), if_pos (by omega)]) hs9 hC9 | exact zgo k (by unfold o_from; rw [if_neg (by omega)]) hs9 hC9
      exfalso; omega
    exfalso; omega
  · have hz0 := h0
    refine zenter [some _, some _, none] pn_X7 rfl (Nat.le_of_ble_eq_true rfl) ?_
    refine q_iload_n (pc := 0) dX7_from_0 rfl ?_
    refine q_iconst (pc := 1) dX7_from_1 ?_
    refine q_iconst (pc := 2) dX7_from_2 ?_
    refine q_invokestatic (pc := 3) (d' := d - 1) (mc' := 0) (ms' := 0) (As := [_, _, _]) cl_X7_62 dX7_from_3 rfl rfl (by omega) rfl 0 0 (Nat.le_refl 0) (Nat.le_refl 0) ?_
    refine c_X7_within (by omega) (by omega) (by omega) ?_
    refine q_ifb_ne (pc := 6) 14 dX7_from_6 rfl (fun c6 => ?_) (fun c6 => ?_)
    · exfalso; omega
    refine q_aload_n (pc := 9) dX7_from_9 rfl rfl ?_
    refine q_invokevirtual (pc := 10) (d' := d - 1) (mc' := 0) (ms' := 0) (As := []) (TX7, 15) cl_X7_66 dX7_from_10 rfl rfl (by first | assumption | exact hS.o | exact hS.s0 | exact hS.s1 | exact hS.s2 | exact hS.s3 | exact hS.s4 | exact hS.s5 | exact hS.s6 | exact hS2.o | exact hS2.s0 | exact hS2.s1 | exact hS2.s2 | exact hS2.s3 | exact hS2.s4 | exact hS2.s5 | exact hS2.s6 | exact hS3.o | exact hS3.s0 | exact hS3.s1 | exact hS3.s2 | exact hS3.s3 | exact hS3.s4 | exact hS3.s5 | exact hS3.s6) rfl (by omega) rfl 0 0 (Nat.le_refl 0) (Nat.le_refl 0) ?_
    refine c_X7_bad (by omega) hC (fun w9 hs9 hC9 => ?_)
    refine q_ireturn (pc := 13) dX7_from_13 rfl ?_
    exact zgo k (by unfold o_from; rw [if_neg (by omega)]) hs9 hC9
set_option maxRecDepth 100000 in
set_option maxHeartbeats 8000000 in
theorem c_X7_status {x : Int} (hd : 6 ≤ d) (hC : zCl g w S) (hO : zOKS S) (h_x : zR32 x) (k : ∀ w', zSame w w' 0 72 → zCl g w' (o_status S x).2 → K (some (zI (o_status S x).1)) w') : zCall g d 0 0 mX7_status [zR g 0, zI x] w K := by
  obtain ⟨hX, hS, hA, hB, hD, hI, hJ, hR, hT, hH⟩ := id hC
  have hO1 := hO.1
  have hO2 := hO1.1
  have hO3 := hO2.1
  refine zenter [some _, some _] pn_X7 rfl (Nat.le_of_ble_eq_true rfl) ?_
  refine q_iload_n (pc := 0) dX7_status_0 rfl ?_
  refine q_top (fun x1 hx1 => ?_)
  by_cases c1_0 : x1 = 0
  · refine q_tableIn (pc := 1) 28 dX7_status_1 c1_0 (by omega) (by decide) (by decide) rfl rfl ?_
    refine q_aload_n (pc := 28) dX7_status_28 rfl rfl ?_
    refine q_getfield (pc := 29) gf_X7_289 dX7_status_29 (by first | assumption | exact hS.o | exact hS.s0 | exact hS.s1 | exact hS.s2 | exact hS.s3 | exact hS.s4 | exact hS.s5 | exact hS.s6 | exact hS2.o | exact hS2.s0 | exact hS2.s1 | exact hS2.s2 | exact hS2.s3 | exact hS2.s4 | exact hS2.s5 | exact hS2.s6 | exact hS3.o | exact hS3.s0 | exact hS3.s1 | exact hS3.s2 | exact hS3.s3 | exact hS3.s4 | exact hS3.s5 | exact hS3.s6) rfl ?_
    refine q_ireturn (pc := 32) dX7_status_32 rfl ?_
    exact zgo k (by (obtain rfl : x = 0 := by omega); unfold o_status; rw [if_pos (by omega)]) zSame.rf hC
  by_cases c1_1 : x1 = 1
  · refine q_tableIn (pc := 1) 33 dX7_status_1 c1_1 (by omega) (by decide) (by decide) rfl rfl ?_
    refine q_aload_n (pc := 33) dX7_status_33 rfl rfl ?_
    refine q_getfield (pc := 34) gf_X7_292 dX7_status_34 (by first | assumption | exact hS.o | exact hS.s0 | exact hS.s1 | exact hS.s2 | exact hS.s3 | exact hS.s4 | exact hS.s5 | exact hS.s6 | exact hS2.o | exact hS2.s0 | exact hS2.s1 | exact hS2.s2 | exact hS2.s3 | exact hS2.s4 | exact hS2.s5 | exact hS2.s6 | exact hS3.o | exact hS3.s0 | exact hS3.s1 | exact hS3.s2 | exact hS3.s3 | exact hS3.s4 | exact hS3.s5 | exact hS3.s6) rfl ?_
    refine q_ireturn (pc := 37) dX7_status_37 rfl ?_
    exact zgo k (by (obtain rfl : x = 1 := by omega); unfold o_status; rw [if_pos (by omega)]) zSame.rf hC
  by_cases c1_2 : x1 = 2
  · refine q_tableIn (pc := 1) 38 dX7_status_1 c1_2 (by omega) (by decide) (by decide) rfl rfl ?_
    refine q_aload_n (pc := 38) dX7_status_38 rfl rfl ?_
    refine q_getfield (pc := 39) gf_X7_295 dX7_status_39 (by first | assumption | exact hS.o | exact hS.s0 | exact hS.s1 | exact hS.s2 | exact hS.s3 | exact hS.s4 | exact hS.s5 | exact hS.s6 | exact hS2.o | exact hS2.s0 | exact hS2.s1 | exact hS2.s2 | exact hS2.s3 | exact hS2.s4 | exact hS2.s5 | exact hS2.s6 | exact hS3.o | exact hS3.s0 | exact hS3.s1 | exact hS3.s2 | exact hS3.s3 | exact hS3.s4 | exact hS3.s5 | exact hS3.s6) rfl ?_
    refine q_ireturn (pc := 42) dX7_status_42 rfl ?_
    exact zgo k (by (obtain rfl : x = 2 := by omega); unfold o_status; rw [if_pos (by omega)]) zSame.rf hC
  refine q_tableOut (pc := 1) 43 dX7_status_1 (by omega) (by omega) rfl ?_
  refine q_aload_n (pc := 43) dX7_status_43 rfl rfl ?_
  refine q_iconst (pc := 44) dX7_status_44 ?_
  refine q_invokevirtual (pc := 45) (d' := d - 1) (mc' := 0) (ms' := 0) (As := [_]) (TX7, 15) cl_X7_222 dX7_status_45 rfl rfl (by first | assumption | exact hS.o | exact hS.s0 | exact hS.s1 | exact hS.s2 | exact hS.s3 | exact hS.s4 | exact hS.s5 | exact hS.s6 | exact hS2.o | exact hS2.s0 | exact hS2.s1 | exact hS2.s2 | exact hS2.s3 | exact hS2.s4 | exact hS2.s5 | exact hS2.s6 | exact hS3.o | exact hS3.s0 | exact hS3.s1 | exact hS3.s2 | exact hS3.s3 | exact hS3.s4 | exact hS3.s5 | exact hS3.s6) rfl (by omega) rfl 0 0 (Nat.le_refl 0) (Nat.le_refl 0) ?_
  refine c_X7_refusedAsBad hC (fun w9 hs9 hC9 => ?_)
  refine q_ireturn (pc := 48) dX7_status_48 rfl ?_
  exact zgo k (by unfold o_status; rw [if_neg (by omega)]) hs9 hC9
set_option maxRecDepth 100000 in
set_option maxHeartbeats 8000000 in
theorem c_X7_count {x : Int} (hd : 6 ≤ d) (hC : zCl g w S) (hO : zOKS S) (h_x : zR32 x) (k : ∀ w', zSame w w' 0 72 → zCl g w' (o_count S x).2 → K (some (zI (o_count S x).1)) w') : zCall g d 0 0 mX7_count [zR g 0, zI x] w K := by
  obtain ⟨hX, hS, hA, hB, hD, hI, hJ, hR, hT, hH⟩ := id hC
  have hO1 := hO.1
  have hO2 := hO1.1
  have hO3 := hO2.1
  refine zenter [some _, some _] pn_X7 rfl (Nat.le_of_ble_eq_true rfl) ?_
  refine q_iload_n (pc := 0) dX7_count_0 rfl ?_
  refine q_iconst (pc := 1) dX7_count_1 ?_
  refine q_bipush (pc := 2) (by decide) dX7_count_2 ?_
  refine q_invokestatic (pc := 4) (d' := d - 1) (mc' := 0) (ms' := 0) (As := [_, _, _]) cl_X7_62 dX7_count_4 rfl rfl (by omega) rfl 0 0 (Nat.le_refl 0) (Nat.le_refl 0) ?_
  refine c_X7_within (by omega) (by omega) (by omega) ?_
  refine q_ifb_eq (pc := 7) 18 dX7_count_7 rfl (fun c7 => ?_) (fun c7 => ?_)
  · refine q_aload_n (pc := 18) dX7_count_18 rfl rfl ?_
    refine q_invokevirtual (pc := 19) (d' := d - 1) (mc' := 0) (ms' := 0) (As := []) (TX7, 15) cl_X7_66 dX7_count_19 rfl rfl (by first | assumption | exact hS.o | exact hS.s0 | exact hS.s1 | exact hS.s2 | exact hS.s3 | exact hS.s4 | exact hS.s5 | exact hS.s6 | exact hS2.o | exact hS2.s0 | exact hS2.s1 | exact hS2.s2 | exact hS2.s3 | exact hS2.s4 | exact hS2.s5 | exact hS2.s6 | exact hS3.o | exact hS3.s0 | exact hS3.s1 | exact hS3.s2 | exact hS3.s3 | exact hS3.s4 | exact hS3.s5 | exact hS3.s6) rfl (by omega) rfl 0 0 (Nat.le_refl 0) (Nat.le_refl 0) ?_
    refine c_X7_bad (by omega) hC (fun w9 hs9 hC9 => ?_)
    refine q_ireturn (pc := 22) dX7_count_22 rfl ?_
    first | exact zgo k (by unfold o_count; rw [if_pos (by omega)]) zSame.rf hC | exact zgo k (by unfold o_count; rw [if_neg (by omega)]) hs9 hC9
  refine q_aload_n (pc := 10) dX7_count_10 rfl rfl ?_
  refine q_iload_n (pc := 11) dX7_count_11 rfl ?_
  refine q_invokevirtual (pc := 12) (d' := d - 1) (mc' := 0) (ms' := 0) (As := [_]) (TX7, 15) cl_X7_298 dX7_count_12 rfl rfl (by first | assumption | exact hS.o | exact hS.s0 | exact hS.s1 | exact hS.s2 | exact hS.s3 | exact hS.s4 | exact hS.s5 | exact hS.s6 | exact hS2.o | exact hS2.s0 | exact hS2.s1 | exact hS2.s2 | exact hS2.s3 | exact hS2.s4 | exact hS2.s5 | exact hS2.s6 | exact hS3.o | exact hS3.s0 | exact hS3.s1 | exact hS3.s2 | exact hS3.s3 | exact hS3.s4 | exact hS3.s5 | exact hS3.s6) rfl (by omega) rfl 0 0 (Nat.le_refl 0) (Nat.le_refl 0) ?_
  refine c_X7_amount (by omega) hC hO (by omega) ?_
  refine q_goto (pc := 15) 22 dX7_count_15 rfl ?_
  refine q_ireturn (pc := 22) dX7_count_22 rfl ?_
  first | exact zgo k (by unfold o_count; rw [if_pos (by omega)]) zSame.rf hC | exact zgo k (by unfold o_count; rw [if_neg (by omega)]) hs9 hC9
set_option maxRecDepth 100000 in
set_option maxHeartbeats 8000000 in
theorem c_X7_digest (hd : 6 ≤ d) (hC : zCl g w S) (hO : zOKS S) (k : ∀ w', zSame w w' 0 72 → zCl g w' (o_digest S).2 → K (some (zJ (o_digest S).1)) w') : zCall g d 0 0 mX7_digest [zR g 0] w K := by
  obtain ⟨hX, hS, hA, hB, hD, hI, hJ, hR, hT, hH⟩ := id hC
  have hO2 := hO.1.1
  have hO3 := hO2.1
  have k : K (some (zJ (zdig S))) w := k _ zSame.rf hC
  unfold zdig at k
  have J31 : zRuns g d mX7_digest 0 0 31 [some (zR g 0), some (zJ (zcmx S 12)), none, some (zI 12)] [] w K := by
    refine q_aload_n (pc := 31) dX7_digest_31 rfl rfl ?_
    refine q_getfield (pc := 32) gf_X7_10 dX7_digest_32 (by first | assumption | exact hS.o | exact hS.s0 | exact hS.s1 | exact hS.s2 | exact hS.s3 | exact hS.s4 | exact hS.s5 | exact hS.s6) rfl ?_
    refine q_getfield (pc := 35) gf_X7_70 dX7_digest_35 (by first | assumption | exact hS.o | exact hS.s0 | exact hS.s1 | exact hS.s2 | exact hS.s3 | exact hS.s4 | exact hS.s5 | exact hS.s6) rfl ?_
    refine q_lload_n (pc := 38) dX7_digest_38 rfl ?_
    refine q_invokevirtual (pc := 39) (d' := d - 1) (mc' := 0) (ms' := 0) (As := [_]) (TX4, 4) cl_X7_305 dX7_digest_39 rfl rfl (by first | assumption | exact hS.o | exact hS.s0 | exact hS.s1 | exact hS.s2 | exact hS.s3 | exact hS.s4 | exact hS.s5 | exact hS.s6) rfl (by omega) rfl 0 0 (Nat.le_refl 0) (Nat.le_refl 0) ?_
    refine s_mix0 hS hO2 ?_
    refine q_lstore_n (pc := 42) [some _, some _, none, some _] dX7_digest_42 rfl (Nat.le_of_ble_eq_true rfl) rfl ?_
    refine q_aload_n (pc := 43) dX7_digest_43 rfl rfl ?_
    refine q_getfield (pc := 44) gf_X7_10 dX7_digest_44 (by first | assumption | exact hS.o | exact hS.s0 | exact hS.s1 | exact hS.s2 | exact hS.s3 | exact hS.s4 | exact hS.s5 | exact hS.s6) rfl ?_
    refine q_getfield (pc := 47) gf_X7_126 dX7_digest_47 (by first | assumption | exact hS.o | exact hS.s0 | exact hS.s1 | exact hS.s2 | exact hS.s3 | exact hS.s4 | exact hS.s5 | exact hS.s6) rfl ?_
    refine q_lload_n (pc := 50) dX7_digest_50 rfl ?_
    refine q_invokevirtual (pc := 51) (d' := d - 1) (mc' := 0) (ms' := 0) (As := [_]) (TX4, 4) cl_X7_305 dX7_digest_51 rfl rfl (by first | assumption | exact hS.o | exact hS.s0 | exact hS.s1 | exact hS.s2 | exact hS.s3 | exact hS.s4 | exact hS.s5 | exact hS.s6) rfl (by omega) rfl 0 0 (Nat.le_refl 0) (Nat.le_refl 0) ?_
    refine s_mix1 hS hO2 ?_
    refine q_lstore_n (pc := 54) [some _, some _, none, some _] dX7_digest_54 rfl (Nat.le_of_ble_eq_true rfl) rfl ?_
    refine q_aload_n (pc := 55) dX7_digest_55 rfl rfl ?_
    refine q_getfield (pc := 56) gf_X7_10 dX7_digest_56 (by first | assumption | exact hS.o | exact hS.s0 | exact hS.s1 | exact hS.s2 | exact hS.s3 | exact hS.s4 | exact hS.s5 | exact hS.s6) rfl ?_
    refine q_getfield (pc := 59) gf_X7_132 dX7_digest_59 (by first | assumption | exact hS.o | exact hS.s0 | exact hS.s1 | exact hS.s2 | exact hS.s3 | exact hS.s4 | exact hS.s5 | exact hS.s6) rfl ?_
    refine q_lload_n (pc := 62) dX7_digest_62 rfl ?_
    refine q_invokevirtual (pc := 63) (d' := d - 1) (mc' := 0) (ms' := 0) (As := [_]) (TX4, 4) cl_X7_305 dX7_digest_63 rfl rfl (by first | assumption | exact hS.o | exact hS.s0 | exact hS.s1 | exact hS.s2 | exact hS.s3 | exact hS.s4 | exact hS.s5 | exact hS.s6) rfl (by omega) rfl 0 0 (Nat.le_refl 0) (Nat.le_refl 0) ?_
    refine s_mix2 hS hO2 ?_
    refine q_lstore_n (pc := 66) [some _, some _, none, some _] dX7_digest_66 rfl (Nat.le_of_ble_eq_true rfl) rfl ?_
    refine q_aload_n (pc := 67) dX7_digest_67 rfl rfl ?_
    refine q_getfield (pc := 68) gf_X7_10 dX7_digest_68 (by first | assumption | exact hS.o | exact hS.s0 | exact hS.s1 | exact hS.s2 | exact hS.s3 | exact hS.s4 | exact hS.s5 | exact hS.s6) rfl ?_
    refine q_getfield (pc := 71) gf_X7_237 dX7_digest_71 (by first | assumption | exact hS.o | exact hS.s0 | exact hS.s1 | exact hS.s2 | exact hS.s3 | exact hS.s4 | exact hS.s5 | exact hS.s6) rfl ?_
    refine q_lload_n (pc := 74) dX7_digest_74 rfl ?_
    refine q_invokevirtual (pc := 75) (d' := d - 1) (mc' := 0) (ms' := 0) (As := [_]) (TX4, 4) cl_X7_305 dX7_digest_75 rfl rfl (by first | assumption | exact hS.o | exact hS.s0 | exact hS.s1 | exact hS.s2 | exact hS.s3 | exact hS.s4 | exact hS.s5 | exact hS.s6) rfl (by omega) rfl 0 0 (Nat.le_refl 0) (Nat.le_refl 0) ?_
    refine s_mix3 hS hO2 ?_
    refine q_lstore_n (pc := 78) [some _, some _, none, some _] dX7_digest_78 rfl (Nat.le_of_ble_eq_true rfl) rfl ?_
    refine q_aload_n (pc := 79) dX7_digest_79 rfl rfl ?_
    refine q_getfield (pc := 80) gf_X7_10 dX7_digest_80 (by first | assumption | exact hS.o | exact hS.s0 | exact hS.s1 | exact hS.s2 | exact hS.s3 | exact hS.s4 | exact hS.s5 | exact hS.s6) rfl ?_
    refine q_getfield (pc := 83) gf_X7_250 dX7_digest_83 (by first | assumption | exact hS.o | exact hS.s0 | exact hS.s1 | exact hS.s2 | exact hS.s3 | exact hS.s4 | exact hS.s5 | exact hS.s6) rfl ?_
    refine q_lload_n (pc := 86) dX7_digest_86 rfl ?_
    refine q_invokevirtual (pc := 87) (d' := d - 1) (mc' := 0) (ms' := 0) (As := [_]) (TX4, 4) cl_X7_305 dX7_digest_87 rfl rfl (by first | assumption | exact hS.o | exact hS.s0 | exact hS.s1 | exact hS.s2 | exact hS.s3 | exact hS.s4 | exact hS.s5 | exact hS.s6) rfl (by omega) rfl 0 0 (Nat.le_refl 0) (Nat.le_refl 0) ?_
    refine s_mix4 hS hO2 ?_
    refine q_lstore_n (pc := 90) [some _, some _, none, some _] dX7_digest_90 rfl (Nat.le_of_ble_eq_true rfl) rfl ?_
    refine q_aload_n (pc := 91) dX7_digest_91 rfl rfl ?_
    refine q_getfield (pc := 92) gf_X7_10 dX7_digest_92 (by first | assumption | exact hS.o | exact hS.s0 | exact hS.s1 | exact hS.s2 | exact hS.s3 | exact hS.s4 | exact hS.s5 | exact hS.s6) rfl ?_
    refine q_getfield (pc := 95) gf_X7_253 dX7_digest_95 (by first | assumption | exact hS.o | exact hS.s0 | exact hS.s1 | exact hS.s2 | exact hS.s3 | exact hS.s4 | exact hS.s5 | exact hS.s6) rfl ?_
    refine q_lload_n (pc := 98) dX7_digest_98 rfl ?_
    refine q_invokevirtual (pc := 99) (d' := d - 1) (mc' := 0) (ms' := 0) (As := [_]) (TX4, 4) cl_X7_305 dX7_digest_99 rfl rfl (by first | assumption | exact hS.o | exact hS.s0 | exact hS.s1 | exact hS.s2 | exact hS.s3 | exact hS.s4 | exact hS.s5 | exact hS.s6) rfl (by omega) rfl 0 0 (Nat.le_refl 0) (Nat.le_refl 0) ?_
    refine s_mix5 hS hO2 ?_
    refine q_lstore_n (pc := 102) [some _, some _, none, some _] dX7_digest_102 rfl (Nat.le_of_ble_eq_true rfl) rfl ?_
    refine q_ldc2_w (pc := 103) tw_4_223 dX7_digest_103 ?_
    refine q_lload_n (pc := 106) dX7_digest_106 rfl ?_
    refine q_lmul (pc := 107) dX7_digest_107 ?_
    refine q_aload_n (pc := 108) dX7_digest_108 rfl rfl ?_
    refine q_getfield (pc := 109) gf_X7_55 dX7_digest_109 (by first | assumption | exact hS.o | exact hS.s0 | exact hS.s1 | exact hS.s2 | exact hS.s3 | exact hS.s4 | exact hS.s5 | exact hS.s6) rfl ?_
    refine q_ladd (pc := 112) dX7_digest_112 ?_
    refine q_lstore_n (pc := 113) [some _, some _, none, some _] dX7_digest_113 rfl (Nat.le_of_ble_eq_true rfl) rfl ?_
    refine q_ldc2_w (pc := 114) tw_4_223 dX7_digest_114 ?_
    refine q_lload_n (pc := 117) dX7_digest_117 rfl ?_
    refine q_lmul (pc := 118) dX7_digest_118 ?_
    refine q_aload_n (pc := 119) dX7_digest_119 rfl rfl ?_
    refine q_getfield (pc := 120) gf_X7_59 dX7_digest_120 (by first | assumption | exact hS.o | exact hS.s0 | exact hS.s1 | exact hS.s2 | exact hS.s3 | exact hS.s4 | exact hS.s5 | exact hS.s6) rfl ?_
    refine q_ladd (pc := 123) dX7_digest_123 ?_
    refine q_lreturn (pc := 124) dX7_digest_124 rfl ?_
    exact k
  have L : ∀ (q m : Nat), m + q = 12 → zRuns g d mX7_digest 0 0 6 [some (zR g 0), some (zJ (zcmx S m)), none, some (zI (m : Int))] [] w K := by
    intro q
    induction q with
    | zero =>
      intro m h1
      obtain rfl : m = 12 := by omega
      refine q_iload_n (pc := 6) dX7_digest_6 rfl ?_
      refine q_bipush (pc := 7) (by decide) dX7_digest_7 ?_
      refine q_icmp_gt (pc := 9) (by omega) (by omega) 31 dX7_digest_9 rfl (fun c9 => ?_) (fun c9 => ?_)
      · exact J31
      exfalso; omega
    | succ q ih =>
      intro m h1
      have hih := ih (m + 1) (by omega)
      have hb := zcnt_b hO (x := (m : Int))
      refine q_iload_n (pc := 6) dX7_digest_6 rfl ?_
      refine q_bipush (pc := 7) (by decide) dX7_digest_7 ?_
      refine q_icmp_gt (pc := 9) (by omega) (by omega) 31 dX7_digest_9 rfl (fun c9 => ?_) (fun c9 => ?_)
      · exfalso; omega
      refine q_ldc2_w (pc := 12) tw_4_223 dX7_digest_12 ?_
      refine q_lload_n (pc := 15) dX7_digest_15 rfl ?_
      refine q_lmul (pc := 16) dX7_digest_16 ?_
      refine q_aload_n (pc := 17) dX7_digest_17 rfl rfl ?_
      refine q_iload_n (pc := 18) dX7_digest_18 rfl ?_
      refine q_invokevirtual (pc := 19) (d' := d - 1) (mc' := 0) (ms' := 0) (As := [_]) (TX7, 15) cl_X7_298 dX7_digest_19 rfl rfl (by first | assumption | exact hS.o | exact hS.s0 | exact hS.s1 | exact hS.s2 | exact hS.s3 | exact hS.s4 | exact hS.s5 | exact hS.s6) rfl (by omega) rfl 0 0 (Nat.le_refl 0) (Nat.le_refl 0) ?_
      refine c_X7_amount (by omega) hC hO (by omega) ?_
      refine q_i2l (pc := 22) dX7_digest_22 (by omega) ?_
      refine q_ladd (pc := 23) dX7_digest_23 ?_
      refine q_lstore_n (pc := 24) [some _, some _, none, some _] dX7_digest_24 rfl (Nat.le_of_ble_eq_true rfl) rfl ?_
      refine q_iinc (pc := 25) [some _, some _, none, some _] dX7_digest_25 rfl rfl rfl ?_
      refine q_goto (pc := 28) 6 dX7_digest_28 rfl ?_
      exact hih
  refine zenter [some _, none, none, none] pn_X7 rfl (Nat.le_of_ble_eq_true rfl) ?_
  refine q_ldc2_w (pc := 0) tw_4_222 dX7_digest_0 ?_
  refine q_lstore_n (pc := 3) [some _, some _, none, none] dX7_digest_3 rfl (Nat.le_of_ble_eq_true rfl) rfl ?_
  refine q_iconst (pc := 4) dX7_digest_4 ?_
  refine q_istore_n (pc := 5) [some _, some _, none, some _] dX7_digest_5 rfl (Nat.le_of_ble_eq_true rfl) rfl ?_
  exact L 12 0 (by omega)
end X7E
