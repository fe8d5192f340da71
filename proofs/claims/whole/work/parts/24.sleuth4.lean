/-! the Sleuth, its slingers -/
section X5D
variable {g : zG} {d : Nat} {w : zWd} {K : Option Value → zWd → Prop} {b sb : Nat} {N P : Int → Int} {u : Int}
set_option maxRecDepth 100000 in
set_option maxHeartbeats 4000000 in
theorem c_X5_fitsThrown {c kd : Int} (hd : 2 ≤ d) (hF : w.1 sb = some (.inl (4, [zR g b, zR g (sb + 1)]))) (hS : zSto g w b N u P) (hO : zOK N) (hc : 0 ≤ c ∧ c < N 1) (hkd : 0 ≤ kd ∧ kd ≤ 5) (k : K (some (zI (zb (zft N c kd (N 7).toNat = true)))) w) : zCall g d 0 0 mX5_fitsThrown [zR g sb, zI c, zI kd] w K := by
  have hh := hO.1
  have hsl := hO.2.2.2.1 c hc.1 hc.2
  have L : ∀ (q m : Nat) (x y z : Option Value), m + q = (N 7).toNat → zft N c kd m = true → zRuns g d mX5_fitsThrown 0 0 25 [some (zR g sb), some (zI c), some (zI kd), some (zR g (b + 11)), some (zI (N (74 + c))), some (zI (m : Int)), x, y, z] [] w K := by
    intro q
    induction q with
    | zero =>
      intro m x y z hm hz
      refine q_iload (pc := 25) dX5_fitsThrown_25 rfl ?_
      refine q_aload_n (pc := 27) dX5_fitsThrown_27 rfl rfl ?_
      refine q_getfield (pc := 28) gf_X5_43 dX5_fitsThrown_28 (by first | assumption | exact hS.o | exact hS.s0 | exact hS.s1 | exact hS.s2 | exact hS.s3 | exact hS.s4 | exact hS.s5 | exact hS.s6) rfl ?_
      refine q_icmp_ge (pc := 31) (by omega) (by omega) 119 dX5_fitsThrown_31 rfl (fun c31 => ?_) (fun c31 => ?_)
      · refine q_iconst (pc := 119) dX5_fitsThrown_119 ?_
        exact q_zreturn1 (pc := 120) (by rw [show (N 7).toNat = m by omega]; exact hz) dX5_fitsThrown_120 rfl k
      exfalso; omega
    | succ q ih =>
      intro m x y z hm hz
      have hb := zfl_b hO (i := (m : Int)) (by omega)
      have hfb := zfar_b (kind := kd) (a := N (74 + c)) (r := N (138 + 5 * (m : Int) + 1)) (v := N (138 + 5 * (m : Int) + 2)) hsl.2 (by omega) (by omega)
      have hhb := zhits_b (kind := kd) (r := N (138 + 5 * (m : Int) + 1)) (by omega)
      have hf := fun h => zft_f (N := N) (c := c) (kd := kd) (m := m + 1) h q
      have hn : zft N c kd (m + 1) = (zft N c kd m && (decide (N (138 + 5 * (m : Int) + 0) ≠ c) || decide (zfar kd (N (74 + c)) (N (138 + 5 * (m : Int) + 1)) (N (138 + 5 * (m : Int) + 2)) = N (138 + 5 * (m : Int) + 3) ∧ zhits kd (N (138 + 5 * (m : Int) + 1)) = N (138 + 5 * (m : Int) + 4)))) := rfl
      have J : ∀ x2 y2 z2, (x2 = zb (zfar kd (N (74 + c)) (N (138 + 5 * (m : Int) + 1)) (N (138 + 5 * (m : Int) + 2)) = N (138 + 5 * (m : Int) + 3) ∧ zhits kd (N (138 + 5 * (m : Int) + 1)) = N (138 + 5 * (m : Int) + 4))) → zRuns g d mX5_fitsThrown 0 0 93 [some (zR g sb), some (zI c), some (zI kd), some (zR g (b + 11)), some (zI (N (74 + c))), some (zI (m : Int)), some (zI y2), some (zI z2), z] [zI x2] w K := by
        intro x2 y2 z2 hx
        subst hx
        by_cases hc1 : N (138 + 5 * (m : Int) + 0) = c
        · skip
          by_cases hp : zfar kd (N (74 + c)) (N (138 + 5 * (m : Int) + 1)) (N (138 + 5 * (m : Int) + 2)) = N (138 + 5 * (m : Int) + 3) ∧ zhits kd (N (138 + 5 * (m : Int) + 1)) = N (138 + 5 * (m : Int) + 4)
          · skip
            rw [zb_t hp]
            refine q_istore (pc := 93) [some _, some _, some _, some _, some _, some _, some _, some _, some _] dX5_fitsThrown_93 rfl (Nat.le_of_ble_eq_true rfl) rfl ?_
            refine q_aload_n (pc := 95) dX5_fitsThrown_95 rfl rfl ?_
            refine q_iload (pc := 96) dX5_fitsThrown_96 rfl ?_
            refine q_iconst (pc := 98) dX5_fitsThrown_98 ?_
            refine q_invokevirtual (pc := 99) (d' := d - 1) (mc' := 0) (ms' := 0) (As := [_, _]) (TX4, 4) cl_X5_25 dX5_fitsThrown_99 rfl rfl (by first | assumption | exact hS.o | exact hS.s0 | exact hS.s1 | exact hS.s2 | exact hS.s3 | exact hS.s4 | exact hS.s5 | exact hS.s6) rfl (by omega) rfl 0 0 (Nat.le_refl 0) (Nat.le_refl 0) ?_
            refine s_get_flight (by omega) hS hO.1 (by omega) (by omega) ?_
            refine q_iload_n (pc := 102) dX5_fitsThrown_102 rfl ?_
            refine q_icmp_ne (pc := 103) (by omega) (by omega) 113 dX5_fitsThrown_103 rfl (fun c103 => ?_) (fun c103 => ?_)
            · first | (exfalso; omega; done) | (refine q_iinc (pc := 113) [some _, some _, some _, some _, some _, some _, some _, some _, some _] dX5_fitsThrown_113 rfl rfl rfl ?_; refine q_goto (pc := 116) 25 dX5_fitsThrown_116 rfl ?_; exact ih (m + 1) _ _ _ (by omega) (by rw [hn, hz, decide_eq_true hp, Bool.or_true, Bool.and_true]))
            refine q_iload (pc := 106) dX5_fitsThrown_106 rfl ?_
            refine q_if_ne (pc := 108) (by omega) 113 dX5_fitsThrown_108 rfl (fun c108 => ?_) (fun c108 => ?_)
            · first | (exfalso; omega; done) | (refine q_iinc (pc := 113) [some _, some _, some _, some _, some _, some _, some _, some _, some _] dX5_fitsThrown_113 rfl rfl rfl ?_; refine q_goto (pc := 116) 25 dX5_fitsThrown_116 rfl ?_; exact ih (m + 1) _ _ _ (by omega) (by rw [hn, hz, decide_eq_true hp, Bool.or_true, Bool.and_true]))
            exfalso; omega
          · skip
            rw [zb_f hp]
            refine q_istore (pc := 93) [some _, some _, some _, some _, some _, some _, some _, some _, some _] dX5_fitsThrown_93 rfl (Nat.le_of_ble_eq_true rfl) rfl ?_
            refine q_aload_n (pc := 95) dX5_fitsThrown_95 rfl rfl ?_
            refine q_iload (pc := 96) dX5_fitsThrown_96 rfl ?_
            refine q_iconst (pc := 98) dX5_fitsThrown_98 ?_
            refine q_invokevirtual (pc := 99) (d' := d - 1) (mc' := 0) (ms' := 0) (As := [_, _]) (TX4, 4) cl_X5_25 dX5_fitsThrown_99 rfl rfl (by first | assumption | exact hS.o | exact hS.s0 | exact hS.s1 | exact hS.s2 | exact hS.s3 | exact hS.s4 | exact hS.s5 | exact hS.s6) rfl (by omega) rfl 0 0 (Nat.le_refl 0) (Nat.le_refl 0) ?_
            refine s_get_flight (by omega) hS hO.1 (by omega) (by omega) ?_
            refine q_iload_n (pc := 102) dX5_fitsThrown_102 rfl ?_
            refine q_icmp_ne (pc := 103) (by omega) (by omega) 113 dX5_fitsThrown_103 rfl (fun c103 => ?_) (fun c103 => ?_)
            · exfalso; omega
            refine q_iload (pc := 106) dX5_fitsThrown_106 rfl ?_
            refine q_if_ne (pc := 108) (by omega) 113 dX5_fitsThrown_108 rfl (fun c108 => ?_) (fun c108 => ?_)
            · exfalso; omega
            refine q_iconst (pc := 111) dX5_fitsThrown_111 ?_
            exact q_zreturn0 (pc := 112) (by rw [show (N 7).toNat = m + 1 + q by omega, hf (by rw [hn, decide_eq_false hp, Bool.or_false, decide_eq_false (fun z => z hc1), Bool.and_false])]; decide) dX5_fitsThrown_112 rfl k
        · skip
          refine q_istore (pc := 93) [some _, some _, some _, some _, some _, some _, some _, some _, some _] dX5_fitsThrown_93 rfl (Nat.le_of_ble_eq_true rfl) rfl ?_
          refine q_aload_n (pc := 95) dX5_fitsThrown_95 rfl rfl ?_
          refine q_iload (pc := 96) dX5_fitsThrown_96 rfl ?_
          refine q_iconst (pc := 98) dX5_fitsThrown_98 ?_
          refine q_invokevirtual (pc := 99) (d' := d - 1) (mc' := 0) (ms' := 0) (As := [_, _]) (TX4, 4) cl_X5_25 dX5_fitsThrown_99 rfl rfl (by first | assumption | exact hS.o | exact hS.s0 | exact hS.s1 | exact hS.s2 | exact hS.s3 | exact hS.s4 | exact hS.s5 | exact hS.s6) rfl (by omega) rfl 0 0 (Nat.le_refl 0) (Nat.le_refl 0) ?_
          refine s_get_flight (by omega) hS hO.1 (by omega) (by omega) ?_
          refine q_iload_n (pc := 102) dX5_fitsThrown_102 rfl ?_
          refine q_icmp_ne (pc := 103) (by omega) (by omega) 113 dX5_fitsThrown_103 rfl (fun c103 => ?_) (fun c103 => ?_)
          · (refine q_iinc (pc := 113) [some _, some _, some _, some _, some _, some _, some _, some _, some _] dX5_fitsThrown_113 rfl rfl rfl ?_; refine q_goto (pc := 116) 25 dX5_fitsThrown_116 rfl ?_; exact ih (m + 1) _ _ _ (by omega) (by rw [hn, hz, decide_eq_true hc1, Bool.true_or, Bool.and_true]))
          exfalso; omega
      refine q_iload (pc := 25) dX5_fitsThrown_25 rfl ?_
      refine q_aload_n (pc := 27) dX5_fitsThrown_27 rfl rfl ?_
      refine q_getfield (pc := 28) gf_X5_43 dX5_fitsThrown_28 (by first | assumption | exact hS.o | exact hS.s0 | exact hS.s1 | exact hS.s2 | exact hS.s3 | exact hS.s4 | exact hS.s5 | exact hS.s6) rfl ?_
      refine q_icmp_ge (pc := 31) (by omega) (by omega) 119 dX5_fitsThrown_31 rfl (fun c31 => ?_) (fun c31 => ?_)
      · exfalso; omega
      refine q_aload_n (pc := 34) dX5_fitsThrown_34 rfl rfl ?_
      refine q_iload (pc := 35) dX5_fitsThrown_35 rfl ?_
      refine q_iconst (pc := 37) dX5_fitsThrown_37 ?_
      refine q_invokevirtual (pc := 38) (d' := d - 1) (mc' := 0) (ms' := 0) (As := [_, _]) (TX4, 4) cl_X5_25 dX5_fitsThrown_38 rfl rfl (by first | assumption | exact hS.o | exact hS.s0 | exact hS.s1 | exact hS.s2 | exact hS.s3 | exact hS.s4 | exact hS.s5 | exact hS.s6) rfl (by omega) rfl 0 0 (Nat.le_refl 0) (Nat.le_refl 0) ?_
      refine s_get_flight (by omega) hS hO.1 (by omega) (by omega) ?_
      refine q_istore (pc := 41) [some _, some _, some _, some _, some _, some _, some _, _, _] dX5_fitsThrown_41 rfl (Nat.le_of_ble_eq_true rfl) rfl ?_
      refine q_iload_n (pc := 43) dX5_fitsThrown_43 rfl ?_
      refine q_iload (pc := 44) dX5_fitsThrown_44 rfl ?_
      refine q_iload (pc := 46) dX5_fitsThrown_46 rfl ?_
      refine q_aload_n (pc := 48) dX5_fitsThrown_48 rfl rfl ?_
      refine q_iload (pc := 49) dX5_fitsThrown_49 rfl ?_
      refine q_iconst (pc := 51) dX5_fitsThrown_51 ?_
      refine q_invokevirtual (pc := 52) (d' := d - 1) (mc' := 0) (ms' := 0) (As := [_, _]) (TX4, 4) cl_X5_25 dX5_fitsThrown_52 rfl rfl (by first | assumption | exact hS.o | exact hS.s0 | exact hS.s1 | exact hS.s2 | exact hS.s3 | exact hS.s4 | exact hS.s5 | exact hS.s6) rfl (by omega) rfl 0 0 (Nat.le_refl 0) (Nat.le_refl 0) ?_
      refine s_get_flight (by omega) hS hO.1 (by omega) (by omega) ?_
      refine q_invokestatic (pc := 55) (d' := d - 1) (mc' := 0) (ms' := 0) (As := [_, _, _, _]) cl_X5_88 dX5_fitsThrown_55 rfl rfl (by omega) rfl 0 0 (Nat.le_refl 0) (Nat.le_refl 0) ?_
      refine c_X2_farBy (by omega) hkd hsl.2 (by omega) (by omega) ?_
      refine q_istore (pc := 58) [some _, some _, some _, some _, some _, some _, some _, some _, _] dX5_fitsThrown_58 rfl (Nat.le_of_ble_eq_true rfl) rfl ?_
      refine q_iload (pc := 60) dX5_fitsThrown_60 rfl ?_
      refine q_aload_n (pc := 62) dX5_fitsThrown_62 rfl rfl ?_
      refine q_iload (pc := 63) dX5_fitsThrown_63 rfl ?_
      refine q_iconst (pc := 65) dX5_fitsThrown_65 ?_
      refine q_invokevirtual (pc := 66) (d' := d - 1) (mc' := 0) (ms' := 0) (As := [_, _]) (TX4, 4) cl_X5_25 dX5_fitsThrown_66 rfl rfl (by first | assumption | exact hS.o | exact hS.s0 | exact hS.s1 | exact hS.s2 | exact hS.s3 | exact hS.s4 | exact hS.s5 | exact hS.s6) rfl (by omega) rfl 0 0 (Nat.le_refl 0) (Nat.le_refl 0) ?_
      refine s_get_flight (by omega) hS hO.1 (by omega) (by omega) ?_
      refine q_icmp_ne (pc := 69) (by omega) (by omega) 92 dX5_fitsThrown_69 rfl (fun c69 => ?_) (fun c69 => ?_)
      · refine q_iconst (pc := 92) dX5_fitsThrown_92 ?_
        exact J _ _ _ (zb_f (by omega)).symm
      refine q_iload_n (pc := 72) dX5_fitsThrown_72 rfl ?_
      refine q_iload (pc := 73) dX5_fitsThrown_73 rfl ?_
      refine q_invokestatic (pc := 75) (d' := d - 1) (mc' := 0) (ms' := 0) (As := [_, _]) cl_X5_92 dX5_fitsThrown_75 rfl rfl (by omega) rfl 0 0 (Nat.le_refl 0) (Nat.le_refl 0) ?_
      refine c_X2_hitsBy hkd (by omega) ?_
      refine q_aload_n (pc := 78) dX5_fitsThrown_78 rfl rfl ?_
      refine q_iload (pc := 79) dX5_fitsThrown_79 rfl ?_
      refine q_iconst (pc := 81) dX5_fitsThrown_81 ?_
      refine q_invokevirtual (pc := 82) (d' := d - 1) (mc' := 0) (ms' := 0) (As := [_, _]) (TX4, 4) cl_X5_25 dX5_fitsThrown_82 rfl rfl (by first | assumption | exact hS.o | exact hS.s0 | exact hS.s1 | exact hS.s2 | exact hS.s3 | exact hS.s4 | exact hS.s5 | exact hS.s6) rfl (by omega) rfl 0 0 (Nat.le_refl 0) (Nat.le_refl 0) ?_
      refine s_get_flight (by omega) hS hO.1 (by omega) (by omega) ?_
      refine q_icmp_ne (pc := 85) (by omega) (by omega) 92 dX5_fitsThrown_85 rfl (fun c85 => ?_) (fun c85 => ?_)
      · refine q_iconst (pc := 92) dX5_fitsThrown_92 ?_
        exact J _ _ _ (zb_f (by omega)).symm
      refine q_iconst (pc := 88) dX5_fitsThrown_88 ?_
      refine q_goto (pc := 89) 93 dX5_fitsThrown_89 rfl ?_
      exact J _ _ _ (zb_t (by omega)).symm
  refine zenter [some _, some _, some _, none, none, none, none, none, none] pn_X5 rfl (Nat.le_of_ble_eq_true rfl) ?_
  refine q_aload_n (pc := 0) dX5_fitsThrown_0 rfl rfl ?_
  refine q_getfield (pc := 1) gf_X5_15 dX5_fitsThrown_1 (by first | assumption | exact hS.o | exact hS.s0 | exact hS.s1 | exact hS.s2 | exact hS.s3 | exact hS.s4 | exact hS.s5 | exact hS.s6) rfl ?_
  refine q_getfield (pc := 4) gf_X5_82 dX5_fitsThrown_4 (by first | assumption | exact hS.o | exact hS.s0 | exact hS.s1 | exact hS.s2 | exact hS.s3 | exact hS.s4 | exact hS.s5 | exact hS.s6) rfl ?_
  refine q_astore_n (pc := 7) [some _, some _, some _, some _, none, none, none, none, none] dX5_fitsThrown_7 rfl rfl (Nat.le_of_ble_eq_true rfl) rfl ?_
  refine q_aload_n (pc := 8) dX5_fitsThrown_8 rfl rfl ?_
  refine q_getfield (pc := 9) gf_X5_15 dX5_fitsThrown_9 (by first | assumption | exact hS.o | exact hS.s0 | exact hS.s1 | exact hS.s2 | exact hS.s3 | exact hS.s4 | exact hS.s5 | exact hS.s6) rfl ?_
  refine q_getfield (pc := 12) gf_X5_85 dX5_fitsThrown_12 (by first | assumption | exact hS.o | exact hS.s0 | exact hS.s1 | exact hS.s2 | exact hS.s3 | exact hS.s4 | exact hS.s5 | exact hS.s6) rfl ?_
  refine q_iload_n (pc := 15) dX5_fitsThrown_15 rfl ?_
  refine q_iconst (pc := 16) dX5_fitsThrown_16 ?_
  refine q_invokevirtual (pc := 17) (d' := d - 1) (mc' := 0) (ms' := 0) (As := [_, _]) (TX4, 4) cl_X5_25 dX5_fitsThrown_17 rfl rfl (by first | assumption | exact hS.o | exact hS.s0 | exact hS.s1 | exact hS.s2 | exact hS.s3 | exact hS.s4 | exact hS.s5 | exact hS.s6) rfl (by omega) rfl 0 0 (Nat.le_refl 0) (Nat.le_refl 0) ?_
  refine s_get_arm (by omega) hS hO.1 hc ?_
  refine q_istore (pc := 20) [some _, some _, some _, some _, some _, none, none, none, none] dX5_fitsThrown_20 rfl (Nat.le_of_ble_eq_true rfl) rfl ?_
  refine q_iconst (pc := 22) dX5_fitsThrown_22 ?_
  refine q_istore (pc := 23) [some _, some _, some _, some _, some _, some _, none, none, none] dX5_fitsThrown_23 rfl (Nat.le_of_ble_eq_true rfl) rfl ?_
  exact L (N 7).toNat 0 _ _ _ (by omega) rfl
set_option maxRecDepth 100000 in
set_option maxHeartbeats 4000000 in
theorem c_X5_kindsOfSlinger {c : Int} (hd : 3 ≤ d) (hF : w.1 sb = some (.inl (4, [zR g b, zR g (sb + 1)]))) (hS : zSto g w b N u P) (hO : zOK N) (hc : 0 ≤ c ∧ c < N 1) (k : K (some (zI (zwho N c))) w) : zCall g d 0 0 mX5_kindsOfSlinger [zR g sb, zI c] w K := by
  have hk := k
  unfold zwho at hk
  have L : ∀ (q m : Nat), m + q = 6 → zRuns g d mX5_kindsOfSlinger 0 0 4 [some (zR g sb), some (zI c), some (zI (zbs (fun kd => zft N c kd (N 7).toNat) m)), some (zI (m : Int))] [] w K := by
    intro q
    induction q with
    | zero =>
      intro m hm
      refine q_iload_n (pc := 4) dX5_kindsOfSlinger_4 rfl ?_
      refine q_bipush (pc := 5) (by decide) dX5_kindsOfSlinger_5 ?_
      refine q_icmp_ge (pc := 7) (by omega) (by omega) 31 dX5_kindsOfSlinger_7 rfl (fun c7 => ?_) (fun c7 => ?_)
      · refine q_iload_n (pc := 31) dX5_kindsOfSlinger_31 rfl ?_
        refine q_ireturn (pc := 32) dX5_kindsOfSlinger_32 rfl ?_
        rw [show m = 6 by omega]; exact hk
      exfalso; omega
    | succ q ih =>
      intro m hm
      have hih := ih (m + 1) (by omega)
      rw [zbs] at hih
      refine q_iload_n (pc := 4) dX5_kindsOfSlinger_4 rfl ?_
      refine q_bipush (pc := 5) (by decide) dX5_kindsOfSlinger_5 ?_
      refine q_icmp_ge (pc := 7) (by omega) (by omega) 31 dX5_kindsOfSlinger_7 rfl (fun c7 => ?_) (fun c7 => ?_)
      · exfalso; omega
      refine q_aload_n (pc := 10) dX5_kindsOfSlinger_10 rfl rfl ?_
      refine q_iload_n (pc := 11) dX5_kindsOfSlinger_11 rfl ?_
      refine q_iload_n (pc := 12) dX5_kindsOfSlinger_12 rfl ?_
      refine q_invokevirtual (pc := 13) (d' := d - 1) (mc' := 0) (ms' := 0) (As := [_, _]) (TX5, 2) cl_X5_79 dX5_kindsOfSlinger_13 rfl rfl (by assumption) rfl (by omega) rfl 0 0 (Nat.le_refl 0) (Nat.le_refl 0) ?_
      refine c_X5_fitsThrown (by omega) hF hS hO hc (by omega) ?_
      refine q_ifb_eq (pc := 16) 25 dX5_kindsOfSlinger_16 rfl (fun c16 => ?_) (fun c16 => ?_)
      · (first | rw [if_pos c16] at hih | rw [if_neg c16] at hih)
        refine q_iinc (pc := 25) [some _, some _, some _, some _] dX5_kindsOfSlinger_25 rfl rfl rfl ?_
        refine q_goto (pc := 28) 4 dX5_kindsOfSlinger_28 rfl ?_
        exact hih
      refine q_iload_n (pc := 19) dX5_kindsOfSlinger_19 rfl ?_
      refine q_iconst (pc := 20) dX5_kindsOfSlinger_20 ?_
      refine q_iload_n (pc := 21) dX5_kindsOfSlinger_21 rfl ?_
      refine q_ishl (pc := 22) dX5_kindsOfSlinger_22 ?_
      refine q_ior (pc := 23) dX5_kindsOfSlinger_23 ?_
      refine q_istore_n (pc := 24) [some _, some _, some _, some _] dX5_kindsOfSlinger_24 rfl (Nat.le_of_ble_eq_true rfl) rfl ?_
      (first | rw [if_pos c16] at hih | rw [if_neg c16] at hih)
      refine q_iinc (pc := 25) [some _, some _, some _, some _] dX5_kindsOfSlinger_25 rfl rfl rfl ?_
      refine q_goto (pc := 28) 4 dX5_kindsOfSlinger_28 rfl ?_
      exact hih
  refine zenter [some _, some _, none, none] pn_X5 rfl (Nat.le_of_ble_eq_true rfl) ?_
  refine q_iconst (pc := 0) dX5_kindsOfSlinger_0 ?_
  refine q_istore_n (pc := 1) [some _, some _, some _, none] dX5_kindsOfSlinger_1 rfl (Nat.le_of_ble_eq_true rfl) rfl ?_
  refine q_iconst (pc := 2) dX5_kindsOfSlinger_2 ?_
  refine q_istore_n (pc := 3) [some _, some _, some _, some _] dX5_kindsOfSlinger_3 rfl (Nat.le_of_ble_eq_true rfl) rfl ?_
  exact L 6 0 (by omega)
theorem zfl_2 {f : Int → Int} {z : Int} (h : ∀ x, 0 ≤ f x) : ∀ m : Nat, (zfl f z m).2 ≤ 7 ∧ 0 ≤ (zfl f z m).2
  | 0 => by simp [zfl]
  | m + 1 => by
    have h1 := zfl_2 h (z := z) m
    have h2 := h (z + (m : Int))
    rw [zfl]
    split
    · show _ ≤ 7 ∧ _; omega
    · exact h1
def zqa (N : Int → Int) (c q : Int) : Int → Int := fun kd => 100 * zfar kd (N (74 + c)) (q / 10) (q % 10) + zhits kd (q / 10)
theorem zask_q {N : Int → Int} {c : Int} : zask N c = if zwho N c = 0 then -1 else (zfl (fun q => zmost (zwho N c) (zqa N c q)) 10 90).1 := rfl
set_option maxRecDepth 100000 in
set_option maxHeartbeats 4000000 in
theorem c_X5_throwToAsk {c : Int} {sg0 : Int → Int} (hd : 4 ≤ d) (hF : w.1 sb = some (.inl (4, [zR g b, zR g (sb + 1)]))) (hG : w.1 (sb + 1) = some (.inr (false, 6, sg0))) (hS : zSto g w b N u P) (hO : zOK N) (hc : 0 ≤ c ∧ c < N 1) (hb : b + 15 ≤ sb ∨ sb + 2 ≤ b) (k : ∀ w' sg, zSame w w' (sb + 1) 1 → w'.1 (sb + 1) = some (.inr (false, 6, sg)) → K (some (zI (zask N c))) w') : zCall g d 0 0 mX5_throwToAsk [zR g sb, zI c] w K := by
  have hh := hO.1
  have hsl := hO.2.2.2.1 c hc.1 hc.2
  have hzR : zR32 (zwho N c) := zbs_R 6
  have hk := k
  rw [zask_q] at hk
  generalize hset : zwho N c = set at hk hzR
  have L : ∀ (q m : Nat) (w1 : zWd) (sg : Int → Int) (x0 x1 x2 x3 : Option Value), m + q = 90 → set ≠ 0 → zSame w w1 (sb + 1) 1 → w1.1 (sb + 1) = some (.inr (false, 6, sg)) → zRuns g d mX5_throwToAsk 0 0 16 [some (zR g sb), some (zI c), some (zI set), some (zI (zfl (fun q => zmost set (zqa N c q)) 10 m).1), some (zI (zfl (fun q => zmost set (zqa N c q)) 10 m).2), some (zI (10 + (m : Int))), x0, x1, x2, x3] [] w1 K := by
    intro q
    induction q with
    | zero =>
      intro m w1 sg x0 x1 x2 x3 hm hs0 hs hG
      have hm12 : m = 90 := by omega
      subst hm12
      rw [if_neg hs0] at hk
      refine q_iload (pc := 16) dX5_throwToAsk_16 rfl ?_
      refine q_bipush (pc := 18) (by decide) dX5_throwToAsk_18 ?_
      refine q_icmp_gt (pc := 20) (by omega) (by omega) 142 dX5_throwToAsk_20 rfl (fun c20 => ?_) (fun c20 => ?_)
      · refine q_iload_n (pc := 142) dX5_throwToAsk_142 rfl ?_
        refine q_ireturn (pc := 143) dX5_throwToAsk_143 rfl ?_
        exact hk _ _ hs hG
      exfalso; omega
    | succ q ih =>
      intro m w1 sg x0 x1 x2 x3 hm hs0 hs hG
      have hm6 := zmost_b set (zqa N c (10 + (m : Int)))
      have hfl := zfl_2 (f := fun q => zmost set (zqa N c q)) (z := 10) (fun x => (zmost_b set (zqa N c x)).1) m
      have hih := fun w1 sg x0 x1 x2 x3 h1 h2 => ih (m + 1) w1 sg x0 x1 x2 x3 (by omega) hs0 h1 h2
      rw [zfl, show (10 : Int) + ((m + 1 : Nat) : Int) = 10 + (m : Int) + 1 by omega] at hih
      have hqr : 1 ≤ (10 + (m : Int)) / 10 ∧ (10 + (m : Int)) / 10 ≤ 9 := by omega
      have hqv : 0 ≤ (10 + (m : Int)) % 10 ∧ (10 + (m : Int)) % 10 ≤ 9 := by omega
      have hqb : ∀ kd, 0 ≤ zqa N c (10 + (m : Int)) kd ∧ zqa N c (10 + (m : Int)) kd ≤ 4000 := fun kd => by
        have h1 := zfar_b (kind := kd) (a := N (74 + c)) (r := (10 + (m : Int)) / 10) (v := (10 + (m : Int)) % 10) hsl.2 (by omega) (by omega)
        have h2 := zhits_b (kind := kd) (r := (10 + (m : Int)) / 10) hqr
        show 0 ≤ _ + _ ∧ _ + _ ≤ 4000
        omega
      have L2 : ∀ (q2 n : Nat) (w2 : zWd) (y2 : Option Value), n + q2 = 6 → zSame w w2 (sb + 1) 1 → w2.1 (sb + 1) = some (.inr (false, 6, zsgn (zqa N c (10 + (m : Int))) set (n : Int) sg)) → zRuns g d mX5_throwToAsk 0 0 44 [some (zR g sb), some (zI c), some (zI set), some (zI (zfl (fun q => zmost set (zqa N c q)) 10 m).1), some (zI (zfl (fun q => zmost set (zqa N c q)) 10 m).2), some (zI (10 + (m : Int))), some (zI ((10 + (m : Int)) / 10)), some (zI ((10 + (m : Int)) % 10)), some (zI (n : Int)), y2] [] w2 K := by
        intro q2
        induction q2 with
        | zero =>
          intro n w2 y2 hn hs hG
          have hn6 : n = 6 := by omega
          subst hn6
          have hF := (hs.2 sb (by omega)).trans hF
          have hms : zmostg (zsgn (zqa N c (10 + (m : Int))) set ((6 : Nat) : Int) sg) = zmost set (zqa N c (10 + (m : Int))) := by
            refine zmost_sg (enc := zqa N c (10 + (m : Int))) (fun a b _ _ _ _ => Iff.rfl) (fun a _ _ => (hqb a).1) (fun a _ _ => ?_)
            simp only [zsgn]; rw [if_pos (by omega)]
          have hRs : ∀ i, 0 ≤ i → i < 6 → zR32 (zsgn (zqa N c (10 + (m : Int))) set ((6 : Nat) : Int) sg i) := fun i h1 h2 => by
            have := hqb i
            simp only [zsgn]; rw [if_pos (by omega)]; split <;> omega
          refine q_iload (pc := 44) dX5_throwToAsk_44 rfl ?_
          refine q_aload_n (pc := 46) dX5_throwToAsk_46 rfl rfl ?_
          refine q_getfield (pc := 47) gf_X5_9 dX5_throwToAsk_47 (by assumption) rfl ?_
          refine q_arraylength (pc := 50) dX5_throwToAsk_50 (by assumption) ?_
          refine q_icmp_ge (pc := 51) (by omega) (by omega) 116 dX5_throwToAsk_51 rfl (fun c51 => ?_) (fun c51 => ?_)
          · refine q_aload_n (pc := 116) dX5_throwToAsk_116 rfl rfl ?_
            refine q_invokevirtual (pc := 117) (d' := d - 1) (mc' := 0) (ms' := 0) (As := []) (TX5, 2) cl_X5_75 dX5_throwToAsk_117 rfl rfl (by assumption) rfl (by omega) rfl 0 0 (Nat.le_refl 0) (Nat.le_refl 0) ?_
            refine c_X5_mostAlike (by omega) hF hG hRs ?_
            rw [hms]
            refine q_istore (pc := 120) [some _, some _, some _, some _, some _, some _, some _, some _, some _, _] dX5_throwToAsk_120 rfl (Nat.le_of_ble_eq_true rfl) rfl ?_
            refine q_iload (pc := 122) dX5_throwToAsk_122 rfl ?_
            refine q_iload (pc := 124) dX5_throwToAsk_124 rfl ?_
            refine q_icmp_ge (pc := 126) (by omega) (by omega) 136 dX5_throwToAsk_126 rfl (fun c126 => ?_) (fun c126 => ?_)
            · refine q_iinc (pc := 136) [some _, some _, some _, some _, some _, some _, some _, some _, some _, _] dX5_throwToAsk_136 rfl rfl rfl ?_
              refine q_goto (pc := 139) 16 dX5_throwToAsk_139 rfl ?_
              first | (rw [if_pos (by omega)] at hih; exact hih _ _ _ _ _ _ hs hG) | (rw [if_neg (by omega)] at hih; exact hih _ _ _ _ _ _ hs hG)
            refine q_iload (pc := 129) dX5_throwToAsk_129 rfl ?_
            refine q_istore (pc := 131) [some _, some _, some _, some _, some _, some _, some _, some _, some _, _] dX5_throwToAsk_131 rfl (Nat.le_of_ble_eq_true rfl) rfl ?_
            refine q_iload (pc := 133) dX5_throwToAsk_133 rfl ?_
            refine q_istore_n (pc := 135) [some _, some _, some _, some _, some _, some _, some _, some _, some _, _] dX5_throwToAsk_135 rfl (Nat.le_of_ble_eq_true rfl) rfl ?_
            refine q_iinc (pc := 136) [some _, some _, some _, some _, some _, some _, some _, some _, some _, _] dX5_throwToAsk_136 rfl rfl rfl ?_
            refine q_goto (pc := 139) 16 dX5_throwToAsk_139 rfl ?_
            first | (rw [if_pos (by omega)] at hih; exact hih _ _ _ _ _ _ hs hG) | (rw [if_neg (by omega)] at hih; exact hih _ _ _ _ _ _ hs hG)
          exfalso; omega
        | succ q2 ih2 =>
          intro n w2 y2 hn hs hG
          have hF := (hs.2 sb (by omega)).trans hF
          have hS := hS.keep hs (by omega)
          have hqn := hqb (n : Int)
          have ez : zqa N c (10 + (m : Int)) (n : Int) = 100 * zfar (n : Int) (N (74 + c)) ((10 + (m : Int)) / 10) ((10 + (m : Int)) % 10) + zhits (n : Int) ((10 + (m : Int)) / 10) := rfl
          refine q_iload (pc := 44) dX5_throwToAsk_44 rfl ?_
          refine q_aload_n (pc := 46) dX5_throwToAsk_46 rfl rfl ?_
          refine q_getfield (pc := 47) gf_X5_9 dX5_throwToAsk_47 (by first | assumption | exact hS.o | exact hS.s0 | exact hS.s1 | exact hS.s2 | exact hS.s3 | exact hS.s4 | exact hS.s5 | exact hS.s6) rfl ?_
          refine q_arraylength (pc := 50) dX5_throwToAsk_50 (by first | assumption | exact hS.o | exact hS.s0 | exact hS.s1 | exact hS.s2 | exact hS.s3 | exact hS.s4 | exact hS.s5 | exact hS.s6) ?_
          refine q_icmp_ge (pc := 51) (by omega) (by omega) 116 dX5_throwToAsk_51 rfl (fun c51 => ?_) (fun c51 => ?_)
          · exfalso; omega
          refine q_iload (pc := 54) dX5_throwToAsk_54 rfl ?_
          refine q_aload_n (pc := 56) dX5_throwToAsk_56 rfl rfl ?_
          refine q_getfield (pc := 57) gf_X5_15 dX5_throwToAsk_57 (by first | assumption | exact hS.o | exact hS.s0 | exact hS.s1 | exact hS.s2 | exact hS.s3 | exact hS.s4 | exact hS.s5 | exact hS.s6) rfl ?_
          refine q_getfield (pc := 60) gf_X5_85 dX5_throwToAsk_60 (by first | assumption | exact hS.o | exact hS.s0 | exact hS.s1 | exact hS.s2 | exact hS.s3 | exact hS.s4 | exact hS.s5 | exact hS.s6) rfl ?_
          refine q_iload_n (pc := 63) dX5_throwToAsk_63 rfl ?_
          refine q_iconst (pc := 64) dX5_throwToAsk_64 ?_
          refine q_invokevirtual (pc := 65) (d' := d - 1) (mc' := 0) (ms' := 0) (As := [_, _]) (TX4, 4) cl_X5_25 dX5_throwToAsk_65 rfl rfl (by first | assumption | exact hS.o | exact hS.s0 | exact hS.s1 | exact hS.s2 | exact hS.s3 | exact hS.s4 | exact hS.s5 | exact hS.s6) rfl (by omega) rfl 0 0 (Nat.le_refl 0) (Nat.le_refl 0) ?_
          refine s_get_arm (by omega) hS hO.1 hc ?_
          refine q_iload (pc := 68) dX5_throwToAsk_68 rfl ?_
          refine q_iload (pc := 70) dX5_throwToAsk_70 rfl ?_
          refine q_invokestatic (pc := 72) (d' := d - 1) (mc' := 0) (ms' := 0) (As := [_, _, _, _]) cl_X5_88 dX5_throwToAsk_72 rfl rfl (by omega) rfl 0 0 (Nat.le_refl 0) (Nat.le_refl 0) ?_
          refine c_X2_farBy (by omega) (by omega) hsl.2 hqr (by omega) ?_
          refine q_istore (pc := 75) [some _, some _, some _, some _, some _, some _, some _, some _, some _, some _] dX5_throwToAsk_75 rfl (Nat.le_of_ble_eq_true rfl) rfl ?_
          refine q_aload_n (pc := 77) dX5_throwToAsk_77 rfl rfl ?_
          refine q_getfield (pc := 78) gf_X5_9 dX5_throwToAsk_78 (by first | assumption | exact hS.o | exact hS.s0 | exact hS.s1 | exact hS.s2 | exact hS.s3 | exact hS.s4 | exact hS.s5 | exact hS.s6) rfl ?_
          refine q_iload (pc := 81) dX5_throwToAsk_81 rfl ?_
          refine q_iload_n (pc := 83) dX5_throwToAsk_83 rfl ?_
          refine q_iload (pc := 84) dX5_throwToAsk_84 rfl ?_
          refine q_invokestatic (pc := 86) (d' := d - 1) (mc' := 0) (ms' := 0) (As := [_, _]) cl_X5_72 dX5_throwToAsk_86 rfl rfl (by omega) rfl 0 0 (Nat.le_refl 0) (Nat.le_refl 0) ?_
          refine c_X5_isIn ?_
          refine q_ifb_eq (pc := 89) 108 dX5_throwToAsk_89 rfl (fun c89 => ?_) (fun c89 => ?_)
          · refine q_iconst (pc := 108) dX5_throwToAsk_108 ?_
            refine q_iastore (pc := 109) dX5_throwToAsk_109 (by first | assumption | exact hS.o | exact hS.s0 | exact hS.s1 | exact hS.s2 | exact hS.s3 | exact hS.s4 | exact hS.s5 | exact hS.s6) (by omega) ?_
            refine q_iinc (pc := 110) [some _, some _, some _, some _, some _, some _, some _, some _, some _, some _] dX5_throwToAsk_110 rfl rfl rfl ?_
            refine q_goto (pc := 113) 44 dX5_throwToAsk_113 rfl ?_
            refine ih2 (n + 1) _ _ (by omega) (hs.tr (zSame.up (by omega))) ?_
            simp only [zup, if_pos]
            rw [zsgn_s (by omega) (by first | rw [if_pos (by assumption), ez] | rw [if_neg (by assumption)])]
            rfl
          refine q_bipush (pc := 92) (by decide) dX5_throwToAsk_92 ?_
          refine q_iload (pc := 94) dX5_throwToAsk_94 rfl ?_
          refine q_imul (pc := 96) dX5_throwToAsk_96 ?_
          refine q_iload (pc := 97) dX5_throwToAsk_97 rfl ?_
          refine q_iload (pc := 99) dX5_throwToAsk_99 rfl ?_
          refine q_invokestatic (pc := 101) (d' := d - 1) (mc' := 0) (ms' := 0) (As := [_, _]) cl_X5_92 dX5_throwToAsk_101 rfl rfl (by omega) rfl 0 0 (Nat.le_refl 0) (Nat.le_refl 0) ?_
          refine c_X2_hitsBy (by omega) hqr ?_
          refine q_iadd (pc := 104) dX5_throwToAsk_104 ?_
          refine q_goto (pc := 105) 109 dX5_throwToAsk_105 rfl ?_
          refine q_iastore (pc := 109) dX5_throwToAsk_109 (by first | assumption | exact hS.o | exact hS.s0 | exact hS.s1 | exact hS.s2 | exact hS.s3 | exact hS.s4 | exact hS.s5 | exact hS.s6) (by omega) ?_
          refine q_iinc (pc := 110) [some _, some _, some _, some _, some _, some _, some _, some _, some _, some _] dX5_throwToAsk_110 rfl rfl rfl ?_
          refine q_goto (pc := 113) 44 dX5_throwToAsk_113 rfl ?_
          refine ih2 (n + 1) _ _ (by omega) (hs.tr (zSame.up (by omega))) ?_
          simp only [zup, if_pos]
          rw [zsgn_s (by omega) (by first | rw [if_pos (by assumption), ez] | rw [if_neg (by assumption)])]
          rfl
      refine q_iload (pc := 16) dX5_throwToAsk_16 rfl ?_
      refine q_bipush (pc := 18) (by decide) dX5_throwToAsk_18 ?_
      refine q_icmp_gt (pc := 20) (by omega) (by omega) 142 dX5_throwToAsk_20 rfl (fun c20 => ?_) (fun c20 => ?_)
      · exfalso; omega
      refine q_iload_n (pc := 23) dX5_throwToAsk_23 rfl ?_
      refine q_if_eq (pc := 24) (by omega) 142 dX5_throwToAsk_24 rfl (fun c24 => ?_) (fun c24 => ?_)
      · exfalso; omega
      refine q_iload (pc := 27) dX5_throwToAsk_27 rfl ?_
      refine q_bipush (pc := 29) (by decide) dX5_throwToAsk_29 ?_
      refine q_idiv (pc := 31) dX5_throwToAsk_31 (by omega) (by omega) (by omega) ?_
      refine q_istore (pc := 32) [some _, some _, some _, some _, some _, some _, some _, _, _, _] dX5_throwToAsk_32 rfl (Nat.le_of_ble_eq_true rfl) rfl ?_
      refine q_iload (pc := 34) dX5_throwToAsk_34 rfl ?_
      refine q_bipush (pc := 36) (by decide) dX5_throwToAsk_36 ?_
      refine q_irem (pc := 38) dX5_throwToAsk_38 (by omega) (by omega) (by omega) ?_
      refine q_istore (pc := 39) [some _, some _, some _, some _, some _, some _, some _, some _, _, _] dX5_throwToAsk_39 rfl (Nat.le_of_ble_eq_true rfl) rfl ?_
      refine q_iconst (pc := 41) dX5_throwToAsk_41 ?_
      refine q_istore (pc := 42) [some _, some _, some _, some _, some _, some _, some _, some _, some _, _] dX5_throwToAsk_42 rfl (Nat.le_of_ble_eq_true rfl) rfl ?_
      exact L2 6 0 _ _ (by omega) hs (by rw [show ((0 : Nat) : Int) = 0 from rfl, zsgn_0]; exact hG)
  by_cases hs0 : set = 0
  · skip
    rw [if_pos hs0] at hk
    refine zenter [some _, some _, none, none, none, none, none, none, none, none] pn_X5 rfl (Nat.le_of_ble_eq_true rfl) ?_
    refine q_aload_n (pc := 0) dX5_throwToAsk_0 rfl rfl ?_
    refine q_iload_n (pc := 1) dX5_throwToAsk_1 rfl ?_
    refine q_invokevirtual (pc := 2) (d' := d - 1) (mc' := 0) (ms' := 0) (As := [_]) (TX5, 2) cl_X5_95 dX5_throwToAsk_2 rfl rfl (by assumption) rfl (by omega) rfl 0 0 (Nat.le_refl 0) (Nat.le_refl 0) ?_
    refine c_X5_kindsOfSlinger (by omega) hF hS hO hc ?_
    rw [hset]
    refine q_istore_n (pc := 5) [some _, some _, some _, none, none, none, none, none, none, none] dX5_throwToAsk_5 rfl (Nat.le_of_ble_eq_true rfl) rfl ?_
    refine q_iconst (pc := 6) dX5_throwToAsk_6 ?_
    refine q_istore_n (pc := 7) [some _, some _, some _, some _, none, none, none, none, none, none] dX5_throwToAsk_7 rfl (Nat.le_of_ble_eq_true rfl) rfl ?_
    refine q_bipush (pc := 8) (by decide) dX5_throwToAsk_8 ?_
    refine q_istore (pc := 10) [some _, some _, some _, some _, some _, none, none, none, none, none] dX5_throwToAsk_10 rfl (Nat.le_of_ble_eq_true rfl) rfl ?_
    refine q_bipush (pc := 12) (by decide) dX5_throwToAsk_12 ?_
    refine q_istore (pc := 14) [some _, some _, some _, some _, some _, some _, none, none, none, none] dX5_throwToAsk_14 rfl (Nat.le_of_ble_eq_true rfl) rfl ?_
    refine q_iload (pc := 16) dX5_throwToAsk_16 rfl ?_
    refine q_bipush (pc := 18) (by decide) dX5_throwToAsk_18 ?_
    refine q_icmp_gt (pc := 20) (by omega) (by omega) 142 dX5_throwToAsk_20 rfl (fun c20 => ?_) (fun c20 => ?_)
    · refine q_iload_n (pc := 142) dX5_throwToAsk_142 rfl ?_
      refine q_ireturn (pc := 143) dX5_throwToAsk_143 rfl ?_
      exact hk _ _ zSame.rf hG
    refine q_iload_n (pc := 23) dX5_throwToAsk_23 rfl ?_
    refine q_if_eq (pc := 24) (by omega) 142 dX5_throwToAsk_24 rfl (fun c24 => ?_) (fun c24 => ?_)
    · refine q_iload_n (pc := 142) dX5_throwToAsk_142 rfl ?_
      refine q_ireturn (pc := 143) dX5_throwToAsk_143 rfl ?_
      exact hk _ _ zSame.rf hG
    exfalso; omega
  · skip
    refine zenter [some _, some _, none, none, none, none, none, none, none, none] pn_X5 rfl (Nat.le_of_ble_eq_true rfl) ?_
    refine q_aload_n (pc := 0) dX5_throwToAsk_0 rfl rfl ?_
    refine q_iload_n (pc := 1) dX5_throwToAsk_1 rfl ?_
    refine q_invokevirtual (pc := 2) (d' := d - 1) (mc' := 0) (ms' := 0) (As := [_]) (TX5, 2) cl_X5_95 dX5_throwToAsk_2 rfl rfl (by assumption) rfl (by omega) rfl 0 0 (Nat.le_refl 0) (Nat.le_refl 0) ?_
    refine c_X5_kindsOfSlinger (by omega) hF hS hO hc ?_
    rw [hset]
    refine q_istore_n (pc := 5) [some _, some _, some _, none, none, none, none, none, none, none] dX5_throwToAsk_5 rfl (Nat.le_of_ble_eq_true rfl) rfl ?_
    refine q_iconst (pc := 6) dX5_throwToAsk_6 ?_
    refine q_istore_n (pc := 7) [some _, some _, some _, some _, none, none, none, none, none, none] dX5_throwToAsk_7 rfl (Nat.le_of_ble_eq_true rfl) rfl ?_
    refine q_bipush (pc := 8) (by decide) dX5_throwToAsk_8 ?_
    refine q_istore (pc := 10) [some _, some _, some _, some _, some _, none, none, none, none, none] dX5_throwToAsk_10 rfl (Nat.le_of_ble_eq_true rfl) rfl ?_
    refine q_bipush (pc := 12) (by decide) dX5_throwToAsk_12 ?_
    refine q_istore (pc := 14) [some _, some _, some _, some _, some _, some _, none, none, none, none] dX5_throwToAsk_14 rfl (Nat.le_of_ble_eq_true rfl) rfl ?_
    exact L 90 0 _ _ _ _ _ _ (by omega) hs0 zSame.rf hG
end X5D
