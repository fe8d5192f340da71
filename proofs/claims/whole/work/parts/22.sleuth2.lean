/-! the Sleuth, on -/
section X5B
variable {g : zG} {d : Nat} {w : zWd} {K : Option Value → zWd → Prop} {b sb : Nat} {N P : Int → Int} {u : Int}
set_option maxRecDepth 100000 in
set_option maxHeartbeats 4000000 in
theorem c_X5_fitsNotes {c kd : Int} (hd : 2 ≤ d) (hF : w.1 sb = some (.inl (4, [zR g b, zR g (sb + 1)]))) (hS : zSto g w b N u P) (hO : zOK N) (hc : 0 ≤ c ∧ c < N 0) (hkd : 0 ≤ kd ∧ kd ≤ 5) (k : K (some (zI (zb (zfn N c kd (N 6).toNat = true)))) w) : zCall g d 0 0 mX5_fitsNotes [zR g sb, zI c, zI kd] w K := by
  have hh := hO.1
  have hcb := zcost_b kd
  have L : ∀ (q m : Nat) (x y : Option Value), m + q = (N 6).toNat → zfn N c kd m = true → zRuns g d mX5_fitsNotes 0 0 11 [some (zR g sb), some (zI c), some (zI kd), some (zR g (b + 9)), some (zI (m : Int)), x, y] [] w K := by
    intro q
    induction q with
    | zero =>
      intro m x y hm hz
      refine q_iload (pc := 11) dX5_fitsNotes_11 rfl ?_
      refine q_aload_n (pc := 13) dX5_fitsNotes_13 rfl rfl ?_
      refine q_getfield (pc := 14) gf_X5_43 dX5_fitsNotes_14 (by first | assumption | exact hS.o | exact hS.s0 | exact hS.s1 | exact hS.s2 | exact hS.s3 | exact hS.s4 | exact hS.s5 | exact hS.s6) rfl ?_
      refine q_icmp_ge (pc := 17) (by omega) (by omega) 97 dX5_fitsNotes_17 rfl (fun c17 => ?_) (fun c17 => ?_)
      · refine q_iconst (pc := 97) dX5_fitsNotes_97 ?_
        exact q_zreturn1 (pc := 98) (by rw [show (N 6).toNat = m by omega]; exact hz) dX5_fitsNotes_98 rfl k
      exfalso; omega
    | succ q ih =>
      intro m x y hm hz
      have hb := znt_b hO (i := (m : Int)) (by omega)
      have hmb := zmelt_b kd (N (108 + 5 * (m : Int) + 2)) (N (108 + 5 * (m : Int) + 1))
      have hf := fun h => zfn_f (N := N) (c := c) (kd := kd) (m := m + 1) h q
      have hn : zfn N c kd (m + 1) = (zfn N c kd m && (decide (N (108 + 5 * (m : Int) + 0) ≠ c) || decide (zmelt kd (N (108 + 5 * (m : Int) + 2)) (N (108 + 5 * (m : Int) + 1)) = N (108 + 5 * (m : Int) + 3) ∧ zcost kd = N (108 + 5 * (m : Int) + 4)))) := rfl
      have J : ∀ x2 y2, (x2 = zb (zmelt kd (N (108 + 5 * (m : Int) + 2)) (N (108 + 5 * (m : Int) + 1)) = N (108 + 5 * (m : Int) + 3) ∧ zcost kd = N (108 + 5 * (m : Int) + 4))) → zRuns g d mX5_fitsNotes 0 0 71 [some (zR g sb), some (zI c), some (zI kd), some (zR g (b + 9)), some (zI (m : Int)), some (zI y2), y] [zI x2] w K := by
        intro x2 y2 hx
        subst hx
        by_cases hc1 : N (108 + 5 * (m : Int) + 0) = c
        · skip
          by_cases hp : zmelt kd (N (108 + 5 * (m : Int) + 2)) (N (108 + 5 * (m : Int) + 1)) = N (108 + 5 * (m : Int) + 3) ∧ zcost kd = N (108 + 5 * (m : Int) + 4)
          · skip
            rw [zb_t hp]
            refine q_istore (pc := 71) [some _, some _, some _, some _, some _, some _, some _] dX5_fitsNotes_71 rfl (Nat.le_of_ble_eq_true rfl) rfl ?_
            refine q_aload_n (pc := 73) dX5_fitsNotes_73 rfl rfl ?_
            refine q_iload (pc := 74) dX5_fitsNotes_74 rfl ?_
            refine q_iconst (pc := 76) dX5_fitsNotes_76 ?_
            refine q_invokevirtual (pc := 77) (d' := d - 1) (mc' := 0) (ms' := 0) (As := [_, _]) (TX4, 4) cl_X5_25 dX5_fitsNotes_77 rfl rfl (by first | assumption | exact hS.o | exact hS.s0 | exact hS.s1 | exact hS.s2 | exact hS.s3 | exact hS.s4 | exact hS.s5 | exact hS.s6) rfl (by omega) rfl 0 0 (Nat.le_refl 0) (Nat.le_refl 0) ?_
            refine s_get_note (by omega) hS hO.1 (by omega) (by omega) ?_
            refine q_iload_n (pc := 80) dX5_fitsNotes_80 rfl ?_
            refine q_icmp_ne (pc := 81) (by omega) (by omega) 91 dX5_fitsNotes_81 rfl (fun c81 => ?_) (fun c81 => ?_)
            · first | (exfalso; omega; done) | (refine q_iinc (pc := 91) [some _, some _, some _, some _, some _, some _, some _] dX5_fitsNotes_91 rfl rfl rfl ?_; refine q_goto (pc := 94) 11 dX5_fitsNotes_94 rfl ?_; exact ih (m + 1) _ _ (by omega) (by rw [hn, hz, decide_eq_true hp, Bool.or_true, Bool.and_true]))
            refine q_iload (pc := 84) dX5_fitsNotes_84 rfl ?_
            refine q_if_ne (pc := 86) (by omega) 91 dX5_fitsNotes_86 rfl (fun c86 => ?_) (fun c86 => ?_)
            · first | (exfalso; omega; done) | (refine q_iinc (pc := 91) [some _, some _, some _, some _, some _, some _, some _] dX5_fitsNotes_91 rfl rfl rfl ?_; refine q_goto (pc := 94) 11 dX5_fitsNotes_94 rfl ?_; exact ih (m + 1) _ _ (by omega) (by rw [hn, hz, decide_eq_true hp, Bool.or_true, Bool.and_true]))
            exfalso; omega
          · skip
            rw [zb_f hp]
            refine q_istore (pc := 71) [some _, some _, some _, some _, some _, some _, some _] dX5_fitsNotes_71 rfl (Nat.le_of_ble_eq_true rfl) rfl ?_
            refine q_aload_n (pc := 73) dX5_fitsNotes_73 rfl rfl ?_
            refine q_iload (pc := 74) dX5_fitsNotes_74 rfl ?_
            refine q_iconst (pc := 76) dX5_fitsNotes_76 ?_
            refine q_invokevirtual (pc := 77) (d' := d - 1) (mc' := 0) (ms' := 0) (As := [_, _]) (TX4, 4) cl_X5_25 dX5_fitsNotes_77 rfl rfl (by first | assumption | exact hS.o | exact hS.s0 | exact hS.s1 | exact hS.s2 | exact hS.s3 | exact hS.s4 | exact hS.s5 | exact hS.s6) rfl (by omega) rfl 0 0 (Nat.le_refl 0) (Nat.le_refl 0) ?_
            refine s_get_note (by omega) hS hO.1 (by omega) (by omega) ?_
            refine q_iload_n (pc := 80) dX5_fitsNotes_80 rfl ?_
            refine q_icmp_ne (pc := 81) (by omega) (by omega) 91 dX5_fitsNotes_81 rfl (fun c81 => ?_) (fun c81 => ?_)
            · exfalso; omega
            refine q_iload (pc := 84) dX5_fitsNotes_84 rfl ?_
            refine q_if_ne (pc := 86) (by omega) 91 dX5_fitsNotes_86 rfl (fun c86 => ?_) (fun c86 => ?_)
            · exfalso; omega
            refine q_iconst (pc := 89) dX5_fitsNotes_89 ?_
            exact q_zreturn0 (pc := 90) (by rw [show (N 6).toNat = m + 1 + q by omega, hf (by rw [hn, decide_eq_false hp, Bool.or_false, decide_eq_false (fun z => z hc1), Bool.and_false])]; decide) dX5_fitsNotes_90 rfl k
        · skip
          refine q_istore (pc := 71) [some _, some _, some _, some _, some _, some _, some _] dX5_fitsNotes_71 rfl (Nat.le_of_ble_eq_true rfl) rfl ?_
          refine q_aload_n (pc := 73) dX5_fitsNotes_73 rfl rfl ?_
          refine q_iload (pc := 74) dX5_fitsNotes_74 rfl ?_
          refine q_iconst (pc := 76) dX5_fitsNotes_76 ?_
          refine q_invokevirtual (pc := 77) (d' := d - 1) (mc' := 0) (ms' := 0) (As := [_, _]) (TX4, 4) cl_X5_25 dX5_fitsNotes_77 rfl rfl (by first | assumption | exact hS.o | exact hS.s0 | exact hS.s1 | exact hS.s2 | exact hS.s3 | exact hS.s4 | exact hS.s5 | exact hS.s6) rfl (by omega) rfl 0 0 (Nat.le_refl 0) (Nat.le_refl 0) ?_
          refine s_get_note (by omega) hS hO.1 (by omega) (by omega) ?_
          refine q_iload_n (pc := 80) dX5_fitsNotes_80 rfl ?_
          refine q_icmp_ne (pc := 81) (by omega) (by omega) 91 dX5_fitsNotes_81 rfl (fun c81 => ?_) (fun c81 => ?_)
          · (refine q_iinc (pc := 91) [some _, some _, some _, some _, some _, some _, some _] dX5_fitsNotes_91 rfl rfl rfl ?_; refine q_goto (pc := 94) 11 dX5_fitsNotes_94 rfl ?_; exact ih (m + 1) _ _ (by omega) (by rw [hn, hz, decide_eq_true hc1, Bool.true_or, Bool.and_true]))
          exfalso; omega
      refine q_iload (pc := 11) dX5_fitsNotes_11 rfl ?_
      refine q_aload_n (pc := 13) dX5_fitsNotes_13 rfl rfl ?_
      refine q_getfield (pc := 14) gf_X5_43 dX5_fitsNotes_14 (by first | assumption | exact hS.o | exact hS.s0 | exact hS.s1 | exact hS.s2 | exact hS.s3 | exact hS.s4 | exact hS.s5 | exact hS.s6) rfl ?_
      refine q_icmp_ge (pc := 17) (by omega) (by omega) 97 dX5_fitsNotes_17 rfl (fun c17 => ?_) (fun c17 => ?_)
      · exfalso; omega
      refine q_iload_n (pc := 20) dX5_fitsNotes_20 rfl ?_
      refine q_aload_n (pc := 21) dX5_fitsNotes_21 rfl rfl ?_
      refine q_iload (pc := 22) dX5_fitsNotes_22 rfl ?_
      refine q_iconst (pc := 24) dX5_fitsNotes_24 ?_
      refine q_invokevirtual (pc := 25) (d' := d - 1) (mc' := 0) (ms' := 0) (As := [_, _]) (TX4, 4) cl_X5_25 dX5_fitsNotes_25 rfl rfl (by first | assumption | exact hS.o | exact hS.s0 | exact hS.s1 | exact hS.s2 | exact hS.s3 | exact hS.s4 | exact hS.s5 | exact hS.s6) rfl (by omega) rfl 0 0 (Nat.le_refl 0) (Nat.le_refl 0) ?_
      refine s_get_note (by omega) hS hO.1 (by omega) (by omega) ?_
      refine q_aload_n (pc := 28) dX5_fitsNotes_28 rfl rfl ?_
      refine q_iload (pc := 29) dX5_fitsNotes_29 rfl ?_
      refine q_iconst (pc := 31) dX5_fitsNotes_31 ?_
      refine q_invokevirtual (pc := 32) (d' := d - 1) (mc' := 0) (ms' := 0) (As := [_, _]) (TX4, 4) cl_X5_25 dX5_fitsNotes_32 rfl rfl (by first | assumption | exact hS.o | exact hS.s0 | exact hS.s1 | exact hS.s2 | exact hS.s3 | exact hS.s4 | exact hS.s5 | exact hS.s6) rfl (by omega) rfl 0 0 (Nat.le_refl 0) (Nat.le_refl 0) ?_
      refine s_get_note (by omega) hS hO.1 (by omega) (by omega) ?_
      refine q_invokestatic (pc := 35) (d' := d - 1) (mc' := 0) (ms' := 0) (As := [_, _, _]) cl_X5_57 dX5_fitsNotes_35 rfl rfl (by omega) rfl 0 0 (Nat.le_refl 0) (Nat.le_refl 0) ?_
      refine c_X2_meltBy hkd (by omega) (by omega) ?_
      refine q_istore (pc := 38) [some _, some _, some _, some _, some _, some _, _] dX5_fitsNotes_38 rfl (Nat.le_of_ble_eq_true rfl) rfl ?_
      refine q_iload (pc := 40) dX5_fitsNotes_40 rfl ?_
      refine q_aload_n (pc := 42) dX5_fitsNotes_42 rfl rfl ?_
      refine q_iload (pc := 43) dX5_fitsNotes_43 rfl ?_
      refine q_iconst (pc := 45) dX5_fitsNotes_45 ?_
      refine q_invokevirtual (pc := 46) (d' := d - 1) (mc' := 0) (ms' := 0) (As := [_, _]) (TX4, 4) cl_X5_25 dX5_fitsNotes_46 rfl rfl (by first | assumption | exact hS.o | exact hS.s0 | exact hS.s1 | exact hS.s2 | exact hS.s3 | exact hS.s4 | exact hS.s5 | exact hS.s6) rfl (by omega) rfl 0 0 (Nat.le_refl 0) (Nat.le_refl 0) ?_
      refine s_get_note (by omega) hS hO.1 (by omega) (by omega) ?_
      refine q_icmp_ne (pc := 49) (by omega) (by omega) 70 dX5_fitsNotes_49 rfl (fun c49 => ?_) (fun c49 => ?_)
      · refine q_iconst (pc := 70) dX5_fitsNotes_70 ?_
        exact J _ _ (zb_f (by omega)).symm
      refine q_iload_n (pc := 52) dX5_fitsNotes_52 rfl ?_
      refine q_invokestatic (pc := 53) (d' := d - 1) (mc' := 0) (ms' := 0) (As := [_]) cl_X5_63 dX5_fitsNotes_53 rfl rfl (by omega) rfl 0 0 (Nat.le_refl 0) (Nat.le_refl 0) ?_
      refine c_X2_costOfDoor hkd ?_
      refine q_aload_n (pc := 56) dX5_fitsNotes_56 rfl rfl ?_
      refine q_iload (pc := 57) dX5_fitsNotes_57 rfl ?_
      refine q_iconst (pc := 59) dX5_fitsNotes_59 ?_
      refine q_invokevirtual (pc := 60) (d' := d - 1) (mc' := 0) (ms' := 0) (As := [_, _]) (TX4, 4) cl_X5_25 dX5_fitsNotes_60 rfl rfl (by first | assumption | exact hS.o | exact hS.s0 | exact hS.s1 | exact hS.s2 | exact hS.s3 | exact hS.s4 | exact hS.s5 | exact hS.s6) rfl (by omega) rfl 0 0 (Nat.le_refl 0) (Nat.le_refl 0) ?_
      refine s_get_note (by omega) hS hO.1 (by omega) (by omega) ?_
      refine q_icmp_ne (pc := 63) (by omega) (by omega) 70 dX5_fitsNotes_63 rfl (fun c63 => ?_) (fun c63 => ?_)
      · refine q_iconst (pc := 70) dX5_fitsNotes_70 ?_
        exact J _ _ (zb_f (by omega)).symm
      refine q_iconst (pc := 66) dX5_fitsNotes_66 ?_
      refine q_goto (pc := 67) 71 dX5_fitsNotes_67 rfl ?_
      exact J _ _ (zb_t (by omega)).symm
  refine zenter [some _, some _, some _, none, none, none, none] pn_X5 rfl (Nat.le_of_ble_eq_true rfl) ?_
  refine q_aload_n (pc := 0) dX5_fitsNotes_0 rfl rfl ?_
  refine q_getfield (pc := 1) gf_X5_15 dX5_fitsNotes_1 (by first | assumption | exact hS.o | exact hS.s0 | exact hS.s1 | exact hS.s2 | exact hS.s3 | exact hS.s4 | exact hS.s5 | exact hS.s6) rfl ?_
  refine q_getfield (pc := 4) gf_X5_54 dX5_fitsNotes_4 (by first | assumption | exact hS.o | exact hS.s0 | exact hS.s1 | exact hS.s2 | exact hS.s3 | exact hS.s4 | exact hS.s5 | exact hS.s6) rfl ?_
  refine q_astore_n (pc := 7) [some _, some _, some _, some _, none, none, none] dX5_fitsNotes_7 rfl rfl (Nat.le_of_ble_eq_true rfl) rfl ?_
  refine q_iconst (pc := 8) dX5_fitsNotes_8 ?_
  refine q_istore (pc := 9) [some _, some _, some _, some _, some _, none, none] dX5_fitsNotes_9 rfl (Nat.le_of_ble_eq_true rfl) rfl ?_
  exact L (N 6).toNat 0 _ _ (by omega) rfl
set_option maxRecDepth 100000 in
set_option maxHeartbeats 4000000 in
theorem c_X5_kindsOfCellar {c : Int} (hd : 3 ≤ d) (hF : w.1 sb = some (.inl (4, [zR g b, zR g (sb + 1)]))) (hS : zSto g w b N u P) (hO : zOK N) (hc : 0 ≤ c ∧ c < N 0) (k : K (some (zI (zis N c))) w) : zCall g d 0 0 mX5_kindsOfCellar [zR g sb, zI c] w K := by
  have hk := k
  unfold zis at hk
  have L : ∀ (q m : Nat), m + q = 6 → zRuns g d mX5_kindsOfCellar 0 0 4 [some (zR g sb), some (zI c), some (zI (zbs (fun kd => zfn N c kd (N 6).toNat) m)), some (zI (m : Int))] [] w K := by
    intro q
    induction q with
    | zero =>
      intro m hm
      refine q_iload_n (pc := 4) dX5_kindsOfCellar_4 rfl ?_
      refine q_bipush (pc := 5) (by decide) dX5_kindsOfCellar_5 ?_
      refine q_icmp_ge (pc := 7) (by omega) (by omega) 31 dX5_kindsOfCellar_7 rfl (fun c7 => ?_) (fun c7 => ?_)
      · refine q_iload_n (pc := 31) dX5_kindsOfCellar_31 rfl ?_
        refine q_ireturn (pc := 32) dX5_kindsOfCellar_32 rfl ?_
        rw [show m = 6 by omega]; exact hk
      exfalso; omega
    | succ q ih =>
      intro m hm
      have hih := ih (m + 1) (by omega)
      rw [zbs] at hih
      refine q_iload_n (pc := 4) dX5_kindsOfCellar_4 rfl ?_
      refine q_bipush (pc := 5) (by decide) dX5_kindsOfCellar_5 ?_
      refine q_icmp_ge (pc := 7) (by omega) (by omega) 31 dX5_kindsOfCellar_7 rfl (fun c7 => ?_) (fun c7 => ?_)
      · exfalso; omega
      refine q_aload_n (pc := 10) dX5_kindsOfCellar_10 rfl rfl ?_
      refine q_iload_n (pc := 11) dX5_kindsOfCellar_11 rfl ?_
      refine q_iload_n (pc := 12) dX5_kindsOfCellar_12 rfl ?_
      refine q_invokevirtual (pc := 13) (d' := d - 1) (mc' := 0) (ms' := 0) (As := [_, _]) (TX5, 2) cl_X5_50 dX5_kindsOfCellar_13 rfl rfl (by assumption) rfl (by omega) rfl 0 0 (Nat.le_refl 0) (Nat.le_refl 0) ?_
      refine c_X5_fitsNotes (by omega) hF hS hO hc (by omega) ?_
      refine q_ifb_eq (pc := 16) 25 dX5_kindsOfCellar_16 rfl (fun c16 => ?_) (fun c16 => ?_)
      · (first | rw [if_pos c16] at hih | rw [if_neg c16] at hih)
        refine q_iinc (pc := 25) [some _, some _, some _, some _] dX5_kindsOfCellar_25 rfl rfl rfl ?_
        refine q_goto (pc := 28) 4 dX5_kindsOfCellar_28 rfl ?_
        exact hih
      refine q_iload_n (pc := 19) dX5_kindsOfCellar_19 rfl ?_
      refine q_iconst (pc := 20) dX5_kindsOfCellar_20 ?_
      refine q_iload_n (pc := 21) dX5_kindsOfCellar_21 rfl ?_
      refine q_ishl (pc := 22) dX5_kindsOfCellar_22 ?_
      refine q_ior (pc := 23) dX5_kindsOfCellar_23 ?_
      refine q_istore_n (pc := 24) [some _, some _, some _, some _] dX5_kindsOfCellar_24 rfl (Nat.le_of_ble_eq_true rfl) rfl ?_
      (first | rw [if_pos c16] at hih | rw [if_neg c16] at hih)
      refine q_iinc (pc := 25) [some _, some _, some _, some _] dX5_kindsOfCellar_25 rfl rfl rfl ?_
      refine q_goto (pc := 28) 4 dX5_kindsOfCellar_28 rfl ?_
      exact hih
  refine zenter [some _, some _, none, none] pn_X5 rfl (Nat.le_of_ble_eq_true rfl) ?_
  refine q_iconst (pc := 0) dX5_kindsOfCellar_0 ?_
  refine q_istore_n (pc := 1) [some _, some _, some _, none] dX5_kindsOfCellar_1 rfl (Nat.le_of_ble_eq_true rfl) rfl ?_
  refine q_iconst (pc := 2) dX5_kindsOfCellar_2 ?_
  refine q_istore_n (pc := 3) [some _, some _, some _, some _] dX5_kindsOfCellar_3 rfl (Nat.le_of_ble_eq_true rfl) rfl ?_
  exact L 6 0 (by omega)
set_option maxRecDepth 100000 in
set_option maxHeartbeats 4000000 in
theorem c_X5_mostAlike {sg : Int → Int} (hd : 1 ≤ d) (hF : w.1 sb = some (.inl (4, [zR g b, zR g (sb + 1)]))) (hG : w.1 (sb + 1) = some (.inr (false, 6, sg))) (hs : ∀ i, 0 ≤ i → i < 6 → zR32 (sg i)) (k : K (some (zI (zmostg sg))) w) : zCall g d 0 0 mX5_mostAlike [zR g sb] w K := by
  have hk := k
  unfold zmostg at hk
  have L : ∀ (q m : Nat) (x y : Option Value), m + q = 6 → zRuns g d mX5_mostAlike 0 0 4 [some (zR g sb), some (zI (zmx (fun a => zsg (fun b => zb (sg a ≠ -1 ∧ sg a = sg b)) 6 0) m)), some (zI (m : Int)), x, y] [] w K := by
    intro q
    induction q with
    | zero =>
      intro m x y hm
      refine q_iload_n (pc := 4) dX5_mostAlike_4 rfl ?_
      refine q_aload_n (pc := 5) dX5_mostAlike_5 rfl rfl ?_
      refine q_getfield (pc := 6) gf_X5_9 dX5_mostAlike_6 (by assumption) rfl ?_
      refine q_arraylength (pc := 9) dX5_mostAlike_9 (by assumption) ?_
      refine q_icmp_ge (pc := 10) (by omega) (by omega) 75 dX5_mostAlike_10 rfl (fun c10 => ?_) (fun c10 => ?_)
      · refine q_iload_n (pc := 75) dX5_mostAlike_75 rfl ?_
        refine q_ireturn (pc := 76) dX5_mostAlike_76 rfl ?_
        rw [show m = 6 by omega]; exact hk
      exfalso; omega
    | succ q ih =>
      intro m x y hm
      have hih := fun x y => ih (m + 1) x y (by omega)
      have hsm := hs (m : Int) (by omega) (by omega)
      have hb6 := zsg_b (f := fun b => zb (sg (m : Int) ≠ -1 ∧ sg (m : Int) = sg b)) (B := 1) (m := 6) (a := 0) (fun _ _ _ => zb_b)
      have hbm := zmx_b (f := fun a => zsg (fun b => zb (sg a ≠ -1 ∧ sg a = sg b)) 6 0) (B := 6) (by omega) (m := m) (fun a _ _ => by
        have := zsg_b (f := fun b => zb (sg a ≠ -1 ∧ sg a = sg b)) (B := 1) (m := 6) (a := 0) (fun _ _ _ => zb_b)
        omega)
      have L2 : ∀ (q2 n : Nat), n + q2 = 6 → zRuns g d mX5_mostAlike 0 0 18 [some (zR g sb), some (zI (zmx (fun a => zsg (fun b => zb (sg a ≠ -1 ∧ sg a = sg b)) 6 0) m)), some (zI (m : Int)), some (zI (zsg (fun b => zb (sg (m : Int) ≠ -1 ∧ sg (m : Int) = sg b)) n 0)), some (zI (n : Int))] [] w K := by
        intro q2
        induction q2 with
        | zero =>
          intro n hn
          have hn6 : n = 6 := by omega
          subst hn6
          refine q_iload (pc := 18) dX5_mostAlike_18 rfl ?_
          refine q_aload_n (pc := 20) dX5_mostAlike_20 rfl rfl ?_
          refine q_getfield (pc := 21) gf_X5_9 dX5_mostAlike_21 (by assumption) rfl ?_
          refine q_arraylength (pc := 24) dX5_mostAlike_24 (by assumption) ?_
          refine q_icmp_ge (pc := 25) (by omega) (by omega) 63 dX5_mostAlike_25 rfl (fun c25 => ?_) (fun c25 => ?_)
          · refine q_iload_n (pc := 63) dX5_mostAlike_63 rfl ?_
            refine q_iload_n (pc := 64) dX5_mostAlike_64 rfl ?_
            refine q_max (pc := 65) tw_4_74 tw_1_37 tw_1_4 tw_1_38 dX5_mostAlike_65 (by omega) rfl (by omega) (by omega) ?_
            refine q_istore_n (pc := 68) [some _, some _, some _, some _, some _] dX5_mostAlike_68 rfl (Nat.le_of_ble_eq_true rfl) rfl ?_
            refine q_iinc (pc := 69) [some _, some _, some _, some _, some _] dX5_mostAlike_69 rfl rfl rfl ?_
            refine q_goto (pc := 72) 4 dX5_mostAlike_72 rfl ?_
            exact hih _ _
          exfalso; omega
        | succ q2 ih2 =>
          intro n hn
          have hsn := hs (n : Int) (by omega) (by omega)
          have e : zsg (fun b => zb (sg (m : Int) ≠ -1 ∧ sg (m : Int) = sg b)) n 0 + zb (sg (m : Int) ≠ -1 ∧ sg (m : Int) = sg (n : Int)) = zsg (fun b => zb (sg (m : Int) ≠ -1 ∧ sg (m : Int) = sg b)) (n + 1) 0 := zsg_s (fun b => zb (sg (m : Int) ≠ -1 ∧ sg (m : Int) = sg b)) n 0 (n : Int) (by omega)
          refine q_iload (pc := 18) dX5_mostAlike_18 rfl ?_
          refine q_aload_n (pc := 20) dX5_mostAlike_20 rfl rfl ?_
          refine q_getfield (pc := 21) gf_X5_9 dX5_mostAlike_21 (by assumption) rfl ?_
          refine q_arraylength (pc := 24) dX5_mostAlike_24 (by assumption) ?_
          refine q_icmp_ge (pc := 25) (by omega) (by omega) 63 dX5_mostAlike_25 rfl (fun c25 => ?_) (fun c25 => ?_)
          · exfalso; omega
          refine q_aload_n (pc := 28) dX5_mostAlike_28 rfl rfl ?_
          refine q_getfield (pc := 29) gf_X5_9 dX5_mostAlike_29 (by assumption) rfl ?_
          refine q_iload_n (pc := 32) dX5_mostAlike_32 rfl ?_
          refine q_iaload (pc := 33) dX5_mostAlike_33 (by assumption) (by omega) ?_
          refine q_iconst (pc := 34) dX5_mostAlike_34 ?_
          refine q_icmp_eq (pc := 35) (by omega) (by omega) 57 dX5_mostAlike_35 rfl (fun c35 => ?_) (fun c35 => ?_)
          · (first | rw [zb_f (by omega), Int.add_zero] at e | skip)
            rw [e]
            refine q_iinc (pc := 57) [some _, some _, some _, some _, some _] dX5_mostAlike_57 rfl rfl rfl ?_
            refine q_goto (pc := 60) 18 dX5_mostAlike_60 rfl ?_
            exact ih2 (n + 1) (by omega)
          refine q_aload_n (pc := 38) dX5_mostAlike_38 rfl rfl ?_
          refine q_getfield (pc := 39) gf_X5_9 dX5_mostAlike_39 (by assumption) rfl ?_
          refine q_iload_n (pc := 42) dX5_mostAlike_42 rfl ?_
          refine q_iaload (pc := 43) dX5_mostAlike_43 (by assumption) (by omega) ?_
          refine q_aload_n (pc := 44) dX5_mostAlike_44 rfl rfl ?_
          refine q_getfield (pc := 45) gf_X5_9 dX5_mostAlike_45 (by assumption) rfl ?_
          refine q_iload (pc := 48) dX5_mostAlike_48 rfl ?_
          refine q_iaload (pc := 50) dX5_mostAlike_50 (by assumption) (by omega) ?_
          refine q_icmp_ne (pc := 51) (by omega) (by omega) 57 dX5_mostAlike_51 rfl (fun c51 => ?_) (fun c51 => ?_)
          · (first | rw [zb_f (by omega), Int.add_zero] at e | skip)
            rw [e]
            refine q_iinc (pc := 57) [some _, some _, some _, some _, some _] dX5_mostAlike_57 rfl rfl rfl ?_
            refine q_goto (pc := 60) 18 dX5_mostAlike_60 rfl ?_
            exact ih2 (n + 1) (by omega)
          rw [zb_t ⟨c35, c51⟩] at e
          refine q_iinc (pc := 54) [some _, some _, some _, some _, some _] dX5_mostAlike_54 rfl rfl rfl ?_
          (first | rw [zb_f (by omega), Int.add_zero] at e | skip)
          rw [e]
          refine q_iinc (pc := 57) [some _, some _, some _, some _, some _] dX5_mostAlike_57 rfl rfl rfl ?_
          refine q_goto (pc := 60) 18 dX5_mostAlike_60 rfl ?_
          exact ih2 (n + 1) (by omega)
      refine q_iload_n (pc := 4) dX5_mostAlike_4 rfl ?_
      refine q_aload_n (pc := 5) dX5_mostAlike_5 rfl rfl ?_
      refine q_getfield (pc := 6) gf_X5_9 dX5_mostAlike_6 (by assumption) rfl ?_
      refine q_arraylength (pc := 9) dX5_mostAlike_9 (by assumption) ?_
      refine q_icmp_ge (pc := 10) (by omega) (by omega) 75 dX5_mostAlike_10 rfl (fun c10 => ?_) (fun c10 => ?_)
      · exfalso; omega
      refine q_iconst (pc := 13) dX5_mostAlike_13 ?_
      refine q_istore_n (pc := 14) [some _, some _, some _, some _, _] dX5_mostAlike_14 rfl (Nat.le_of_ble_eq_true rfl) rfl ?_
      refine q_iconst (pc := 15) dX5_mostAlike_15 ?_
      refine q_istore (pc := 16) [some _, some _, some _, some _, some _] dX5_mostAlike_16 rfl (Nat.le_of_ble_eq_true rfl) rfl ?_
      exact L2 6 0 (by omega)
  refine zenter [some _, none, none, none, none] pn_X5 rfl (Nat.le_of_ble_eq_true rfl) ?_
  refine q_iconst (pc := 0) dX5_mostAlike_0 ?_
  refine q_istore_n (pc := 1) [some _, some _, none, none, none] dX5_mostAlike_1 rfl (Nat.le_of_ble_eq_true rfl) rfl ?_
  refine q_iconst (pc := 2) dX5_mostAlike_2 ?_
  refine q_istore_n (pc := 3) [some _, some _, some _, none, none] dX5_mostAlike_3 rfl (Nat.le_of_ble_eq_true rfl) rfl ?_
  exact L 6 0 _ _ (by omega)
end X5B
