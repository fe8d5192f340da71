/-! the Battle: rest, turned, prices -/
def zallat (N H : Int → Int) (q : Int) : Int := N (84 + q) - N (88 + q) - zsg (fun c => H (c * 4 + q)) (N 1).toNat 0
def zoffto (f : Int → Int) (hits price h : Int) : Int → Int := fun j => if h < j ∧ j ≤ 40 ∧ f (max 0 (j - hits)) + price < f j then f (max 0 (j - hits)) + price else f j
theorem zoffto_n {f : Int → Int} {hits price h : Int} (h0 : 1 ≤ h ∧ h ≤ 40) (q : ¬ f (max 0 (h - hits)) + price < f h) : zoffto f hits price h = zoffto f hits price (h - 1) := by
  funext j
  unfold zoffto
  by_cases e : j = h
  · subst e; rw [if_neg (by omega), if_neg (by omega)]
  · by_cases p : h < j ∧ j ≤ 40 ∧ f (max 0 (j - hits)) + price < f j
    · rw [if_pos p, if_pos (by omega)]
    · rw [if_neg p, if_neg (by omega)]
theorem zoffto_y {f : Int → Int} {hits price h : Int} (h0 : 1 ≤ h ∧ h ≤ 40) (q : f (max 0 (h - hits)) + price < f h) : zfu (zoffto f hits price h) h (f (max 0 (h - hits)) + price) = zoffto f hits price (h - 1) := by
  funext j
  unfold zfu zoffto
  by_cases e : j = h
  · subst e; rw [if_pos rfl, if_pos (by omega)]
  · rw [if_neg e]
    by_cases p : h < j ∧ j ≤ 40 ∧ f (max 0 (j - hits)) + price < f j
    · rw [if_pos p, if_pos (by omega)]
    · rw [if_neg p, if_neg (by omega)]
theorem zoffto_o {f : Int → Int} {hits price h j : Int} (hj : j ≤ h) : zoffto f hits price h j = f j := by
  unfold zoffto; rw [if_neg (by omega)]
def zoffer (f : Int → Int) (hits price : Int) : Int → Int := zoffto f hits price 0
section X0B
variable {g : zG} {d : Nat} {w : zWd} {K : Option Value → zWd → Prop} {b sb : Nat} {N P : Int → Int} {u : Int}
set_option maxRecDepth 100000 in
set_option maxHeartbeats 4000000 in
theorem c_X0_pairsThatRest {x y q r : Int} (hd : 5 ≤ d) (hF : w.1 sb = some (.inl (0, [zR g b, zR g (sb + 1), zR g (sb + 2), zR g (sb + 3), zR g (sb + 4), zR g (sb + 5)]))) (hS : zSto g w b N u P) (hO : zOK N) (hx : 0 ≤ x ∧ x < N 1) (hy : 0 ≤ y ∧ y < N 1) (hq : 0 ≤ q ∧ q < N 2) (hr : 1 ≤ r ∧ r ≤ 9) (k : K (some (zI (zprs N x y q r 4))) w) : zCall g d 0 0 mX0_pairsThatRest [zR g sb, zI x, zI y, zI q, zI r] w K := by
  have hh := hO.1
  have hcd := hO.2.2.2.2.1 q hq.1 hq.2
  have hax := zhat_b (N := N) (s := x) (k := q) (v := N 4) hr
  have hay := zhat_b (N := N) (s := y) (k := q) (v := N 4) hr
  have L : ∀ (p m : Nat) (x1 x2 : Option Value), m + p = 4 → zRuns g d mX0_pairsThatRest 0 0 56 [some (zR g sb), some (zI x), some (zI y), some (zI q), some (zI r), some (zI (N (84 + q) - N (88 + q))), some (zI (zhat N x q r (N 4))), some (zI (zhat N y q r (N 4))), some (zI (zprs N x y q r m)), some (zI (m : Int)), x1, x2] [] w K := by
    intro p
    induction p with
    | zero =>
      intro m x1 x2 hm
      refine q_iload (pc := 56) dX0_pairsThatRest_56 rfl ?_
      refine q_iconst (pc := 58) dX0_pairsThatRest_58 ?_
      refine q_icmp_ge (pc := 59) (by omega) (by omega) 125 dX0_pairsThatRest_59 rfl (fun c59 => ?_) (fun c59 => ?_)
      · refine q_iload (pc := 125) dX0_pairsThatRest_125 rfl ?_
        refine q_ireturn (pc := 127) dX0_pairsThatRest_127 rfl ?_
        rw [show m = 4 by omega]; exact k
      exfalso; omega
    | succ p ih =>
      intro m x1 x2 hm
      have hm4 : m = 0 ∨ m = 1 ∨ m = 2 ∨ m = 3 := by omega
      have hij : (0 ≤ zand (m : Int) 1 ∧ zand (m : Int) 1 ≤ 1) ∧ (0 ≤ zshr (m : Int) 1 ∧ zshr (m : Int) 1 ≤ 1) := by
        rcases hm4 with e | e | e | e <;> subst e <;> decide +kernel
      have e1 := zmul_b hij.1 hax
      have e2 := zmul_b hij.2 hay
      have hih := fun x1 x2 => ih (m + 1) x1 x2 (by omega)
      have e : zprs N x y q r (m + 1) = if decide (zrests (N (84 + q) - N (88 + q) - zshr (m : Int) 1 * zhat N y q r (N 4)) (zhat N x q r (N 4)) (zand (m : Int) 1) ∧ zrests (N (84 + q) - N (88 + q) - zand (m : Int) 1 * zhat N x q r (N 4)) (zhat N y q r (N 4)) (zshr (m : Int) 1)) = true then zor (zprs N x y q r m) (zshl 1 (m : Int)) else zprs N x y q r m := rfl
      have hT : zrests (N (84 + q) - N (88 + q) - zshr (m : Int) 1 * zhat N y q r (N 4)) (zhat N x q r (N 4)) (zand (m : Int) 1) ∧ zrests (N (84 + q) - N (88 + q) - zand (m : Int) 1 * zhat N x q r (N 4)) (zhat N y q r (N 4)) (zshr (m : Int) 1) → zRuns g d mX0_pairsThatRest 0 0 56 [some (zR g sb), some (zI x), some (zI y), some (zI q), some (zI r), some (zI (N (84 + q) - N (88 + q))), some (zI (zhat N x q r (N 4))), some (zI (zhat N y q r (N 4))), some (zI (zor (zprs N x y q r m) (zshl 1 (m : Int)))), some (zI ((m : Int) + 1)), some (zI (zand (m : Int) 1)), some (zI (zshr (m : Int) 1))] [] w K := fun z => by
        rw [e, if_pos (decide_eq_true z)] at hih; exact hih _ _
      have hN : ¬ (zrests (N (84 + q) - N (88 + q) - zshr (m : Int) 1 * zhat N y q r (N 4)) (zhat N x q r (N 4)) (zand (m : Int) 1) ∧ zrests (N (84 + q) - N (88 + q) - zand (m : Int) 1 * zhat N x q r (N 4)) (zhat N y q r (N 4)) (zshr (m : Int) 1)) → zRuns g d mX0_pairsThatRest 0 0 56 [some (zR g sb), some (zI x), some (zI y), some (zI q), some (zI r), some (zI (N (84 + q) - N (88 + q))), some (zI (zhat N x q r (N 4))), some (zI (zhat N y q r (N 4))), some (zI (zprs N x y q r m)), some (zI ((m : Int) + 1)), some (zI (zand (m : Int) 1)), some (zI (zshr (m : Int) 1))] [] w K := fun z => by
        rw [e, if_neg (fun y => z (of_decide_eq_true y))] at hih; exact hih _ _
      refine q_iload (pc := 56) dX0_pairsThatRest_56 rfl ?_
      refine q_iconst (pc := 58) dX0_pairsThatRest_58 ?_
      refine q_icmp_ge (pc := 59) (by omega) (by omega) 125 dX0_pairsThatRest_59 rfl (fun c59 => ?_) (fun c59 => ?_)
      · exfalso; omega
      refine q_iload (pc := 62) dX0_pairsThatRest_62 rfl ?_
      refine q_iconst (pc := 64) dX0_pairsThatRest_64 ?_
      refine q_iand (pc := 65) dX0_pairsThatRest_65 ?_
      refine q_istore (pc := 66) [some _, some _, some _, some _, some _, some _, some _, some _, some _, some _, some _, _] dX0_pairsThatRest_66 rfl (Nat.le_of_ble_eq_true rfl) rfl ?_
      refine q_iload (pc := 68) dX0_pairsThatRest_68 rfl ?_
      refine q_iconst (pc := 70) dX0_pairsThatRest_70 ?_
      refine q_ishr (pc := 71) dX0_pairsThatRest_71 ?_
      refine q_istore (pc := 72) [some _, some _, some _, some _, some _, some _, some _, some _, some _, some _, some _, some _] dX0_pairsThatRest_72 rfl (Nat.le_of_ble_eq_true rfl) rfl ?_
      refine q_iload (pc := 74) dX0_pairsThatRest_74 rfl ?_
      refine q_iload (pc := 76) dX0_pairsThatRest_76 rfl ?_
      refine q_iload (pc := 78) dX0_pairsThatRest_78 rfl ?_
      refine q_imul (pc := 80) dX0_pairsThatRest_80 ?_
      refine q_isub (pc := 81) dX0_pairsThatRest_81 ?_
      refine q_iload (pc := 82) dX0_pairsThatRest_82 rfl ?_
      refine q_iload (pc := 84) dX0_pairsThatRest_84 rfl ?_
      refine q_invokestatic (pc := 86) (d' := d - 1) (mc' := 0) (ms' := 0) (As := [_, _, _]) cl_X0_122 dX0_pairsThatRest_86 rfl rfl (by omega) rfl 0 0 (Nat.le_refl 0) (Nat.le_refl 0) ?_
      refine c_X0_rests (by omega) (by omega) hax hij.1 ?_
      refine q_ifb_eq (pc := 89) 119 dX0_pairsThatRest_89 rfl (fun c89 => ?_) (fun c89 => ?_)
      · refine q_iinc (pc := 119) [some _, some _, some _, some _, some _, some _, some _, some _, some _, some _, some _, some _] dX0_pairsThatRest_119 rfl rfl rfl ?_
        refine q_goto (pc := 122) 56 dX0_pairsThatRest_122 rfl ?_
        first | exact hT ⟨c89, c107⟩ | exact hN (fun z => c107 z.2) | exact hN (fun z => c89 z.1)
      refine q_iload (pc := 92) dX0_pairsThatRest_92 rfl ?_
      refine q_iload (pc := 94) dX0_pairsThatRest_94 rfl ?_
      refine q_iload (pc := 96) dX0_pairsThatRest_96 rfl ?_
      refine q_imul (pc := 98) dX0_pairsThatRest_98 ?_
      refine q_isub (pc := 99) dX0_pairsThatRest_99 ?_
      refine q_iload (pc := 100) dX0_pairsThatRest_100 rfl ?_
      refine q_iload (pc := 102) dX0_pairsThatRest_102 rfl ?_
      refine q_invokestatic (pc := 104) (d' := d - 1) (mc' := 0) (ms' := 0) (As := [_, _, _]) cl_X0_122 dX0_pairsThatRest_104 rfl rfl (by omega) rfl 0 0 (Nat.le_refl 0) (Nat.le_refl 0) ?_
      refine c_X0_rests (by omega) (by omega) hay hij.2 ?_
      refine q_ifb_eq (pc := 107) 119 dX0_pairsThatRest_107 rfl (fun c107 => ?_) (fun c107 => ?_)
      · refine q_iinc (pc := 119) [some _, some _, some _, some _, some _, some _, some _, some _, some _, some _, some _, some _] dX0_pairsThatRest_119 rfl rfl rfl ?_
        refine q_goto (pc := 122) 56 dX0_pairsThatRest_122 rfl ?_
        first | exact hT ⟨c89, c107⟩ | exact hN (fun z => c107 z.2) | exact hN (fun z => c89 z.1)
      refine q_iload (pc := 110) dX0_pairsThatRest_110 rfl ?_
      refine q_iconst (pc := 112) dX0_pairsThatRest_112 ?_
      refine q_iload (pc := 113) dX0_pairsThatRest_113 rfl ?_
      refine q_ishl (pc := 115) dX0_pairsThatRest_115 ?_
      refine q_ior (pc := 116) dX0_pairsThatRest_116 ?_
      refine q_istore (pc := 117) [some _, some _, some _, some _, some _, some _, some _, some _, some _, some _, some _, some _] dX0_pairsThatRest_117 rfl (Nat.le_of_ble_eq_true rfl) rfl ?_
      refine q_iinc (pc := 119) [some _, some _, some _, some _, some _, some _, some _, some _, some _, some _, some _, some _] dX0_pairsThatRest_119 rfl rfl rfl ?_
      refine q_goto (pc := 122) 56 dX0_pairsThatRest_122 rfl ?_
      first | exact hT ⟨c89, c107⟩ | exact hN (fun z => c107 z.2) | exact hN (fun z => c89 z.1)
  refine zenter [some _, some _, some _, some _, some _, none, none, none, none, none, none, none] pn_X0 rfl (Nat.le_of_ble_eq_true rfl) ?_
  refine q_aload_n (pc := 0) dX0_pairsThatRest_0 rfl rfl ?_
  refine q_getfield (pc := 1) gf_X0_27 dX0_pairsThatRest_1 (by first | assumption | exact hS.o | exact hS.s0 | exact hS.s1 | exact hS.s2 | exact hS.s3 | exact hS.s4 | exact hS.s5 | exact hS.s6) rfl ?_
  refine q_iload_n (pc := 4) dX0_pairsThatRest_4 rfl ?_
  refine q_invokevirtual (pc := 5) (d' := d - 1) (mc' := 0) (ms' := 0) (As := [_]) (TX6, 9) cl_X0_41 dX0_pairsThatRest_5 rfl rfl (by first | assumption | exact hS.o | exact hS.s0 | exact hS.s1 | exact hS.s2 | exact hS.s3 | exact hS.s4 | exact hS.s5 | exact hS.s6) rfl (by omega) rfl 0 0 (Nat.le_refl 0) (Nat.le_refl 0) ?_
  refine c_X6_needsYet (by omega) hS hO.1 hq ?_
  refine q_istore (pc := 8) [some _, some _, some _, some _, some _, some _, none, none, none, none, none, none] dX0_pairsThatRest_8 rfl (Nat.le_of_ble_eq_true rfl) rfl ?_
  refine q_aload_n (pc := 10) dX0_pairsThatRest_10 rfl rfl ?_
  refine q_getfield (pc := 11) gf_X0_27 dX0_pairsThatRest_11 (by first | assumption | exact hS.o | exact hS.s0 | exact hS.s1 | exact hS.s2 | exact hS.s3 | exact hS.s4 | exact hS.s5 | exact hS.s6) rfl ?_
  refine q_iload_n (pc := 14) dX0_pairsThatRest_14 rfl ?_
  refine q_iload_n (pc := 15) dX0_pairsThatRest_15 rfl ?_
  refine q_iload (pc := 16) dX0_pairsThatRest_16 rfl ?_
  refine q_aload_n (pc := 18) dX0_pairsThatRest_18 rfl rfl ?_
  refine q_getfield (pc := 19) gf_X0_27 dX0_pairsThatRest_19 (by first | assumption | exact hS.o | exact hS.s0 | exact hS.s1 | exact hS.s2 | exact hS.s3 | exact hS.s4 | exact hS.s5 | exact hS.s6) rfl ?_
  refine q_getfield (pc := 22) gf_X0_31 dX0_pairsThatRest_22 (by first | assumption | exact hS.o | exact hS.s0 | exact hS.s1 | exact hS.s2 | exact hS.s3 | exact hS.s4 | exact hS.s5 | exact hS.s6) rfl ?_
  refine q_invokevirtual (pc := 25) (d' := d - 1) (mc' := 0) (ms' := 0) (As := [_, _, _, _]) (TX6, 9) cl_X0_52 dX0_pairsThatRest_25 rfl rfl (by first | assumption | exact hS.o | exact hS.s0 | exact hS.s1 | exact hS.s2 | exact hS.s3 | exact hS.s4 | exact hS.s5 | exact hS.s6) rfl (by omega) rfl 0 0 (Nat.le_refl 0) (Nat.le_refl 0) ?_
  refine c_X6_hitsAt (by omega) hS hO hx hq hr (by omega) ?_
  refine q_istore (pc := 28) [some _, some _, some _, some _, some _, some _, some _, none, none, none, none, none] dX0_pairsThatRest_28 rfl (Nat.le_of_ble_eq_true rfl) rfl ?_
  refine q_aload_n (pc := 30) dX0_pairsThatRest_30 rfl rfl ?_
  refine q_getfield (pc := 31) gf_X0_27 dX0_pairsThatRest_31 (by first | assumption | exact hS.o | exact hS.s0 | exact hS.s1 | exact hS.s2 | exact hS.s3 | exact hS.s4 | exact hS.s5 | exact hS.s6) rfl ?_
  refine q_iload_n (pc := 34) dX0_pairsThatRest_34 rfl ?_
  refine q_iload_n (pc := 35) dX0_pairsThatRest_35 rfl ?_
  refine q_iload (pc := 36) dX0_pairsThatRest_36 rfl ?_
  refine q_aload_n (pc := 38) dX0_pairsThatRest_38 rfl rfl ?_
  refine q_getfield (pc := 39) gf_X0_27 dX0_pairsThatRest_39 (by first | assumption | exact hS.o | exact hS.s0 | exact hS.s1 | exact hS.s2 | exact hS.s3 | exact hS.s4 | exact hS.s5 | exact hS.s6) rfl ?_
  refine q_getfield (pc := 42) gf_X0_31 dX0_pairsThatRest_42 (by first | assumption | exact hS.o | exact hS.s0 | exact hS.s1 | exact hS.s2 | exact hS.s3 | exact hS.s4 | exact hS.s5 | exact hS.s6) rfl ?_
  refine q_invokevirtual (pc := 45) (d' := d - 1) (mc' := 0) (ms' := 0) (As := [_, _, _, _]) (TX6, 9) cl_X0_52 dX0_pairsThatRest_45 rfl rfl (by first | assumption | exact hS.o | exact hS.s0 | exact hS.s1 | exact hS.s2 | exact hS.s3 | exact hS.s4 | exact hS.s5 | exact hS.s6) rfl (by omega) rfl 0 0 (Nat.le_refl 0) (Nat.le_refl 0) ?_
  refine c_X6_hitsAt (by omega) hS hO hy hq hr (by omega) ?_
  refine q_istore (pc := 48) [some _, some _, some _, some _, some _, some _, some _, some _, none, none, none, none] dX0_pairsThatRest_48 rfl (Nat.le_of_ble_eq_true rfl) rfl ?_
  refine q_iconst (pc := 50) dX0_pairsThatRest_50 ?_
  refine q_istore (pc := 51) [some _, some _, some _, some _, some _, some _, some _, some _, some _, none, none, none] dX0_pairsThatRest_51 rfl (Nat.le_of_ble_eq_true rfl) rfl ?_
  refine q_iconst (pc := 53) dX0_pairsThatRest_53 ?_
  refine q_istore (pc := 54) [some _, some _, some _, some _, some _, some _, some _, some _, some _, some _, none, none] dX0_pairsThatRest_54 rfl (Nat.le_of_ble_eq_true rfl) rfl ?_
  exact L 4 0 _ _ (by omega)
set_option maxRecDepth 100000 in
set_option maxHeartbeats 4000000 in
theorem c_X0_turnedNow {f : Int → Int} (hd : 1 ≤ d) (hF : w.1 sb = some (.inl (0, [zR g b, zR g (sb + 1), zR g (sb + 2), zR g (sb + 3), zR g (sb + 4), zR g (sb + 5)]))) (hS : zSto g w b N u P) (hO : zOK N) (hG : w.1 (sb + 3) = some (.inr (false, 4, f))) (hf : ∀ i, 0 ≤ i → i < N 2 → zR32 (f i)) (k : K (some (zI (zsg (fun q => zb (f q ≤ 0)) (N 2).toNat 0))) w) : zCall g d 0 0 mX0_turnedNow [zR g sb] w K := by
  have hh := hO.1
  have L : ∀ (p m : Nat), m + p = (N 2).toNat → zRuns g d mX0_turnedNow 0 0 4 [some (zR g sb), some (zI (zsg (fun q => zb (f q ≤ 0)) m 0)), some (zI (m : Int))] [] w K := by
    intro p
    induction p with
    | zero =>
      intro m hm
      refine q_iload_n (pc := 4) dX0_turnedNow_4 rfl ?_
      refine q_aload_n (pc := 5) dX0_turnedNow_5 rfl rfl ?_
      refine q_getfield (pc := 6) gf_X0_27 dX0_turnedNow_6 (by first | assumption | exact hS.o | exact hS.s0 | exact hS.s1 | exact hS.s2 | exact hS.s3 | exact hS.s4 | exact hS.s5 | exact hS.s6) rfl ?_
      refine q_getfield (pc := 9) gf_X0_96 dX0_turnedNow_9 (by first | assumption | exact hS.o | exact hS.s0 | exact hS.s1 | exact hS.s2 | exact hS.s3 | exact hS.s4 | exact hS.s5 | exact hS.s6) rfl ?_
      refine q_getfield (pc := 12) gf_X0_91 dX0_turnedNow_12 (by first | assumption | exact hS.o | exact hS.s0 | exact hS.s1 | exact hS.s2 | exact hS.s3 | exact hS.s4 | exact hS.s5 | exact hS.s6) rfl ?_
      refine q_icmp_ge (pc := 15) (by omega) (by omega) 45 dX0_turnedNow_15 rfl (fun c15 => ?_) (fun c15 => ?_)
      · refine q_iload_n (pc := 45) dX0_turnedNow_45 rfl ?_
        refine q_ireturn (pc := 46) dX0_turnedNow_46 rfl ?_
        rw [show m = (N 2).toNat by omega]; exact k
      exfalso; omega
    | succ p ih =>
      intro m hm
      have hfm := hf (m : Int) (by omega) (by omega)
      have e : zsg (fun q => zb (f q ≤ 0)) m 0 + zb (f (m : Int) ≤ 0) = zsg (fun q => zb (f q ≤ 0)) (m + 1) 0 := zsg_s (fun q => zb (f q ≤ 0)) m 0 (m : Int) (by omega)
      refine q_iload_n (pc := 4) dX0_turnedNow_4 rfl ?_
      refine q_aload_n (pc := 5) dX0_turnedNow_5 rfl rfl ?_
      refine q_getfield (pc := 6) gf_X0_27 dX0_turnedNow_6 (by first | assumption | exact hS.o | exact hS.s0 | exact hS.s1 | exact hS.s2 | exact hS.s3 | exact hS.s4 | exact hS.s5 | exact hS.s6) rfl ?_
      refine q_getfield (pc := 9) gf_X0_96 dX0_turnedNow_9 (by first | assumption | exact hS.o | exact hS.s0 | exact hS.s1 | exact hS.s2 | exact hS.s3 | exact hS.s4 | exact hS.s5 | exact hS.s6) rfl ?_
      refine q_getfield (pc := 12) gf_X0_91 dX0_turnedNow_12 (by first | assumption | exact hS.o | exact hS.s0 | exact hS.s1 | exact hS.s2 | exact hS.s3 | exact hS.s4 | exact hS.s5 | exact hS.s6) rfl ?_
      refine q_icmp_ge (pc := 15) (by omega) (by omega) 45 dX0_turnedNow_15 rfl (fun c15 => ?_) (fun c15 => ?_)
      · exfalso; omega
      refine q_iload_n (pc := 18) dX0_turnedNow_18 rfl ?_
      refine q_aload_n (pc := 19) dX0_turnedNow_19 rfl rfl ?_
      refine q_getfield (pc := 20) gf_X0_18 dX0_turnedNow_20 (by first | assumption | exact hS.o | exact hS.s0 | exact hS.s1 | exact hS.s2 | exact hS.s3 | exact hS.s4 | exact hS.s5 | exact hS.s6) rfl ?_
      refine q_arraylength (pc := 23) dX0_turnedNow_23 (by first | assumption | exact hS.o | exact hS.s0 | exact hS.s1 | exact hS.s2 | exact hS.s3 | exact hS.s4 | exact hS.s5 | exact hS.s6) ?_
      refine q_icmp_ge (pc := 24) (by omega) (by omega) 45 dX0_turnedNow_24 rfl (fun c24 => ?_) (fun c24 => ?_)
      · exfalso; omega
      refine q_aload_n (pc := 27) dX0_turnedNow_27 rfl rfl ?_
      refine q_getfield (pc := 28) gf_X0_18 dX0_turnedNow_28 (by first | assumption | exact hS.o | exact hS.s0 | exact hS.s1 | exact hS.s2 | exact hS.s3 | exact hS.s4 | exact hS.s5 | exact hS.s6) rfl ?_
      refine q_iload_n (pc := 31) dX0_turnedNow_31 rfl ?_
      refine q_iaload (pc := 32) dX0_turnedNow_32 (by first | assumption | exact hS.o | exact hS.s0 | exact hS.s1 | exact hS.s2 | exact hS.s3 | exact hS.s4 | exact hS.s5 | exact hS.s6) (by omega) ?_
      refine q_if_gt (pc := 33) (by omega) 39 dX0_turnedNow_33 rfl (fun c33 => ?_) (fun c33 => ?_)
      · (first | rw [zb_f (by omega), Int.add_zero] at e | skip)
        rw [e]
        refine q_iinc (pc := 39) [some _, some _, some _] dX0_turnedNow_39 rfl rfl rfl ?_
        refine q_goto (pc := 42) 4 dX0_turnedNow_42 rfl ?_
        exact ih (m + 1) (by omega)
      rw [zb_t (by omega)] at e
      refine q_iinc (pc := 36) [some _, some _, some _] dX0_turnedNow_36 rfl rfl rfl ?_
      (first | rw [zb_f (by omega), Int.add_zero] at e | skip)
      rw [e]
      refine q_iinc (pc := 39) [some _, some _, some _] dX0_turnedNow_39 rfl rfl rfl ?_
      refine q_goto (pc := 42) 4 dX0_turnedNow_42 rfl ?_
      exact ih (m + 1) (by omega)
  refine zenter [some _, none, none] pn_X0 rfl (Nat.le_of_ble_eq_true rfl) ?_
  refine q_iconst (pc := 0) dX0_turnedNow_0 ?_
  refine q_istore_n (pc := 1) [some _, some _, none] dX0_turnedNow_1 rfl (Nat.le_of_ble_eq_true rfl) rfl ?_
  refine q_iconst (pc := 2) dX0_turnedNow_2 ?_
  refine q_istore_n (pc := 3) [some _, some _, some _] dX0_turnedNow_3 rfl (Nat.le_of_ble_eq_true rfl) rfl ?_
  exact L (N 2).toNat 0 (by omega)
set_option maxRecDepth 100000 in
set_option maxHeartbeats 4000000 in
theorem c_X0_turnedByAllAtEach {f : Int → Int} (hd : 3 ≤ d) (hF : w.1 sb = some (.inl (0, [zR g b, zR g (sb + 1), zR g (sb + 2), zR g (sb + 3), zR g (sb + 4), zR g (sb + 5)]))) (hS : zSto g w b N u P) (hO : zOK N) (hG : w.1 (sb + 2) = some (.inr (false, 24, f))) (hf : ∀ c q, 0 ≤ c → c < N 1 → 0 ≤ q → q < N 2 → 0 ≤ f (c * 4 + q) ∧ f (c * 4 + q) ≤ 310) (k : K (some (zI (zsg (fun q => zb (zallat N f q ≤ 0)) (N 2).toNat 0))) w) : zCall g d 0 0 mX0_turnedByAllAtEach [zR g sb] w K := by
  have hh := hO.1
  have L : ∀ (p m : Nat) (x1 x2 : Option Value), m + p = (N 2).toNat → zRuns g d mX0_turnedByAllAtEach 0 0 4 [some (zR g sb), some (zI (zsg (fun q => zb (zallat N f q ≤ 0)) m 0)), some (zI (m : Int)), x1, x2] [] w K := by
    intro p
    induction p with
    | zero =>
      intro m x1 x2 hm
      refine q_iload_n (pc := 4) dX0_turnedByAllAtEach_4 rfl ?_
      refine q_aload_n (pc := 5) dX0_turnedByAllAtEach_5 rfl rfl ?_
      refine q_getfield (pc := 6) gf_X0_27 dX0_turnedByAllAtEach_6 (by first | assumption | exact hS.o | exact hS.s0 | exact hS.s1 | exact hS.s2 | exact hS.s3 | exact hS.s4 | exact hS.s5 | exact hS.s6) rfl ?_
      refine q_getfield (pc := 9) gf_X0_96 dX0_turnedByAllAtEach_9 (by first | assumption | exact hS.o | exact hS.s0 | exact hS.s1 | exact hS.s2 | exact hS.s3 | exact hS.s4 | exact hS.s5 | exact hS.s6) rfl ?_
      refine q_getfield (pc := 12) gf_X0_91 dX0_turnedByAllAtEach_12 (by first | assumption | exact hS.o | exact hS.s0 | exact hS.s1 | exact hS.s2 | exact hS.s3 | exact hS.s4 | exact hS.s5 | exact hS.s6) rfl ?_
      refine q_icmp_ge (pc := 15) (by omega) (by omega) 74 dX0_turnedByAllAtEach_15 rfl (fun c15 => ?_) (fun c15 => ?_)
      · refine q_iload_n (pc := 74) dX0_turnedByAllAtEach_74 rfl ?_
        refine q_ireturn (pc := 75) dX0_turnedByAllAtEach_75 rfl ?_
        rw [show m = (N 2).toNat by omega]; exact k
      exfalso; omega
    | succ p ih =>
      intro m x1 x2 hm
      have hcd := hO.2.2.2.2.1 (m : Int) (by omega) (by omega)
      have e : zsg (fun q => zb (zallat N f q ≤ 0)) m 0 + zb (zallat N f (m : Int) ≤ 0) = zsg (fun q => zb (zallat N f q ≤ 0)) (m + 1) 0 := zsg_s (fun q => zb (zallat N f q ≤ 0)) m 0 (m : Int) (by omega)
      have ea : zallat N f (m : Int) = N (84 + (m : Int)) - N (88 + (m : Int)) - zsg (fun c => f (c * 4 + (m : Int))) (N 1).toNat 0 := rfl
      have hih := fun x1 x2 => ih (m + 1) x1 x2 (by omega)
      have L2 : ∀ (p2 n : Nat), n + p2 = (N 1).toNat → zRuns g d mX0_turnedByAllAtEach 0 0 30 [some (zR g sb), some (zI (zsg (fun q => zb (zallat N f q ≤ 0)) m 0)), some (zI (m : Int)), some (zI (N (84 + (m : Int)) - N (88 + (m : Int)) - zsg (fun c => f (c * 4 + (m : Int))) n 0)), some (zI (n : Int))] [] w K := by
        intro p2
        induction p2 with
        | zero =>
          intro n hn
          have hb := zsg_b (f := fun c => f (c * 4 + (m : Int))) (B := 310) (m := n) (a := 0) (fun i h1 h2 => hf i (m : Int) h1 (by omega) (by omega) (by omega))
          have hn2 : (N 1).toNat = n := by omega
          rw [hn2] at ea
          refine q_iload (pc := 30) dX0_turnedByAllAtEach_30 rfl ?_
          refine q_aload_n (pc := 32) dX0_turnedByAllAtEach_32 rfl rfl ?_
          refine q_getfield (pc := 33) gf_X0_27 dX0_turnedByAllAtEach_33 (by first | assumption | exact hS.o | exact hS.s0 | exact hS.s1 | exact hS.s2 | exact hS.s3 | exact hS.s4 | exact hS.s5 | exact hS.s6) rfl ?_
          refine q_getfield (pc := 36) gf_X0_87 dX0_turnedByAllAtEach_36 (by first | assumption | exact hS.o | exact hS.s0 | exact hS.s1 | exact hS.s2 | exact hS.s3 | exact hS.s4 | exact hS.s5 | exact hS.s6) rfl ?_
          refine q_getfield (pc := 39) gf_X0_91 dX0_turnedByAllAtEach_39 (by first | assumption | exact hS.o | exact hS.s0 | exact hS.s1 | exact hS.s2 | exact hS.s3 | exact hS.s4 | exact hS.s5 | exact hS.s6) rfl ?_
          refine q_icmp_ge (pc := 42) (by omega) (by omega) 61 dX0_turnedByAllAtEach_42 rfl (fun c42 => ?_) (fun c42 => ?_)
          · refine q_iload_n (pc := 61) dX0_turnedByAllAtEach_61 rfl ?_
            refine q_if_gt (pc := 62) (by omega) 68 dX0_turnedByAllAtEach_62 rfl (fun c62 => ?_) (fun c62 => ?_)
            · (first | rw [zb_f (by omega), Int.add_zero] at e | skip)
              rw [e]
              refine q_iinc (pc := 68) [some _, some _, some _, some _, some _] dX0_turnedByAllAtEach_68 rfl rfl rfl ?_
              refine q_goto (pc := 71) 4 dX0_turnedByAllAtEach_71 rfl ?_
              exact hih _ _
            rw [zb_t (by omega)] at e
            refine q_iinc (pc := 65) [some _, some _, some _, some _, some _] dX0_turnedByAllAtEach_65 rfl rfl rfl ?_
            (first | rw [zb_f (by omega), Int.add_zero] at e | skip)
            rw [e]
            refine q_iinc (pc := 68) [some _, some _, some _, some _, some _] dX0_turnedByAllAtEach_68 rfl rfl rfl ?_
            refine q_goto (pc := 71) 4 dX0_turnedByAllAtEach_71 rfl ?_
            exact hih _ _
          exfalso; omega
        | succ p2 ih2 =>
          intro n hn
          have es : zsg (fun c => f (c * 4 + (m : Int))) n 0 + f ((n : Int) * 4 + (m : Int)) = zsg (fun c => f (c * 4 + (m : Int))) (n + 1) 0 := zsg_s (fun c => f (c * 4 + (m : Int))) n 0 (n : Int) (by omega)
          have hih2 := ih2 (n + 1) (by omega)
          rw [← es, show ∀ a b c e : Int, a - b - (c + e) = a - b - c - e from fun a b c e => by omega] at hih2
          refine q_iload (pc := 30) dX0_turnedByAllAtEach_30 rfl ?_
          refine q_aload_n (pc := 32) dX0_turnedByAllAtEach_32 rfl rfl ?_
          refine q_getfield (pc := 33) gf_X0_27 dX0_turnedByAllAtEach_33 (by first | assumption | exact hS.o | exact hS.s0 | exact hS.s1 | exact hS.s2 | exact hS.s3 | exact hS.s4 | exact hS.s5 | exact hS.s6) rfl ?_
          refine q_getfield (pc := 36) gf_X0_87 dX0_turnedByAllAtEach_36 (by first | assumption | exact hS.o | exact hS.s0 | exact hS.s1 | exact hS.s2 | exact hS.s3 | exact hS.s4 | exact hS.s5 | exact hS.s6) rfl ?_
          refine q_getfield (pc := 39) gf_X0_91 dX0_turnedByAllAtEach_39 (by first | assumption | exact hS.o | exact hS.s0 | exact hS.s1 | exact hS.s2 | exact hS.s3 | exact hS.s4 | exact hS.s5 | exact hS.s6) rfl ?_
          refine q_icmp_ge (pc := 42) (by omega) (by omega) 61 dX0_turnedByAllAtEach_42 rfl (fun c42 => ?_) (fun c42 => ?_)
          · exfalso; omega
          refine q_iload_n (pc := 45) dX0_turnedByAllAtEach_45 rfl ?_
          refine q_aload_n (pc := 46) dX0_turnedByAllAtEach_46 rfl rfl ?_
          refine q_iload (pc := 47) dX0_turnedByAllAtEach_47 rfl ?_
          refine q_iload_n (pc := 49) dX0_turnedByAllAtEach_49 rfl ?_
          refine q_invokevirtual (pc := 50) (d' := d - 1) (mc' := 0) (ms' := 0) (As := [_, _]) (TX0, 6) cl_X0_107 dX0_turnedByAllAtEach_50 rfl rfl (by first | assumption | exact hS.o | exact hS.s0 | exact hS.s1 | exact hS.s2 | exact hS.s3 | exact hS.s4 | exact hS.s5 | exact hS.s6) rfl (by omega) rfl 0 0 (Nat.le_refl 0) (Nat.le_refl 0) ?_
          refine c_X0_hitsKept (by omega) hF hG (by omega) (by omega) ?_
          refine q_isub (pc := 53) dX0_turnedByAllAtEach_53 ?_
          refine q_istore_n (pc := 54) [some _, some _, some _, some _, some _] dX0_turnedByAllAtEach_54 rfl (Nat.le_of_ble_eq_true rfl) rfl ?_
          refine q_iinc (pc := 55) [some _, some _, some _, some _, some _] dX0_turnedByAllAtEach_55 rfl rfl rfl ?_
          refine q_goto (pc := 58) 30 dX0_turnedByAllAtEach_58 rfl ?_
          exact hih2
      refine q_iload_n (pc := 4) dX0_turnedByAllAtEach_4 rfl ?_
      refine q_aload_n (pc := 5) dX0_turnedByAllAtEach_5 rfl rfl ?_
      refine q_getfield (pc := 6) gf_X0_27 dX0_turnedByAllAtEach_6 (by first | assumption | exact hS.o | exact hS.s0 | exact hS.s1 | exact hS.s2 | exact hS.s3 | exact hS.s4 | exact hS.s5 | exact hS.s6) rfl ?_
      refine q_getfield (pc := 9) gf_X0_96 dX0_turnedByAllAtEach_9 (by first | assumption | exact hS.o | exact hS.s0 | exact hS.s1 | exact hS.s2 | exact hS.s3 | exact hS.s4 | exact hS.s5 | exact hS.s6) rfl ?_
      refine q_getfield (pc := 12) gf_X0_91 dX0_turnedByAllAtEach_12 (by first | assumption | exact hS.o | exact hS.s0 | exact hS.s1 | exact hS.s2 | exact hS.s3 | exact hS.s4 | exact hS.s5 | exact hS.s6) rfl ?_
      refine q_icmp_ge (pc := 15) (by omega) (by omega) 74 dX0_turnedByAllAtEach_15 rfl (fun c15 => ?_) (fun c15 => ?_)
      · exfalso; omega
      refine q_aload_n (pc := 18) dX0_turnedByAllAtEach_18 rfl rfl ?_
      refine q_getfield (pc := 19) gf_X0_27 dX0_turnedByAllAtEach_19 (by first | assumption | exact hS.o | exact hS.s0 | exact hS.s1 | exact hS.s2 | exact hS.s3 | exact hS.s4 | exact hS.s5 | exact hS.s6) rfl ?_
      refine q_iload_n (pc := 22) dX0_turnedByAllAtEach_22 rfl ?_
      refine q_invokevirtual (pc := 23) (d' := d - 1) (mc' := 0) (ms' := 0) (As := [_]) (TX6, 9) cl_X0_41 dX0_turnedByAllAtEach_23 rfl rfl (by first | assumption | exact hS.o | exact hS.s0 | exact hS.s1 | exact hS.s2 | exact hS.s3 | exact hS.s4 | exact hS.s5 | exact hS.s6) rfl (by omega) rfl 0 0 (Nat.le_refl 0) (Nat.le_refl 0) ?_
      refine c_X6_needsYet (by omega) hS hO.1 (by omega) ?_
      refine q_istore_n (pc := 26) [some _, some _, some _, some _, _] dX0_turnedByAllAtEach_26 rfl (Nat.le_of_ble_eq_true rfl) rfl ?_
      refine q_iconst (pc := 27) dX0_turnedByAllAtEach_27 ?_
      refine q_istore (pc := 28) [some _, some _, some _, some _, some _] dX0_turnedByAllAtEach_28 rfl (Nat.le_of_ble_eq_true rfl) rfl ?_
      have hl := L2 (N 1).toNat 0 (by omega)
      rw [zsg, Int.sub_zero] at hl
      exact hl
  refine zenter [some _, none, none, none, none] pn_X0 rfl (Nat.le_of_ble_eq_true rfl) ?_
  refine q_iconst (pc := 0) dX0_turnedByAllAtEach_0 ?_
  refine q_istore_n (pc := 1) [some _, some _, none, none, none] dX0_turnedByAllAtEach_1 rfl (Nat.le_of_ble_eq_true rfl) rfl ?_
  refine q_iconst (pc := 2) dX0_turnedByAllAtEach_2 ?_
  refine q_istore_n (pc := 3) [some _, some _, some _, none, none] dX0_turnedByAllAtEach_3 rfl (Nat.le_of_ble_eq_true rfl) rfl ?_
  exact L (N 2).toNat 0 _ _ (by omega)
set_option maxRecDepth 100000 in
set_option maxHeartbeats 4000000 in
theorem c_X0_offerStone {hits price : Int} {f : Int → Int} (hd : 1 ≤ d) (hF : w.1 sb = some (.inl (0, [zR g b, zR g (sb + 1), zR g (sb + 2), zR g (sb + 3), zR g (sb + 4), zR g (sb + 5)]))) (hG : w.1 (sb + 1) = some (.inr (false, 41, f))) (hf : ∀ i, 0 ≤ i → i ≤ 40 → 0 ≤ f i ∧ f i ≤ 1000000) (hh : 1 ≤ hits ∧ hits ≤ 10) (hp : 0 ≤ price ∧ price ≤ 2000) (k : ∀ w', zSame w w' (sb + 1) 1 → w'.1 (sb + 1) = some (.inr (false, 41, zoffer f hits price)) → K none w') : zCall g d 0 0 mX0_offerStone [zR g sb, zI hits, zI price] w K := by
  have L : ∀ (m : Nat) (w1 : zWd) (x1 : Option Value), m ≤ 40 → zSame w w1 (sb + 1) 1 → w1.1 (sb + 1) = some (.inr (false, 41, zoffto f hits price (m : Int))) → zRuns g d mX0_offerStone 0 0 8 [some (zR g sb), some (zI hits), some (zI price), some (zI (m : Int)), x1] [] w1 K := by
    intro m
    induction m with
    | zero =>
      intro w1 x1 hm hs hG
      have hF := (hs.2 sb (by omega)).trans hF
      refine q_iload_n (pc := 8) dX0_offerStone_8 rfl ?_
      refine q_iconst (pc := 9) dX0_offerStone_9 ?_
      refine q_icmp_lt (pc := 10) (by omega) (by omega) 71 dX0_offerStone_10 rfl (fun c10 => ?_) (fun c10 => ?_)
      · refine q_return (pc := 71) dX0_offerStone_71 rfl ?_
        exact k _ hs hG
      exfalso; omega
    | succ m ih =>
      intro w1 x1 hm hs hG
      have hF := (hs.2 sb (by omega)).trans hF
      have hih := fun w1 x1 => ih w1 x1 (by omega)
      have o1 : zoffto f hits price ((m + 1 : Nat) : Int) (max 0 (((m + 1 : Nat) : Int) - hits)) = f (max 0 (((m + 1 : Nat) : Int) - hits)) := zoffto_o (by omega)
      have o2 : zoffto f hits price ((m + 1 : Nat) : Int) ((m + 1 : Nat) : Int) = f ((m + 1 : Nat) : Int) := zoffto_o (by omega)
      have b1 := hf (max 0 (((m + 1 : Nat) : Int) - hits)) (by omega) (by omega)
      have b2 := hf ((m + 1 : Nat) : Int) (by omega) (by omega)
      rw [← o1] at b1
      rw [← o2] at b2
      have em : ((m + 1 : Nat) : Int) - 1 = (m : Int) := by omega
      have y1 := fun q => zoffto_y (f := f) (hits := hits) (price := price) (h := ((m + 1 : Nat) : Int)) (by omega) q
      have y2 := fun q => zoffto_n (f := f) (hits := hits) (price := price) (h := ((m + 1 : Nat) : Int)) (by omega) q
      rw [em] at y1 y2
      rw [← o1, ← o2] at y1 y2
      refine q_iload_n (pc := 8) dX0_offerStone_8 rfl ?_
      refine q_iconst (pc := 9) dX0_offerStone_9 ?_
      refine q_icmp_lt (pc := 10) (by omega) (by omega) 71 dX0_offerStone_10 rfl (fun c10 => ?_) (fun c10 => ?_)
      · exfalso; omega
      refine q_iconst (pc := 13) dX0_offerStone_13 ?_
      refine q_iload_n (pc := 14) dX0_offerStone_14 rfl ?_
      refine q_iload_n (pc := 15) dX0_offerStone_15 rfl ?_
      refine q_isub (pc := 16) dX0_offerStone_16 ?_
      refine q_max (pc := 17) tw_3_231 tw_1_37 tw_1_4 tw_1_38 dX0_offerStone_17 (by omega) rfl (by omega) (by omega) ?_
      refine q_istore (pc := 20) [some _, some _, some _, some _, some _] dX0_offerStone_20 rfl (Nat.le_of_ble_eq_true rfl) rfl ?_
      refine q_iload (pc := 22) dX0_offerStone_22 rfl ?_
      refine q_aload_n (pc := 24) dX0_offerStone_24 rfl rfl ?_
      refine q_getfield (pc := 25) gf_X0_9 dX0_offerStone_25 (by assumption) rfl ?_
      refine q_arraylength (pc := 28) dX0_offerStone_28 (by assumption) ?_
      refine q_icmp_ge (pc := 29) (by omega) (by omega) 65 dX0_offerStone_29 rfl (fun c29 => ?_) (fun c29 => ?_)
      · refine q_iinc (pc := 65) [some _, some _, some _, some _, some _] dX0_offerStone_65 rfl rfl rfl ?_
        refine q_goto (pc := 68) 8 dX0_offerStone_68 rfl ?_
        rw [show ((m + 1 : Nat) : Int) + -1 = (m : Int) by omega]
        first | (exfalso; omega; done) | (refine hih _ _ (hs.tr (zSame.up (by omega))) ?_; simp only [zup, if_pos]; rw [y1 (by omega)]; done) | (refine hih _ _ hs ?_; rw [← y2 (by omega)]; exact hG)
      refine q_aload_n (pc := 32) dX0_offerStone_32 rfl rfl ?_
      refine q_getfield (pc := 33) gf_X0_9 dX0_offerStone_33 (by assumption) rfl ?_
      refine q_iload (pc := 36) dX0_offerStone_36 rfl ?_
      refine q_iaload (pc := 38) dX0_offerStone_38 (by assumption) (by omega) ?_
      refine q_iload_n (pc := 39) dX0_offerStone_39 rfl ?_
      refine q_iadd (pc := 40) dX0_offerStone_40 ?_
      refine q_aload_n (pc := 41) dX0_offerStone_41 rfl rfl ?_
      refine q_getfield (pc := 42) gf_X0_9 dX0_offerStone_42 (by assumption) rfl ?_
      refine q_iload_n (pc := 45) dX0_offerStone_45 rfl ?_
      refine q_iaload (pc := 46) dX0_offerStone_46 (by assumption) (by omega) ?_
      refine q_icmp_ge (pc := 47) (by omega) (by omega) 65 dX0_offerStone_47 rfl (fun c47 => ?_) (fun c47 => ?_)
      · refine q_iinc (pc := 65) [some _, some _, some _, some _, some _] dX0_offerStone_65 rfl rfl rfl ?_
        refine q_goto (pc := 68) 8 dX0_offerStone_68 rfl ?_
        rw [show ((m + 1 : Nat) : Int) + -1 = (m : Int) by omega]
        first | (exfalso; omega; done) | (refine hih _ _ (hs.tr (zSame.up (by omega))) ?_; simp only [zup, if_pos]; rw [y1 (by omega)]; done) | (refine hih _ _ hs ?_; rw [← y2 (by omega)]; exact hG)
      refine q_aload_n (pc := 50) dX0_offerStone_50 rfl rfl ?_
      refine q_getfield (pc := 51) gf_X0_9 dX0_offerStone_51 (by assumption) rfl ?_
      refine q_iload_n (pc := 54) dX0_offerStone_54 rfl ?_
      refine q_aload_n (pc := 55) dX0_offerStone_55 rfl rfl ?_
      refine q_getfield (pc := 56) gf_X0_9 dX0_offerStone_56 (by assumption) rfl ?_
      refine q_iload (pc := 59) dX0_offerStone_59 rfl ?_
      refine q_iaload (pc := 61) dX0_offerStone_61 (by assumption) (by omega) ?_
      refine q_iload_n (pc := 62) dX0_offerStone_62 rfl ?_
      refine q_iadd (pc := 63) dX0_offerStone_63 ?_
      refine q_iastore (pc := 64) dX0_offerStone_64 (by assumption) (by omega) ?_
      refine q_iinc (pc := 65) [some _, some _, some _, some _, some _] dX0_offerStone_65 rfl rfl rfl ?_
      refine q_goto (pc := 68) 8 dX0_offerStone_68 rfl ?_
      rw [show ((m + 1 : Nat) : Int) + -1 = (m : Int) by omega]
      first | (exfalso; omega; done) | (refine hih _ _ (hs.tr (zSame.up (by omega))) ?_; simp only [zup, if_pos]; rw [y1 (by omega)]; done) | (refine hih _ _ hs ?_; rw [← y2 (by omega)]; exact hG)
  refine zenter [some _, some _, some _, none, none] pn_X0 rfl (Nat.le_of_ble_eq_true rfl) ?_
  refine q_aload_n (pc := 0) dX0_offerStone_0 rfl rfl ?_
  refine q_getfield (pc := 1) gf_X0_9 dX0_offerStone_1 (by assumption) rfl ?_
  refine q_arraylength (pc := 4) dX0_offerStone_4 (by assumption) ?_
  refine q_iconst (pc := 5) dX0_offerStone_5 ?_
  refine q_isub (pc := 6) dX0_offerStone_6 ?_
  refine q_istore_n (pc := 7) [some _, some _, some _, some _, none] dX0_offerStone_7 rfl (Nat.le_of_ble_eq_true rfl) rfl ?_
  exact L 40 _ _ (by omega) zSame.rf (by rw [hG]; congr; funext j; unfold zoffto; rw [if_neg (by omega)])
end X0B
