/-! the Battle, its small methods -/
def zworth (n dd : Int) : Int := -(max 0 n) - 2 * dd
abbrev zrests (n h dd : Int) : Prop := zworth (n - (1 - dd) * h) (1 - dd) ≤ zworth (n - dd * h) dd
def zreach (N : Int → Int) (c q : Int) (m : Nat) : Int := zbs (fun r => decide (1 ≤ r ∧ zRch N c q r (N 4))) m
def zprs (N : Int → Int) (x y q r : Int) (m : Nat) : Int := zbs (fun p => decide (zrests (N (84 + q) - N (88 + q) - zshr p 1 * zhat N y q r (N 4)) (zhat N x q r (N 4)) (zand p 1) ∧ zrests (N (84 + q) - N (88 + q) - zand p 1 * zhat N x q r (N 4)) (zhat N y q r (N 4)) (zshr p 1))) m
def zuntil (N : Int → Int) (c q r : Int) : Int := zhits (N (68 + c)) r * min (N (80 + q)) (zfar (N (68 + c)) (N (74 + c)) r (N 4))
theorem zmul_b {a b A B : Int} (ha : 0 ≤ a ∧ a ≤ A) (hb : 0 ≤ b ∧ b ≤ B) : 0 ≤ a * b ∧ a * b ≤ A * B := ⟨Int.mul_nonneg ha.1 hb.1, Int.mul_le_mul ha.2 hb.2 hb.1 (by omega)⟩
section X0A
variable {g : zG} {d : Nat} {w : zWd} {K : Option Value → zWd → Prop} {b sb : Nat} {N P : Int → Int} {u : Int}
set_option maxRecDepth 100000 in
set_option maxHeartbeats 4000000 in
theorem c_X0_reachingRings {c q : Int} (hd : 4 ≤ d) (hF : w.1 sb = some (.inl (0, [zR g b, zR g (sb + 1), zR g (sb + 2), zR g (sb + 3), zR g (sb + 4), zR g (sb + 5)]))) (hS : zSto g w b N u P) (hO : zOK N) (hc : 0 ≤ c ∧ c < N 1) (hq : 0 ≤ q ∧ q < N 2) (k : K (some (zI (zreach N c q 10))) w) : zCall g d 0 0 mX0_reachingRings [zR g sb, zI c, zI q] w K := by
  have hk := k
  unfold zreach at hk
  have hh := hO.1
  have L : ∀ (p m : Nat), m + p = 10 → 1 ≤ m → zRuns g d mX0_reachingRings 0 0 5 [some (zR g sb), some (zI c), some (zI q), some (zI (zbs (fun r => decide (1 ≤ r ∧ zRch N c q r (N 4))) m)), some (zI (m : Int))] [] w K := by
    intro p
    induction p with
    | zero =>
      intro m hm h1
      refine q_iload (pc := 5) dX0_reachingRings_5 rfl ?_
      refine q_bipush (pc := 7) (by decide) dX0_reachingRings_7 ?_
      refine q_icmp_gt (pc := 9) (by omega) (by omega) 46 dX0_reachingRings_9 rfl (fun c9 => ?_) (fun c9 => ?_)
      · refine q_iload_n (pc := 46) dX0_reachingRings_46 rfl ?_
        refine q_ireturn (pc := 47) dX0_reachingRings_47 rfl ?_
        rw [show m = 10 by omega]; exact hk
      exfalso; omega
    | succ p ih =>
      intro m hm h1
      have hih := ih (m + 1) (by omega) (by omega)
      rw [zbs] at hih
      have hD : (decide (1 ≤ (m : Int) ∧ zRch N c q (m : Int) (N 4)) = true) = zRch N c q (m : Int) (N 4) := propext ⟨fun y => (of_decide_eq_true y).2, fun z => decide_eq_true ⟨by omega, z⟩⟩
      simp only [hD] at hih
      refine q_iload (pc := 5) dX0_reachingRings_5 rfl ?_
      refine q_bipush (pc := 7) (by decide) dX0_reachingRings_7 ?_
      refine q_icmp_gt (pc := 9) (by omega) (by omega) 46 dX0_reachingRings_9 rfl (fun c9 => ?_) (fun c9 => ?_)
      · exfalso; omega
      refine q_aload_n (pc := 12) dX0_reachingRings_12 rfl rfl ?_
      refine q_getfield (pc := 13) gf_X0_27 dX0_reachingRings_13 (by first | assumption | exact hS.o | exact hS.s0 | exact hS.s1 | exact hS.s2 | exact hS.s3 | exact hS.s4 | exact hS.s5 | exact hS.s6) rfl ?_
      refine q_iload_n (pc := 16) dX0_reachingRings_16 rfl ?_
      refine q_iload_n (pc := 17) dX0_reachingRings_17 rfl ?_
      refine q_iload (pc := 18) dX0_reachingRings_18 rfl ?_
      refine q_aload_n (pc := 20) dX0_reachingRings_20 rfl rfl ?_
      refine q_getfield (pc := 21) gf_X0_27 dX0_reachingRings_21 (by first | assumption | exact hS.o | exact hS.s0 | exact hS.s1 | exact hS.s2 | exact hS.s3 | exact hS.s4 | exact hS.s5 | exact hS.s6) rfl ?_
      refine q_getfield (pc := 24) gf_X0_31 dX0_reachingRings_24 (by first | assumption | exact hS.o | exact hS.s0 | exact hS.s1 | exact hS.s2 | exact hS.s3 | exact hS.s4 | exact hS.s5 | exact hS.s6) rfl ?_
      refine q_invokevirtual (pc := 27) (d' := d - 1) (mc' := 0) (ms' := 0) (As := [_, _, _, _]) (TX6, 9) cl_X0_37 dX0_reachingRings_27 rfl rfl (by first | assumption | exact hS.o | exact hS.s0 | exact hS.s1 | exact hS.s2 | exact hS.s3 | exact hS.s4 | exact hS.s5 | exact hS.s6) rfl (by omega) rfl 0 0 (Nat.le_refl 0) (Nat.le_refl 0) ?_
      refine c_X6_reaches (by omega) hS hO hc hq (by omega) (by omega) ?_
      refine q_ifb_eq (pc := 30) 40 dX0_reachingRings_30 rfl (fun c30 => ?_) (fun c30 => ?_)
      · (first | rw [if_pos c30] at hih | rw [if_neg c30] at hih)
        refine q_iinc (pc := 40) [some _, some _, some _, some _, some _] dX0_reachingRings_40 rfl rfl rfl ?_
        refine q_goto (pc := 43) 5 dX0_reachingRings_43 rfl ?_
        exact hih
      refine q_iload_n (pc := 33) dX0_reachingRings_33 rfl ?_
      refine q_iconst (pc := 34) dX0_reachingRings_34 ?_
      refine q_iload (pc := 35) dX0_reachingRings_35 rfl ?_
      refine q_ishl (pc := 37) dX0_reachingRings_37 ?_
      refine q_ior (pc := 38) dX0_reachingRings_38 ?_
      refine q_istore_n (pc := 39) [some _, some _, some _, some _, some _] dX0_reachingRings_39 rfl (Nat.le_of_ble_eq_true rfl) rfl ?_
      (first | rw [if_pos c30] at hih | rw [if_neg c30] at hih)
      refine q_iinc (pc := 40) [some _, some _, some _, some _, some _] dX0_reachingRings_40 rfl rfl rfl ?_
      refine q_goto (pc := 43) 5 dX0_reachingRings_43 rfl ?_
      exact hih
  have e1 : zbs (fun r => decide (1 ≤ r ∧ zRch N c q r (N 4))) 1 = 0 := by rw [zbs, if_neg (fun z => absurd (of_decide_eq_true z).1 (by decide)), zbs]
  have hL := L 9 1 (by omega) (by omega)
  rw [e1] at hL
  refine zenter [some _, some _, some _, none, none] pn_X0 rfl (Nat.le_of_ble_eq_true rfl) ?_
  refine q_iconst (pc := 0) dX0_reachingRings_0 ?_
  refine q_istore_n (pc := 1) [some _, some _, some _, some _, none] dX0_reachingRings_1 rfl (Nat.le_of_ble_eq_true rfl) rfl ?_
  refine q_iconst (pc := 2) dX0_reachingRings_2 ?_
  refine q_istore (pc := 3) [some _, some _, some _, some _, some _] dX0_reachingRings_3 rfl (Nat.le_of_ble_eq_true rfl) rfl ?_
  exact hL
set_option maxRecDepth 100000 in
set_option maxHeartbeats 4000000 in
theorem c_X0_keepHits {c q x : Int} {f : Int → Int} (hd : 1 ≤ d) (hF : w.1 sb = some (.inl (0, [zR g b, zR g (sb + 1), zR g (sb + 2), zR g (sb + 3), zR g (sb + 4), zR g (sb + 5)]))) (hH : w.1 (sb + 2) = some (.inr (false, 24, f))) (hc : 0 ≤ c ∧ c < 6) (hq : 0 ≤ q ∧ q < 4) (k : K none (zup w (sb + 2) (.inr (false, 24, zfu f (c * 4 + q) x)))) : zCall g d 0 0 mX0_keepHits [zR g sb, zI c, zI q, zI x] w K := by
  refine zenter [some _, some _, some _, some _, none] pn_X0 rfl (Nat.le_of_ble_eq_true rfl) ?_
  refine q_iload_n (pc := 0) dX0_keepHits_0 rfl ?_
  refine q_iconst (pc := 1) dX0_keepHits_1 ?_
  refine q_imul (pc := 2) dX0_keepHits_2 ?_
  refine q_iload_n (pc := 3) dX0_keepHits_3 rfl ?_
  refine q_iadd (pc := 4) dX0_keepHits_4 ?_
  refine q_istore (pc := 5) [some _, some _, some _, some _, some _] dX0_keepHits_5 rfl (Nat.le_of_ble_eq_true rfl) rfl ?_
  refine q_iload (pc := 7) dX0_keepHits_7 rfl ?_
  refine q_if_lt (pc := 9) (by omega) 30 dX0_keepHits_9 rfl (fun c9 => ?_) (fun c9 => ?_)
  · refine q_return (pc := 30) dX0_keepHits_30 rfl ?_
    first | (exfalso; omega; done) | exact k
  refine q_iload (pc := 12) dX0_keepHits_12 rfl ?_
  refine q_aload_n (pc := 14) dX0_keepHits_14 rfl rfl ?_
  refine q_getfield (pc := 15) gf_X0_15 dX0_keepHits_15 (by assumption) rfl ?_
  refine q_arraylength (pc := 18) dX0_keepHits_18 (by assumption) ?_
  refine q_icmp_ge (pc := 19) (by omega) (by omega) 30 dX0_keepHits_19 rfl (fun c19 => ?_) (fun c19 => ?_)
  · refine q_return (pc := 30) dX0_keepHits_30 rfl ?_
    first | (exfalso; omega; done) | exact k
  refine q_aload_n (pc := 22) dX0_keepHits_22 rfl rfl ?_
  refine q_getfield (pc := 23) gf_X0_15 dX0_keepHits_23 (by assumption) rfl ?_
  refine q_iload (pc := 26) dX0_keepHits_26 rfl ?_
  refine q_iload_n (pc := 28) dX0_keepHits_28 rfl ?_
  refine q_iastore (pc := 29) dX0_keepHits_29 (by assumption) (by omega) ?_
  refine q_return (pc := 30) dX0_keepHits_30 rfl ?_
  first | (exfalso; omega; done) | exact k
set_option maxRecDepth 100000 in
set_option maxHeartbeats 4000000 in
theorem c_X0_hitsKept {c q : Int} {f : Int → Int} (hd : 1 ≤ d) (hF : w.1 sb = some (.inl (0, [zR g b, zR g (sb + 1), zR g (sb + 2), zR g (sb + 3), zR g (sb + 4), zR g (sb + 5)]))) (hH : w.1 (sb + 2) = some (.inr (false, 24, f))) (hc : 0 ≤ c ∧ c < 6) (hq : 0 ≤ q ∧ q < 4) (k : K (some (zI (f (c * 4 + q)))) w) : zCall g d 0 0 mX0_hitsKept [zR g sb, zI c, zI q] w K := by
  refine zenter [some _, some _, some _, none] pn_X0 rfl (Nat.le_of_ble_eq_true rfl) ?_
  refine q_iload_n (pc := 0) dX0_hitsKept_0 rfl ?_
  refine q_iconst (pc := 1) dX0_hitsKept_1 ?_
  refine q_imul (pc := 2) dX0_hitsKept_2 ?_
  refine q_iload_n (pc := 3) dX0_hitsKept_3 rfl ?_
  refine q_iadd (pc := 4) dX0_hitsKept_4 ?_
  refine q_istore_n (pc := 5) [some _, some _, some _, some _] dX0_hitsKept_5 rfl (Nat.le_of_ble_eq_true rfl) rfl ?_
  refine q_iload_n (pc := 6) dX0_hitsKept_6 rfl ?_
  refine q_if_lt (pc := 7) (by omega) 28 dX0_hitsKept_7 rfl (fun c7 => ?_) (fun c7 => ?_)
  · exfalso; omega
  refine q_iload_n (pc := 10) dX0_hitsKept_10 rfl ?_
  refine q_aload_n (pc := 11) dX0_hitsKept_11 rfl rfl ?_
  refine q_getfield (pc := 12) gf_X0_15 dX0_hitsKept_12 (by assumption) rfl ?_
  refine q_arraylength (pc := 15) dX0_hitsKept_15 (by assumption) ?_
  refine q_icmp_ge (pc := 16) (by omega) (by omega) 28 dX0_hitsKept_16 rfl (fun c16 => ?_) (fun c16 => ?_)
  · exfalso; omega
  refine q_aload_n (pc := 19) dX0_hitsKept_19 rfl rfl ?_
  refine q_getfield (pc := 20) gf_X0_15 dX0_hitsKept_20 (by assumption) rfl ?_
  refine q_iload_n (pc := 23) dX0_hitsKept_23 rfl ?_
  refine q_iaload (pc := 24) dX0_hitsKept_24 (by assumption) (by omega) ?_
  refine q_goto (pc := 25) 29 dX0_hitsKept_25 rfl ?_
  refine q_ireturn (pc := 29) dX0_hitsKept_29 rfl ?_
  exact k
set_option maxRecDepth 100000 in
set_option maxHeartbeats 4000000 in
theorem c_X0_close {q x : Int} {f : Int → Int} (hd : 1 ≤ d) (hF : w.1 sb = some (.inl (0, [zR g b, zR g (sb + 1), zR g (sb + 2), zR g (sb + 3), zR g (sb + 4), zR g (sb + 5)]))) (hH : w.1 (sb + 3) = some (.inr (false, 4, f))) (hq : 0 ≤ q ∧ q < 4) (k : K none (zup w (sb + 3) (.inr (false, 4, zfu f q (f q - x))))) : zCall g d 0 0 mX0_close [zR g sb, zI q, zI x] w K := by
  refine zenter [some _, some _, some _] pn_X0 rfl (Nat.le_of_ble_eq_true rfl) ?_
  refine q_iload_n (pc := 0) dX0_close_0 rfl ?_
  refine q_if_lt (pc := 1) (by omega) 23 dX0_close_1 rfl (fun c1 => ?_) (fun c1 => ?_)
  · refine q_return (pc := 23) dX0_close_23 rfl ?_
    first | (exfalso; omega; done) | exact k
  refine q_iload_n (pc := 4) dX0_close_4 rfl ?_
  refine q_aload_n (pc := 5) dX0_close_5 rfl rfl ?_
  refine q_getfield (pc := 6) gf_X0_18 dX0_close_6 (by assumption) rfl ?_
  refine q_arraylength (pc := 9) dX0_close_9 (by assumption) ?_
  refine q_icmp_ge (pc := 10) (by omega) (by omega) 23 dX0_close_10 rfl (fun c10 => ?_) (fun c10 => ?_)
  · refine q_return (pc := 23) dX0_close_23 rfl ?_
    first | (exfalso; omega; done) | exact k
  refine q_aload_n (pc := 13) dX0_close_13 rfl rfl ?_
  refine q_getfield (pc := 14) gf_X0_18 dX0_close_14 (by assumption) rfl ?_
  refine q_iload_n (pc := 17) dX0_close_17 rfl ?_
  refine q_dup2 (pc := 18) rfl rfl dX0_close_18 ?_
  refine q_iaload (pc := 19) dX0_close_19 (by assumption) (by omega) ?_
  refine q_iload_n (pc := 20) dX0_close_20 rfl ?_
  refine q_isub (pc := 21) dX0_close_21 ?_
  refine q_iastore (pc := 22) dX0_close_22 (by assumption) (by omega) ?_
  refine q_return (pc := 23) dX0_close_23 rfl ?_
  first | (exfalso; omega; done) | exact k
set_option maxRecDepth 100000 in
set_option maxHeartbeats 4000000 in
theorem c_X0_hitsUntilHere {c q r : Int} (hd : 3 ≤ d) (hF : w.1 sb = some (.inl (0, [zR g b, zR g (sb + 1), zR g (sb + 2), zR g (sb + 3), zR g (sb + 4), zR g (sb + 5)]))) (hS : zSto g w b N u P) (hO : zOK N) (hc : 0 ≤ c ∧ c < N 1) (hq : 0 ≤ q ∧ q < N 2) (hr : 1 ≤ r ∧ r ≤ 9) (k : K (some (zI (zuntil N c q r))) w) : zCall g d 0 0 mX0_hitsUntilHere [zR g sb, zI c, zI q, zI r] w K := by
  have hh := hO.1
  have hsl := hO.2.2.2.1 c hc.1 hc.2
  have hcd := hO.2.2.2.2.1 q hq.1 hq.2
  have hfb := zfar_b (kind := N (68 + c)) (a := N (74 + c)) (r := r) (v := N 4) hsl.2 (by omega) (by omega)
  unfold zuntil at k
  refine zenter [some _, some _, some _, some _] pn_X0 rfl (Nat.le_of_ble_eq_true rfl) ?_
  refine q_aload_n (pc := 0) dX0_hitsUntilHere_0 rfl rfl ?_
  refine q_getfield (pc := 1) gf_X0_27 dX0_hitsUntilHere_1 (by first | assumption | exact hS.o | exact hS.s0 | exact hS.s1 | exact hS.s2 | exact hS.s3 | exact hS.s4 | exact hS.s5 | exact hS.s6) rfl ?_
  refine q_iload_n (pc := 4) dX0_hitsUntilHere_4 rfl ?_
  refine q_iload_n (pc := 5) dX0_hitsUntilHere_5 rfl ?_
  refine q_invokevirtual (pc := 6) (d' := d - 1) (mc' := 0) (ms' := 0) (As := [_, _]) (TX6, 9) cl_X0_113 dX0_hitsUntilHere_6 rfl rfl (by first | assumption | exact hS.o | exact hS.s0 | exact hS.s1 | exact hS.s2 | exact hS.s3 | exact hS.s4 | exact hS.s5 | exact hS.s6) rfl (by omega) rfl 0 0 (Nat.le_refl 0) (Nat.le_refl 0) ?_
  refine c_X6_throwHits (by omega) hS hO hc hr ?_
  refine q_aload_n (pc := 9) dX0_hitsUntilHere_9 rfl rfl ?_
  refine q_getfield (pc := 10) gf_X0_27 dX0_hitsUntilHere_10 (by first | assumption | exact hS.o | exact hS.s0 | exact hS.s1 | exact hS.s2 | exact hS.s3 | exact hS.s4 | exact hS.s5 | exact hS.s6) rfl ?_
  refine q_getfield (pc := 13) gf_X0_96 dX0_hitsUntilHere_13 (by first | assumption | exact hS.o | exact hS.s0 | exact hS.s1 | exact hS.s2 | exact hS.s3 | exact hS.s4 | exact hS.s5 | exact hS.s6) rfl ?_
  refine q_iload_n (pc := 16) dX0_hitsUntilHere_16 rfl ?_
  refine q_iconst (pc := 17) dX0_hitsUntilHere_17 ?_
  refine q_invokevirtual (pc := 18) (d' := d - 1) (mc' := 0) (ms' := 0) (As := [_, _]) (TX4, 4) cl_X0_116 dX0_hitsUntilHere_18 rfl rfl (by first | assumption | exact hS.o | exact hS.s0 | exact hS.s1 | exact hS.s2 | exact hS.s3 | exact hS.s4 | exact hS.s5 | exact hS.s6) rfl (by omega) rfl 0 0 (Nat.le_refl 0) (Nat.le_refl 0) ?_
  refine s_get_far (by omega) hS hO.1 hq ?_
  refine q_aload_n (pc := 21) dX0_hitsUntilHere_21 rfl rfl ?_
  refine q_getfield (pc := 22) gf_X0_27 dX0_hitsUntilHere_22 (by first | assumption | exact hS.o | exact hS.s0 | exact hS.s1 | exact hS.s2 | exact hS.s3 | exact hS.s4 | exact hS.s5 | exact hS.s6) rfl ?_
  refine q_iload_n (pc := 25) dX0_hitsUntilHere_25 rfl ?_
  refine q_iload_n (pc := 26) dX0_hitsUntilHere_26 rfl ?_
  refine q_aload_n (pc := 27) dX0_hitsUntilHere_27 rfl rfl ?_
  refine q_getfield (pc := 28) gf_X0_27 dX0_hitsUntilHere_28 (by first | assumption | exact hS.o | exact hS.s0 | exact hS.s1 | exact hS.s2 | exact hS.s3 | exact hS.s4 | exact hS.s5 | exact hS.s6) rfl ?_
  refine q_getfield (pc := 31) gf_X0_31 dX0_hitsUntilHere_31 (by first | assumption | exact hS.o | exact hS.s0 | exact hS.s1 | exact hS.s2 | exact hS.s3 | exact hS.s4 | exact hS.s5 | exact hS.s6) rfl ?_
  refine q_invokevirtual (pc := 34) (d' := d - 1) (mc' := 0) (ms' := 0) (As := [_, _, _]) (TX6, 9) cl_X0_119 dX0_hitsUntilHere_34 rfl rfl (by first | assumption | exact hS.o | exact hS.s0 | exact hS.s1 | exact hS.s2 | exact hS.s3 | exact hS.s4 | exact hS.s5 | exact hS.s6) rfl (by omega) rfl 0 0 (Nat.le_refl 0) (Nat.le_refl 0) ?_
  refine c_X6_throwFar (by omega) hS hO hc hr (by omega) ?_
  refine q_min (pc := 37) tw_3_223 tw_2_67 tw_1_4 tw_2_68 dX0_hitsUntilHere_37 (by omega) rfl (by omega) (by omega) ?_
  refine q_imul (pc := 40) dX0_hitsUntilHere_40 ?_
  refine q_ireturn (pc := 41) dX0_hitsUntilHere_41 rfl ?_
  exact k
set_option maxRecDepth 100000 in
set_option maxHeartbeats 4000000 in
theorem c_X0_givenCloud {c : Int} {f : Int → Int} (hF : w.1 sb = some (.inl (0, [zR g b, zR g (sb + 1), zR g (sb + 2), zR g (sb + 3), zR g (sb + 4), zR g (sb + 5)]))) (hH : w.1 (sb + 5) = some (.inr (false, 6, f))) (hc : 0 ≤ c ∧ c < 6) (k : K (some (zI (f c))) w) : zCall g d 0 0 mX0_givenCloud [zR g sb, zI c] w K := by
  refine zenter [some _, some _] pn_X0 rfl (Nat.le_of_ble_eq_true rfl) ?_
  refine q_iload_n (pc := 0) dX0_givenCloud_0 rfl ?_
  refine q_if_lt (pc := 1) (by omega) 22 dX0_givenCloud_1 rfl (fun c1 => ?_) (fun c1 => ?_)
  · exfalso; omega
  refine q_iload_n (pc := 4) dX0_givenCloud_4 rfl ?_
  refine q_aload_n (pc := 5) dX0_givenCloud_5 rfl rfl ?_
  refine q_getfield (pc := 6) gf_X0_24 dX0_givenCloud_6 (by assumption) rfl ?_
  refine q_arraylength (pc := 9) dX0_givenCloud_9 (by assumption) ?_
  refine q_icmp_ge (pc := 10) (by omega) (by omega) 22 dX0_givenCloud_10 rfl (fun c10 => ?_) (fun c10 => ?_)
  · exfalso; omega
  refine q_aload_n (pc := 13) dX0_givenCloud_13 rfl rfl ?_
  refine q_getfield (pc := 14) gf_X0_24 dX0_givenCloud_14 (by assumption) rfl ?_
  refine q_iload_n (pc := 17) dX0_givenCloud_17 rfl ?_
  refine q_iaload (pc := 18) dX0_givenCloud_18 (by assumption) (by omega) ?_
  refine q_goto (pc := 19) 23 dX0_givenCloud_19 rfl ?_
  refine q_ireturn (pc := 23) dX0_givenCloud_23 rfl ?_
  exact k
set_option maxRecDepth 100000 in
set_option maxHeartbeats 4000000 in
theorem c_X0_worth {n dd : Int} (hd : 1 ≤ d) (hn : zR32 n) (k : K (some (zI (zworth n dd))) w) : zCall g d 0 0 mX0_worth [zI n, zI dd] w K := by
  unfold zworth at k
  refine zenter [some _, some _] pn_X0 rfl (Nat.le_of_ble_eq_true rfl) ?_
  refine q_iconst (pc := 0) dX0_worth_0 ?_
  refine q_iload_n (pc := 1) dX0_worth_1 rfl ?_
  refine q_max (pc := 2) tw_3_231 tw_1_37 tw_1_4 tw_1_38 dX0_worth_2 (by omega) rfl (by omega) (by omega) ?_
  refine q_ineg (pc := 5) dX0_worth_5 ?_
  refine q_iconst (pc := 6) dX0_worth_6 ?_
  refine q_iload_n (pc := 7) dX0_worth_7 rfl ?_
  refine q_imul (pc := 8) dX0_worth_8 ?_
  refine q_isub (pc := 9) dX0_worth_9 ?_
  refine q_ireturn (pc := 10) dX0_worth_10 rfl ?_
  exact k
set_option maxRecDepth 100000 in
set_option maxHeartbeats 4000000 in
theorem c_X0_rests {n h dd : Int} (hd : 2 ≤ d) (hn : -1000 ≤ n ∧ n ≤ 1000) (hh : 0 ≤ h ∧ h ≤ 10) (hdd : 0 ≤ dd ∧ dd ≤ 1) (k : K (some (zI (zb (zrests n h dd)))) w) : zCall g d 0 0 mX0_rests [zI n, zI h, zI dd] w K := by
  have e1 := zmul_b hdd hh
  have e2 := zmul_b (a := 1 - dd) (A := 1) (by omega) hh
  have f1 : zworth (n - dd * h) dd = -(max 0 (n - dd * h)) - 2 * dd := rfl
  have f2 : zworth (n - (1 - dd) * h) (1 - dd) = -(max 0 (n - (1 - dd) * h)) - 2 * (1 - dd) := rfl
  refine zenter [some _, some _, some _, none] pn_X0 rfl (Nat.le_of_ble_eq_true rfl) ?_
  refine q_iconst (pc := 0) dX0_rests_0 ?_
  refine q_iload_n (pc := 1) dX0_rests_1 rfl ?_
  refine q_isub (pc := 2) dX0_rests_2 ?_
  refine q_istore_n (pc := 3) [some _, some _, some _, some _] dX0_rests_3 rfl (Nat.le_of_ble_eq_true rfl) rfl ?_
  refine q_iload_n (pc := 4) dX0_rests_4 rfl ?_
  refine q_iload_n (pc := 5) dX0_rests_5 rfl ?_
  refine q_iload_n (pc := 6) dX0_rests_6 rfl ?_
  refine q_imul (pc := 7) dX0_rests_7 ?_
  refine q_isub (pc := 8) dX0_rests_8 ?_
  refine q_iload_n (pc := 9) dX0_rests_9 rfl ?_
  refine q_invokestatic (pc := 10) (d' := d - 1) (mc' := 0) (ms' := 0) (As := [_, _]) cl_X0_126 dX0_rests_10 rfl rfl (by omega) rfl 0 0 (Nat.le_refl 0) (Nat.le_refl 0) ?_
  refine c_X0_worth (by omega) (by omega) ?_
  refine q_iload_n (pc := 13) dX0_rests_13 rfl ?_
  refine q_iload_n (pc := 14) dX0_rests_14 rfl ?_
  refine q_iload_n (pc := 15) dX0_rests_15 rfl ?_
  refine q_imul (pc := 16) dX0_rests_16 ?_
  refine q_isub (pc := 17) dX0_rests_17 ?_
  refine q_iload_n (pc := 18) dX0_rests_18 rfl ?_
  refine q_invokestatic (pc := 19) (d' := d - 1) (mc' := 0) (ms' := 0) (As := [_, _]) cl_X0_126 dX0_rests_19 rfl rfl (by omega) rfl 0 0 (Nat.le_refl 0) (Nat.le_refl 0) ?_
  refine c_X0_worth (by omega) (by omega) ?_
  refine q_icmp_lt (pc := 22) (by omega) (by omega) 29 dX0_rests_22 rfl (fun c22 => ?_) (fun c22 => ?_)
  · refine q_iconst (pc := 29) dX0_rests_29 ?_
    exact q_zreturn0 (pc := 30) (by omega) dX0_rests_30 rfl k
  refine q_iconst (pc := 25) dX0_rests_25 ?_
  refine q_goto (pc := 26) 30 dX0_rests_26 rfl ?_
  exact q_zreturn1 (pc := 30) (by omega) dX0_rests_30 rfl k
end X0A
