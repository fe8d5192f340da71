/-! the Store's methods that only read -/
section X6B
variable {g : zG} {d : Nat} {w : zWd} {K : Option Value → zWd → Prop} {b : Nat} {N P : Int → Int} {u : Int}
set_option maxRecDepth 100000 in
set_option maxHeartbeats 4000000 in
theorem c_X7_within {v lo hi : Int} (hv : zR32 v) (h1 : zR32 lo) (h2 : zR32 hi) (k : K (some (zI (zb (lo ≤ v ∧ v ≤ hi)))) w) : zCall g d 0 0 mX7_within [zI v, zI lo, zI hi] w K := by
  refine zenter [some _, some _, some _] pn_X7 rfl (Nat.le_of_ble_eq_true rfl) ?_
  refine q_iload_n (pc := 0) dX7_within_0 rfl ?_
  refine q_iload_n (pc := 1) dX7_within_1 rfl ?_
  refine q_icmp_gt (pc := 2) (by omega) (by omega) 14 dX7_within_2 rfl (fun c2 => ?_) (fun c2 => ?_)
  · refine q_iconst (pc := 14) dX7_within_14 ?_
    exact q_zreturn0 (pc := 15) (by omega) dX7_within_15 rfl k
  refine q_iload_n (pc := 5) dX7_within_5 rfl ?_
  refine q_iload_n (pc := 6) dX7_within_6 rfl ?_
  refine q_icmp_gt (pc := 7) (by omega) (by omega) 14 dX7_within_7 rfl (fun c7 => ?_) (fun c7 => ?_)
  · refine q_iconst (pc := 14) dX7_within_14 ?_
    exact q_zreturn0 (pc := 15) (by omega) dX7_within_15 rfl k
  refine q_iconst (pc := 10) dX7_within_10 ?_
  refine q_goto (pc := 11) 15 dX7_within_11 rfl ?_
  exact q_zreturn1 (pc := 15) (by omega) dX7_within_15 rfl k
set_option maxRecDepth 100000 in
set_option maxHeartbeats 4000000 in
theorem c_X7_isRings {r : Int} (hd : 1 ≤ d) (hr : zR32 r) (k : K (some (zI (zb (1 ≤ r ∧ r ≤ 9)))) w) : zCall g d 0 0 mX7_isRings [zI r] w K := by
  refine zenter [some _] pn_X7 rfl (Nat.le_of_ble_eq_true rfl) ?_
  refine q_iload_n (pc := 0) dX7_isRings_0 rfl ?_
  refine q_iconst (pc := 1) dX7_isRings_1 ?_
  refine q_bipush (pc := 2) (by decide) dX7_isRings_2 ?_
  refine q_invokestatic (pc := 4) (d' := d - 1) (mc' := 0) (ms' := 0) (As := [_, _, _]) cl_X7_62 dX7_isRings_4 rfl rfl (by omega) rfl 0 0 (Nat.le_refl 0) (Nat.le_refl 0) ?_
  refine c_X7_within hr (by omega) (by omega) ?_
  refine q_zreturn (pc := 7) dX7_isRings_7 rfl ?_
  exact k
set_option maxRecDepth 100000 in
set_option maxHeartbeats 4000000 in
theorem c_X6_stonesOf {c r : Int} (hd : 2 ≤ d) (hS : zSto g w b N u P) (hH : zHd N) (hc : 0 ≤ c ∧ c < N 0) (hr : 1 ≤ r ∧ r ≤ 9) (k : K (some (zI (N (18 + 10 * c + r)))) w) : zCall g d 0 0 mX6_stonesOf [zR g b, zI c, zI r] w K := by
  refine zenter [some _, some _, some _] pn_X6 rfl (Nat.le_of_ble_eq_true rfl) ?_
  refine q_iload_n (pc := 0) dX6_stonesOf_0 rfl ?_
  refine q_invokestnest (pc := 1) (d' := d - 1) (mc' := 0) (ms' := 0) (As := [_]) cl_X6_85 dX6_stonesOf_1 rfl rfl (by omega) rfl 0 0 (Nat.le_refl 0) (Nat.le_refl 0) ?_
  refine c_X7_isRings (by omega) (by omega) ?_
  refine q_ifb_eq (pc := 4) 21 dX6_stonesOf_4 rfl (fun c4 => ?_) (fun c4 => ?_)
  · exfalso; omega
  refine q_aload_n (pc := 7) dX6_stonesOf_7 rfl rfl ?_
  refine q_getfield (pc := 8) gf_X6_16 dX6_stonesOf_8 (by first | assumption | exact hS.o | exact hS.s0 | exact hS.s1 | exact hS.s2 | exact hS.s3 | exact hS.s4 | exact hS.s5 | exact hS.s6) rfl ?_
  refine q_iload_n (pc := 11) dX6_stonesOf_11 rfl ?_
  refine q_iconst (pc := 12) dX6_stonesOf_12 ?_
  refine q_iload_n (pc := 13) dX6_stonesOf_13 rfl ?_
  refine q_iadd (pc := 14) dX6_stonesOf_14 ?_
  refine q_invokevirtual (pc := 15) (d' := d - 1) (mc' := 0) (ms' := 0) (As := [_, _]) (TX4, 4) cl_X6_78 dX6_stonesOf_15 rfl rfl (by first | assumption | exact hS.o | exact hS.s0 | exact hS.s1 | exact hS.s2 | exact hS.s3 | exact hS.s4 | exact hS.s5 | exact hS.s6) rfl (by omega) rfl 0 0 (Nat.le_refl 0) (Nat.le_refl 0) ?_
  refine s_get_stone (by omega) hS hH hc hr ?_
  refine q_goto (pc := 18) 22 dX6_stonesOf_18 rfl ?_
  refine q_ireturn (pc := 22) dX6_stonesOf_22 rfl ?_
  exact k
theorem zsg_s (f : Int → Int) (m : Nat) (a i : Int) (h : i = a + (m : Int)) : zsg f m a + f i = zsg f (m + 1) a := by rw [h]; rfl
set_option maxRecDepth 100000 in
set_option maxHeartbeats 4000000 in
theorem c_X6_stonesFrom {c r : Int} (hd : 3 ≤ d) (hS : zSto g w b N u P) (hH : zHd N) (hc : 0 ≤ c ∧ c < N 0) (hr : zR32 r) (k : K (some (zI (zfrom N c r))) w) : zCall g d 0 0 mX6_stonesFrom [zR g b, zI c, zI r] w K := by
  have hk := k
  unfold zfrom at hk
  generalize ha : max 1 r = a at hk
  have L : ∀ (q m : Nat) (i : Int), m + q = (10 - a).toNat → i = a + (m : Int) → zRuns g d mX6_stonesFrom 0 0 9 [some (zR g b), some (zI c), some (zI r), some (zI (zsg (fun i => N (18 + 10 * c + i)) m a)), some (zI i)] [] w K := by
    intro q
    induction q with
    | zero =>
      intro m i hm hi
      refine q_iload (pc := 9) dX6_stonesFrom_9 rfl ?_
      refine q_bipush (pc := 11) (by decide) dX6_stonesFrom_11 ?_
      refine q_icmp_gt (pc := 13) (by omega) (by omega) 32 dX6_stonesFrom_13 rfl (fun c13 => ?_) (fun c13 => ?_)
      · refine q_iload_n (pc := 32) dX6_stonesFrom_32 rfl ?_
        refine q_ireturn (pc := 33) dX6_stonesFrom_33 rfl ?_
        rw [show (10 - a).toNat = m by omega] at hk; exact hk
      exfalso; omega
    | succ q ih =>
      intro m i hm hi
      refine q_iload (pc := 9) dX6_stonesFrom_9 rfl ?_
      refine q_bipush (pc := 11) (by decide) dX6_stonesFrom_11 ?_
      refine q_icmp_gt (pc := 13) (by omega) (by omega) 32 dX6_stonesFrom_13 rfl (fun c13 => ?_) (fun c13 => ?_)
      · exfalso; omega
      refine q_iload_n (pc := 16) dX6_stonesFrom_16 rfl ?_
      refine q_aload_n (pc := 17) dX6_stonesFrom_17 rfl rfl ?_
      refine q_iload_n (pc := 18) dX6_stonesFrom_18 rfl ?_
      refine q_iload (pc := 19) dX6_stonesFrom_19 rfl ?_
      refine q_invokevirtual (pc := 21) (d' := d - 1) (mc' := 0) (ms' := 0) (As := [_, _]) (TX6, 9) cl_X6_93 dX6_stonesFrom_21 rfl rfl (by first | assumption | exact hS.o | exact hS.s0 | exact hS.s1 | exact hS.s2 | exact hS.s3 | exact hS.s4 | exact hS.s5 | exact hS.s6) rfl (by omega) rfl 0 0 (Nat.le_refl 0) (Nat.le_refl 0) ?_
      refine c_X6_stonesOf (by omega) hS hH hc (by omega) ?_
      refine q_iadd (pc := 24) dX6_stonesFrom_24 ?_
      rw [show zsg (fun i => N (18 + 10 * c + i)) m a + N (18 + 10 * c + i) = zsg (fun i => N (18 + 10 * c + i)) (m + 1) a from zsg_s (fun i => N (18 + 10 * c + i)) m a i hi]
      refine q_istore_n (pc := 25) [some _, some _, some _, some _, some _] dX6_stonesFrom_25 rfl (Nat.le_of_ble_eq_true rfl) rfl ?_
      refine q_iinc (pc := 26) [some _, some _, some _, some _, some _] dX6_stonesFrom_26 rfl rfl rfl ?_
      refine q_goto (pc := 29) 9 dX6_stonesFrom_29 rfl ?_
      exact ih (m + 1) _ (by omega) (by omega)
  refine zenter [some _, some _, some _, none, none] pn_X6 rfl (Nat.le_of_ble_eq_true rfl) ?_
  refine q_iconst (pc := 0) dX6_stonesFrom_0 ?_
  refine q_istore_n (pc := 1) [some _, some _, some _, some _, none] dX6_stonesFrom_1 rfl (Nat.le_of_ble_eq_true rfl) rfl ?_
  refine q_iconst (pc := 2) dX6_stonesFrom_2 ?_
  refine q_iload_n (pc := 3) dX6_stonesFrom_3 rfl ?_
  refine q_max (pc := 4) tw_3_44 tw_1_37 tw_1_4 tw_1_38 dX6_stonesFrom_4 (by omega) rfl (by omega) (by omega) ?_
  refine q_istore (pc := 7) [some _, some _, some _, some _, some _] dX6_stonesFrom_7 rfl (Nat.le_of_ble_eq_true rfl) rfl ?_
  rw [ha]
  exact L (10 - a).toNat 0 a (by omega) (by omega)
set_option maxRecDepth 100000 in
set_option maxHeartbeats 4000000 in
theorem c_X6_allStones (hd : 4 ≤ d) (hS : zSto g w b N u P) (hH : zHd N) (k : K (some (zI (zall N))) w) : zCall g d 0 0 mX6_allStones [zR g b] w K := by
  have hk := k
  unfold zall at hk
  have L : ∀ (q m : Nat) (i : Int), m + q = (N 0).toNat → i = 0 + (m : Int) → zRuns g d mX6_allStones 0 0 4 [some (zR g b), some (zI (zsg (fun c => zfrom N c 1) m 0)), some (zI i)] [] w K := by
    intro q
    induction q with
    | zero =>
      intro m i hm hi
      refine q_iload_n (pc := 4) dX6_allStones_4 rfl ?_
      refine q_aload_n (pc := 5) dX6_allStones_5 rfl rfl ?_
      refine q_getfield (pc := 6) gf_X6_16 dX6_allStones_6 (by first | assumption | exact hS.o | exact hS.s0 | exact hS.s1 | exact hS.s2 | exact hS.s3 | exact hS.s4 | exact hS.s5 | exact hS.s6) rfl ?_
      refine q_getfield (pc := 9) gf_X6_71 dX6_allStones_9 (by first | assumption | exact hS.o | exact hS.s0 | exact hS.s1 | exact hS.s2 | exact hS.s3 | exact hS.s4 | exact hS.s5 | exact hS.s6) rfl ?_
      refine q_icmp_ge (pc := 12) (by omega) (by omega) 30 dX6_allStones_12 rfl (fun c12 => ?_) (fun c12 => ?_)
      · refine q_iload_n (pc := 30) dX6_allStones_30 rfl ?_
        refine q_ireturn (pc := 31) dX6_allStones_31 rfl ?_
        rw [show (N 0).toNat = m by omega] at hk; exact hk
      exfalso; omega
    | succ q ih =>
      intro m i hm hi
      refine q_iload_n (pc := 4) dX6_allStones_4 rfl ?_
      refine q_aload_n (pc := 5) dX6_allStones_5 rfl rfl ?_
      refine q_getfield (pc := 6) gf_X6_16 dX6_allStones_6 (by first | assumption | exact hS.o | exact hS.s0 | exact hS.s1 | exact hS.s2 | exact hS.s3 | exact hS.s4 | exact hS.s5 | exact hS.s6) rfl ?_
      refine q_getfield (pc := 9) gf_X6_71 dX6_allStones_9 (by first | assumption | exact hS.o | exact hS.s0 | exact hS.s1 | exact hS.s2 | exact hS.s3 | exact hS.s4 | exact hS.s5 | exact hS.s6) rfl ?_
      refine q_icmp_ge (pc := 12) (by omega) (by omega) 30 dX6_allStones_12 rfl (fun c12 => ?_) (fun c12 => ?_)
      · exfalso; omega
      refine q_iload_n (pc := 15) dX6_allStones_15 rfl ?_
      refine q_aload_n (pc := 16) dX6_allStones_16 rfl rfl ?_
      refine q_iload_n (pc := 17) dX6_allStones_17 rfl ?_
      refine q_iconst (pc := 18) dX6_allStones_18 ?_
      refine q_invokevirtual (pc := 19) (d' := d - 1) (mc' := 0) (ms' := 0) (As := [_, _]) (TX6, 9) cl_X6_96 dX6_allStones_19 rfl rfl (by first | assumption | exact hS.o | exact hS.s0 | exact hS.s1 | exact hS.s2 | exact hS.s3 | exact hS.s4 | exact hS.s5 | exact hS.s6) rfl (by omega) rfl 0 0 (Nat.le_refl 0) (Nat.le_refl 0) ?_
      refine c_X6_stonesFrom (by omega) hS hH (by omega) (by omega) ?_
      refine q_iadd (pc := 22) dX6_allStones_22 ?_
      rw [show zsg (fun c => zfrom N c 1) m 0 + zfrom N i 1 = zsg (fun c => zfrom N c 1) (m + 1) 0 from zsg_s (fun c => zfrom N c 1) m 0 i hi]
      refine q_istore_n (pc := 23) [some _, some _, some _] dX6_allStones_23 rfl (Nat.le_of_ble_eq_true rfl) rfl ?_
      refine q_iinc (pc := 24) [some _, some _, some _] dX6_allStones_24 rfl rfl rfl ?_
      refine q_goto (pc := 27) 4 dX6_allStones_27 rfl ?_
      exact ih (m + 1) _ (by omega) (by omega)
  refine zenter [some _, none, none] pn_X6 rfl (Nat.le_of_ble_eq_true rfl) ?_
  refine q_iconst (pc := 0) dX6_allStones_0 ?_
  refine q_istore_n (pc := 1) [some _, some _, none] dX6_allStones_1 rfl (Nat.le_of_ble_eq_true rfl) rfl ?_
  refine q_iconst (pc := 2) dX6_allStones_2 ?_
  refine q_istore_n (pc := 3) [some _, some _, some _] dX6_allStones_3 rfl (Nat.le_of_ble_eq_true rfl) rfl ?_
  exact L (N 0).toNat 0 0 (by omega) (by omega)
set_option maxRecDepth 100000 in
set_option maxHeartbeats 4000000 in
theorem c_X6_greatest {c : Int} (hd : 3 ≤ d) (hS : zSto g w b N u P) (hO : zOK N) (hc : 0 ≤ c ∧ c < N 0) (k : K (some (zI (zgreat N c))) w) : zCall g d 0 0 mX6_greatest [zR g b, zI c] w K := by
  have hk := k
  unfold zgreat at hk
  have hh := hO.1
  have L : ∀ (m : Nat) (i : Int), m ≤ 9 → i = (m : Int) → K (some (zI (zgr (fun r => N (18 + 10 * c + r)) m))) w → zRuns g d mX6_greatest 0 0 3 [some (zR g b), some (zI c), some (zI i)] [] w K := by
    intro m
    induction m with
    | zero =>
      intro i hm hi hz
      refine q_iload_n (pc := 3) dX6_greatest_3 rfl ?_
      refine q_iconst (pc := 4) dX6_greatest_4 ?_
      refine q_icmp_lt (pc := 5) (by omega) (by omega) 25 dX6_greatest_5 rfl (fun c5 => ?_) (fun c5 => ?_)
      · refine q_iconst (pc := 25) dX6_greatest_25 ?_
        refine q_ireturn (pc := 26) dX6_greatest_26 rfl ?_
        exact hz
      exfalso; omega
    | succ m ih =>
      intro i hm hi hz
      have hb := (hO.2.2.1 c i hc.1 (by omega) (by omega) (by omega)).1
      have hi2 : i = (m : Int) + 1 := by omega
      simp only [zgr] at hz
      rw [← hi2] at hz
      refine q_iload_n (pc := 3) dX6_greatest_3 rfl ?_
      refine q_iconst (pc := 4) dX6_greatest_4 ?_
      refine q_icmp_lt (pc := 5) (by omega) (by omega) 25 dX6_greatest_5 rfl (fun c5 => ?_) (fun c5 => ?_)
      · exfalso; omega
      refine q_aload_n (pc := 8) dX6_greatest_8 rfl rfl ?_
      refine q_iload_n (pc := 9) dX6_greatest_9 rfl ?_
      refine q_iload_n (pc := 10) dX6_greatest_10 rfl ?_
      refine q_invokevirtual (pc := 11) (d' := d - 1) (mc' := 0) (ms' := 0) (As := [_, _]) (TX6, 9) cl_X6_93 dX6_greatest_11 rfl rfl (by first | assumption | exact hS.o | exact hS.s0 | exact hS.s1 | exact hS.s2 | exact hS.s3 | exact hS.s4 | exact hS.s5 | exact hS.s6) rfl (by omega) rfl 0 0 (Nat.le_refl 0) (Nat.le_refl 0) ?_
      refine c_X6_stonesOf (by omega) hS hO.1 hc (by omega) ?_
      refine q_if_le (pc := 14) (by omega) 19 dX6_greatest_14 rfl (fun c14 => ?_) (fun c14 => ?_)
      · refine q_iinc (pc := 19) [some _, some _, some _] dX6_greatest_19 rfl rfl rfl ?_
        refine q_goto (pc := 22) 3 dX6_greatest_22 rfl ?_
        rw [if_neg (by omega)] at hz
        exact ih _ (by omega) (by omega) hz
      refine q_iload_n (pc := 17) dX6_greatest_17 rfl ?_
      refine q_ireturn (pc := 18) dX6_greatest_18 rfl ?_
      rw [if_pos (by omega)] at hz; exact hz
  refine zenter [some _, some _, none] pn_X6 rfl (Nat.le_of_ble_eq_true rfl) ?_
  refine q_bipush (pc := 0) (by decide) dX6_greatest_0 ?_
  refine q_istore_n (pc := 2) [some _, some _, some _] dX6_greatest_2 rfl (Nat.le_of_ble_eq_true rfl) rfl ?_
  exact L 9 9 (by omega) rfl hk
set_option maxRecDepth 100000 in
set_option maxHeartbeats 4000000 in
theorem c_X6_meltIn {c wk : Int} (hd : 2 ≤ d) (hS : zSto g w b N u P) (hO : zOK N) (hc : 0 ≤ c ∧ c < N 0) (hw : 0 ≤ wk ∧ wk ≤ 100000) (k : K (some (zI (zmelt (N (8 + c)) wk (N (13 + c))))) w) : zCall g d 0 0 mX6_meltIn [zR g b, zI c, zI wk] w K := by
  have hk := hO.2.1 c hc.1 hc.2
  refine zenter [some _, some _, some _] pn_X6 rfl (Nat.le_of_ble_eq_true rfl) ?_
  refine q_aload_n (pc := 0) dX6_meltIn_0 rfl rfl ?_
  refine q_getfield (pc := 1) gf_X6_16 dX6_meltIn_1 (by first | assumption | exact hS.o | exact hS.s0 | exact hS.s1 | exact hS.s2 | exact hS.s3 | exact hS.s4 | exact hS.s5 | exact hS.s6) rfl ?_
  refine q_iload_n (pc := 4) dX6_meltIn_4 rfl ?_
  refine q_iconst (pc := 5) dX6_meltIn_5 ?_
  refine q_invokevirtual (pc := 6) (d' := d - 1) (mc' := 0) (ms' := 0) (As := [_, _]) (TX4, 4) cl_X6_78 dX6_meltIn_6 rfl rfl (by first | assumption | exact hS.o | exact hS.s0 | exact hS.s1 | exact hS.s2 | exact hS.s3 | exact hS.s4 | exact hS.s5 | exact hS.s6) rfl (by omega) rfl 0 0 (Nat.le_refl 0) (Nat.le_refl 0) ?_
  refine s_get_kind (by omega) hS hO.1 hc ?_
  refine q_iload_n (pc := 9) dX6_meltIn_9 rfl ?_
  refine q_aload_n (pc := 10) dX6_meltIn_10 rfl rfl ?_
  refine q_getfield (pc := 11) gf_X6_16 dX6_meltIn_11 (by first | assumption | exact hS.o | exact hS.s0 | exact hS.s1 | exact hS.s2 | exact hS.s3 | exact hS.s4 | exact hS.s5 | exact hS.s6) rfl ?_
  refine q_iload_n (pc := 14) dX6_meltIn_14 rfl ?_
  refine q_iconst (pc := 15) dX6_meltIn_15 ?_
  refine q_invokevirtual (pc := 16) (d' := d - 1) (mc' := 0) (ms' := 0) (As := [_, _]) (TX4, 4) cl_X6_78 dX6_meltIn_16 rfl rfl (by first | assumption | exact hS.o | exact hS.s0 | exact hS.s1 | exact hS.s2 | exact hS.s3 | exact hS.s4 | exact hS.s5 | exact hS.s6) rfl (by omega) rfl 0 0 (Nat.le_refl 0) (Nat.le_refl 0) ?_
  refine s_get_straw (by omega) hS hO.1 hc ?_
  refine q_invokestatic (pc := 19) (d' := d - 1) (mc' := 0) (ms' := 0) (As := [_, _, _]) cl_X6_99 dX6_meltIn_19 rfl rfl (by omega) rfl 0 0 (Nat.le_refl 0) (Nat.le_refl 0) ?_
  refine c_X2_meltBy (by omega) hw (by omega) ?_
  refine q_ireturn (pc := 22) dX6_meltIn_22 rfl ?_
  exact k
set_option maxRecDepth 100000 in
set_option maxHeartbeats 4000000 in
theorem c_X6_doorCost {c : Int} (hd : 2 ≤ d) (hS : zSto g w b N u P) (hO : zOK N) (hc : 0 ≤ c ∧ c < N 0) (k : K (some (zI (zcost (N (8 + c))))) w) : zCall g d 0 0 mX6_doorCost [zR g b, zI c] w K := by
  have hk := hO.2.1 c hc.1 hc.2
  refine zenter [some _, some _] pn_X6 rfl (Nat.le_of_ble_eq_true rfl) ?_
  refine q_aload_n (pc := 0) dX6_doorCost_0 rfl rfl ?_
  refine q_getfield (pc := 1) gf_X6_16 dX6_doorCost_1 (by first | assumption | exact hS.o | exact hS.s0 | exact hS.s1 | exact hS.s2 | exact hS.s3 | exact hS.s4 | exact hS.s5 | exact hS.s6) rfl ?_
  refine q_iload_n (pc := 4) dX6_doorCost_4 rfl ?_
  refine q_iconst (pc := 5) dX6_doorCost_5 ?_
  refine q_invokevirtual (pc := 6) (d' := d - 1) (mc' := 0) (ms' := 0) (As := [_, _]) (TX4, 4) cl_X6_78 dX6_doorCost_6 rfl rfl (by first | assumption | exact hS.o | exact hS.s0 | exact hS.s1 | exact hS.s2 | exact hS.s3 | exact hS.s4 | exact hS.s5 | exact hS.s6) rfl (by omega) rfl 0 0 (Nat.le_refl 0) (Nat.le_refl 0) ?_
  refine s_get_kind (by omega) hS hO.1 hc ?_
  refine q_invokestatic (pc := 9) (d' := d - 1) (mc' := 0) (ms' := 0) (As := [_]) cl_X6_105 dX6_doorCost_9 rfl rfl (by omega) rfl 0 0 (Nat.le_refl 0) (Nat.le_refl 0) ?_
  refine c_X2_costOfDoor (by omega) ?_
  refine q_ireturn (pc := 12) dX6_doorCost_12 rfl ?_
  exact k
set_option maxRecDepth 100000 in
set_option maxHeartbeats 4000000 in
theorem c_X6_throwFar {s r v : Int} (hd : 2 ≤ d) (hS : zSto g w b N u P) (hO : zOK N) (hs : 0 ≤ s ∧ s < N 1) (hr : 1 ≤ r ∧ r ≤ 9) (hv : 0 ≤ v ∧ v ≤ 13) (k : K (some (zI (zfar (N (68 + s)) (N (74 + s)) r v))) w) : zCall g d 0 0 mX6_throwFar [zR g b, zI s, zI r, zI v] w K := by
  have hk := hO.2.2.2.1 s hs.1 hs.2
  refine zenter [some _, some _, some _, some _] pn_X6 rfl (Nat.le_of_ble_eq_true rfl) ?_
  refine q_aload_n (pc := 0) dX6_throwFar_0 rfl rfl ?_
  refine q_getfield (pc := 1) gf_X6_20 dX6_throwFar_1 (by first | assumption | exact hS.o | exact hS.s0 | exact hS.s1 | exact hS.s2 | exact hS.s3 | exact hS.s4 | exact hS.s5 | exact hS.s6) rfl ?_
  refine q_iload_n (pc := 4) dX6_throwFar_4 rfl ?_
  refine q_iconst (pc := 5) dX6_throwFar_5 ?_
  refine q_invokevirtual (pc := 6) (d' := d - 1) (mc' := 0) (ms' := 0) (As := [_, _]) (TX4, 4) cl_X6_78 dX6_throwFar_6 rfl rfl (by first | assumption | exact hS.o | exact hS.s0 | exact hS.s1 | exact hS.s2 | exact hS.s3 | exact hS.s4 | exact hS.s5 | exact hS.s6) rfl (by omega) rfl 0 0 (Nat.le_refl 0) (Nat.le_refl 0) ?_
  refine s_get_sort (by omega) hS hO.1 hs ?_
  refine q_aload_n (pc := 9) dX6_throwFar_9 rfl rfl ?_
  refine q_getfield (pc := 10) gf_X6_20 dX6_throwFar_10 (by first | assumption | exact hS.o | exact hS.s0 | exact hS.s1 | exact hS.s2 | exact hS.s3 | exact hS.s4 | exact hS.s5 | exact hS.s6) rfl ?_
  refine q_iload_n (pc := 13) dX6_throwFar_13 rfl ?_
  refine q_iconst (pc := 14) dX6_throwFar_14 ?_
  refine q_invokevirtual (pc := 15) (d' := d - 1) (mc' := 0) (ms' := 0) (As := [_, _]) (TX4, 4) cl_X6_78 dX6_throwFar_15 rfl rfl (by first | assumption | exact hS.o | exact hS.s0 | exact hS.s1 | exact hS.s2 | exact hS.s3 | exact hS.s4 | exact hS.s5 | exact hS.s6) rfl (by omega) rfl 0 0 (Nat.le_refl 0) (Nat.le_refl 0) ?_
  refine s_get_arm (by omega) hS hO.1 hs ?_
  refine q_iload_n (pc := 18) dX6_throwFar_18 rfl ?_
  refine q_iload_n (pc := 19) dX6_throwFar_19 rfl ?_
  refine q_invokestatic (pc := 20) (d' := d - 1) (mc' := 0) (ms' := 0) (As := [_, _, _, _]) cl_X6_118 dX6_throwFar_20 rfl rfl (by omega) rfl 0 0 (Nat.le_refl 0) (Nat.le_refl 0) ?_
  refine c_X2_farBy (by omega) (by omega) (by omega) hr hv ?_
  refine q_ireturn (pc := 23) dX6_throwFar_23 rfl ?_
  exact k
set_option maxRecDepth 100000 in
set_option maxHeartbeats 4000000 in
theorem c_X6_throwHits {s r : Int} (hd : 2 ≤ d) (hS : zSto g w b N u P) (hO : zOK N) (hs : 0 ≤ s ∧ s < N 1) (hr : 1 ≤ r ∧ r ≤ 9) (k : K (some (zI (zhits (N (68 + s)) r))) w) : zCall g d 0 0 mX6_throwHits [zR g b, zI s, zI r] w K := by
  have hk := hO.2.2.2.1 s hs.1 hs.2
  refine zenter [some _, some _, some _] pn_X6 rfl (Nat.le_of_ble_eq_true rfl) ?_
  refine q_aload_n (pc := 0) dX6_throwHits_0 rfl rfl ?_
  refine q_getfield (pc := 1) gf_X6_20 dX6_throwHits_1 (by first | assumption | exact hS.o | exact hS.s0 | exact hS.s1 | exact hS.s2 | exact hS.s3 | exact hS.s4 | exact hS.s5 | exact hS.s6) rfl ?_
  refine q_iload_n (pc := 4) dX6_throwHits_4 rfl ?_
  refine q_iconst (pc := 5) dX6_throwHits_5 ?_
  refine q_invokevirtual (pc := 6) (d' := d - 1) (mc' := 0) (ms' := 0) (As := [_, _]) (TX4, 4) cl_X6_78 dX6_throwHits_6 rfl rfl (by first | assumption | exact hS.o | exact hS.s0 | exact hS.s1 | exact hS.s2 | exact hS.s3 | exact hS.s4 | exact hS.s5 | exact hS.s6) rfl (by omega) rfl 0 0 (Nat.le_refl 0) (Nat.le_refl 0) ?_
  refine s_get_sort (by omega) hS hO.1 hs ?_
  refine q_iload_n (pc := 9) dX6_throwHits_9 rfl ?_
  refine q_invokestatic (pc := 10) (d' := d - 1) (mc' := 0) (ms' := 0) (As := [_, _]) cl_X6_122 dX6_throwHits_10 rfl rfl (by omega) rfl 0 0 (Nat.le_refl 0) (Nat.le_refl 0) ?_
  refine c_X2_hitsBy (by omega) hr ?_
  refine q_ireturn (pc := 13) dX6_throwHits_13 rfl ?_
  exact k
set_option maxRecDepth 100000 in
set_option maxHeartbeats 4000000 in
theorem c_X6_isHere {q : Int} (hd : 2 ≤ d) (hS : zSto g w b N u P) (hO : zOK N) (hq : 0 ≤ q ∧ q < N 2) (k : K (some (zI (zb (N (80 + q) = 0)))) w) : zCall g d 0 0 mX6_isHere [zR g b, zI q] w K := by
  have hk := hO.2.2.2.2.1 q hq.1 hq.2
  refine zenter [some _, some _] pn_X6 rfl (Nat.le_of_ble_eq_true rfl) ?_
  refine q_aload_n (pc := 0) dX6_isHere_0 rfl rfl ?_
  refine q_getfield (pc := 1) gf_X6_23 dX6_isHere_1 (by first | assumption | exact hS.o | exact hS.s0 | exact hS.s1 | exact hS.s2 | exact hS.s3 | exact hS.s4 | exact hS.s5 | exact hS.s6) rfl ?_
  refine q_iload_n (pc := 4) dX6_isHere_4 rfl ?_
  refine q_iconst (pc := 5) dX6_isHere_5 ?_
  refine q_invokevirtual (pc := 6) (d' := d - 1) (mc' := 0) (ms' := 0) (As := [_, _]) (TX4, 4) cl_X6_78 dX6_isHere_6 rfl rfl (by first | assumption | exact hS.o | exact hS.s0 | exact hS.s1 | exact hS.s2 | exact hS.s3 | exact hS.s4 | exact hS.s5 | exact hS.s6) rfl (by omega) rfl 0 0 (Nat.le_refl 0) (Nat.le_refl 0) ?_
  refine s_get_far (by omega) hS hO.1 hq ?_
  refine q_if_ne (pc := 9) (by omega) 16 dX6_isHere_9 rfl (fun c9 => ?_) (fun c9 => ?_)
  · refine q_iconst (pc := 16) dX6_isHere_16 ?_
    exact q_zreturn0 (pc := 17) (by omega) dX6_isHere_17 rfl k
  refine q_iconst (pc := 12) dX6_isHere_12 ?_
  refine q_goto (pc := 13) 17 dX6_isHere_13 rfl ?_
  exact q_zreturn1 (pc := 17) (by omega) dX6_isHere_17 rfl k
set_option maxRecDepth 100000 in
set_option maxHeartbeats 4000000 in
theorem c_X6_needsYet {q : Int} (hd : 2 ≤ d) (hS : zSto g w b N u P) (hH : zHd N) (hq : 0 ≤ q ∧ q < N 2) (k : K (some (zI (N (84 + q) - N (88 + q)))) w) : zCall g d 0 0 mX6_needsYet [zR g b, zI q] w K := by
  refine zenter [some _, some _] pn_X6 rfl (Nat.le_of_ble_eq_true rfl) ?_
  refine q_aload_n (pc := 0) dX6_needsYet_0 rfl rfl ?_
  refine q_getfield (pc := 1) gf_X6_23 dX6_needsYet_1 (by first | assumption | exact hS.o | exact hS.s0 | exact hS.s1 | exact hS.s2 | exact hS.s3 | exact hS.s4 | exact hS.s5 | exact hS.s6) rfl ?_
  refine q_iload_n (pc := 4) dX6_needsYet_4 rfl ?_
  refine q_iconst (pc := 5) dX6_needsYet_5 ?_
  refine q_invokevirtual (pc := 6) (d' := d - 1) (mc' := 0) (ms' := 0) (As := [_, _]) (TX4, 4) cl_X6_78 dX6_needsYet_6 rfl rfl (by first | assumption | exact hS.o | exact hS.s0 | exact hS.s1 | exact hS.s2 | exact hS.s3 | exact hS.s4 | exact hS.s5 | exact hS.s6) rfl (by omega) rfl 0 0 (Nat.le_refl 0) (Nat.le_refl 0) ?_
  refine s_get_need (by omega) hS hH hq ?_
  refine q_aload_n (pc := 9) dX6_needsYet_9 rfl rfl ?_
  refine q_getfield (pc := 10) gf_X6_23 dX6_needsYet_10 (by first | assumption | exact hS.o | exact hS.s0 | exact hS.s1 | exact hS.s2 | exact hS.s3 | exact hS.s4 | exact hS.s5 | exact hS.s6) rfl ?_
  refine q_iload_n (pc := 13) dX6_needsYet_13 rfl ?_
  refine q_iconst (pc := 14) dX6_needsYet_14 ?_
  refine q_invokevirtual (pc := 15) (d' := d - 1) (mc' := 0) (ms' := 0) (As := [_, _]) (TX4, 4) cl_X6_78 dX6_needsYet_15 rfl rfl (by first | assumption | exact hS.o | exact hS.s0 | exact hS.s1 | exact hS.s2 | exact hS.s3 | exact hS.s4 | exact hS.s5 | exact hS.s6) rfl (by omega) rfl 0 0 (Nat.le_refl 0) (Nat.le_refl 0) ?_
  refine s_get_hits (by omega) hS hH hq ?_
  refine q_isub (pc := 18) dX6_needsYet_18 ?_
  refine q_ireturn (pc := 19) dX6_needsYet_19 rfl ?_
  exact k
set_option maxRecDepth 100000 in
set_option maxHeartbeats 4000000 in
theorem c_X6_isTurned {q : Int} (hd : 3 ≤ d) (hS : zSto g w b N u P) (hO : zOK N) (hq : 0 ≤ q ∧ q < N 2) (k : K (some (zI (zb (zTn N q)))) w) : zCall g d 0 0 mX6_isTurned [zR g b, zI q] w K := by
  have hk := hO.2.2.2.2.1 q hq.1 hq.2
  refine zenter [some _, some _] pn_X6 rfl (Nat.le_of_ble_eq_true rfl) ?_
  refine q_aload_n (pc := 0) dX6_isTurned_0 rfl rfl ?_
  refine q_iload_n (pc := 1) dX6_isTurned_1 rfl ?_
  refine q_invokevirtual (pc := 2) (d' := d - 1) (mc' := 0) (ms' := 0) (As := [_]) (TX6, 9) cl_X6_125 dX6_isTurned_2 rfl rfl (by first | assumption | exact hS.o | exact hS.s0 | exact hS.s1 | exact hS.s2 | exact hS.s3 | exact hS.s4 | exact hS.s5 | exact hS.s6) rfl (by omega) rfl 0 0 (Nat.le_refl 0) (Nat.le_refl 0) ?_
  refine c_X6_needsYet (by omega) hS hO.1 hq ?_
  refine q_if_gt (pc := 5) (by omega) 12 dX6_isTurned_5 rfl (fun c5 => ?_) (fun c5 => ?_)
  · refine q_iconst (pc := 12) dX6_isTurned_12 ?_
    exact q_zreturn0 (pc := 13) (by omega) dX6_isTurned_13 rfl k
  refine q_iconst (pc := 8) dX6_isTurned_8 ?_
  refine q_goto (pc := 9) 13 dX6_isTurned_9 rfl ?_
  exact q_zreturn1 (pc := 13) (by omega) dX6_isTurned_13 rfl k
set_option maxRecDepth 100000 in
set_option maxHeartbeats 4000000 in
theorem c_X6_turnedClouds (hd : 4 ≤ d) (hS : zSto g w b N u P) (hO : zOK N) (k : K (some (zI (zturned N))) w) : zCall g d 0 0 mX6_turnedClouds [zR g b] w K := by
  have hk := k
  unfold zturned at hk
  have hh := hO.1
  have L : ∀ (q m : Nat) (i : Int), m + q = (N 2).toNat → i = 0 + (m : Int) → zRuns g d mX6_turnedClouds 0 0 4 [some (zR g b), some (zI (zsg (fun k => zb (zTn N k)) m 0)), some (zI i)] [] w K := by
    intro q
    induction q with
    | zero =>
      intro m i hm hi
      refine q_iload_n (pc := 4) dX6_turnedClouds_4 rfl ?_
      refine q_aload_n (pc := 5) dX6_turnedClouds_5 rfl rfl ?_
      refine q_getfield (pc := 6) gf_X6_23 dX6_turnedClouds_6 (by first | assumption | exact hS.o | exact hS.s0 | exact hS.s1 | exact hS.s2 | exact hS.s3 | exact hS.s4 | exact hS.s5 | exact hS.s6) rfl ?_
      refine q_getfield (pc := 9) gf_X6_71 dX6_turnedClouds_9 (by first | assumption | exact hS.o | exact hS.s0 | exact hS.s1 | exact hS.s2 | exact hS.s3 | exact hS.s4 | exact hS.s5 | exact hS.s6) rfl ?_
      refine q_icmp_ge (pc := 12) (by omega) (by omega) 32 dX6_turnedClouds_12 rfl (fun c12 => ?_) (fun c12 => ?_)
      · refine q_iload_n (pc := 32) dX6_turnedClouds_32 rfl ?_
        refine q_ireturn (pc := 33) dX6_turnedClouds_33 rfl ?_
        rw [show (N 2).toNat = m by omega] at hk; exact hk
      exfalso; omega
    | succ q ih =>
      intro m i hm hi
      have e : zsg (fun k => zb (zTn N k)) m 0 + zb (zTn N i) = zsg (fun k => zb (zTn N k)) (m + 1) 0 := zsg_s (fun k => zb (zTn N k)) m 0 i hi
      refine q_iload_n (pc := 4) dX6_turnedClouds_4 rfl ?_
      refine q_aload_n (pc := 5) dX6_turnedClouds_5 rfl rfl ?_
      refine q_getfield (pc := 6) gf_X6_23 dX6_turnedClouds_6 (by first | assumption | exact hS.o | exact hS.s0 | exact hS.s1 | exact hS.s2 | exact hS.s3 | exact hS.s4 | exact hS.s5 | exact hS.s6) rfl ?_
      refine q_getfield (pc := 9) gf_X6_71 dX6_turnedClouds_9 (by first | assumption | exact hS.o | exact hS.s0 | exact hS.s1 | exact hS.s2 | exact hS.s3 | exact hS.s4 | exact hS.s5 | exact hS.s6) rfl ?_
      refine q_icmp_ge (pc := 12) (by omega) (by omega) 32 dX6_turnedClouds_12 rfl (fun c12 => ?_) (fun c12 => ?_)
      · exfalso; omega
      refine q_aload_n (pc := 15) dX6_turnedClouds_15 rfl rfl ?_
      refine q_iload_n (pc := 16) dX6_turnedClouds_16 rfl ?_
      refine q_invokevirtual (pc := 17) (d' := d - 1) (mc' := 0) (ms' := 0) (As := [_]) (TX6, 9) cl_X6_128 dX6_turnedClouds_17 rfl rfl (by first | assumption | exact hS.o | exact hS.s0 | exact hS.s1 | exact hS.s2 | exact hS.s3 | exact hS.s4 | exact hS.s5 | exact hS.s6) rfl (by omega) rfl 0 0 (Nat.le_refl 0) (Nat.le_refl 0) ?_
      refine c_X6_isTurned (by omega) hS hO (by omega) ?_
      refine q_ifb_eq (pc := 20) 26 dX6_turnedClouds_20 rfl (fun c20 => ?_) (fun c20 => ?_)
      · first | (rw [zb_f c20, Int.add_zero] at e; rw [e]) | rw [e]
        refine q_iinc (pc := 26) [some _, some _, some _] dX6_turnedClouds_26 rfl rfl rfl ?_
        refine q_goto (pc := 29) 4 dX6_turnedClouds_29 rfl ?_
        exact ih (m + 1) _ (by omega) (by omega)
      rw [zb_t c20] at e
      refine q_iinc (pc := 23) [some _, some _, some _] dX6_turnedClouds_23 rfl rfl rfl ?_
      first | (rw [zb_f c20, Int.add_zero] at e; rw [e]) | rw [e]
      refine q_iinc (pc := 26) [some _, some _, some _] dX6_turnedClouds_26 rfl rfl rfl ?_
      refine q_goto (pc := 29) 4 dX6_turnedClouds_29 rfl ?_
      exact ih (m + 1) _ (by omega) (by omega)
  refine zenter [some _, none, none] pn_X6 rfl (Nat.le_of_ble_eq_true rfl) ?_
  refine q_iconst (pc := 0) dX6_turnedClouds_0 ?_
  refine q_istore_n (pc := 1) [some _, some _, none] dX6_turnedClouds_1 rfl (Nat.le_of_ble_eq_true rfl) rfl ?_
  refine q_iconst (pc := 2) dX6_turnedClouds_2 ?_
  refine q_istore_n (pc := 3) [some _, some _, some _] dX6_turnedClouds_3 rfl (Nat.le_of_ble_eq_true rfl) rfl ?_
  exact L (N 2).toNat 0 0 (by omega) (by omega)
set_option maxRecDepth 100000 in
set_option maxHeartbeats 4000000 in
theorem c_X6_reaches {s q r v : Int} (hd : 3 ≤ d) (hS : zSto g w b N u P) (hO : zOK N) (hs : 0 ≤ s ∧ s < N 1) (hq : 0 ≤ q ∧ q < N 2) (hr : 1 ≤ r ∧ r ≤ 9) (hv : 0 ≤ v ∧ v ≤ 13) (k : K (some (zI (zb (zRch N s q r v)))) w) : zCall g d 0 0 mX6_reaches [zR g b, zI s, zI q, zI r, zI v] w K := by
  have hk := hO.2.2.2.2.1 q hq.1 hq.2
  have hk2 := hO.2.2.2.1 s hs.1 hs.2
  have hk3 := zfar_b (kind := N (68 + s)) (v := v) hk2.2 (by omega : 0 ≤ r ∧ r ≤ 9) hv
  refine zenter [some _, some _, some _, some _, some _] pn_X6 rfl (Nat.le_of_ble_eq_true rfl) ?_
  refine q_aload_n (pc := 0) dX6_reaches_0 rfl rfl ?_
  refine q_iload_n (pc := 1) dX6_reaches_1 rfl ?_
  refine q_invokevirtual (pc := 2) (d' := d - 1) (mc' := 0) (ms' := 0) (As := [_]) (TX6, 9) cl_X6_131 dX6_reaches_2 rfl rfl (by first | assumption | exact hS.o | exact hS.s0 | exact hS.s1 | exact hS.s2 | exact hS.s3 | exact hS.s4 | exact hS.s5 | exact hS.s6) rfl (by omega) rfl 0 0 (Nat.le_refl 0) (Nat.le_refl 0) ?_
  refine c_X6_isHere (by omega) hS hO hq ?_
  refine q_ifb_ne (pc := 5) 32 dX6_reaches_5 rfl (fun c5 => ?_) (fun c5 => ?_)
  · refine q_iconst (pc := 32) dX6_reaches_32 ?_
    exact q_zreturn0 (pc := 33) (by omega) dX6_reaches_33 rfl k
  refine q_aload_n (pc := 8) dX6_reaches_8 rfl rfl ?_
  refine q_getfield (pc := 9) gf_X6_23 dX6_reaches_9 (by first | assumption | exact hS.o | exact hS.s0 | exact hS.s1 | exact hS.s2 | exact hS.s3 | exact hS.s4 | exact hS.s5 | exact hS.s6) rfl ?_
  refine q_iload_n (pc := 12) dX6_reaches_12 rfl ?_
  refine q_iconst (pc := 13) dX6_reaches_13 ?_
  refine q_invokevirtual (pc := 14) (d' := d - 1) (mc' := 0) (ms' := 0) (As := [_, _]) (TX4, 4) cl_X6_78 dX6_reaches_14 rfl rfl (by first | assumption | exact hS.o | exact hS.s0 | exact hS.s1 | exact hS.s2 | exact hS.s3 | exact hS.s4 | exact hS.s5 | exact hS.s6) rfl (by omega) rfl 0 0 (Nat.le_refl 0) (Nat.le_refl 0) ?_
  refine s_get_far (by omega) hS hO.1 hq ?_
  refine q_aload_n (pc := 17) dX6_reaches_17 rfl rfl ?_
  refine q_iload_n (pc := 18) dX6_reaches_18 rfl ?_
  refine q_iload_n (pc := 19) dX6_reaches_19 rfl ?_
  refine q_iload (pc := 20) dX6_reaches_20 rfl ?_
  refine q_invokevirtual (pc := 22) (d' := d - 1) (mc' := 0) (ms' := 0) (As := [_, _, _]) (TX6, 9) cl_X6_134 dX6_reaches_22 rfl rfl (by first | assumption | exact hS.o | exact hS.s0 | exact hS.s1 | exact hS.s2 | exact hS.s3 | exact hS.s4 | exact hS.s5 | exact hS.s6) rfl (by omega) rfl 0 0 (Nat.le_refl 0) (Nat.le_refl 0) ?_
  refine c_X6_throwFar (by omega) hS hO hs hr hv ?_
  refine q_icmp_gt (pc := 25) (by omega) (by omega) 32 dX6_reaches_25 rfl (fun c25 => ?_) (fun c25 => ?_)
  · refine q_iconst (pc := 32) dX6_reaches_32 ?_
    exact q_zreturn0 (pc := 33) (by omega) dX6_reaches_33 rfl k
  refine q_iconst (pc := 28) dX6_reaches_28 ?_
  refine q_goto (pc := 29) 33 dX6_reaches_29 rfl ?_
  exact q_zreturn1 (pc := 33) (by omega) dX6_reaches_33 rfl k
set_option maxRecDepth 100000 in
set_option maxHeartbeats 4000000 in
theorem c_X6_hitsAt {s q r v : Int} (hd : 4 ≤ d) (hS : zSto g w b N u P) (hO : zOK N) (hs : 0 ≤ s ∧ s < N 1) (hq : 0 ≤ q ∧ q < N 2) (hr : 1 ≤ r ∧ r ≤ 9) (hv : 0 ≤ v ∧ v ≤ 13) (k : K (some (zI (zhat N s q r v))) w) : zCall g d 0 0 mX6_hitsAt [zR g b, zI s, zI q, zI r, zI v] w K := by
  refine zenter [some _, some _, some _, some _, some _] pn_X6 rfl (Nat.le_of_ble_eq_true rfl) ?_
  refine q_aload_n (pc := 0) dX6_hitsAt_0 rfl rfl ?_
  refine q_iload_n (pc := 1) dX6_hitsAt_1 rfl ?_
  refine q_iload_n (pc := 2) dX6_hitsAt_2 rfl ?_
  refine q_iload_n (pc := 3) dX6_hitsAt_3 rfl ?_
  refine q_iload (pc := 4) dX6_hitsAt_4 rfl ?_
  refine q_invokevirtual (pc := 6) (d' := d - 1) (mc' := 0) (ms' := 0) (As := [_, _, _, _]) (TX6, 9) cl_X6_137 dX6_hitsAt_6 rfl rfl (by first | assumption | exact hS.o | exact hS.s0 | exact hS.s1 | exact hS.s2 | exact hS.s3 | exact hS.s4 | exact hS.s5 | exact hS.s6) rfl (by omega) rfl 0 0 (Nat.le_refl 0) (Nat.le_refl 0) ?_
  refine c_X6_reaches (by omega) hS hO hs hq hr hv ?_
  refine q_ifb_eq (pc := 9) 21 dX6_hitsAt_9 rfl (fun c9 => ?_) (fun c9 => ?_)
  · refine q_iconst (pc := 21) dX6_hitsAt_21 ?_
    refine q_ireturn (pc := 22) dX6_hitsAt_22 rfl ?_
    unfold zhat at k
    first | (rw [if_pos (by assumption)] at k; exact k) | (rw [if_neg (by assumption)] at k; exact k)
  refine q_aload_n (pc := 12) dX6_hitsAt_12 rfl rfl ?_
  refine q_iload_n (pc := 13) dX6_hitsAt_13 rfl ?_
  refine q_iload_n (pc := 14) dX6_hitsAt_14 rfl ?_
  refine q_invokevirtual (pc := 15) (d' := d - 1) (mc' := 0) (ms' := 0) (As := [_, _]) (TX6, 9) cl_X6_141 dX6_hitsAt_15 rfl rfl (by first | assumption | exact hS.o | exact hS.s0 | exact hS.s1 | exact hS.s2 | exact hS.s3 | exact hS.s4 | exact hS.s5 | exact hS.s6) rfl (by omega) rfl 0 0 (Nat.le_refl 0) (Nat.le_refl 0) ?_
  refine c_X6_throwHits (by omega) hS hO hs hr ?_
  refine q_goto (pc := 18) 22 dX6_hitsAt_18 rfl ?_
  refine q_ireturn (pc := 22) dX6_hitsAt_22 rfl ?_
  unfold zhat at k
  first | (rw [if_pos (by assumption)] at k; exact k) | (rw [if_neg (by assumption)] at k; exact k)
end X6B
