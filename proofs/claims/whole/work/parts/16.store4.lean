/-! the Store's throws and hours, what comes anew, images, moments -/
theorem zrch_out {N N' : Int → Int} {s k r v : Int} (e : ∀ j, j < 18 ∨ 68 ≤ j → N' j = N j) (hs : 0 ≤ s) (hk : 0 ≤ k) : zhat N' s k r v = zhat N s k r v := by
  simp only [zhat, zRch]
  rw [e (80 + k) (by omega), e (68 + s) (by omega), e (74 + s) (by omega)]
theorem zput_ok {N : Int → Int} {c r v : Int} (h : zOK N) (hc : 0 ≤ c ∧ c < N 0) (hr : 1 ≤ r ∧ r ≤ 9) (hv : 0 ≤ v ∧ v ≤ 99) : zOK (zfu N (18 + 10 * c + r) v) := by
  have hh := h.1
  refine zOK_stones h (fun j hj => if_neg (by omega)) (fun c2 r2 h1 h2 h3 h4 => ?_)
  have q := h.2.2.1 c2 r2 h1 h2 h3 h4
  have e0 : zfu N (18 + 10 * c + r) v 0 = N 0 := if_neg (by omega)
  rw [e0]
  simp only [zfu]
  split
  · constructor <;> omega
  · exact q
theorem zOK_sky {N N' : Int → Int} (h : zOK N) (e : ∀ j, j < 80 ∨ 92 ≤ j → N' j = N j) (hs : zCd N') : zOK N' := by
  obtain ⟨h1, h2, h3, h4, -, h6, h7, h8⟩ := h
  refine ⟨?_, fun c a b => ?_, fun c r a b a2 b2 => ?_, fun s a b => ?_, hs, fun s a b => ?_, fun s a b => ?_, fun s a b => ?_⟩
  · rw [zHd, e 0 (by omega), e 1 (by omega), e 2 (by omega), e 3 (by omega), e 4 (by omega), e 5 (by omega), e 6 (by omega), e 7 (by omega)]; exact h1
  · rw [e 0 (by omega)] at b; rw [e (8 + c) (by omega), e (13 + c) (by omega)]; exact h2 c a b
  · rw [e 0 (by omega), e _ (by omega)]; exact h3 c r a b a2 b2
  · rw [e 1 (by omega)] at b; rw [e (68 + s) (by omega), e (74 + s) (by omega)]; exact h4 s a b
  · rw [e 5 (by omega)] at b; rw [e 0 (by omega), e (92 + 4 * s) (by omega), e (93 + 4 * s) (by omega), e (94 + 4 * s) (by omega), e (95 + 4 * s) (by omega)]; exact h6 s a b
  · rw [e 6 (by omega)] at b; rw [e 0 (by omega), e (108 + 5 * s) (by omega), e (109 + 5 * s) (by omega), e (110 + 5 * s) (by omega), e (111 + 5 * s) (by omega), e (112 + 5 * s) (by omega)]; exact h7 s a b
  · rw [e 7 (by omega)] at b; rw [e 1 (by omega), e (138 + 5 * s) (by omega), e (139 + 5 * s) (by omega), e (140 + 5 * s) (by omega), e (141 + 5 * s) (by omega), e (142 + 5 * s) (by omega)]; exact h8 s a b
theorem zhat_b {N : Int → Int} {s k r v : Int} (hr : 1 ≤ r ∧ r ≤ 9) : 0 ≤ zhat N s k r v ∧ zhat N s k r v ≤ 10 := by
  have := zhits_b (kind := N (68 + s)) hr
  simp only [zhat]; split <;> omega
theorem zthrow_ok {N : Int → Int} {s c r k : Int} (h : zOK N) (hs : 0 ≤ s ∧ s < N 1) (hc : 0 ≤ c ∧ c < N 0) (hr : 1 ≤ r ∧ r ≤ 9) (hk : 0 ≤ k ∧ k < N 2) (hst : N (18 + 10 * c + r) ≠ 0) : zOK (zthrow N s c r k) := by
  have hh := h.1
  have h1 := (h.2.2.1 c r hc.1 (by omega) hr.1 hr.2).1
  have hO1 := zput_ok h hc hr (v := N (18 + 10 * c + r) - 1) (by omega)
  have e0 : zfu N (18 + 10 * c + r) (N (18 + 10 * c + r) - 1) 0 = N 0 := if_neg (by omega)
  have hO2 := zlose_ok hO1 (c := c) (n := zcost (N (8 + c))) (by omega) (zcost_b _).1
  have e : ∀ j, j < 18 ∨ 68 ≤ j → zlose (zfu N (18 + 10 * c + r) (N (18 + 10 * c + r) - 1)) c (zcost (N (8 + c))) j = N j := fun j hj => by
    rw [zlose_out (by omega) (by omega)]; exact if_neg (by omega)
  have hq := hO2.2.2.2.2.1
  have hb := zhat_b (N := N) (s := s) (k := k) (v := N 4) hr
  have hcd := h.2.2.2.2.1 k hk.1 hk.2
  refine zOK_sky hO2 (fun j hj => if_neg (by omega)) (fun k2 a b => ?_)
  have eq : ∀ j, j ≠ 88 + k → zthrow N s c r k j = N j ∨ (18 ≤ j ∧ j < 68) := fun j hj => by
    by_cases hz : 18 ≤ j ∧ j < 68
    · exact Or.inr hz
    · left
      show zfu _ _ _ _ = _
      rw [← e j (by omega)]; exact if_neg hj
  have eq2 : ∀ j, j ≠ 88 + k → (j < 18 ∨ 68 ≤ j) → zthrow N s c r k j = N j := fun j hj hj2 => by
    rcases eq j hj with h | h
    · exact h
    · omega
  rw [eq2 2 (by omega) (by omega)] at b
  have hc2 := h.2.2.2.2.1 k2 a b
  rw [eq2 (80 + k2) (by omega) (by omega), eq2 (84 + k2) (by omega) (by omega)]
  refine ⟨hc2.1, hc2.2.1, ?_⟩
  by_cases hk2 : k2 = k
  · subst hk2
    have : zthrow N s c r k2 (88 + k2) = min 40 (N (88 + k2) + zhat N s k2 r (N 4)) := if_pos rfl
    rw [this]; omega
  · rw [eq2 (88 + k2) (by omega) (by omega)]; exact hc2.2.2
theorem zhourTo_out {N : Int → Int} {j : Int} : ∀ {m : Nat}, (j < 80 ∨ 80 + (m : Int) ≤ j) → zhourTo N m j = N j
  | 0, _ => rfl
  | m + 1, h => by
    rw [zhourTo]
    split
    · exact zhourTo_out (by omega)
    · show zfu _ _ _ _ = _
      simp only [zfu]
      rw [if_neg (by omega)]
      exact zhourTo_out (by omega)
theorem zhourTo_at {N : Int → Int} {k : Int} : ∀ {m : Nat}, 0 ≤ k → k < (m : Int) → zhourTo N m (80 + k) = if zTn N k then N (80 + k) else max 0 (N (80 + k) - 1)
  | 0, h0, h => by omega
  | m + 1, h0, h => by
    rw [zhourTo]
    by_cases hk : k = (m : Int)
    · subst hk
      split
      · exact zhourTo_out (by omega)
      · simp only [zfu, if_pos]
    · have := zhourTo_at (N := N) (m := m) h0 (by omega)
      split
      · exact this
      · simp only [zfu]; rw [if_neg (by omega)]; exact this
theorem zhourTo_ok {N : Int → Int} (h : zOK N) {m : Nat} (hm : (m : Int) ≤ N 2) : zOK (zhourTo N m) := by
  have hh := h.1
  refine zOK_sky h (fun j hj => zhourTo_out (by omega)) (fun k a b => ?_)
  rw [zhourTo_out (by omega)] at b
  have hq := h.2.2.2.2.1 k a b
  rw [zhourTo_out (j := 84 + k) (by omega), zhourTo_out (j := 88 + k) (by omega)]
  refine ⟨?_, hq.2⟩
  by_cases hk : k < (m : Int)
  · rw [zhourTo_at a hk]; split <;> omega
  · rw [zhourTo_out (by omega)]; exact hq.1
section X6D
variable {g : zG} {d : Nat} {w : zWd} {K : Option Value → zWd → Prop} {b : Nat} {N P : Int → Int} {u : Int}
set_option maxRecDepth 100000 in
set_option maxHeartbeats 4000000 in
theorem c_X6_throwStone {s c r q : Int} (hd : 5 ≤ d) (hS : zSto g w b N u P) (hO : zOK N) (hs : 0 ≤ s ∧ s < N 1) (hc : 0 ≤ c ∧ c < N 0) (hr : 1 ≤ r ∧ r ≤ 9) (hq : 0 ≤ q ∧ q < N 2) (hst : N (18 + 10 * c + r) ≠ 0) (k : ∀ w', zSame w w' b 15 → zSto g w' b (zthrow N s c r q) u P → K (some (zI (zhat N s q r (N 4)))) w') : zCall g d 0 0 mX6_throwStone [zR g b, zI s, zI c, zI r, zI q] w K := by
  have hh := hO.1
  have h1 := (hO.2.2.1 c r hc.1 (by omega) hr.1 hr.2).1
  have hO1 := zput_ok hO hc hr (v := N (18 + 10 * c + r) - 1) (by omega)
  have e0 : zfu N (18 + 10 * c + r) (N (18 + 10 * c + r) - 1) 0 = N 0 := if_neg (by omega)
  have e8 : zfu N (18 + 10 * c + r) (N (18 + 10 * c + r) - 1) (8 + c) = N (8 + c) := if_neg (by omega)
  have hO2 := zlose_ok hO1 (c := c) (n := zcost (N (8 + c))) (by omega) (zcost_b _).1
  have e : ∀ j, j < 18 ∨ 68 ≤ j → zlose (zfu N (18 + 10 * c + r) (N (18 + 10 * c + r) - 1)) c (zcost (N (8 + c))) j = N j := fun j hj => by
    rw [zlose_out (by omega) (by omega)]; exact if_neg (by omega)
  have hb := zhat_b (N := N) (s := s) (k := q) (v := N 4) hr
  have hcd := hO.2.2.2.2.1 q hq.1 hq.2
  have ea := e 0 (by omega)
  have eb := e 1 (by omega)
  have ec := e 2 (by omega)
  have ed := e 4 (by omega)
  refine zenter [some _, some _, some _, some _, some _, none] pn_X6 rfl (Nat.le_of_ble_eq_true rfl) ?_
  refine q_aload_n (pc := 0) dX6_throwStone_0 rfl rfl ?_
  refine q_iload_n (pc := 1) dX6_throwStone_1 rfl ?_
  refine q_iload_n (pc := 2) dX6_throwStone_2 rfl ?_
  refine q_iconst (pc := 3) dX6_throwStone_3 ?_
  refine q_aload_n (pc := 4) dX6_throwStone_4 rfl rfl ?_
  refine q_iload_n (pc := 5) dX6_throwStone_5 rfl ?_
  refine q_iload_n (pc := 6) dX6_throwStone_6 rfl ?_
  refine q_invokevirtual (pc := 7) (d' := d - 1) (mc' := 0) (ms' := 0) (As := [_, _]) (TX6, 9) cl_X6_93 dX6_throwStone_7 rfl rfl (by first | assumption | exact hS.o | exact hS.s0 | exact hS.s1 | exact hS.s2 | exact hS.s3 | exact hS.s4 | exact hS.s5 | exact hS.s6) rfl (by omega) rfl 0 0 (Nat.le_refl 0) (Nat.le_refl 0) ?_
  refine c_X6_stonesOf (by omega) hS hO.1 hc hr ?_
  refine q_iconst (pc := 10) dX6_throwStone_10 ?_
  refine q_isub (pc := 11) dX6_throwStone_11 ?_
  refine q_max (pc := 12) tw_3_44 tw_1_37 tw_1_4 tw_1_38 dX6_throwStone_12 (by omega) rfl (by omega) (by omega) ?_
  rw [show max (0 : Int) (N (18 + 10 * c + r) - 1) = N (18 + 10 * c + r) - 1 by omega]
  refine q_invokevirtual (pc := 15) (d' := d - 1) (mc' := 0) (ms' := 0) (As := [_, _, _]) (TX6, 9) cl_X6_144 dX6_throwStone_15 rfl rfl (by first | assumption | exact hS.o | exact hS.s0 | exact hS.s1 | exact hS.s2 | exact hS.s3 | exact hS.s4 | exact hS.s5 | exact hS.s6) rfl (by omega) rfl 0 0 (Nat.le_refl 0) (Nat.le_refl 0) ?_
  refine c_X6_putStones (by omega) hS hO.1 hc hr (fun w2 hs2 hS => ?_)
  refine q_aload_n (pc := 18) dX6_throwStone_18 rfl rfl ?_
  refine q_iload_n (pc := 19) dX6_throwStone_19 rfl ?_
  refine q_invokevirtual (pc := 20) (d' := d - 1) (mc' := 0) (ms' := 0) (As := [_]) (TX6, 9) cl_X6_147 dX6_throwStone_20 rfl rfl (by first | assumption | exact hS.o | exact hS.s0 | exact hS.s1 | exact hS.s2 | exact hS.s3 | exact hS.s4 | exact hS.s5 | exact hS.s6) rfl (by omega) rfl 0 0 (Nat.le_refl 0) (Nat.le_refl 0) ?_
  refine c_X6_openDoor (by omega) hS hO1 (by omega) (fun w3 hs3 hS => ?_)
  rw [e8] at hS
  refine q_aload_n (pc := 23) dX6_throwStone_23 rfl rfl ?_
  refine q_iload_n (pc := 24) dX6_throwStone_24 rfl ?_
  refine q_iload (pc := 25) dX6_throwStone_25 rfl ?_
  refine q_iload_n (pc := 27) dX6_throwStone_27 rfl ?_
  refine q_aload_n (pc := 28) dX6_throwStone_28 rfl rfl ?_
  refine q_getfield (pc := 29) gf_X6_42 dX6_throwStone_29 (by first | assumption | exact hS.o | exact hS.s0 | exact hS.s1 | exact hS.s2 | exact hS.s3 | exact hS.s4 | exact hS.s5 | exact hS.s6) rfl ?_
  refine q_invokevirtual (pc := 32) (d' := d - 1) (mc' := 0) (ms' := 0) (As := [_, _, _, _]) (TX6, 9) cl_X6_151 dX6_throwStone_32 rfl rfl (by first | assumption | exact hS.o | exact hS.s0 | exact hS.s1 | exact hS.s2 | exact hS.s3 | exact hS.s4 | exact hS.s5 | exact hS.s6) rfl (by omega) rfl 0 0 (Nat.le_refl 0) (Nat.le_refl 0) ?_
  refine c_X6_hitsAt (by omega) hS hO2 (by omega) (by omega) hr (by omega) ?_
  rw [zrch_out e hs.1 hq.1, ed]
  refine q_istore (pc := 35) [some _, some _, some _, some _, some _, some _] dX6_throwStone_35 rfl (Nat.le_of_ble_eq_true rfl) rfl ?_
  refine q_aload_n (pc := 37) dX6_throwStone_37 rfl rfl ?_
  refine q_getfield (pc := 38) gf_X6_23 dX6_throwStone_38 (by first | assumption | exact hS.o | exact hS.s0 | exact hS.s1 | exact hS.s2 | exact hS.s3 | exact hS.s4 | exact hS.s5 | exact hS.s6) rfl ?_
  refine q_iload (pc := 41) dX6_throwStone_41 rfl ?_
  refine q_iconst (pc := 43) dX6_throwStone_43 ?_
  refine q_bipush (pc := 44) (by decide) dX6_throwStone_44 ?_
  refine q_aload_n (pc := 46) dX6_throwStone_46 rfl rfl ?_
  refine q_getfield (pc := 47) gf_X6_23 dX6_throwStone_47 (by first | assumption | exact hS.o | exact hS.s0 | exact hS.s1 | exact hS.s2 | exact hS.s3 | exact hS.s4 | exact hS.s5 | exact hS.s6) rfl ?_
  refine q_iload (pc := 50) dX6_throwStone_50 rfl ?_
  refine q_iconst (pc := 52) dX6_throwStone_52 ?_
  refine q_invokevirtual (pc := 53) (d' := d - 1) (mc' := 0) (ms' := 0) (As := [_, _]) (TX4, 4) cl_X6_78 dX6_throwStone_53 rfl rfl (by first | assumption | exact hS.o | exact hS.s0 | exact hS.s1 | exact hS.s2 | exact hS.s3 | exact hS.s4 | exact hS.s5 | exact hS.s6) rfl (by omega) rfl 0 0 (Nat.le_refl 0) (Nat.le_refl 0) ?_
  refine s_get_hits (by omega) hS hO2.1 (by omega) ?_
  rw [e (88 + q) (by omega)]
  refine q_iload (pc := 56) dX6_throwStone_56 rfl ?_
  refine q_iadd (pc := 58) dX6_throwStone_58 ?_
  refine q_min (pc := 59) tw_3_104 tw_2_67 tw_1_4 tw_2_68 dX6_throwStone_59 (by omega) rfl (by omega) (by omega) ?_
  refine q_invokevirtual (pc := 62) (d' := d - 1) (mc' := 0) (ms' := 0) (As := [_, _, _]) (TX4, 4) cl_X6_63 dX6_throwStone_62 rfl rfl (by first | assumption | exact hS.o | exact hS.s0 | exact hS.s1 | exact hS.s2 | exact hS.s3 | exact hS.s4 | exact hS.s5 | exact hS.s6) rfl (by omega) rfl 0 0 (Nat.le_refl 0) (Nat.le_refl 0) ?_
  refine s_put_hits (by omega) hS hO2.1 (by omega) (fun w4 hs4 hS => ?_)
  refine q_iload (pc := 65) dX6_throwStone_65 rfl ?_
  refine q_ireturn (pc := 67) dX6_throwStone_67 rfl ?_
  exact k _ ((hs2.tr hs3).tr hs4) hS
set_option maxRecDepth 100000 in
set_option maxHeartbeats 4000000 in
theorem c_X6_passHour (hd : 4 ≤ d) (hS : zSto g w b N u P) (hO : zOK N) (k : ∀ w', zSame w w' b 15 → zSto g w' b (zhour N) u P → K (some (zI (zhere N))) w') : zCall g d 0 0 mX6_passHour [zR g b] w K := by
  have hk := k
  unfold zhere at hk
  have hh := hO.1
  have L : ∀ (q m : Nat) (w' : zWd), m + q = (N 2).toNat → zSame w w' b 15 → zSto g w' b (zhourTo N m) u P → zRuns g d mX6_passHour 0 0 4 [some (zR g b), some (zI (zsg (fun k => zb (zhour N (80 + k) = 0)) m 0)), some (zI (m : Int))] [] w' K := by
    intro q
    induction q with
    | zero =>
      intro m w' hm hs hS
      have ea : zhourTo N m 2 = N 2 := zhourTo_out (by omega)
      refine q_iload_n (pc := 4) dX6_passHour_4 rfl ?_
      refine q_aload_n (pc := 5) dX6_passHour_5 rfl rfl ?_
      refine q_getfield (pc := 6) gf_X6_23 dX6_passHour_6 (by first | assumption | exact hS.o | exact hS.s0 | exact hS.s1 | exact hS.s2 | exact hS.s3 | exact hS.s4 | exact hS.s5 | exact hS.s6) rfl ?_
      refine q_getfield (pc := 9) gf_X6_71 dX6_passHour_9 (by first | assumption | exact hS.o | exact hS.s0 | exact hS.s1 | exact hS.s2 | exact hS.s3 | exact hS.s4 | exact hS.s5 | exact hS.s6) rfl ?_
      refine q_icmp_ge (pc := 12) (by omega) (by omega) 64 dX6_passHour_12 rfl (fun c12 => ?_) (fun c12 => ?_)
      · refine q_iload_n (pc := 64) dX6_passHour_64 rfl ?_
        refine q_ireturn (pc := 65) dX6_passHour_65 rfl ?_
        rw [show (N 2).toNat = m by omega] at hk; refine hk _ hs ?_; rw [zhour, show (N 2).toNat = m by omega]; exact hS
      exfalso; omega
    | succ q ih =>
      intro m w' hm hs hS
      have ea : zhourTo N m 2 = N 2 := zhourTo_out (by omega)
      have ef : zhourTo N m (80 + (m : Int)) = N (80 + (m : Int)) := zhourTo_out (by omega)
      have en : zhourTo N m (84 + (m : Int)) = N (84 + (m : Int)) := zhourTo_out (by omega)
      have eh : zhourTo N m (88 + (m : Int)) = N (88 + (m : Int)) := zhourTo_out (by omega)
      have hO2 := zhourTo_ok hO (m := m) (by omega)
      have hO3 := zhourTo_ok hO (m := m + 1) (by omega)
      have hcd := hO.2.2.2.2.1 (m : Int) (by omega) (by omega)
      have ea2 : zhourTo N (m + 1) 2 = N 2 := zhourTo_out (by omega)
      have e9 : zhour N (80 + (m : Int)) = zhourTo N (m + 1) (80 + (m : Int)) := by rw [zhour, zhourTo_at (by omega) (by omega), zhourTo_at (by omega) (by omega)]
      have es : zsg (fun k => zb (zhour N (80 + k) = 0)) m 0 + zb (zhourTo N (m + 1) (80 + (m : Int)) = 0) = zsg (fun k => zb (zhour N (80 + k) = 0)) (m + 1) 0 := by rw [← zsg_s (fun k => zb (zhour N (80 + k) = 0)) m 0 (m : Int) (by omega)]; simp only [e9]
      have J : ∀ w2, zSame w w2 b 15 → zSto g w2 b (zhourTo N (m + 1)) u P → zRuns g d mX6_passHour 0 0 47 [some (zR g b), some (zI (zsg (fun k => zb (zhour N (80 + k) = 0)) m 0)), some (zI (m : Int))] [] w2 K := by
        intro w2 hs2 hS
        refine q_aload_n (pc := 47) dX6_passHour_47 rfl rfl ?_
        refine q_iload_n (pc := 48) dX6_passHour_48 rfl ?_
        refine q_invokevirtual (pc := 49) (d' := d - 1) (mc' := 0) (ms' := 0) (As := [_]) (TX6, 9) cl_X6_131 dX6_passHour_49 rfl rfl (by first | assumption | exact hS.o | exact hS.s0 | exact hS.s1 | exact hS.s2 | exact hS.s3 | exact hS.s4 | exact hS.s5 | exact hS.s6) rfl (by omega) rfl 0 0 (Nat.le_refl 0) (Nat.le_refl 0) ?_
        refine c_X6_isHere (by omega) hS hO3 (by omega) ?_
        refine q_ifb_eq (pc := 52) 58 dX6_passHour_52 rfl (fun c52 => ?_) (fun c52 => ?_)
        · first | (rw [zb_f c52, Int.add_zero] at es; rw [es]) | (rw [zb_t c52] at es; rw [es])
          refine q_iinc (pc := 58) [some _, some _, some _] dX6_passHour_58 rfl rfl rfl ?_
          refine q_goto (pc := 61) 4 dX6_passHour_61 rfl ?_
          exact ih (m + 1) _ (by omega) hs2 hS
        refine q_iinc (pc := 55) [some _, some _, some _] dX6_passHour_55 rfl rfl rfl ?_
        first | (rw [zb_f c52, Int.add_zero] at es; rw [es]) | (rw [zb_t c52] at es; rw [es])
        refine q_iinc (pc := 58) [some _, some _, some _] dX6_passHour_58 rfl rfl rfl ?_
        refine q_goto (pc := 61) 4 dX6_passHour_61 rfl ?_
        exact ih (m + 1) _ (by omega) hs2 hS
      refine q_iload_n (pc := 4) dX6_passHour_4 rfl ?_
      refine q_aload_n (pc := 5) dX6_passHour_5 rfl rfl ?_
      refine q_getfield (pc := 6) gf_X6_23 dX6_passHour_6 (by first | assumption | exact hS.o | exact hS.s0 | exact hS.s1 | exact hS.s2 | exact hS.s3 | exact hS.s4 | exact hS.s5 | exact hS.s6) rfl ?_
      refine q_getfield (pc := 9) gf_X6_71 dX6_passHour_9 (by first | assumption | exact hS.o | exact hS.s0 | exact hS.s1 | exact hS.s2 | exact hS.s3 | exact hS.s4 | exact hS.s5 | exact hS.s6) rfl ?_
      refine q_icmp_ge (pc := 12) (by omega) (by omega) 64 dX6_passHour_12 rfl (fun c12 => ?_) (fun c12 => ?_)
      · exfalso; omega
      refine q_aload_n (pc := 15) dX6_passHour_15 rfl rfl ?_
      refine q_iload_n (pc := 16) dX6_passHour_16 rfl ?_
      refine q_invokevirtual (pc := 17) (d' := d - 1) (mc' := 0) (ms' := 0) (As := [_]) (TX6, 9) cl_X6_128 dX6_passHour_17 rfl rfl (by first | assumption | exact hS.o | exact hS.s0 | exact hS.s1 | exact hS.s2 | exact hS.s3 | exact hS.s4 | exact hS.s5 | exact hS.s6) rfl (by omega) rfl 0 0 (Nat.le_refl 0) (Nat.le_refl 0) ?_
      refine c_X6_isTurned (by omega) hS hO2 (by omega) ?_
      refine q_ifb_ne (pc := 20) 47 dX6_passHour_20 rfl (fun c20 => ?_) (fun c20 => ?_)
      · first | (refine J _ hs ?_; rw [zhourTo, if_pos (by rw [zTn, ← en, ← eh]; exact c20)]; exact hS) | (refine J _ (hs.tr hs3) ?_; rw [zhourTo, if_neg (by rw [zTn, ← en, ← eh]; exact c20)]; exact hS)
      refine q_aload_n (pc := 23) dX6_passHour_23 rfl rfl ?_
      refine q_getfield (pc := 24) gf_X6_23 dX6_passHour_24 (by first | assumption | exact hS.o | exact hS.s0 | exact hS.s1 | exact hS.s2 | exact hS.s3 | exact hS.s4 | exact hS.s5 | exact hS.s6) rfl ?_
      refine q_iload_n (pc := 27) dX6_passHour_27 rfl ?_
      refine q_iconst (pc := 28) dX6_passHour_28 ?_
      refine q_iconst (pc := 29) dX6_passHour_29 ?_
      refine q_aload_n (pc := 30) dX6_passHour_30 rfl rfl ?_
      refine q_getfield (pc := 31) gf_X6_23 dX6_passHour_31 (by first | assumption | exact hS.o | exact hS.s0 | exact hS.s1 | exact hS.s2 | exact hS.s3 | exact hS.s4 | exact hS.s5 | exact hS.s6) rfl ?_
      refine q_iload_n (pc := 34) dX6_passHour_34 rfl ?_
      refine q_iconst (pc := 35) dX6_passHour_35 ?_
      refine q_invokevirtual (pc := 36) (d' := d - 1) (mc' := 0) (ms' := 0) (As := [_, _]) (TX4, 4) cl_X6_78 dX6_passHour_36 rfl rfl (by first | assumption | exact hS.o | exact hS.s0 | exact hS.s1 | exact hS.s2 | exact hS.s3 | exact hS.s4 | exact hS.s5 | exact hS.s6) rfl (by omega) rfl 0 0 (Nat.le_refl 0) (Nat.le_refl 0) ?_
      refine s_get_far (by omega) hS hO2.1 (by omega) ?_
      rw [ef]
      refine q_iconst (pc := 39) dX6_passHour_39 ?_
      refine q_isub (pc := 40) dX6_passHour_40 ?_
      refine q_max (pc := 41) tw_3_44 tw_1_37 tw_1_4 tw_1_38 dX6_passHour_41 (by omega) rfl (by omega) (by omega) ?_
      refine q_invokevirtual (pc := 44) (d' := d - 1) (mc' := 0) (ms' := 0) (As := [_, _, _]) (TX4, 4) cl_X6_63 dX6_passHour_44 rfl rfl (by first | assumption | exact hS.o | exact hS.s0 | exact hS.s1 | exact hS.s2 | exact hS.s3 | exact hS.s4 | exact hS.s5 | exact hS.s6) rfl (by omega) rfl 0 0 (Nat.le_refl 0) (Nat.le_refl 0) ?_
      refine s_put_far (by omega) hS hO2.1 (by omega) (fun w3 hs3 hS => ?_)
      first | (refine J _ hs ?_; rw [zhourTo, if_pos (by rw [zTn, ← en, ← eh]; exact c20)]; exact hS) | (refine J _ (hs.tr hs3) ?_; rw [zhourTo, if_neg (by rw [zTn, ← en, ← eh]; exact c20)]; exact hS)
  refine zenter [some _, none, none] pn_X6 rfl (Nat.le_of_ble_eq_true rfl) ?_
  refine q_iconst (pc := 0) dX6_passHour_0 ?_
  refine q_istore_n (pc := 1) [some _, some _, none] dX6_passHour_1 rfl (Nat.le_of_ble_eq_true rfl) rfl ?_
  refine q_iconst (pc := 2) dX6_passHour_2 ?_
  refine q_istore_n (pc := 3) [some _, some _, some _] dX6_passHour_3 rfl (Nat.le_of_ble_eq_true rfl) rfl ?_
  exact L (N 2).toNat 0 _ (by omega) zSame.rf hS
end X6D
