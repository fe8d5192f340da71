/-! the Battle: the ways, at first -/
theorem zfu_at {f : Int → Int} {i x : Int} : zfu f i x i = x := by unfold zfu; rw [if_pos rfl]
theorem zfu_ne {f : Int → Int} {i x j : Int} (h : j ≠ i) : zfu f i x j = f j := by unfold zfu; rw [if_neg h]
def zopn (N H W : Int → Int) (q : Int) : Int := N (84 + q) - N (88 + q) - zsg (fun c => if W c = q then H (c * 4 + q) else 0) (N 1).toNat 0
section X0D0
variable {g : zG} {d : Nat} {w : zWd} {K : Option Value → zWd → Prop} {b n : Nat} {mo wi ro : Int} {f : Int → Int}
set_option maxRecDepth 100000 in
set_option maxHeartbeats 4000000 in
theorem c_X4_getOut {r c : Int} (hd : 1 ≤ d) (hS : zSheet g w b n mo wi ro f) (hN : zShN n mo wi ro) (hr : zR32 r ∧ ro ≤ r) (hc : zR32 c) (k : K (some (zI 0)) w) : zCall g d 0 0 mX4_get [zR g b, zI r, zI c] w K := by
  have hS0 := hS
  obtain ⟨hS1, hS2⟩ := hS
  refine zenter [some _, some _, some _, none] pn_X4 rfl (Nat.le_of_ble_eq_true rfl) ?_
  refine q_aload_n (pc := 0) dX4_get_0 rfl rfl ?_
  refine q_iload_n (pc := 1) dX4_get_1 rfl ?_
  refine q_iload_n (pc := 2) dX4_get_2 rfl ?_
  refine q_invokevirtual (pc := 3) (d' := d - 1) (mc' := 0) (ms' := 0) (As := [_, _]) (TX4, 4) cl_X4_31 dX4_get_3 rfl rfl (by assumption) rfl (by omega) rfl 0 0 (Nat.le_refl 0) (Nat.le_refl 0) ?_
  refine c_X4_placeOf hS0 hN (by omega) (by omega) (fun p hp => ?_)
  have hp : p = -1 := (by rcases hp with h | h <;> omega)
  refine q_istore_n (pc := 6) [some _, some _, some _, some _] dX4_get_6 rfl (Nat.le_of_ble_eq_true rfl) rfl ?_
  refine q_iload_n (pc := 7) dX4_get_7 rfl ?_
  refine q_if_lt (pc := 8) (by omega) 29 dX4_get_8 rfl (fun c8 => ?_) (fun c8 => ?_)
  · refine q_iconst (pc := 29) dX4_get_29 ?_
    refine q_ireturn (pc := 30) dX4_get_30 rfl ?_
    exact k
  exfalso; omega
end X0D0
section X0D
variable {g : zG} {d : Nat} {w : zWd} {K : Option Value → zWd → Prop} {b sb : Nat} {N P : Int → Int} {u : Int}
theorem s_get_cloudOut {q c : Int} (hd : 1 ≤ d) (hS : zSto g w b N u P) (hH : zHd N) (hs : N 2 ≤ q ∧ q ≤ 1000) (hc : 0 ≤ c ∧ c < 3) (k : K (some (zI 0)) w) : zCall g d 0 0 mX4_get [zR g (b + 5), zI q, zI c] w K := by
  obtain ⟨C0, C1, C2, C3, C4, C5, C6, hO, h0, h1, h2, h3, h4, h5, h6, r0, r1, r2, r3, r4, r5, r6⟩ := hS
  have hh := hH
  exact c_X4_getOut hd h2 ⟨by omega, by omega, by omega, by omega, by omega, by omega⟩ (by omega) (by omega) k
set_option maxRecDepth 100000 in
set_option maxHeartbeats 4000000 in
theorem c_X6_needsOut {q : Int} (hd : 2 ≤ d) (hS : zSto g w b N u P) (hH : zHd N) (hq : N 2 ≤ q ∧ q ≤ 1000) (k : K (some (zI (0 - 0))) w) : zCall g d 0 0 mX6_needsYet [zR g b, zI q] w K := by
  refine zenter [some _, some _] pn_X6 rfl (Nat.le_of_ble_eq_true rfl) ?_
  refine q_aload_n (pc := 0) dX6_needsYet_0 rfl rfl ?_
  refine q_getfield (pc := 1) gf_X6_23 dX6_needsYet_1 (by first | assumption | exact hS.o | exact hS.s0 | exact hS.s1 | exact hS.s2 | exact hS.s3 | exact hS.s4 | exact hS.s5 | exact hS.s6) rfl ?_
  refine q_iload_n (pc := 4) dX6_needsYet_4 rfl ?_
  refine q_iconst (pc := 5) dX6_needsYet_5 ?_
  refine q_invokevirtual (pc := 6) (d' := d - 1) (mc' := 0) (ms' := 0) (As := [_, _]) (TX4, 4) cl_X6_78 dX6_needsYet_6 rfl rfl (by first | assumption | exact hS.o | exact hS.s0 | exact hS.s1 | exact hS.s2 | exact hS.s3 | exact hS.s4 | exact hS.s5 | exact hS.s6) rfl (by omega) rfl 0 0 (Nat.le_refl 0) (Nat.le_refl 0) ?_
  refine s_get_cloudOut (by omega) hS hH hq (by omega) ?_
  refine q_aload_n (pc := 9) dX6_needsYet_9 rfl rfl ?_
  refine q_getfield (pc := 10) gf_X6_23 dX6_needsYet_10 (by first | assumption | exact hS.o | exact hS.s0 | exact hS.s1 | exact hS.s2 | exact hS.s3 | exact hS.s4 | exact hS.s5 | exact hS.s6) rfl ?_
  refine q_iload_n (pc := 13) dX6_needsYet_13 rfl ?_
  refine q_iconst (pc := 14) dX6_needsYet_14 ?_
  refine q_invokevirtual (pc := 15) (d' := d - 1) (mc' := 0) (ms' := 0) (As := [_, _]) (TX4, 4) cl_X6_78 dX6_needsYet_15 rfl rfl (by first | assumption | exact hS.o | exact hS.s0 | exact hS.s1 | exact hS.s2 | exact hS.s3 | exact hS.s4 | exact hS.s5 | exact hS.s6) rfl (by omega) rfl 0 0 (Nat.le_refl 0) (Nat.le_refl 0) ?_
  refine s_get_cloudOut (by omega) hS hH hq (by omega) ?_
  refine q_isub (pc := 18) dX6_needsYet_18 ?_
  refine q_ireturn (pc := 19) dX6_needsYet_19 rfl ?_
  exact k
set_option maxRecDepth 100000 in
set_option maxHeartbeats 4000000 in
theorem c_X0_startWays {r : Int} {H0 O0 W0 : Int → Int} (hd : 4 ≤ d) (hF : w.1 sb = some (.inl (0, [zR g b, zR g (sb + 1), zR g (sb + 2), zR g (sb + 3), zR g (sb + 4), zR g (sb + 5)]))) (hG2 : w.1 (sb + 2) = some (.inr (false, 24, H0))) (hG3 : w.1 (sb + 3) = some (.inr (false, 4, O0))) (hG4 : w.1 (sb + 4) = some (.inr (false, 6, W0))) (hS : zSto g w b N u P) (hO : zOK N) (hn2 : 1 ≤ N 2) (hr : 1 ≤ r ∧ r ≤ 9) (hb : b + 15 ≤ sb ∨ sb + 6 ≤ b) (k : ∀ w1 H O W, zSame w w1 (sb + 2) 3 → w1.1 (sb + 2) = some (.inr (false, 24, H)) → w1.1 (sb + 3) = some (.inr (false, 4, O)) → w1.1 (sb + 4) = some (.inr (false, 6, W)) → (∀ c q, 0 ≤ c → c < N 1 → 0 ≤ q → q < N 2 → H (c * 4 + q) = zuntil N c q r) → (∀ c, 0 ≤ c → c < N 1 → W c = 0) → (∀ q, 0 ≤ q → q < N 2 → O q = zopn N H W q) → K none w1) : zCall g d 0 0 mX0_startWays [zR g sb, zI r] w K := by
  have hh := hO.1
  have L : ∀ (p m : Nat) (w1 : zWd) (H O W : Int → Int) (x3 : Option Value), m + p = (N 1).toNat → zSame w w1 (sb + 2) 3 → w1.1 (sb + 2) = some (.inr (false, 24, H)) → w1.1 (sb + 3) = some (.inr (false, 4, O)) → w1.1 (sb + 4) = some (.inr (false, 6, W)) → (∀ c q, 0 ≤ c → c < (m : Int) → 0 ≤ q → q < N 2 → H (c * 4 + q) = zuntil N c q r) → (∀ c, 0 ≤ c → c < (m : Int) → W c = 0) → (∀ q, 0 ≤ q → q < N 2 → O q = N (84 + q) - N (88 + q) - zsg (fun c => if 0 = q then zuntil N c q r else 0) m 0) → zRuns g d mX0_startWays 0 0 33 [some (zR g sb), some (zI r), some (zI (m : Int)), x3] [] w1 K := by
    intro p
    induction p with
    | zero =>
      intro m w1 H O W x3 hm hs hG2 hG3 hG4 iH iW iO
      have hF := (hs.2 sb (by omega)).trans hF
      have hS := hS.keep hs (by omega)
      have em : (m : Int) = N 1 := by omega
      rw [em] at iH iW
      refine q_iload_n (pc := 33) dX0_startWays_33 rfl ?_
      refine q_aload_n (pc := 34) dX0_startWays_34 rfl rfl ?_
      refine q_getfield (pc := 35) gf_X0_27 dX0_startWays_35 (by first | assumption | exact hS.o | exact hS.s0 | exact hS.s1 | exact hS.s2 | exact hS.s3 | exact hS.s4 | exact hS.s5 | exact hS.s6) rfl ?_
      refine q_getfield (pc := 38) gf_X0_87 dX0_startWays_38 (by first | assumption | exact hS.o | exact hS.s0 | exact hS.s1 | exact hS.s2 | exact hS.s3 | exact hS.s4 | exact hS.s5 | exact hS.s6) rfl ?_
      refine q_getfield (pc := 41) gf_X0_91 dX0_startWays_41 (by first | assumption | exact hS.o | exact hS.s0 | exact hS.s1 | exact hS.s2 | exact hS.s3 | exact hS.s4 | exact hS.s5 | exact hS.s6) rfl ?_
      refine q_icmp_ge (pc := 44) (by omega) (by omega) 115 dX0_startWays_44 rfl (fun c44 => ?_) (fun c44 => ?_)
      · refine q_return (pc := 115) dX0_startWays_115 rfl ?_
        refine k _ H O W hs hG2 hG3 hG4 iH iW (fun q h1 h2 => ?_)
        rw [iO q h1 h2, zopn, show (N 1).toNat = m by omega]
        congr 1
        refine zsg_congr (fun c c1 c2 => ?_)
        rw [iW c c1 (by omega), iH c q c1 (by omega) h1 h2]
      exfalso; omega
    | succ p ih =>
      intro m w1 H O W x3 hm hs hG2 hG3 hG4 iH iW iO
      have L3 : ∀ (p2 n : Nat) (w1 : zWd) (H : Int → Int), n + p2 = (N 2).toNat → zSame w w1 (sb + 2) 3 → w1.1 (sb + 2) = some (.inr (false, 24, H)) → w1.1 (sb + 3) = some (.inr (false, 4, O)) → w1.1 (sb + 4) = some (.inr (false, 6, W)) → (∀ c q, 0 ≤ c → c < (m : Int) → 0 ≤ q → q < N 2 → H (c * 4 + q) = zuntil N c q r) → (∀ q, 0 ≤ q → q < (n : Int) → H ((m : Int) * 4 + q) = zuntil N (m : Int) q r) → zRuns g d mX0_startWays 0 0 58 [some (zR g sb), some (zI r), some (zI (m : Int)), some (zI (n : Int))] [] w1 K := by
        intro p2
        induction p2 with
        | zero =>
          intro n w1 H hn hs hG2 hG3 hG4 iH iH2
          have hF := (hs.2 sb (by omega)).trans hF
          have hS := hS.keep hs (by omega)
          have e0 := iH2 0 (by omega) (by omega)
          refine q_iload_n (pc := 58) dX0_startWays_58 rfl ?_
          refine q_aload_n (pc := 59) dX0_startWays_59 rfl rfl ?_
          refine q_getfield (pc := 60) gf_X0_27 dX0_startWays_60 (by first | assumption | exact hS.o | exact hS.s0 | exact hS.s1 | exact hS.s2 | exact hS.s3 | exact hS.s4 | exact hS.s5 | exact hS.s6) rfl ?_
          refine q_getfield (pc := 63) gf_X0_96 dX0_startWays_63 (by first | assumption | exact hS.o | exact hS.s0 | exact hS.s1 | exact hS.s2 | exact hS.s3 | exact hS.s4 | exact hS.s5 | exact hS.s6) rfl ?_
          refine q_getfield (pc := 66) gf_X0_91 dX0_startWays_66 (by first | assumption | exact hS.o | exact hS.s0 | exact hS.s1 | exact hS.s2 | exact hS.s3 | exact hS.s4 | exact hS.s5 | exact hS.s6) rfl ?_
          refine q_icmp_ge (pc := 69) (by omega) (by omega) 91 dX0_startWays_69 rfl (fun c69 => ?_) (fun c69 => ?_)
          · refine q_aload_n (pc := 91) dX0_startWays_91 rfl rfl ?_
            refine q_getfield (pc := 92) gf_X0_21 dX0_startWays_92 (by first | assumption | exact hS.o | exact hS.s0 | exact hS.s1 | exact hS.s2 | exact hS.s3 | exact hS.s4 | exact hS.s5 | exact hS.s6) rfl ?_
            refine q_iload_n (pc := 95) dX0_startWays_95 rfl ?_
            refine q_iconst (pc := 96) dX0_startWays_96 ?_
            refine q_iastore (pc := 97) dX0_startWays_97 (by first | assumption | exact hS.o | exact hS.s0 | exact hS.s1 | exact hS.s2 | exact hS.s3 | exact hS.s4 | exact hS.s5 | exact hS.s6) (by omega) ?_
            refine q_aload_n (pc := 98) dX0_startWays_98 rfl rfl ?_
            refine q_iconst (pc := 99) dX0_startWays_99 ?_
            refine q_aload_n (pc := 100) dX0_startWays_100 rfl rfl ?_
            refine q_iload_n (pc := 101) dX0_startWays_101 rfl ?_
            refine q_iconst (pc := 102) dX0_startWays_102 ?_
            refine q_invokevirtual (pc := 103) (d' := d - 1) (mc' := 0) (ms' := 0) (As := [_, _]) (TX0, 6) cl_X0_107 dX0_startWays_103 rfl rfl (by simp only [zup]; rw [if_neg (by omega)]; exact hF) rfl (by omega) rfl 0 0 (Nat.le_refl 0) (Nat.le_refl 0) ?_
            refine c_X0_hitsKept (by omega) (by simp only [zup]; rw [if_neg (by omega)]; exact hF) (by simp only [zup]; rw [if_neg (by omega)]; exact hG2) (by omega) (by omega) ?_
            rw [e0]
            refine q_invokevirtual (pc := 106) (d' := d - 1) (mc' := 0) (ms' := 0) (As := [_, _]) (TX0, 6) cl_X0_110 dX0_startWays_106 rfl rfl (by simp only [zup]; rw [if_neg (by omega)]; exact hF) rfl (by omega) rfl 0 0 (Nat.le_refl 0) (Nat.le_refl 0) ?_
            refine c_X0_close (by omega) (by simp only [zup]; rw [if_neg (by omega)]; exact hF) (by simp only [zup]; rw [if_neg (by omega)]; exact hG3) (by omega) ?_
            refine q_iinc (pc := 109) [some _, some _, some _, some _] dX0_startWays_109 rfl rfl rfl ?_
            refine q_goto (pc := 112) 33 dX0_startWays_112 rfl ?_
            refine ih (m + 1) _ H (zfu O 0 (O 0 - zuntil N (m : Int) 0 r)) (zfu W (m : Int) 0) _ (by omega) ((hs.tr (zSame.up (by omega))).tr (zSame.up (by omega))) (by simp only [zup]; rw [if_neg (by omega), if_neg (by omega)]; exact hG2) (by simp only [zup]; rw [if_pos trivial]) (by simp only [zup]; rw [if_neg (by omega), if_pos trivial]) (fun c q c1 c2 q1 q2 => ?_) (fun c c1 c2 => ?_) (fun q q1 q2 => ?_)
            · by_cases e : c = (m : Int)
              · rw [e]; exact iH2 q q1 (by omega)
              · exact iH c q c1 (by omega) q1 q2
            · by_cases e : c = (m : Int)
              · rw [e, zfu_at]
              · rw [zfu_ne e]; exact iW c c1 (by omega)
            · rw [zsg, show (0 : Int) + (m : Int) = (m : Int) by omega]
              by_cases e : q = 0
              · subst e; rw [zfu_at, if_pos rfl, iO 0 q1 q2]; omega
              · rw [zfu_ne e, if_neg (by omega), iO q q1 q2]; omega
          exfalso; omega
        | succ p2 ih2 =>
          intro n w1 H hn hs hG2 hG3 hG4 iH iH2
          have hF := (hs.2 sb (by omega)).trans hF
          have hS := hS.keep hs (by omega)
          refine q_iload_n (pc := 58) dX0_startWays_58 rfl ?_
          refine q_aload_n (pc := 59) dX0_startWays_59 rfl rfl ?_
          refine q_getfield (pc := 60) gf_X0_27 dX0_startWays_60 (by first | assumption | exact hS.o | exact hS.s0 | exact hS.s1 | exact hS.s2 | exact hS.s3 | exact hS.s4 | exact hS.s5 | exact hS.s6) rfl ?_
          refine q_getfield (pc := 63) gf_X0_96 dX0_startWays_63 (by first | assumption | exact hS.o | exact hS.s0 | exact hS.s1 | exact hS.s2 | exact hS.s3 | exact hS.s4 | exact hS.s5 | exact hS.s6) rfl ?_
          refine q_getfield (pc := 66) gf_X0_91 dX0_startWays_66 (by first | assumption | exact hS.o | exact hS.s0 | exact hS.s1 | exact hS.s2 | exact hS.s3 | exact hS.s4 | exact hS.s5 | exact hS.s6) rfl ?_
          refine q_icmp_ge (pc := 69) (by omega) (by omega) 91 dX0_startWays_69 rfl (fun c69 => ?_) (fun c69 => ?_)
          · exfalso; omega
          refine q_aload_n (pc := 72) dX0_startWays_72 rfl rfl ?_
          refine q_iload_n (pc := 73) dX0_startWays_73 rfl ?_
          refine q_iload_n (pc := 74) dX0_startWays_74 rfl ?_
          refine q_aload_n (pc := 75) dX0_startWays_75 rfl rfl ?_
          refine q_iload_n (pc := 76) dX0_startWays_76 rfl ?_
          refine q_iload_n (pc := 77) dX0_startWays_77 rfl ?_
          refine q_iload_n (pc := 78) dX0_startWays_78 rfl ?_
          refine q_invokevirtual (pc := 79) (d' := d - 1) (mc' := 0) (ms' := 0) (As := [_, _, _]) (TX0, 6) cl_X0_99 dX0_startWays_79 rfl rfl (by first | assumption | exact hS.o | exact hS.s0 | exact hS.s1 | exact hS.s2 | exact hS.s3 | exact hS.s4 | exact hS.s5 | exact hS.s6) rfl (by omega) rfl 0 0 (Nat.le_refl 0) (Nat.le_refl 0) ?_
          refine c_X0_hitsUntilHere (by omega) hF hS hO (by omega) (by omega) hr ?_
          refine q_invokevirtual (pc := 82) (d' := d - 1) (mc' := 0) (ms' := 0) (As := [_, _, _]) (TX0, 6) cl_X0_103 dX0_startWays_82 rfl rfl (by first | assumption | exact hS.o | exact hS.s0 | exact hS.s1 | exact hS.s2 | exact hS.s3 | exact hS.s4 | exact hS.s5 | exact hS.s6) rfl (by omega) rfl 0 0 (Nat.le_refl 0) (Nat.le_refl 0) ?_
          refine c_X0_keepHits (by omega) hF hG2 (by omega) (by omega) ?_
          refine q_iinc (pc := 85) [some _, some _, some _, some _] dX0_startWays_85 rfl rfl rfl ?_
          refine q_goto (pc := 88) 58 dX0_startWays_88 rfl ?_
          refine ih2 (n + 1) _ (zfu H ((m : Int) * 4 + (n : Int)) (zuntil N (m : Int) (n : Int) r)) (by omega) (hs.tr (zSame.up (by omega))) (by simp only [zup]; rw [if_pos trivial]) (by simp only [zup]; rw [if_neg (by omega)]; exact hG3) (by simp only [zup]; rw [if_neg (by omega)]; exact hG4) (fun c q c1 c2 q1 q2 => ?_) (fun q q1 q2 => ?_)
          · rw [zfu_ne (by omega)]; exact iH c q c1 c2 q1 q2
          · by_cases e : q = (n : Int)
            · rw [e, zfu_at]
            · rw [zfu_ne (by omega)]; exact iH2 q q1 (by omega)
      have hF := (hs.2 sb (by omega)).trans hF
      have hS := hS.keep hs (by omega)
      refine q_iload_n (pc := 33) dX0_startWays_33 rfl ?_
      refine q_aload_n (pc := 34) dX0_startWays_34 rfl rfl ?_
      refine q_getfield (pc := 35) gf_X0_27 dX0_startWays_35 (by first | assumption | exact hS.o | exact hS.s0 | exact hS.s1 | exact hS.s2 | exact hS.s3 | exact hS.s4 | exact hS.s5 | exact hS.s6) rfl ?_
      refine q_getfield (pc := 38) gf_X0_87 dX0_startWays_38 (by first | assumption | exact hS.o | exact hS.s0 | exact hS.s1 | exact hS.s2 | exact hS.s3 | exact hS.s4 | exact hS.s5 | exact hS.s6) rfl ?_
      refine q_getfield (pc := 41) gf_X0_91 dX0_startWays_41 (by first | assumption | exact hS.o | exact hS.s0 | exact hS.s1 | exact hS.s2 | exact hS.s3 | exact hS.s4 | exact hS.s5 | exact hS.s6) rfl ?_
      refine q_icmp_ge (pc := 44) (by omega) (by omega) 115 dX0_startWays_44 rfl (fun c44 => ?_) (fun c44 => ?_)
      · exfalso; omega
      refine q_iload_n (pc := 47) dX0_startWays_47 rfl ?_
      refine q_aload_n (pc := 48) dX0_startWays_48 rfl rfl ?_
      refine q_getfield (pc := 49) gf_X0_21 dX0_startWays_49 (by first | assumption | exact hS.o | exact hS.s0 | exact hS.s1 | exact hS.s2 | exact hS.s3 | exact hS.s4 | exact hS.s5 | exact hS.s6) rfl ?_
      refine q_arraylength (pc := 52) dX0_startWays_52 (by first | assumption | exact hS.o | exact hS.s0 | exact hS.s1 | exact hS.s2 | exact hS.s3 | exact hS.s4 | exact hS.s5 | exact hS.s6) ?_
      refine q_icmp_ge (pc := 53) (by omega) (by omega) 115 dX0_startWays_53 rfl (fun c53 => ?_) (fun c53 => ?_)
      · exfalso; omega
      refine q_iconst (pc := 56) dX0_startWays_56 ?_
      refine q_istore_n (pc := 57) [some _, some _, some _, some _] dX0_startWays_57 rfl (Nat.le_of_ble_eq_true rfl) rfl ?_
      exact L3 (N 2).toNat 0 _ H (by omega) hs hG2 hG3 hG4 iH (fun q q1 q2 => by omega)
  have L0 : ∀ (p m : Nat) (w1 : zWd) (O : Int → Int) (x3 : Option Value), m + p = 4 → zSame w w1 (sb + 2) 3 → w1.1 (sb + 2) = some (.inr (false, 24, H0)) → w1.1 (sb + 3) = some (.inr (false, 4, O)) → w1.1 (sb + 4) = some (.inr (false, 6, W0)) → (∀ q, 0 ≤ q → q < (m : Int) → q < N 2 → O q = N (84 + q) - N (88 + q)) → zRuns g d mX0_startWays 0 0 2 [some (zR g sb), some (zI r), some (zI (m : Int)), x3] [] w1 K := by
    intro p
    induction p with
    | zero =>
      intro m w1 O x3 hm hs hG2 hG3 hG4 iO
      have hF := (hs.2 sb (by omega)).trans hF
      refine q_iload_n (pc := 2) dX0_startWays_2 rfl ?_
      refine q_aload_n (pc := 3) dX0_startWays_3 rfl rfl ?_
      refine q_getfield (pc := 4) gf_X0_18 dX0_startWays_4 (by assumption) rfl ?_
      refine q_arraylength (pc := 7) dX0_startWays_7 (by assumption) ?_
      refine q_icmp_ge (pc := 8) (by omega) (by omega) 31 dX0_startWays_8 rfl (fun c8 => ?_) (fun c8 => ?_)
      · refine q_iconst (pc := 31) dX0_startWays_31 ?_
        refine q_istore_n (pc := 32) [some _, some _, some _, _] dX0_startWays_32 rfl (Nat.le_of_ble_eq_true rfl) rfl ?_
        exact L (N 1).toNat 0 _ H0 O W0 _ (by omega) hs hG2 hG3 hG4 (fun c q c1 c2 => by omega) (fun c c1 c2 => by omega) (fun q q1 q2 => by rw [zsg, Int.sub_zero]; exact iO q q1 (by omega) q2)
      exfalso; omega
    | succ p ih =>
      intro m w1 O x3 hm hs hG2 hG3 hG4 iO
      have hF := (hs.2 sb (by omega)).trans hF
      have hS := hS.keep hs (by omega)
      have hih := fun w1 O x3 => ih (m + 1) w1 O x3 (by omega)
      by_cases hq : (m : Int) < N 2
      · skip
        refine q_iload_n (pc := 2) dX0_startWays_2 rfl ?_
        refine q_aload_n (pc := 3) dX0_startWays_3 rfl rfl ?_
        refine q_getfield (pc := 4) gf_X0_18 dX0_startWays_4 (by first | assumption | exact hS.o | exact hS.s0 | exact hS.s1 | exact hS.s2 | exact hS.s3 | exact hS.s4 | exact hS.s5 | exact hS.s6) rfl ?_
        refine q_arraylength (pc := 7) dX0_startWays_7 (by first | assumption | exact hS.o | exact hS.s0 | exact hS.s1 | exact hS.s2 | exact hS.s3 | exact hS.s4 | exact hS.s5 | exact hS.s6) ?_
        refine q_icmp_ge (pc := 8) (by omega) (by omega) 31 dX0_startWays_8 rfl (fun c8 => ?_) (fun c8 => ?_)
        · exfalso; omega
        refine q_aload_n (pc := 11) dX0_startWays_11 rfl rfl ?_
        refine q_getfield (pc := 12) gf_X0_18 dX0_startWays_12 (by first | assumption | exact hS.o | exact hS.s0 | exact hS.s1 | exact hS.s2 | exact hS.s3 | exact hS.s4 | exact hS.s5 | exact hS.s6) rfl ?_
        refine q_iload_n (pc := 15) dX0_startWays_15 rfl ?_
        refine q_aload_n (pc := 16) dX0_startWays_16 rfl rfl ?_
        refine q_getfield (pc := 17) gf_X0_27 dX0_startWays_17 (by first | assumption | exact hS.o | exact hS.s0 | exact hS.s1 | exact hS.s2 | exact hS.s3 | exact hS.s4 | exact hS.s5 | exact hS.s6) rfl ?_
        refine q_iload_n (pc := 20) dX0_startWays_20 rfl ?_
        refine q_invokevirtual (pc := 21) (d' := d - 1) (mc' := 0) (ms' := 0) (As := [_]) (TX6, 9) cl_X0_41 dX0_startWays_21 rfl rfl (by first | assumption | exact hS.o | exact hS.s0 | exact hS.s1 | exact hS.s2 | exact hS.s3 | exact hS.s4 | exact hS.s5 | exact hS.s6) rfl (by omega) rfl 0 0 (Nat.le_refl 0) (Nat.le_refl 0) ?_
        refine c_X6_needsYet (by omega) hS hO.1 (by omega) ?_
        refine q_iastore (pc := 24) dX0_startWays_24 (by first | assumption | exact hS.o | exact hS.s0 | exact hS.s1 | exact hS.s2 | exact hS.s3 | exact hS.s4 | exact hS.s5 | exact hS.s6) (by omega) ?_
        refine q_iinc (pc := 25) [some _, some _, some _, _] dX0_startWays_25 rfl rfl rfl ?_
        refine q_goto (pc := 28) 2 dX0_startWays_28 rfl ?_
        refine hih _ (zfu O (m : Int) (N (84 + (m : Int)) - N (88 + (m : Int)))) _ (hs.tr (zSame.up (by omega))) (by simp only [zup]; rw [if_neg (by omega)]; exact hG2) (by simp only [zup]; rw [if_pos trivial]) (by simp only [zup]; rw [if_neg (by omega)]; exact hG4) (fun q q1 q2 q3 => ?_)
        by_cases e : q = (m : Int)
        · rw [e, zfu_at]
        · rw [zfu_ne e]; exact iO q q1 (by omega) q3
      · skip
        refine q_iload_n (pc := 2) dX0_startWays_2 rfl ?_
        refine q_aload_n (pc := 3) dX0_startWays_3 rfl rfl ?_
        refine q_getfield (pc := 4) gf_X0_18 dX0_startWays_4 (by first | assumption | exact hS.o | exact hS.s0 | exact hS.s1 | exact hS.s2 | exact hS.s3 | exact hS.s4 | exact hS.s5 | exact hS.s6) rfl ?_
        refine q_arraylength (pc := 7) dX0_startWays_7 (by first | assumption | exact hS.o | exact hS.s0 | exact hS.s1 | exact hS.s2 | exact hS.s3 | exact hS.s4 | exact hS.s5 | exact hS.s6) ?_
        refine q_icmp_ge (pc := 8) (by omega) (by omega) 31 dX0_startWays_8 rfl (fun c8 => ?_) (fun c8 => ?_)
        · exfalso; omega
        refine q_aload_n (pc := 11) dX0_startWays_11 rfl rfl ?_
        refine q_getfield (pc := 12) gf_X0_18 dX0_startWays_12 (by first | assumption | exact hS.o | exact hS.s0 | exact hS.s1 | exact hS.s2 | exact hS.s3 | exact hS.s4 | exact hS.s5 | exact hS.s6) rfl ?_
        refine q_iload_n (pc := 15) dX0_startWays_15 rfl ?_
        refine q_aload_n (pc := 16) dX0_startWays_16 rfl rfl ?_
        refine q_getfield (pc := 17) gf_X0_27 dX0_startWays_17 (by first | assumption | exact hS.o | exact hS.s0 | exact hS.s1 | exact hS.s2 | exact hS.s3 | exact hS.s4 | exact hS.s5 | exact hS.s6) rfl ?_
        refine q_iload_n (pc := 20) dX0_startWays_20 rfl ?_
        refine q_invokevirtual (pc := 21) (d' := d - 1) (mc' := 0) (ms' := 0) (As := [_]) (TX6, 9) cl_X0_41 dX0_startWays_21 rfl rfl (by first | assumption | exact hS.o | exact hS.s0 | exact hS.s1 | exact hS.s2 | exact hS.s3 | exact hS.s4 | exact hS.s5 | exact hS.s6) rfl (by omega) rfl 0 0 (Nat.le_refl 0) (Nat.le_refl 0) ?_
        refine c_X6_needsOut (by omega) hS hO.1 (by omega) ?_
        refine q_iastore (pc := 24) dX0_startWays_24 (by first | assumption | exact hS.o | exact hS.s0 | exact hS.s1 | exact hS.s2 | exact hS.s3 | exact hS.s4 | exact hS.s5 | exact hS.s6) (by omega) ?_
        refine q_iinc (pc := 25) [some _, some _, some _, _] dX0_startWays_25 rfl rfl rfl ?_
        refine q_goto (pc := 28) 2 dX0_startWays_28 rfl ?_
        refine hih _ (zfu O (m : Int) (0 - 0)) _ (hs.tr (zSame.up (by omega))) (by simp only [zup]; rw [if_neg (by omega)]; exact hG2) (by simp only [zup]; rw [if_pos trivial]) (by simp only [zup]; rw [if_neg (by omega)]; exact hG4) (fun q q1 q2 q3 => ?_)
        rw [zfu_ne (by omega)]; exact iO q q1 (by omega) q3
  refine zenter [some _, some _, none, none] pn_X0 rfl (Nat.le_of_ble_eq_true rfl) ?_
  refine q_iconst (pc := 0) dX0_startWays_0 ?_
  refine q_istore_n (pc := 1) [some _, some _, some _, none] dX0_startWays_1 rfl (Nat.le_of_ble_eq_true rfl) rfl ?_
  exact L0 4 0 _ O0 _ (by omega) zSame.rf hG2 hG3 hG4 (fun q q1 q2 q3 => by omega)
end X0D
