/-! the Battle: the price -/
def zoffs (f : Int → Int) (hits price : Int) : Nat → Int → Int
  | 0 => f
  | n + 1 => zoffer (zoffs f hits price n) hits price
def zcop (N : Int → Int) (c q cc need r : Int) : Int := if zhat N c q r (N 4) ≤ 0 then 0 else min need (N (18 + 10 * cc + r))
def zprc (N f0 : Int → Int) (c q cc need : Int) : Nat → Int → Int
  | 0 => f0
  | r + 1 => zoffs (zprc N f0 c q cc need r) (zhat N c q (1 + (r : Int)) (N 4)) (1000 + (1 + (r : Int))) (zcop N c q cc need (1 + (r : Int))).toNat
def zpr0 : Int → Int := fun j => if j = 0 then 0 else 1000000
def zpri (f : Int → Int) (m : Int) : Int → Int := fun j => if 0 ≤ j ∧ j < m then zpr0 j else f j
def zprice (N : Int → Int) (q c cc : Int) : Int := if min 40 (N (84 + q) - N (88 + q)) ≤ 0 then 0 else if zprc N zpr0 c q cc (min 40 (N (84 + q) - N (88 + q))) 9 (min 40 (N (84 + q) - N (88 + q))) < 1000000 then zprc N zpr0 c q cc (min 40 (N (84 + q) - N (88 + q))) 9 (min 40 (N (84 + q) - N (88 + q))) else -1
abbrev zin (f : Int → Int) : Prop := ∀ i, 0 ≤ i → i ≤ 40 → 0 ≤ f i ∧ f i ≤ 1000000
theorem zoffer_b {f : Int → Int} {hits price : Int} (h : zin f) (hh : 0 ≤ hits) (hp : 0 ≤ price) : zin (zoffer f hits price) := fun i h1 h2 => by
  have b1 := h i h1 h2
  have b2 := h (max 0 (i - hits)) (by omega) (by omega)
  unfold zoffer zoffto
  split <;> omega
theorem zoffs_b {f : Int → Int} {hits price : Int} (h : zin f) (hh : 0 ≤ hits) (hp : 0 ≤ price) : ∀ n, zin (zoffs f hits price n)
  | 0 => h
  | n + 1 => zoffer_b (zoffs_b h hh hp n) hh hp
theorem zprc_b {N f0 : Int → Int} {c q cc need : Int} (h : zin f0) : ∀ m : Nat, m ≤ 9 → zin (zprc N f0 c q cc need m)
  | 0, _ => h
  | m + 1, hm => zoffs_b (zprc_b h m (by omega)) (zhat_b (N := N) (s := c) (k := q) (v := N 4) (r := 1 + (m : Int)) (by omega)).1 (by omega) _
abbrev zeq (f f2 : Int → Int) : Prop := ∀ i, 0 ≤ i → i ≤ 40 → f i = f2 i
theorem zoffer_c {f f2 : Int → Int} {hits price : Int} (h : zeq f f2) (hh : 0 ≤ hits) : zeq (zoffer f hits price) (zoffer f2 hits price) := fun i h1 h2 => by
  have b1 := h i h1 h2
  have b2 := h (max 0 (i - hits)) (by omega) (by omega)
  unfold zoffer zoffto
  rw [b1, b2]
theorem zoffs_c {f f2 : Int → Int} {hits price : Int} (h : zeq f f2) (hh : 0 ≤ hits) : ∀ n, zeq (zoffs f hits price n) (zoffs f2 hits price n)
  | 0 => h
  | n + 1 => zoffer_c (zoffs_c h hh n) hh
theorem zprc_c {N f0 f2 : Int → Int} {c q cc need : Int} (h : zeq f0 f2) : ∀ m : Nat, m ≤ 9 → zeq (zprc N f0 c q cc need m) (zprc N f2 c q cc need m)
  | 0, _ => h
  | m + 1, hm => zoffs_c (zprc_c h m (by omega)) (zhat_b (N := N) (s := c) (k := q) (v := N 4) (r := 1 + (m : Int)) (by omega)).1 _
theorem zpri_s {f : Int → Int} {m : Int} (h : 0 ≤ m) : zfu (zpri f m) m (zpr0 m) = zpri f (m + 1) := by
  funext j
  unfold zfu zpri
  by_cases e : j = m
  · subst e; rw [if_pos rfl, if_pos (by omega)]
  · rw [if_neg e]
    by_cases p : 0 ≤ j ∧ j < m
    · rw [if_pos p, if_pos (by omega)]
    · rw [if_neg p, if_neg (by omega)]
section X0C
variable {g : zG} {d : Nat} {w : zWd} {K : Option Value → zWd → Prop} {b sb : Nat} {N P : Int → Int} {u : Int}
set_option maxRecDepth 100000 in
set_option maxHeartbeats 4000000 in
theorem c_X0_priceToTurn {q c cc : Int} {f : Int → Int} (hd : 5 ≤ d) (hF : w.1 sb = some (.inl (0, [zR g b, zR g (sb + 1), zR g (sb + 2), zR g (sb + 3), zR g (sb + 4), zR g (sb + 5)]))) (hG : w.1 (sb + 1) = some (.inr (false, 41, f))) (hS : zSto g w b N u P) (hO : zOK N) (hq : 0 ≤ q ∧ q < N 2) (hc : 0 ≤ c ∧ c < N 1) (hcc : 0 ≤ cc ∧ cc < N 0) (hb : b + 15 ≤ sb ∨ sb + 6 ≤ b) (k : ∀ w' f', zSame w w' (sb + 1) 1 → w'.1 (sb + 1) = some (.inr (false, 41, f')) → K (some (zI (zprice N q c cc))) w') : zCall g d 0 0 mX0_priceToTurn [zR g sb, zI q, zI c, zI cc] w K := by
  have hh := hO.1
  have hcd := hO.2.2.2.2.1 q hq.1 hq.2
  have hk := k
  unfold zprice at hk
  generalize hne : min 40 (N (84 + q) - N (88 + q)) = ne at hk
  have hne40 : ne ≤ 40 := by omega
  have hz0 : zin (zpri f 41) := fun i h1 h2 => by
    unfold zpri zpr0
    rw [if_pos (by omega)]; split <;> omega
  have hze : zeq (zpri f 41) zpr0 := fun i h1 h2 => by
    unfold zpri
    rw [if_pos (by omega)]
  have L : ∀ (p m : Nat) (w1 : zWd) (x6 x7 x8 : Option Value), m + p = 9 → 0 < ne → zSame w w1 (sb + 1) 1 → w1.1 (sb + 1) = some (.inr (false, 41, zprc N (zpri f 41) c q cc ne m)) → zRuns g d mX0_priceToTurn 0 0 62 [some (zR g sb), some (zI q), some (zI c), some (zI cc), some (zI ne), some (zI (1 + (m : Int))), x6, x7, x8] [] w1 K := by
    intro p
    induction p with
    | zero =>
      intro m w1 x6 x7 x8 hm hn0 hs hG
      have hm9 : m = 9 := by omega
      subst hm9
      have hF := (hs.2 sb (by omega)).trans hF
      have hS := hS.keep hs (by omega)
      have b1 := zprc_b (N := N) (c := c) (q := q) (cc := cc) (need := ne) hz0 9 (by omega) ne (by omega) (by omega)
      have c1 := zprc_c (N := N) (c := c) (q := q) (cc := cc) (need := ne) hze 9 (by omega) ne (by omega) (by omega)
      rw [if_neg (by omega), ← c1] at hk
      refine q_iload (pc := 62) dX0_priceToTurn_62 rfl ?_
      refine q_bipush (pc := 64) (by decide) dX0_priceToTurn_64 ?_
      refine q_icmp_gt (pc := 66) (by omega) (by omega) 149 dX0_priceToTurn_66 rfl (fun c66 => ?_) (fun c66 => ?_)
      · refine q_iload (pc := 149) dX0_priceToTurn_149 rfl ?_
        refine q_aload_n (pc := 151) dX0_priceToTurn_151 rfl rfl ?_
        refine q_getfield (pc := 152) gf_X0_9 dX0_priceToTurn_152 (by first | assumption | exact hS.o | exact hS.s0 | exact hS.s1 | exact hS.s2 | exact hS.s3 | exact hS.s4 | exact hS.s5 | exact hS.s6) rfl ?_
        refine q_arraylength (pc := 155) dX0_priceToTurn_155 (by first | assumption | exact hS.o | exact hS.s0 | exact hS.s1 | exact hS.s2 | exact hS.s3 | exact hS.s4 | exact hS.s5 | exact hS.s6) ?_
        refine q_icmp_ge (pc := 156) (by omega) (by omega) 169 dX0_priceToTurn_156 rfl (fun c156 => ?_) (fun c156 => ?_)
        · exfalso; omega
        refine q_aload_n (pc := 159) dX0_priceToTurn_159 rfl rfl ?_
        refine q_getfield (pc := 160) gf_X0_9 dX0_priceToTurn_160 (by first | assumption | exact hS.o | exact hS.s0 | exact hS.s1 | exact hS.s2 | exact hS.s3 | exact hS.s4 | exact hS.s5 | exact hS.s6) rfl ?_
        refine q_iload (pc := 163) dX0_priceToTurn_163 rfl ?_
        refine q_iaload (pc := 165) dX0_priceToTurn_165 (by first | assumption | exact hS.o | exact hS.s0 | exact hS.s1 | exact hS.s2 | exact hS.s3 | exact hS.s4 | exact hS.s5 | exact hS.s6) (by omega) ?_
        refine q_goto (pc := 166) 171 dX0_priceToTurn_166 rfl ?_
        refine q_istore (pc := 171) [some _, some _, some _, some _, some _, some _, _, _, _] dX0_priceToTurn_171 rfl (Nat.le_of_ble_eq_true rfl) rfl ?_
        refine q_iload (pc := 173) dX0_priceToTurn_173 rfl ?_
        refine q_ldc (pc := 175) tw_3_224 dX0_priceToTurn_175 ?_
        refine q_icmp_ge (pc := 177) (by omega) (by omega) 185 dX0_priceToTurn_177 rfl (fun c177 => ?_) (fun c177 => ?_)
        · refine q_iconst (pc := 185) dX0_priceToTurn_185 ?_
          refine q_ireturn (pc := 186) dX0_priceToTurn_186 rfl ?_
          first | (rw [if_pos (by omega)] at hk; exact hk _ _ hs hG) | (rw [if_neg (by omega)] at hk; exact hk _ _ hs hG)
        refine q_iload (pc := 180) dX0_priceToTurn_180 rfl ?_
        refine q_goto (pc := 182) 186 dX0_priceToTurn_182 rfl ?_
        refine q_ireturn (pc := 186) dX0_priceToTurn_186 rfl ?_
        first | (rw [if_pos (by omega)] at hk; exact hk _ _ hs hG) | (rw [if_neg (by omega)] at hk; exact hk _ _ hs hG)
      exfalso; omega
    | succ p ih =>
      intro m w1 x6 x7 x8 hm hn0 hs hG
      have hF1 := (hs.2 sb (by omega)).trans hF
      have hS1 := hS.keep hs (by omega)
      have hab := zhat_b (N := N) (s := c) (k := q) (v := N 4) (r := 1 + (m : Int)) (by omega)
      have hsn := hO.2.2.1 cc (1 + (m : Int)) (by omega) (by omega) (by omega) (by omega)
      have hcb : 0 ≤ zcop N c q cc ne (1 + (m : Int)) ∧ zcop N c q cc ne (1 + (m : Int)) ≤ 40 := by
        unfold zcop; split <;> omega
      have hch : 0 < zcop N c q cc ne (1 + (m : Int)) → 1 ≤ zhat N c q (1 + (m : Int)) (N 4) := fun z => by
        unfold zcop at z
        by_cases y : zhat N c q (1 + (m : Int)) (N 4) ≤ 0
        · rw [if_pos y] at z; omega
        · omega
      have hih := fun w1 x6 x7 x8 => ih (m + 1) w1 x6 x7 x8 (by omega) hn0
      rw [zprc, show (1 : Int) + ((m + 1 : Nat) : Int) = 1 + (m : Int) + 1 by omega] at hih
      have hzm := zprc_b (N := N) (c := c) (q := q) (cc := cc) (need := ne) hz0 m (by omega)
      have L2 : ∀ (p2 n : Nat) (w2 : zWd), n + p2 = (zcop N c q cc ne (1 + (m : Int))).toNat → zSame w w2 (sb + 1) 1 → w2.1 (sb + 1) = some (.inr (false, 41, zoffs (zprc N (zpri f 41) c q cc ne m) (zhat N c q (1 + (m : Int)) (N 4)) (1000 + (1 + (m : Int))) n)) → zRuns g d mX0_priceToTurn 0 0 118 [some (zR g sb), some (zI q), some (zI c), some (zI cc), some (zI ne), some (zI (1 + (m : Int))), some (zI (zhat N c q (1 + (m : Int)) (N 4))), some (zI (zcop N c q cc ne (1 + (m : Int)))), some (zI (n : Int))] [] w2 K := by
        intro p2
        induction p2 with
        | zero =>
          intro n w2 hn hs hG
          refine q_iload (pc := 118) dX0_priceToTurn_118 rfl ?_
          refine q_iload (pc := 120) dX0_priceToTurn_120 rfl ?_
          refine q_icmp_ge (pc := 122) (by omega) (by omega) 143 dX0_priceToTurn_122 rfl (fun c122 => ?_) (fun c122 => ?_)
          · refine q_iinc (pc := 143) [some _, some _, some _, some _, some _, some _, some _, some _, some _] dX0_priceToTurn_143 rfl rfl rfl ?_
            refine q_goto (pc := 146) 62 dX0_priceToTurn_146 rfl ?_
            refine hih _ _ _ _ hs ?_
            rw [hG, show (zcop N c q cc ne (1 + (m : Int))).toNat = n by omega]
          exfalso; omega
        | succ p2 ih2 =>
          intro n w2 hn hs hG
          have hF := (hs.2 sb (by omega)).trans hF
          have hS := hS.keep hs (by omega)
          have hch := hch (by omega)
          have hzn := zoffs_b (hits := zhat N c q (1 + (m : Int)) (N 4)) (price := 1000 + (1 + (m : Int))) hzm (by omega) (by omega) n
          refine q_iload (pc := 118) dX0_priceToTurn_118 rfl ?_
          refine q_iload (pc := 120) dX0_priceToTurn_120 rfl ?_
          refine q_icmp_ge (pc := 122) (by omega) (by omega) 143 dX0_priceToTurn_122 rfl (fun c122 => ?_) (fun c122 => ?_)
          · exfalso; omega
          refine q_aload_n (pc := 125) dX0_priceToTurn_125 rfl rfl ?_
          refine q_iload (pc := 126) dX0_priceToTurn_126 rfl ?_
          refine q_sipush (pc := 128) (by decide) dX0_priceToTurn_128 ?_
          refine q_iload (pc := 131) dX0_priceToTurn_131 rfl ?_
          refine q_iadd (pc := 133) dX0_priceToTurn_133 ?_
          refine q_invokevirtual (pc := 134) (d' := d - 1) (mc' := 0) (ms' := 0) (As := [_, _]) (TX0, 6) cl_X0_59 dX0_priceToTurn_134 rfl rfl (by assumption) rfl (by omega) rfl 0 0 (Nat.le_refl 0) (Nat.le_refl 0) ?_
          refine c_X0_offerStone (by omega) hF hG hzn (by omega) (by omega) (fun w3 hs3 hG3 => ?_)
          refine q_iinc (pc := 137) [some _, some _, some _, some _, some _, some _, some _, some _, some _] dX0_priceToTurn_137 rfl rfl rfl ?_
          refine q_goto (pc := 140) 118 dX0_priceToTurn_140 rfl ?_
          exact ih2 (n + 1) _ (by omega) (hs.tr hs3) hG3
      have J : ∀ (x : Int) (y7 y8 : Option Value), x = zcop N c q cc ne (1 + (m : Int)) → zRuns g d mX0_priceToTurn 0 0 113 [some (zR g sb), some (zI q), some (zI c), some (zI cc), some (zI ne), some (zI (1 + (m : Int))), some (zI (zhat N c q (1 + (m : Int)) (N 4))), y7, y8] [zI x] w1 K := by
        intro x y7 y8 hx
        subst hx
        refine q_istore (pc := 113) [some _, some _, some _, some _, some _, some _, some _, some _, _] dX0_priceToTurn_113 rfl (Nat.le_of_ble_eq_true rfl) rfl ?_
        refine q_iconst (pc := 115) dX0_priceToTurn_115 ?_
        refine q_istore (pc := 116) [some _, some _, some _, some _, some _, some _, some _, some _, some _] dX0_priceToTurn_116 rfl (Nat.le_of_ble_eq_true rfl) rfl ?_
        exact L2 (zcop N c q cc ne (1 + (m : Int))).toNat 0 _ (by omega) hs hG
      have hF := hF1
      have hS := hS1
      refine q_iload (pc := 62) dX0_priceToTurn_62 rfl ?_
      refine q_bipush (pc := 64) (by decide) dX0_priceToTurn_64 ?_
      refine q_icmp_gt (pc := 66) (by omega) (by omega) 149 dX0_priceToTurn_66 rfl (fun c66 => ?_) (fun c66 => ?_)
      · exfalso; omega
      refine q_aload_n (pc := 69) dX0_priceToTurn_69 rfl rfl ?_
      refine q_getfield (pc := 70) gf_X0_27 dX0_priceToTurn_70 (by first | assumption | exact hS.o | exact hS.s0 | exact hS.s1 | exact hS.s2 | exact hS.s3 | exact hS.s4 | exact hS.s5 | exact hS.s6) rfl ?_
      refine q_iload_n (pc := 73) dX0_priceToTurn_73 rfl ?_
      refine q_iload_n (pc := 74) dX0_priceToTurn_74 rfl ?_
      refine q_iload (pc := 75) dX0_priceToTurn_75 rfl ?_
      refine q_aload_n (pc := 77) dX0_priceToTurn_77 rfl rfl ?_
      refine q_getfield (pc := 78) gf_X0_27 dX0_priceToTurn_78 (by first | assumption | exact hS.o | exact hS.s0 | exact hS.s1 | exact hS.s2 | exact hS.s3 | exact hS.s4 | exact hS.s5 | exact hS.s6) rfl ?_
      refine q_getfield (pc := 81) gf_X0_31 dX0_priceToTurn_81 (by first | assumption | exact hS.o | exact hS.s0 | exact hS.s1 | exact hS.s2 | exact hS.s3 | exact hS.s4 | exact hS.s5 | exact hS.s6) rfl ?_
      refine q_invokevirtual (pc := 84) (d' := d - 1) (mc' := 0) (ms' := 0) (As := [_, _, _, _]) (TX6, 9) cl_X0_52 dX0_priceToTurn_84 rfl rfl (by first | assumption | exact hS.o | exact hS.s0 | exact hS.s1 | exact hS.s2 | exact hS.s3 | exact hS.s4 | exact hS.s5 | exact hS.s6) rfl (by omega) rfl 0 0 (Nat.le_refl 0) (Nat.le_refl 0) ?_
      refine c_X6_hitsAt (by omega) hS hO hc hq (by omega) (by omega) ?_
      refine q_istore (pc := 87) [some _, some _, some _, some _, some _, some _, some _, _, _] dX0_priceToTurn_87 rfl (Nat.le_of_ble_eq_true rfl) rfl ?_
      refine q_iload (pc := 89) dX0_priceToTurn_89 rfl ?_
      refine q_if_gt (pc := 91) (by omega) 98 dX0_priceToTurn_91 rfl (fun c91 => ?_) (fun c91 => ?_)
      · refine q_iload (pc := 98) dX0_priceToTurn_98 rfl ?_
        refine q_aload_n (pc := 100) dX0_priceToTurn_100 rfl rfl ?_
        refine q_getfield (pc := 101) gf_X0_27 dX0_priceToTurn_101 (by first | assumption | exact hS.o | exact hS.s0 | exact hS.s1 | exact hS.s2 | exact hS.s3 | exact hS.s4 | exact hS.s5 | exact hS.s6) rfl ?_
        refine q_iload_n (pc := 104) dX0_priceToTurn_104 rfl ?_
        refine q_iload (pc := 105) dX0_priceToTurn_105 rfl ?_
        refine q_invokevirtual (pc := 107) (d' := d - 1) (mc' := 0) (ms' := 0) (As := [_, _]) (TX6, 9) cl_X0_56 dX0_priceToTurn_107 rfl rfl (by first | assumption | exact hS.o | exact hS.s0 | exact hS.s1 | exact hS.s2 | exact hS.s3 | exact hS.s4 | exact hS.s5 | exact hS.s6) rfl (by omega) rfl 0 0 (Nat.le_refl 0) (Nat.le_refl 0) ?_
        refine c_X6_stonesOf (by omega) hS hO.1 hcc (by omega) ?_
        refine q_min (pc := 110) tw_3_223 tw_2_67 tw_1_4 tw_2_68 dX0_priceToTurn_110 (by omega) rfl (by omega) (by omega) ?_
        first | (exact J _ _ _ (by rw [zcop, if_pos (by omega)]; done)) | (exact J _ _ _ (by rw [zcop, if_neg (by omega)]; done))
      refine q_iconst (pc := 94) dX0_priceToTurn_94 ?_
      refine q_goto (pc := 95) 113 dX0_priceToTurn_95 rfl ?_
      first | (exact J _ _ _ (by rw [zcop, if_pos (by omega)]; done)) | (exact J _ _ _ (by rw [zcop, if_neg (by omega)]; done))
  have L0 : ∀ (p m : Nat) (w1 : zWd) (x6 x7 x8 : Option Value), m + p = 41 → 0 < ne → zSame w w1 (sb + 1) 1 → w1.1 (sb + 1) = some (.inr (false, 41, zpri f (m : Int))) → zRuns g d mX0_priceToTurn 0 0 25 [some (zR g sb), some (zI q), some (zI c), some (zI cc), some (zI ne), some (zI (m : Int)), x6, x7, x8] [] w1 K := by
    intro p
    induction p with
    | zero =>
      intro m w1 x6 x7 x8 hm hn0 hs hG
      have hm9 : m = 41 := by omega
      subst hm9
      have hF := (hs.2 sb (by omega)).trans hF
      refine q_iload (pc := 25) dX0_priceToTurn_25 rfl ?_
      refine q_aload_n (pc := 27) dX0_priceToTurn_27 rfl rfl ?_
      refine q_getfield (pc := 28) gf_X0_9 dX0_priceToTurn_28 (by assumption) rfl ?_
      refine q_arraylength (pc := 31) dX0_priceToTurn_31 (by assumption) ?_
      refine q_icmp_ge (pc := 32) (by omega) (by omega) 59 dX0_priceToTurn_32 rfl (fun c32 => ?_) (fun c32 => ?_)
      · refine q_iconst (pc := 59) dX0_priceToTurn_59 ?_
        refine q_istore (pc := 60) [some _, some _, some _, some _, some _, some _, _, _, _] dX0_priceToTurn_60 rfl (Nat.le_of_ble_eq_true rfl) rfl ?_
        exact L 9 0 _ _ _ _ (by omega) hn0 hs hG
      exfalso; omega
    | succ p ih =>
      intro m w1 x6 x7 x8 hm hn0 hs hG
      have hF := (hs.2 sb (by omega)).trans hF
      have hih := fun w1 x6 x7 x8 => ih (m + 1) w1 x6 x7 x8 (by omega) hn0
      have es := zpri_s (f := f) (m := (m : Int)) (by omega)
      have ez : ∀ x, x = zpr0 (m : Int) → zfu (zpri f (m : Int)) (m : Int) x = zpri f ((m + 1 : Nat) : Int) := fun x hx => by
        rw [hx, es]; rfl
      have J : ∀ x, x = zpr0 (m : Int) → zRuns g d mX0_priceToTurn 0 0 52 [some (zR g sb), some (zI q), some (zI c), some (zI cc), some (zI ne), some (zI (m : Int)), x6, x7, x8] [zI x, zI (m : Int), zR g (sb + 1)] w1 K := by
        intro x hx
        refine q_iastore (pc := 52) dX0_priceToTurn_52 (by assumption) (by omega) ?_
        refine q_iinc (pc := 53) [some _, some _, some _, some _, some _, some _, _, _, _] dX0_priceToTurn_53 rfl rfl rfl ?_
        refine q_goto (pc := 56) 25 dX0_priceToTurn_56 rfl ?_
        refine hih _ _ _ _ (hs.tr (zSame.up (by omega))) ?_
        simp only [zup, if_pos]
        rw [ez x hx]
      refine q_iload (pc := 25) dX0_priceToTurn_25 rfl ?_
      refine q_aload_n (pc := 27) dX0_priceToTurn_27 rfl rfl ?_
      refine q_getfield (pc := 28) gf_X0_9 dX0_priceToTurn_28 (by assumption) rfl ?_
      refine q_arraylength (pc := 31) dX0_priceToTurn_31 (by assumption) ?_
      refine q_icmp_ge (pc := 32) (by omega) (by omega) 59 dX0_priceToTurn_32 rfl (fun c32 => ?_) (fun c32 => ?_)
      · exfalso; omega
      refine q_aload_n (pc := 35) dX0_priceToTurn_35 rfl rfl ?_
      refine q_getfield (pc := 36) gf_X0_9 dX0_priceToTurn_36 (by assumption) rfl ?_
      refine q_iload (pc := 39) dX0_priceToTurn_39 rfl ?_
      refine q_iload (pc := 41) dX0_priceToTurn_41 rfl ?_
      refine q_if_ne (pc := 43) (by omega) 50 dX0_priceToTurn_43 rfl (fun c43 => ?_) (fun c43 => ?_)
      · refine q_ldc (pc := 50) tw_3_224 dX0_priceToTurn_50 ?_
        first | (exact J _ (by unfold zpr0; rw [if_pos (by omega)]; done)) | (exact J _ (by unfold zpr0; rw [if_neg (by omega)]; done))
      refine q_iconst (pc := 46) dX0_priceToTurn_46 ?_
      refine q_goto (pc := 47) 52 dX0_priceToTurn_47 rfl ?_
      first | (exact J _ (by unfold zpr0; rw [if_pos (by omega)]; done)) | (exact J _ (by unfold zpr0; rw [if_neg (by omega)]; done))
  refine zenter [some _, some _, some _, some _, none, none, none, none, none] pn_X0 rfl (Nat.le_of_ble_eq_true rfl) ?_
  refine q_bipush (pc := 0) (by decide) dX0_priceToTurn_0 ?_
  refine q_aload_n (pc := 2) dX0_priceToTurn_2 rfl rfl ?_
  refine q_getfield (pc := 3) gf_X0_27 dX0_priceToTurn_3 (by first | assumption | exact hS.o | exact hS.s0 | exact hS.s1 | exact hS.s2 | exact hS.s3 | exact hS.s4 | exact hS.s5 | exact hS.s6) rfl ?_
  refine q_iload_n (pc := 6) dX0_priceToTurn_6 rfl ?_
  refine q_invokevirtual (pc := 7) (d' := d - 1) (mc' := 0) (ms' := 0) (As := [_]) (TX6, 9) cl_X0_41 dX0_priceToTurn_7 rfl rfl (by first | assumption | exact hS.o | exact hS.s0 | exact hS.s1 | exact hS.s2 | exact hS.s3 | exact hS.s4 | exact hS.s5 | exact hS.s6) rfl (by omega) rfl 0 0 (Nat.le_refl 0) (Nat.le_refl 0) ?_
  refine c_X6_needsYet (by omega) hS hO.1 hq ?_
  refine q_min (pc := 10) tw_3_223 tw_2_67 tw_1_4 tw_2_68 dX0_priceToTurn_10 (by omega) rfl (by omega) (by omega) ?_
  refine q_istore (pc := 13) [some _, some _, some _, some _, some _, none, none, none, none] dX0_priceToTurn_13 rfl (Nat.le_of_ble_eq_true rfl) rfl ?_
  refine q_iload (pc := 15) dX0_priceToTurn_15 rfl ?_
  refine q_if_gt (pc := 17) (by omega) 22 dX0_priceToTurn_17 rfl (fun c17 => ?_) (fun c17 => ?_)
  · refine q_iconst (pc := 22) dX0_priceToTurn_22 ?_
    refine q_istore (pc := 23) [some _, some _, some _, some _, some _, some _, none, none, none] dX0_priceToTurn_23 rfl (Nat.le_of_ble_eq_true rfl) rfl ?_
    rw [hne]
    exact L0 41 0 _ _ _ _ (by omega) (by omega) zSame.rf (by rw [hG]; congr; funext j; unfold zpri; rw [if_neg (by omega)])
  refine q_iconst (pc := 20) dX0_priceToTurn_20 ?_
  refine q_ireturn (pc := 21) dX0_priceToTurn_21 rfl ?_
  rw [if_pos (by omega)] at hk; exact hk _ _ zSame.rf hG
end X0C
