/-! the Sleuth, on: weeks to watch, throws to ask -/
def zsgn (enc : Int → Int) (set : Int) (m : Int) (sg : Int → Int) : Int → Int := fun j => if 0 ≤ j ∧ j < m then (if zhas set j then enc j else -1) else sg j
theorem zsgn_0 {enc sg : Int → Int} {set : Int} : zsgn enc set 0 sg = sg := by funext j; simp only [zsgn]; rw [if_neg (by omega)]
theorem zsgn_s {enc sg : Int → Int} {set m v : Int} (hm : 0 ≤ m) (hv : v = if zhas set m then enc m else -1) : zfu (zsgn enc set m sg) m v = zsgn enc set (m + 1) sg := by
  funext j
  simp only [zfu, zsgn]
  by_cases h : j = m
  · rw [if_pos h, if_pos (by omega), hv, h]
  · rw [if_neg h]
    by_cases h2 : 0 ≤ j ∧ j < m
    · rw [if_pos h2, if_pos (show 0 ≤ j ∧ j < m + 1 by omega)]
    · rw [if_neg h2, if_neg (show ¬ (0 ≤ j ∧ j < m + 1) by omega)]
section X5C
variable {g : zG} {d : Nat} {w : zWd} {K : Option Value → zWd → Prop} {b sb : Nat} {N P : Int → Int} {u : Int}
set_option maxRecDepth 100000 in
set_option maxHeartbeats 4000000 in
theorem c_X5_weekToWatch {c : Int} {sg0 : Int → Int} (hd : 4 ≤ d) (hF : w.1 sb = some (.inl (4, [zR g b, zR g (sb + 1)]))) (hG : w.1 (sb + 1) = some (.inr (false, 6, sg0))) (hS : zSto g w b N u P) (hO : zOK N) (hc : 0 ≤ c ∧ c < N 0) (hb : b + 15 ≤ sb ∨ sb + 2 ≤ b) (k : ∀ w' sg, zSame w w' (sb + 1) 1 → w'.1 (sb + 1) = some (.inr (false, 6, sg)) → K (some (zI (zwatch N c))) w') : zCall g d 0 0 mX5_weekToWatch [zR g sb, zI c] w K := by
  have hh := hO.1
  have hkd := hO.2.1 c hc.1 hc.2
  have hzR : zR32 (zis N c) := zbs_R 6
  have hk := k
  unfold zwatch at hk
  generalize hset : zis N c = set at hk hzR
  have L : ∀ (q m : Nat) (w1 : zWd) (sg : Int → Int) (x y : Option Value), m + q = 12 → set ≠ 0 → zSame w w1 (sb + 1) 1 → w1.1 (sb + 1) = some (.inr (false, 6, sg)) → zRuns g d mX5_weekToWatch 0 0 15 [some (zR g sb), some (zI c), some (zI set), some (zI (zfl (fun wk => zmost set (fun kd => 10 * zmelt kd wk (N (13 + c)) + zcost kd)) 0 m).1), some (zI (zfl (fun wk => zmost set (fun kd => 10 * zmelt kd wk (N (13 + c)) + zcost kd)) 0 m).2), some (zI (m : Int)), x, y] [] w1 K := by
    intro q
    induction q with
    | zero =>
      intro m w1 sg x y hm hs0 hs hG
      have hm12 : m = 12 := by omega
      subst hm12
      rw [if_neg hs0] at hk
      refine q_iload (pc := 15) dX5_weekToWatch_15 rfl ?_
      refine q_bipush (pc := 17) (by decide) dX5_weekToWatch_17 ?_
      refine q_icmp_gt (pc := 19) (by omega) (by omega) 123 dX5_weekToWatch_19 rfl (fun c19 => ?_) (fun c19 => ?_)
      · refine q_iload_n (pc := 123) dX5_weekToWatch_123 rfl ?_
        refine q_ireturn (pc := 124) dX5_weekToWatch_124 rfl ?_
        exact hk _ _ hs hG
      exfalso; omega
    | succ q ih =>
      intro m w1 sg x y hm hs0 hs hG
      have hm6 := zmost_b set (fun kd => 10 * zmelt kd (m : Int) (N (13 + c)) + zcost kd)
      have hfl : (zfl (fun wk => zmost set (fun kd => 10 * zmelt kd wk (N (13 + c)) + zcost kd)) 0 m).2 ≤ 7 ∧ 0 ≤ (zfl (fun wk => zmost set (fun kd => 10 * zmelt kd wk (N (13 + c)) + zcost kd)) 0 m).2 := by
        clear hm ih
        induction m with
        | zero => simp [zfl]
        | succ m ihm =>
          have hm6 := zmost_b set (fun kd => 10 * zmelt kd (0 + (m : Int)) (N (13 + c)) + zcost kd)
          rw [zfl]
          split
          · show _ ≤ 7 ∧ _; omega
          · exact ihm (zmost_b _ _)
      have hih := fun w1 sg x y h1 h2 => ih (m + 1) w1 sg x y (by omega) hs0 h1 h2
      rw [zfl, Int.zero_add] at hih
      have L2 : ∀ (q2 n : Nat) (w2 : zWd) (y2 : Option Value), n + q2 = 6 → zSame w w2 (sb + 1) 1 → w2.1 (sb + 1) = some (.inr (false, 6, zsgn (fun kd => 100 * zmelt kd (m : Int) (N (13 + c)) + zcost kd) set (n : Int) sg)) → zRuns g d mX5_weekToWatch 0 0 29 [some (zR g sb), some (zI c), some (zI set), some (zI (zfl (fun wk => zmost set (fun kd => 10 * zmelt kd wk (N (13 + c)) + zcost kd)) 0 m).1), some (zI (zfl (fun wk => zmost set (fun kd => 10 * zmelt kd wk (N (13 + c)) + zcost kd)) 0 m).2), some (zI (m : Int)), some (zI (n : Int)), y2] [] w2 K := by
        intro q2
        induction q2 with
        | zero =>
          intro n w2 y2 hn hs hG
          have hn6 : n = 6 := by omega
          subst hn6
          have hF := (hs.2 sb (by omega)).trans hF
          have hms : zmostg (zsgn (fun kd => 100 * zmelt kd (m : Int) (N (13 + c)) + zcost kd) set ((6 : Nat) : Int) sg) = zmost set (fun kd => 10 * zmelt kd (m : Int) (N (13 + c)) + zcost kd) := by
            refine zmost_sg (enc := fun kd => 100 * zmelt kd (m : Int) (N (13 + c)) + zcost kd) (fun a b _ _ _ _ => ?_) (fun a _ _ => ?_) (fun a _ _ => ?_)
            · have := zmelt_b a (m : Int) (N (13 + c)); have := zmelt_b b (m : Int) (N (13 + c)); have := zcost_b a; have := zcost_b b
              show _ + _ = _ + _ ↔ _ + _ = _ + _
              omega
            · have := zmelt_b a (m : Int) (N (13 + c)); have := zcost_b a
              show 0 ≤ _ + _
              omega
            · simp only [zsgn]; rw [if_pos (by omega)]
          have hRs : ∀ i, 0 ≤ i → i < 6 → zR32 (zsgn (fun kd => 100 * zmelt kd (m : Int) (N (13 + c)) + zcost kd) set ((6 : Nat) : Int) sg i) := fun i h1 h2 => by
            have := zmelt_b i (m : Int) (N (13 + c)); have := zcost_b i
            simp only [zsgn]; rw [if_pos (by omega)]; split <;> omega
          refine q_iload (pc := 29) dX5_weekToWatch_29 rfl ?_
          refine q_aload_n (pc := 31) dX5_weekToWatch_31 rfl rfl ?_
          refine q_getfield (pc := 32) gf_X5_9 dX5_weekToWatch_32 (by assumption) rfl ?_
          refine q_arraylength (pc := 35) dX5_weekToWatch_35 (by assumption) ?_
          refine q_icmp_ge (pc := 36) (by omega) (by omega) 97 dX5_weekToWatch_36 rfl (fun c36 => ?_) (fun c36 => ?_)
          · refine q_aload_n (pc := 97) dX5_weekToWatch_97 rfl rfl ?_
            refine q_invokevirtual (pc := 98) (d' := d - 1) (mc' := 0) (ms' := 0) (As := []) (TX5, 2) cl_X5_75 dX5_weekToWatch_98 rfl rfl (by assumption) rfl (by omega) rfl 0 0 (Nat.le_refl 0) (Nat.le_refl 0) ?_
            refine c_X5_mostAlike (by omega) hF hG hRs ?_
            rw [hms]
            refine q_istore (pc := 101) [some _, some _, some _, some _, some _, some _, some _, _] dX5_weekToWatch_101 rfl (Nat.le_of_ble_eq_true rfl) rfl ?_
            refine q_iload (pc := 103) dX5_weekToWatch_103 rfl ?_
            refine q_iload (pc := 105) dX5_weekToWatch_105 rfl ?_
            refine q_icmp_ge (pc := 107) (by omega) (by omega) 117 dX5_weekToWatch_107 rfl (fun c107 => ?_) (fun c107 => ?_)
            · refine q_iinc (pc := 117) [some _, some _, some _, some _, some _, some _, some _, _] dX5_weekToWatch_117 rfl rfl rfl ?_
              refine q_goto (pc := 120) 15 dX5_weekToWatch_120 rfl ?_
              first | (rw [if_pos (by omega)] at hih; exact hih _ _ _ _ hs hG) | (rw [if_neg (by omega)] at hih; exact hih _ _ _ _ hs hG)
            refine q_iload (pc := 110) dX5_weekToWatch_110 rfl ?_
            refine q_istore (pc := 112) [some _, some _, some _, some _, some _, some _, some _, _] dX5_weekToWatch_112 rfl (Nat.le_of_ble_eq_true rfl) rfl ?_
            refine q_iload (pc := 114) dX5_weekToWatch_114 rfl ?_
            refine q_istore_n (pc := 116) [some _, some _, some _, some _, some _, some _, some _, _] dX5_weekToWatch_116 rfl (Nat.le_of_ble_eq_true rfl) rfl ?_
            refine q_iinc (pc := 117) [some _, some _, some _, some _, some _, some _, some _, _] dX5_weekToWatch_117 rfl rfl rfl ?_
            refine q_goto (pc := 120) 15 dX5_weekToWatch_120 rfl ?_
            first | (rw [if_pos (by omega)] at hih; exact hih _ _ _ _ hs hG) | (rw [if_neg (by omega)] at hih; exact hih _ _ _ _ hs hG)
          exfalso; omega
        | succ q2 ih2 =>
          intro n w2 y2 hn hs hG
          have hF := (hs.2 sb (by omega)).trans hF
          have hS := hS.keep hs (by omega)
          have hmb := zmelt_b (n : Int) (m : Int) (N (13 + c))
          have hcb := zcost_b (n : Int)
          refine q_iload (pc := 29) dX5_weekToWatch_29 rfl ?_
          refine q_aload_n (pc := 31) dX5_weekToWatch_31 rfl rfl ?_
          refine q_getfield (pc := 32) gf_X5_9 dX5_weekToWatch_32 (by first | assumption | exact hS.o | exact hS.s0 | exact hS.s1 | exact hS.s2 | exact hS.s3 | exact hS.s4 | exact hS.s5 | exact hS.s6) rfl ?_
          refine q_arraylength (pc := 35) dX5_weekToWatch_35 (by first | assumption | exact hS.o | exact hS.s0 | exact hS.s1 | exact hS.s2 | exact hS.s3 | exact hS.s4 | exact hS.s5 | exact hS.s6) ?_
          refine q_icmp_ge (pc := 36) (by omega) (by omega) 97 dX5_weekToWatch_36 rfl (fun c36 => ?_) (fun c36 => ?_)
          · exfalso; omega
          refine q_iload (pc := 39) dX5_weekToWatch_39 rfl ?_
          refine q_iload (pc := 41) dX5_weekToWatch_41 rfl ?_
          refine q_aload_n (pc := 43) dX5_weekToWatch_43 rfl rfl ?_
          refine q_getfield (pc := 44) gf_X5_15 dX5_weekToWatch_44 (by first | assumption | exact hS.o | exact hS.s0 | exact hS.s1 | exact hS.s2 | exact hS.s3 | exact hS.s4 | exact hS.s5 | exact hS.s6) rfl ?_
          refine q_getfield (pc := 47) gf_X5_69 dX5_weekToWatch_47 (by first | assumption | exact hS.o | exact hS.s0 | exact hS.s1 | exact hS.s2 | exact hS.s3 | exact hS.s4 | exact hS.s5 | exact hS.s6) rfl ?_
          refine q_iload_n (pc := 50) dX5_weekToWatch_50 rfl ?_
          refine q_iconst (pc := 51) dX5_weekToWatch_51 ?_
          refine q_invokevirtual (pc := 52) (d' := d - 1) (mc' := 0) (ms' := 0) (As := [_, _]) (TX4, 4) cl_X5_25 dX5_weekToWatch_52 rfl rfl (by first | assumption | exact hS.o | exact hS.s0 | exact hS.s1 | exact hS.s2 | exact hS.s3 | exact hS.s4 | exact hS.s5 | exact hS.s6) rfl (by omega) rfl 0 0 (Nat.le_refl 0) (Nat.le_refl 0) ?_
          refine s_get_straw (by omega) hS hO.1 hc ?_
          refine q_invokestatic (pc := 55) (d' := d - 1) (mc' := 0) (ms' := 0) (As := [_, _, _]) cl_X5_57 dX5_weekToWatch_55 rfl rfl (by omega) rfl 0 0 (Nat.le_refl 0) (Nat.le_refl 0) ?_
          refine c_X2_meltBy (by omega) (by omega) (by omega) ?_
          refine q_istore (pc := 58) [some _, some _, some _, some _, some _, some _, some _, some _] dX5_weekToWatch_58 rfl (Nat.le_of_ble_eq_true rfl) rfl ?_
          refine q_aload_n (pc := 60) dX5_weekToWatch_60 rfl rfl ?_
          refine q_getfield (pc := 61) gf_X5_9 dX5_weekToWatch_61 (by first | assumption | exact hS.o | exact hS.s0 | exact hS.s1 | exact hS.s2 | exact hS.s3 | exact hS.s4 | exact hS.s5 | exact hS.s6) rfl ?_
          refine q_iload (pc := 64) dX5_weekToWatch_64 rfl ?_
          refine q_iload_n (pc := 66) dX5_weekToWatch_66 rfl ?_
          refine q_iload (pc := 67) dX5_weekToWatch_67 rfl ?_
          refine q_invokestatic (pc := 69) (d' := d - 1) (mc' := 0) (ms' := 0) (As := [_, _]) cl_X5_72 dX5_weekToWatch_69 rfl rfl (by omega) rfl 0 0 (Nat.le_refl 0) (Nat.le_refl 0) ?_
          refine c_X5_isIn ?_
          refine q_ifb_eq (pc := 72) 89 dX5_weekToWatch_72 rfl (fun c72 => ?_) (fun c72 => ?_)
          · refine q_iconst (pc := 89) dX5_weekToWatch_89 ?_
            refine q_iastore (pc := 90) dX5_weekToWatch_90 (by first | assumption | exact hS.o | exact hS.s0 | exact hS.s1 | exact hS.s2 | exact hS.s3 | exact hS.s4 | exact hS.s5 | exact hS.s6) (by omega) ?_
            refine q_iinc (pc := 91) [some _, some _, some _, some _, some _, some _, some _, some _] dX5_weekToWatch_91 rfl rfl rfl ?_
            refine q_goto (pc := 94) 29 dX5_weekToWatch_94 rfl ?_
            refine ih2 (n + 1) _ _ (by omega) (hs.tr (zSame.up (by omega))) ?_
            simp only [zup, if_pos]
            rw [zsgn_s (by omega) (by first | rw [if_pos (by assumption)] | rw [if_neg (by assumption)])]
            rfl
          refine q_bipush (pc := 75) (by decide) dX5_weekToWatch_75 ?_
          refine q_iload (pc := 77) dX5_weekToWatch_77 rfl ?_
          refine q_imul (pc := 79) dX5_weekToWatch_79 ?_
          refine q_iload (pc := 80) dX5_weekToWatch_80 rfl ?_
          refine q_invokestatic (pc := 82) (d' := d - 1) (mc' := 0) (ms' := 0) (As := [_]) cl_X5_63 dX5_weekToWatch_82 rfl rfl (by omega) rfl 0 0 (Nat.le_refl 0) (Nat.le_refl 0) ?_
          refine c_X2_costOfDoor (by omega) ?_
          refine q_iadd (pc := 85) dX5_weekToWatch_85 ?_
          refine q_goto (pc := 86) 90 dX5_weekToWatch_86 rfl ?_
          refine q_iastore (pc := 90) dX5_weekToWatch_90 (by first | assumption | exact hS.o | exact hS.s0 | exact hS.s1 | exact hS.s2 | exact hS.s3 | exact hS.s4 | exact hS.s5 | exact hS.s6) (by omega) ?_
          refine q_iinc (pc := 91) [some _, some _, some _, some _, some _, some _, some _, some _] dX5_weekToWatch_91 rfl rfl rfl ?_
          refine q_goto (pc := 94) 29 dX5_weekToWatch_94 rfl ?_
          refine ih2 (n + 1) _ _ (by omega) (hs.tr (zSame.up (by omega))) ?_
          simp only [zup, if_pos]
          rw [zsgn_s (by omega) (by first | rw [if_pos (by assumption)] | rw [if_neg (by assumption)])]
          rfl
      refine q_iload (pc := 15) dX5_weekToWatch_15 rfl ?_
      refine q_bipush (pc := 17) (by decide) dX5_weekToWatch_17 ?_
      refine q_icmp_gt (pc := 19) (by omega) (by omega) 123 dX5_weekToWatch_19 rfl (fun c19 => ?_) (fun c19 => ?_)
      · exfalso; omega
      refine q_iload_n (pc := 22) dX5_weekToWatch_22 rfl ?_
      refine q_if_eq (pc := 23) (by omega) 123 dX5_weekToWatch_23 rfl (fun c23 => ?_) (fun c23 => ?_)
      · exfalso; omega
      refine q_iconst (pc := 26) dX5_weekToWatch_26 ?_
      refine q_istore (pc := 27) [some _, some _, some _, some _, some _, some _, some _, _] dX5_weekToWatch_27 rfl (Nat.le_of_ble_eq_true rfl) rfl ?_
      exact L2 6 0 _ _ (by omega) hs (by rw [show ((0 : Nat) : Int) = 0 from rfl, zsgn_0]; exact hG)
  by_cases hs0 : set = 0
  · skip
    rw [if_pos hs0] at hk
    refine zenter [some _, some _, none, none, none, none, none, none] pn_X5 rfl (Nat.le_of_ble_eq_true rfl) ?_
    refine q_aload_n (pc := 0) dX5_weekToWatch_0 rfl rfl ?_
    refine q_iload_n (pc := 1) dX5_weekToWatch_1 rfl ?_
    refine q_invokevirtual (pc := 2) (d' := d - 1) (mc' := 0) (ms' := 0) (As := [_]) (TX5, 2) cl_X5_66 dX5_weekToWatch_2 rfl rfl (by assumption) rfl (by omega) rfl 0 0 (Nat.le_refl 0) (Nat.le_refl 0) ?_
    refine c_X5_kindsOfCellar (by omega) hF hS hO hc ?_
    rw [hset]
    refine q_istore_n (pc := 5) [some _, some _, some _, none, none, none, none, none] dX5_weekToWatch_5 rfl (Nat.le_of_ble_eq_true rfl) rfl ?_
    refine q_iconst (pc := 6) dX5_weekToWatch_6 ?_
    refine q_istore_n (pc := 7) [some _, some _, some _, some _, none, none, none, none] dX5_weekToWatch_7 rfl (Nat.le_of_ble_eq_true rfl) rfl ?_
    refine q_bipush (pc := 8) (by decide) dX5_weekToWatch_8 ?_
    refine q_istore (pc := 10) [some _, some _, some _, some _, some _, none, none, none] dX5_weekToWatch_10 rfl (Nat.le_of_ble_eq_true rfl) rfl ?_
    refine q_iconst (pc := 12) dX5_weekToWatch_12 ?_
    refine q_istore (pc := 13) [some _, some _, some _, some _, some _, some _, none, none] dX5_weekToWatch_13 rfl (Nat.le_of_ble_eq_true rfl) rfl ?_
    refine q_iload (pc := 15) dX5_weekToWatch_15 rfl ?_
    refine q_bipush (pc := 17) (by decide) dX5_weekToWatch_17 ?_
    refine q_icmp_gt (pc := 19) (by omega) (by omega) 123 dX5_weekToWatch_19 rfl (fun c19 => ?_) (fun c19 => ?_)
    · refine q_iload_n (pc := 123) dX5_weekToWatch_123 rfl ?_
      refine q_ireturn (pc := 124) dX5_weekToWatch_124 rfl ?_
      exact hk _ _ zSame.rf hG
    refine q_iload_n (pc := 22) dX5_weekToWatch_22 rfl ?_
    refine q_if_eq (pc := 23) (by omega) 123 dX5_weekToWatch_23 rfl (fun c23 => ?_) (fun c23 => ?_)
    · refine q_iload_n (pc := 123) dX5_weekToWatch_123 rfl ?_
      refine q_ireturn (pc := 124) dX5_weekToWatch_124 rfl ?_
      exact hk _ _ zSame.rf hG
    exfalso; omega
  · skip
    refine zenter [some _, some _, none, none, none, none, none, none] pn_X5 rfl (Nat.le_of_ble_eq_true rfl) ?_
    refine q_aload_n (pc := 0) dX5_weekToWatch_0 rfl rfl ?_
    refine q_iload_n (pc := 1) dX5_weekToWatch_1 rfl ?_
    refine q_invokevirtual (pc := 2) (d' := d - 1) (mc' := 0) (ms' := 0) (As := [_]) (TX5, 2) cl_X5_66 dX5_weekToWatch_2 rfl rfl (by assumption) rfl (by omega) rfl 0 0 (Nat.le_refl 0) (Nat.le_refl 0) ?_
    refine c_X5_kindsOfCellar (by omega) hF hS hO hc ?_
    rw [hset]
    refine q_istore_n (pc := 5) [some _, some _, some _, none, none, none, none, none] dX5_weekToWatch_5 rfl (Nat.le_of_ble_eq_true rfl) rfl ?_
    refine q_iconst (pc := 6) dX5_weekToWatch_6 ?_
    refine q_istore_n (pc := 7) [some _, some _, some _, some _, none, none, none, none] dX5_weekToWatch_7 rfl (Nat.le_of_ble_eq_true rfl) rfl ?_
    refine q_bipush (pc := 8) (by decide) dX5_weekToWatch_8 ?_
    refine q_istore (pc := 10) [some _, some _, some _, some _, some _, none, none, none] dX5_weekToWatch_10 rfl (Nat.le_of_ble_eq_true rfl) rfl ?_
    refine q_iconst (pc := 12) dX5_weekToWatch_12 ?_
    refine q_istore (pc := 13) [some _, some _, some _, some _, some _, some _, none, none] dX5_weekToWatch_13 rfl (Nat.le_of_ble_eq_true rfl) rfl ?_
    exact L 12 0 _ _ _ _ (by omega) hs0 zSame.rf hG
end X5C
