theorem zfl_bd {f : Int → Int} {z : Int} (h : ∀ a, 0 ≤ f a ∧ f a ≤ 6) : ∀ m : Nat, (zfl f z m).2 ≤ 7 ∧ 0 ≤ (zfl f z m).2
  | 0 => by show (7 : Int) ≤ 7 ∧ (0 : Int) ≤ 7; omega
  | m + 1 => by
    have h1 := zfl_bd h (z := z) m
    have h2 := h (z + (m : Int))
    rw [zfl]; split
    · show f (z + (m : Int)) ≤ 7 ∧ 0 ≤ f (z + (m : Int)); omega
    · exact h1
/-! the reference's own calls, kinds and what to look at -/
section X8I
variable {g : zG} {d : Nat} {w : zWd} {K : Option Value → zWd → Prop} {S : zSt}
set_option maxRecDepth 100000 in
set_option maxHeartbeats 8000000 in
theorem c_X8_kindsOf {c : Int} {N : Int → Int} {ab be u len p0 p1 p2 p3 p4 it sm : Int} (hd : 2 ≤ d) (h72 : w.1 72 = some (zMO g ab be u len p0 p1 p2 p3 p4 it sm)) (h73 : w.1 73 = some (.inr (false, 168, N))) (hO : zOK N) (hc : 0 ≤ c ∧ c < N 0) (k : K (some (zI (zis N c))) w) : zCall g d 0 0 mX8_kindsOf [zR g 72, zI c] w K := by
  have hh := hO.1
  unfold zis at k
  have L : ∀ (q m : Nat) (x4 x5 x6 x7 : Option Value), m + q = 6 → zRuns g d mX8_kindsOf 0 0 4 [some (zR g 72), some (zI c), some (zI (zbs (fun kd => zfn N c kd (N 6).toNat) m)), some (zI (m : Int)), x4, x5, x6, x7] [] w K := by
    intro q
    induction q with
    | zero =>
      intro m x4 x5 x6 x7 h1
      obtain rfl : m = 6 := by omega
      refine q_iload_n (pc := 4) dX8_kindsOf_4 rfl ?_
      refine q_bipush (pc := 5) (by decide) dX8_kindsOf_5 ?_
      refine q_icmp_ge (pc := 7) (by omega) (by omega) 149 dX8_kindsOf_7 rfl (fun c7 => ?_) (fun c7 => ?_)
      · refine q_iload_n (pc := 149) dX8_kindsOf_149 rfl ?_
        refine q_ireturn (pc := 150) dX8_kindsOf_150 rfl ?_
        exact k
      exfalso; omega
    | succ q ih =>
      intro m x4 x5 x6 x7 h1
      have hih := fun a b c d => ih (m + 1) a b c d (by omega)
      have hR := zbs_R (p := fun kd => zfn N c kd (N 6).toNat) m
      rw [zbs] at hih
      generalize hG : zbs (fun kd => zfn N c kd (N 6).toNat) m = G at hih hR
      have L2 : ∀ (q2 n : Nat) (x6 x7 : Option Value), (n : Int) + (q2 : Int) = N 6 → zRuns g d mX8_kindsOf 0 0 16 [some (zR g 72), some (zI c), some (zI G), some (zI (m : Int)), some (zI (zb (zfn N c (m : Int) n = true))), some (zI (n : Int)), x6, x7] [] w K := by
        intro q2
        induction q2 with
        | zero =>
          intro n x6 x7 h2
          have e : n = (N 6).toNat := by omega
          refine q_iload (pc := 16) dX8_kindsOf_16 rfl ?_
          refine q_aload_n (pc := 18) dX8_kindsOf_18 rfl rfl ?_
          refine q_getfield (pc := 19) gf_X8_7 dX8_kindsOf_19 (by assumption) rfl ?_
          refine q_bipush (pc := 22) (by decide) dX8_kindsOf_22 ?_
          refine q_iaload (pc := 24) dX8_kindsOf_24 (by assumption) (by omega) ?_
          refine q_icmp_ge (pc := 25) (by omega) (by omega) 128 dX8_kindsOf_25 rfl (fun c25 => ?_) (fun c25 => ?_)
          · refine q_iload_n (pc := 128) dX8_kindsOf_128 rfl ?_
            refine q_iload (pc := 129) dX8_kindsOf_129 rfl ?_
            refine q_ifb_eq (pc := 131) 140 dX8_kindsOf_131 rfl (fun c131 => ?_) (fun c131 => ?_)
            · refine q_iconst (pc := 140) dX8_kindsOf_140 ?_
              refine q_ior (pc := 141) dX8_kindsOf_141 ?_
              refine q_istore_n (pc := 142) [some _, some _, some _, some _, some _, some _, _, _] dX8_kindsOf_142 rfl (Nat.le_of_ble_eq_true rfl) rfl ?_
              refine q_iinc (pc := 143) [some _, some _, some _, some _, some _, some _, _, _] dX8_kindsOf_143 rfl rfl rfl ?_
              refine q_goto (pc := 146) 4 dX8_kindsOf_146 rfl ?_
              first | (rw [← e, if_pos c131] at hih; exact hih _ _ _ _) | (rw [← e, if_neg c131] at hih; rw [zor_0 hR]; exact hih _ _ _ _)
            refine q_iconst (pc := 134) dX8_kindsOf_134 ?_
            refine q_iload_n (pc := 135) dX8_kindsOf_135 rfl ?_
            refine q_ishl (pc := 136) dX8_kindsOf_136 ?_
            refine q_goto (pc := 137) 141 dX8_kindsOf_137 rfl ?_
            refine q_ior (pc := 141) dX8_kindsOf_141 ?_
            refine q_istore_n (pc := 142) [some _, some _, some _, some _, some _, some _, _, _] dX8_kindsOf_142 rfl (Nat.le_of_ble_eq_true rfl) rfl ?_
            refine q_iinc (pc := 143) [some _, some _, some _, some _, some _, some _, _, _] dX8_kindsOf_143 rfl rfl rfl ?_
            refine q_goto (pc := 146) 4 dX8_kindsOf_146 rfl ?_
            first | (rw [← e, if_pos c131] at hih; exact hih _ _ _ _) | (rw [← e, if_neg c131] at hih; rw [zor_0 hR]; exact hih _ _ _ _)
          exfalso; omega
        | succ q2 ih2 =>
          intro n x6 x7 h2
          have hih2 := fun a b => ih2 (n + 1) a b (by omega)
          have hb := znt_b hO (i := (n : Int)) (by omega)
          rw [Int.add_zero] at hb
          have hmb := zmelt_b (m : Int) (N (108 + 5 * (n : Int) + 2)) (N (108 + 5 * (n : Int) + 1))
          have hcb := zcost_b (m : Int)
          have e1 : (zfn N c (m : Int) (n + 1) = true) ↔ (zfn N c (m : Int) n = true ∧ (N (108 + 5 * (n : Int)) ≠ c ∨ (zmelt (m : Int) (N (108 + 5 * (n : Int) + 2)) (N (108 + 5 * (n : Int) + 1)) = N (108 + 5 * (n : Int) + 3) ∧ zcost (m : Int) = N (108 + 5 * (n : Int) + 4)))) := by
            rw [zfn, Bool.and_eq_true, Bool.or_eq_true, decide_eq_true_eq, decide_eq_true_eq, Int.add_zero]
          have J120 : ∀ (x6 x7 : Option Value), zRuns g d mX8_kindsOf 0 0 120 [some (zR g 72), some (zI c), some (zI G), some (zI (m : Int)), some (zI (zb (zfn N c (m : Int) n = true))), some (zI (n : Int)), x6, x7] [zI (zb (zfn N c (m : Int) (n + 1) = true))] w K := by
            intro x6 x7
            refine q_istore (pc := 120) [some _, some _, some _, some _, some _, some _, _, _] dX8_kindsOf_120 rfl (Nat.le_of_ble_eq_true rfl) rfl ?_
            refine q_iinc (pc := 122) [some _, some _, some _, some _, some _, some _, _, _] dX8_kindsOf_122 rfl rfl rfl ?_
            refine q_goto (pc := 125) 16 dX8_kindsOf_125 rfl ?_
            exact hih2 _ _
          have J92 : ∀ (x7 : Option Value), zRuns g d mX8_kindsOf 0 0 92 [some (zR g 72), some (zI c), some (zI G), some (zI (m : Int)), some (zI (zb (zfn N c (m : Int) n = true))), some (zI (n : Int)), some (zI (108 + 5 * (n : Int))), x7] [zI (zb (zmelt (m : Int) (N (108 + 5 * (n : Int) + 2)) (N (108 + 5 * (n : Int) + 1)) = N (108 + 5 * (n : Int) + 3) ∧ zcost (m : Int) = N (108 + 5 * (n : Int) + 4)))] w K := by
            intro x7
            refine q_istore (pc := 92) [some _, some _, some _, some _, some _, some _, some _, some _] dX8_kindsOf_92 rfl (Nat.le_of_ble_eq_true rfl) rfl ?_
            refine q_iload (pc := 94) dX8_kindsOf_94 rfl ?_
            refine q_ifb_eq (pc := 96) 119 dX8_kindsOf_96 rfl (fun c96 => ?_) (fun c96 => ?_)
            · refine q_iconst (pc := 119) dX8_kindsOf_119 ?_
              first | (have h9 := J120; simp only [zb_t (e1.mpr ⟨c96, Or.inl c107⟩)] at h9; exact h9 _ _) | (have h9 := J120; simp only [zb_t (e1.mpr ⟨c96, Or.inr c112⟩)] at h9; exact h9 _ _) | (have h9 := J120; simp only [zb_f (fun z => c96 (e1.mp z).1)] at h9; exact h9 _ _) | (have h9 := J120; simp only [zb_f (fun z => (e1.mp z).2.elim (fun y => y c107) c112)] at h9; exact h9 _ _)
            refine q_aload_n (pc := 99) dX8_kindsOf_99 rfl rfl ?_
            refine q_getfield (pc := 100) gf_X8_7 dX8_kindsOf_100 (by assumption) rfl ?_
            refine q_iload (pc := 103) dX8_kindsOf_103 rfl ?_
            refine q_iaload (pc := 105) dX8_kindsOf_105 (by assumption) (by omega) ?_
            refine q_iload_n (pc := 106) dX8_kindsOf_106 rfl ?_
            refine q_icmp_ne (pc := 107) (by omega) (by omega) 115 dX8_kindsOf_107 rfl (fun c107 => ?_) (fun c107 => ?_)
            · refine q_iconst (pc := 115) dX8_kindsOf_115 ?_
              refine q_goto (pc := 116) 120 dX8_kindsOf_116 rfl ?_
              first | (have h9 := J120; simp only [zb_t (e1.mpr ⟨c96, Or.inl c107⟩)] at h9; exact h9 _ _) | (have h9 := J120; simp only [zb_t (e1.mpr ⟨c96, Or.inr c112⟩)] at h9; exact h9 _ _) | (have h9 := J120; simp only [zb_f (fun z => c96 (e1.mp z).1)] at h9; exact h9 _ _) | (have h9 := J120; simp only [zb_f (fun z => (e1.mp z).2.elim (fun y => y c107) c112)] at h9; exact h9 _ _)
            refine q_iload (pc := 110) dX8_kindsOf_110 rfl ?_
            refine q_ifb_eq (pc := 112) 119 dX8_kindsOf_112 rfl (fun c112 => ?_) (fun c112 => ?_)
            · refine q_iconst (pc := 119) dX8_kindsOf_119 ?_
              first | (have h9 := J120; simp only [zb_t (e1.mpr ⟨c96, Or.inl c107⟩)] at h9; exact h9 _ _) | (have h9 := J120; simp only [zb_t (e1.mpr ⟨c96, Or.inr c112⟩)] at h9; exact h9 _ _) | (have h9 := J120; simp only [zb_f (fun z => c96 (e1.mp z).1)] at h9; exact h9 _ _) | (have h9 := J120; simp only [zb_f (fun z => (e1.mp z).2.elim (fun y => y c107) c112)] at h9; exact h9 _ _)
            refine q_iconst (pc := 115) dX8_kindsOf_115 ?_
            refine q_goto (pc := 116) 120 dX8_kindsOf_116 rfl ?_
            first | (have h9 := J120; simp only [zb_t (e1.mpr ⟨c96, Or.inl c107⟩)] at h9; exact h9 _ _) | (have h9 := J120; simp only [zb_t (e1.mpr ⟨c96, Or.inr c112⟩)] at h9; exact h9 _ _) | (have h9 := J120; simp only [zb_f (fun z => c96 (e1.mp z).1)] at h9; exact h9 _ _) | (have h9 := J120; simp only [zb_f (fun z => (e1.mp z).2.elim (fun y => y c107) c112)] at h9; exact h9 _ _)
          refine q_iload (pc := 16) dX8_kindsOf_16 rfl ?_
          refine q_aload_n (pc := 18) dX8_kindsOf_18 rfl rfl ?_
          refine q_getfield (pc := 19) gf_X8_7 dX8_kindsOf_19 (by assumption) rfl ?_
          refine q_bipush (pc := 22) (by decide) dX8_kindsOf_22 ?_
          refine q_iaload (pc := 24) dX8_kindsOf_24 (by assumption) (by omega) ?_
          refine q_icmp_ge (pc := 25) (by omega) (by omega) 128 dX8_kindsOf_25 rfl (fun c25 => ?_) (fun c25 => ?_)
          · exfalso; omega
          refine q_bipush (pc := 28) (by decide) dX8_kindsOf_28 ?_
          refine q_iconst (pc := 30) dX8_kindsOf_30 ?_
          refine q_iload (pc := 31) dX8_kindsOf_31 rfl ?_
          refine q_imul (pc := 33) dX8_kindsOf_33 ?_
          refine q_iadd (pc := 34) dX8_kindsOf_34 ?_
          refine q_istore (pc := 35) [some _, some _, some _, some _, some _, some _, some _, _] dX8_kindsOf_35 rfl (Nat.le_of_ble_eq_true rfl) rfl ?_
          refine q_iload_n (pc := 37) dX8_kindsOf_37 rfl ?_
          refine q_aload_n (pc := 38) dX8_kindsOf_38 rfl rfl ?_
          refine q_getfield (pc := 39) gf_X8_7 dX8_kindsOf_39 (by assumption) rfl ?_
          refine q_iload (pc := 42) dX8_kindsOf_42 rfl ?_
          refine q_iconst (pc := 44) dX8_kindsOf_44 ?_
          refine q_iadd (pc := 45) dX8_kindsOf_45 ?_
          refine q_iaload (pc := 46) dX8_kindsOf_46 (by assumption) (by omega) ?_
          refine q_aload_n (pc := 47) dX8_kindsOf_47 rfl rfl ?_
          refine q_getfield (pc := 48) gf_X8_7 dX8_kindsOf_48 (by assumption) rfl ?_
          refine q_iload (pc := 51) dX8_kindsOf_51 rfl ?_
          refine q_iconst (pc := 53) dX8_kindsOf_53 ?_
          refine q_iadd (pc := 54) dX8_kindsOf_54 ?_
          refine q_iaload (pc := 55) dX8_kindsOf_55 (by assumption) (by omega) ?_
          refine q_invokestatic (pc := 56) (d' := d - 1) (mc' := 0) (ms' := 0) (As := [_, _, _]) cl_X8_87 dX8_kindsOf_56 rfl rfl (by omega) rfl 0 0 (Nat.le_refl 0) (Nat.le_refl 0) ?_
          refine c_X8_meltsBy (by omega) (by omega) (by omega) ?_
          refine q_aload_n (pc := 59) dX8_kindsOf_59 rfl rfl ?_
          refine q_getfield (pc := 60) gf_X8_7 dX8_kindsOf_60 (by assumption) rfl ?_
          refine q_iload (pc := 63) dX8_kindsOf_63 rfl ?_
          refine q_iconst (pc := 65) dX8_kindsOf_65 ?_
          refine q_iadd (pc := 66) dX8_kindsOf_66 ?_
          refine q_iaload (pc := 67) dX8_kindsOf_67 (by assumption) (by omega) ?_
          refine q_icmp_ne (pc := 68) (by omega) (by omega) 91 dX8_kindsOf_68 rfl (fun c68 => ?_) (fun c68 => ?_)
          · refine q_iconst (pc := 91) dX8_kindsOf_91 ?_
            first | (have h9 := J92; simp only [zb_t (show zmelt (m : Int) (N (108 + 5 * (n : Int) + 2)) (N (108 + 5 * (n : Int) + 1)) = N (108 + 5 * (n : Int) + 3) ∧ zcost (m : Int) = N (108 + 5 * (n : Int) + 4) by omega)] at h9; exact h9 _) | (have h9 := J92; simp only [zb_f (show ¬ (zmelt (m : Int) (N (108 + 5 * (n : Int) + 2)) (N (108 + 5 * (n : Int) + 1)) = N (108 + 5 * (n : Int) + 3) ∧ zcost (m : Int) = N (108 + 5 * (n : Int) + 4)) by omega)] at h9; exact h9 _)
          refine q_iload_n (pc := 71) dX8_kindsOf_71 rfl ?_
          refine q_invokestatic (pc := 72) (d' := d - 1) (mc' := 0) (ms' := 0) (As := [_]) cl_X8_217 dX8_kindsOf_72 rfl rfl (by omega) rfl 0 0 (Nat.le_refl 0) (Nat.le_refl 0) ?_
          refine c_X8_costBy (by omega) ?_
          refine q_aload_n (pc := 75) dX8_kindsOf_75 rfl rfl ?_
          refine q_getfield (pc := 76) gf_X8_7 dX8_kindsOf_76 (by assumption) rfl ?_
          refine q_iload (pc := 79) dX8_kindsOf_79 rfl ?_
          refine q_iconst (pc := 81) dX8_kindsOf_81 ?_
          refine q_iadd (pc := 82) dX8_kindsOf_82 ?_
          refine q_iaload (pc := 83) dX8_kindsOf_83 (by assumption) (by omega) ?_
          refine q_icmp_ne (pc := 84) (by omega) (by omega) 91 dX8_kindsOf_84 rfl (fun c84 => ?_) (fun c84 => ?_)
          · refine q_iconst (pc := 91) dX8_kindsOf_91 ?_
            first | (have h9 := J92; simp only [zb_t (show zmelt (m : Int) (N (108 + 5 * (n : Int) + 2)) (N (108 + 5 * (n : Int) + 1)) = N (108 + 5 * (n : Int) + 3) ∧ zcost (m : Int) = N (108 + 5 * (n : Int) + 4) by omega)] at h9; exact h9 _) | (have h9 := J92; simp only [zb_f (show ¬ (zmelt (m : Int) (N (108 + 5 * (n : Int) + 2)) (N (108 + 5 * (n : Int) + 1)) = N (108 + 5 * (n : Int) + 3) ∧ zcost (m : Int) = N (108 + 5 * (n : Int) + 4)) by omega)] at h9; exact h9 _)
          refine q_iconst (pc := 87) dX8_kindsOf_87 ?_
          refine q_goto (pc := 88) 92 dX8_kindsOf_88 rfl ?_
          first | (have h9 := J92; simp only [zb_t (show zmelt (m : Int) (N (108 + 5 * (n : Int) + 2)) (N (108 + 5 * (n : Int) + 1)) = N (108 + 5 * (n : Int) + 3) ∧ zcost (m : Int) = N (108 + 5 * (n : Int) + 4) by omega)] at h9; exact h9 _) | (have h9 := J92; simp only [zb_f (show ¬ (zmelt (m : Int) (N (108 + 5 * (n : Int) + 2)) (N (108 + 5 * (n : Int) + 1)) = N (108 + 5 * (n : Int) + 3) ∧ zcost (m : Int) = N (108 + 5 * (n : Int) + 4)) by omega)] at h9; exact h9 _)
      refine q_iload_n (pc := 4) dX8_kindsOf_4 rfl ?_
      refine q_bipush (pc := 5) (by decide) dX8_kindsOf_5 ?_
      refine q_icmp_ge (pc := 7) (by omega) (by omega) 149 dX8_kindsOf_7 rfl (fun c7 => ?_) (fun c7 => ?_)
      · exfalso; omega
      refine q_iconst (pc := 10) dX8_kindsOf_10 ?_
      refine q_istore (pc := 11) [some _, some _, some _, some _, some _, _, _, _] dX8_kindsOf_11 rfl (Nat.le_of_ble_eq_true rfl) rfl ?_
      refine q_iconst (pc := 13) dX8_kindsOf_13 ?_
      refine q_istore (pc := 14) [some _, some _, some _, some _, some _, some _, _, _] dX8_kindsOf_14 rfl (Nat.le_of_ble_eq_true rfl) rfl ?_
      exact L2 (N 6).toNat 0 _ _ (by omega)
  refine zenter [some _, some _, none, none, none, none, none, none] pn_X8 rfl (Nat.le_of_ble_eq_true rfl) ?_
  refine q_iconst (pc := 0) dX8_kindsOf_0 ?_
  refine q_istore_n (pc := 1) [some _, some _, some _, none, none, none, none, none] dX8_kindsOf_1 rfl (Nat.le_of_ble_eq_true rfl) rfl ?_
  refine q_iconst (pc := 2) dX8_kindsOf_2 ?_
  refine q_istore_n (pc := 3) [some _, some _, some _, some _, none, none, none, none] dX8_kindsOf_3 rfl (Nat.le_of_ble_eq_true rfl) rfl ?_
  exact L 6 0 _ _ _ _ (by omega)
set_option maxRecDepth 100000 in
set_option maxHeartbeats 8000000 in
theorem c_X8_sortsOf {c : Int} {N : Int → Int} {ab be u len p0 p1 p2 p3 p4 it sm : Int} (hd : 2 ≤ d) (h72 : w.1 72 = some (zMO g ab be u len p0 p1 p2 p3 p4 it sm)) (h73 : w.1 73 = some (.inr (false, 168, N))) (hO : zOK N) (hc : 0 ≤ c ∧ c < N 1) (k : K (some (zI (zwho N c))) w) : zCall g d 0 0 mX8_sortsOf [zR g 72, zI c] w K := by
  have hh := hO.1
  unfold zwho at k
  have L : ∀ (q m : Nat) (x4 x5 x6 x7 : Option Value), m + q = 6 → zRuns g d mX8_sortsOf 0 0 4 [some (zR g 72), some (zI c), some (zI (zbs (fun kd => zft N c kd (N 7).toNat) m)), some (zI (m : Int)), x4, x5, x6, x7] [] w K := by
    intro q
    induction q with
    | zero =>
      intro m x4 x5 x6 x7 h1
      obtain rfl : m = 6 := by omega
      refine q_iload_n (pc := 4) dX8_sortsOf_4 rfl ?_
      refine q_bipush (pc := 5) (by decide) dX8_sortsOf_5 ?_
      refine q_icmp_ge (pc := 7) (by omega) (by omega) 168 dX8_sortsOf_7 rfl (fun c7 => ?_) (fun c7 => ?_)
      · refine q_iload_n (pc := 168) dX8_sortsOf_168 rfl ?_
        refine q_ireturn (pc := 169) dX8_sortsOf_169 rfl ?_
        exact k
      exfalso; omega
    | succ q ih =>
      intro m x4 x5 x6 x7 h1
      have hih := fun a b c d => ih (m + 1) a b c d (by omega)
      have hR := zbs_R (p := fun kd => zft N c kd (N 7).toNat) m
      rw [zbs] at hih
      generalize hG : zbs (fun kd => zft N c kd (N 7).toNat) m = G at hih hR
      have L2 : ∀ (q2 n : Nat) (x6 x7 : Option Value), (n : Int) + (q2 : Int) = N 7 → zRuns g d mX8_sortsOf 0 0 16 [some (zR g 72), some (zI c), some (zI G), some (zI (m : Int)), some (zI (zb (zft N c (m : Int) n = true))), some (zI (n : Int)), x6, x7] [] w K := by
        intro q2
        induction q2 with
        | zero =>
          intro n x6 x7 h2
          have e : n = (N 7).toNat := by omega
          refine q_iload (pc := 16) dX8_sortsOf_16 rfl ?_
          refine q_aload_n (pc := 18) dX8_sortsOf_18 rfl rfl ?_
          refine q_getfield (pc := 19) gf_X8_7 dX8_sortsOf_19 (by assumption) rfl ?_
          refine q_bipush (pc := 22) (by decide) dX8_sortsOf_22 ?_
          refine q_iaload (pc := 24) dX8_sortsOf_24 (by assumption) (by omega) ?_
          refine q_icmp_ge (pc := 25) (by omega) (by omega) 147 dX8_sortsOf_25 rfl (fun c25 => ?_) (fun c25 => ?_)
          · refine q_iload_n (pc := 147) dX8_sortsOf_147 rfl ?_
            refine q_iload (pc := 148) dX8_sortsOf_148 rfl ?_
            refine q_ifb_eq (pc := 150) 159 dX8_sortsOf_150 rfl (fun c150 => ?_) (fun c150 => ?_)
            · refine q_iconst (pc := 159) dX8_sortsOf_159 ?_
              refine q_ior (pc := 160) dX8_sortsOf_160 ?_
              refine q_istore_n (pc := 161) [some _, some _, some _, some _, some _, some _, _, _] dX8_sortsOf_161 rfl (Nat.le_of_ble_eq_true rfl) rfl ?_
              refine q_iinc (pc := 162) [some _, some _, some _, some _, some _, some _, _, _] dX8_sortsOf_162 rfl rfl rfl ?_
              refine q_goto (pc := 165) 4 dX8_sortsOf_165 rfl ?_
              first | (rw [← e, if_pos c150] at hih; exact hih _ _ _ _) | (rw [← e, if_neg c150] at hih; rw [zor_0 hR]; exact hih _ _ _ _)
            refine q_iconst (pc := 153) dX8_sortsOf_153 ?_
            refine q_iload_n (pc := 154) dX8_sortsOf_154 rfl ?_
            refine q_ishl (pc := 155) dX8_sortsOf_155 ?_
            refine q_goto (pc := 156) 160 dX8_sortsOf_156 rfl ?_
            refine q_ior (pc := 160) dX8_sortsOf_160 ?_
            refine q_istore_n (pc := 161) [some _, some _, some _, some _, some _, some _, _, _] dX8_sortsOf_161 rfl (Nat.le_of_ble_eq_true rfl) rfl ?_
            refine q_iinc (pc := 162) [some _, some _, some _, some _, some _, some _, _, _] dX8_sortsOf_162 rfl rfl rfl ?_
            refine q_goto (pc := 165) 4 dX8_sortsOf_165 rfl ?_
            first | (rw [← e, if_pos c150] at hih; exact hih _ _ _ _) | (rw [← e, if_neg c150] at hih; rw [zor_0 hR]; exact hih _ _ _ _)
          exfalso; omega
        | succ q2 ih2 =>
          intro n x6 x7 h2
          have hih2 := fun a b => ih2 (n + 1) a b (by omega)
          have hb := zfl_b hO (i := (n : Int)) (by omega)
          rw [Int.add_zero] at hb
          have hl := hO.2.2.2.1 c (by omega) (by omega)
          have hmb := zfar_b (kind := (m : Int)) (a := N (74 + c)) (r := N (138 + 5 * (n : Int) + 1)) (v := N (138 + 5 * (n : Int) + 2)) (by omega) (by omega) (by omega)
          have hcb := zhits_b (kind := (m : Int)) (r := N (138 + 5 * (n : Int) + 1)) (by omega)
          have e1 : (zft N c (m : Int) (n + 1) = true) ↔ (zft N c (m : Int) n = true ∧ (N (138 + 5 * (n : Int)) ≠ c ∨ (zfar (m : Int) (N (74 + c)) (N (138 + 5 * (n : Int) + 1)) (N (138 + 5 * (n : Int) + 2)) = N (138 + 5 * (n : Int) + 3) ∧ zhits (m : Int) (N (138 + 5 * (n : Int) + 1)) = N (138 + 5 * (n : Int) + 4)))) := by
            rw [zft, Bool.and_eq_true, Bool.or_eq_true, decide_eq_true_eq, decide_eq_true_eq, Int.add_zero]
          have J120 : ∀ (x6 x7 : Option Value), zRuns g d mX8_sortsOf 0 0 139 [some (zR g 72), some (zI c), some (zI G), some (zI (m : Int)), some (zI (zb (zft N c (m : Int) n = true))), some (zI (n : Int)), x6, x7] [zI (zb (zft N c (m : Int) (n + 1) = true))] w K := by
            intro x6 x7
            refine q_istore (pc := 139) [some _, some _, some _, some _, some _, some _, _, _] dX8_sortsOf_139 rfl (Nat.le_of_ble_eq_true rfl) rfl ?_
            refine q_iinc (pc := 141) [some _, some _, some _, some _, some _, some _, _, _] dX8_sortsOf_141 rfl rfl rfl ?_
            refine q_goto (pc := 144) 16 dX8_sortsOf_144 rfl ?_
            exact hih2 _ _
          have J92 : ∀ (x7 : Option Value), zRuns g d mX8_sortsOf 0 0 111 [some (zR g 72), some (zI c), some (zI G), some (zI (m : Int)), some (zI (zb (zft N c (m : Int) n = true))), some (zI (n : Int)), some (zI (138 + 5 * (n : Int))), x7] [zI (zb (zfar (m : Int) (N (74 + c)) (N (138 + 5 * (n : Int) + 1)) (N (138 + 5 * (n : Int) + 2)) = N (138 + 5 * (n : Int) + 3) ∧ zhits (m : Int) (N (138 + 5 * (n : Int) + 1)) = N (138 + 5 * (n : Int) + 4)))] w K := by
            intro x7
            refine q_istore (pc := 111) [some _, some _, some _, some _, some _, some _, some _, some _] dX8_sortsOf_111 rfl (Nat.le_of_ble_eq_true rfl) rfl ?_
            refine q_iload (pc := 113) dX8_sortsOf_113 rfl ?_
            refine q_ifb_eq (pc := 115) 138 dX8_sortsOf_115 rfl (fun c115 => ?_) (fun c115 => ?_)
            · refine q_iconst (pc := 138) dX8_sortsOf_138 ?_
              first | (have h9 := J120; simp only [zb_t (e1.mpr ⟨c115, Or.inl c126⟩)] at h9; exact h9 _ _) | (have h9 := J120; simp only [zb_t (e1.mpr ⟨c115, Or.inr c131⟩)] at h9; exact h9 _ _) | (have h9 := J120; simp only [zb_f (fun z => c115 (e1.mp z).1)] at h9; exact h9 _ _) | (have h9 := J120; simp only [zb_f (fun z => (e1.mp z).2.elim (fun y => y c126) c131)] at h9; exact h9 _ _)
            refine q_aload_n (pc := 118) dX8_sortsOf_118 rfl rfl ?_
            refine q_getfield (pc := 119) gf_X8_7 dX8_sortsOf_119 (by assumption) rfl ?_
            refine q_iload (pc := 122) dX8_sortsOf_122 rfl ?_
            refine q_iaload (pc := 124) dX8_sortsOf_124 (by assumption) (by omega) ?_
            refine q_iload_n (pc := 125) dX8_sortsOf_125 rfl ?_
            refine q_icmp_ne (pc := 126) (by omega) (by omega) 134 dX8_sortsOf_126 rfl (fun c126 => ?_) (fun c126 => ?_)
            · refine q_iconst (pc := 134) dX8_sortsOf_134 ?_
              refine q_goto (pc := 135) 139 dX8_sortsOf_135 rfl ?_
              first | (have h9 := J120; simp only [zb_t (e1.mpr ⟨c115, Or.inl c126⟩)] at h9; exact h9 _ _) | (have h9 := J120; simp only [zb_t (e1.mpr ⟨c115, Or.inr c131⟩)] at h9; exact h9 _ _) | (have h9 := J120; simp only [zb_f (fun z => c115 (e1.mp z).1)] at h9; exact h9 _ _) | (have h9 := J120; simp only [zb_f (fun z => (e1.mp z).2.elim (fun y => y c126) c131)] at h9; exact h9 _ _)
            refine q_iload (pc := 129) dX8_sortsOf_129 rfl ?_
            refine q_ifb_eq (pc := 131) 138 dX8_sortsOf_131 rfl (fun c131 => ?_) (fun c131 => ?_)
            · refine q_iconst (pc := 138) dX8_sortsOf_138 ?_
              first | (have h9 := J120; simp only [zb_t (e1.mpr ⟨c115, Or.inl c126⟩)] at h9; exact h9 _ _) | (have h9 := J120; simp only [zb_t (e1.mpr ⟨c115, Or.inr c131⟩)] at h9; exact h9 _ _) | (have h9 := J120; simp only [zb_f (fun z => c115 (e1.mp z).1)] at h9; exact h9 _ _) | (have h9 := J120; simp only [zb_f (fun z => (e1.mp z).2.elim (fun y => y c126) c131)] at h9; exact h9 _ _)
            refine q_iconst (pc := 134) dX8_sortsOf_134 ?_
            refine q_goto (pc := 135) 139 dX8_sortsOf_135 rfl ?_
            first | (have h9 := J120; simp only [zb_t (e1.mpr ⟨c115, Or.inl c126⟩)] at h9; exact h9 _ _) | (have h9 := J120; simp only [zb_t (e1.mpr ⟨c115, Or.inr c131⟩)] at h9; exact h9 _ _) | (have h9 := J120; simp only [zb_f (fun z => c115 (e1.mp z).1)] at h9; exact h9 _ _) | (have h9 := J120; simp only [zb_f (fun z => (e1.mp z).2.elim (fun y => y c126) c131)] at h9; exact h9 _ _)
          refine q_iload (pc := 16) dX8_sortsOf_16 rfl ?_
          refine q_aload_n (pc := 18) dX8_sortsOf_18 rfl rfl ?_
          refine q_getfield (pc := 19) gf_X8_7 dX8_sortsOf_19 (by assumption) rfl ?_
          refine q_bipush (pc := 22) (by decide) dX8_sortsOf_22 ?_
          refine q_iaload (pc := 24) dX8_sortsOf_24 (by assumption) (by omega) ?_
          refine q_icmp_ge (pc := 25) (by omega) (by omega) 147 dX8_sortsOf_25 rfl (fun c25 => ?_) (fun c25 => ?_)
          · exfalso; omega
          refine q_sipush (pc := 28) (by decide) dX8_sortsOf_28 ?_
          refine q_iconst (pc := 31) dX8_sortsOf_31 ?_
          refine q_iload (pc := 32) dX8_sortsOf_32 rfl ?_
          refine q_imul (pc := 34) dX8_sortsOf_34 ?_
          refine q_iadd (pc := 35) dX8_sortsOf_35 ?_
          refine q_istore (pc := 36) [some _, some _, some _, some _, some _, some _, some _, _] dX8_sortsOf_36 rfl (Nat.le_of_ble_eq_true rfl) rfl ?_
          refine q_iload_n (pc := 38) dX8_sortsOf_38 rfl ?_
          refine q_aload_n (pc := 39) dX8_sortsOf_39 rfl rfl ?_
          refine q_getfield (pc := 40) gf_X8_7 dX8_sortsOf_40 (by assumption) rfl ?_
          refine q_bipush (pc := 43) (by decide) dX8_sortsOf_43 ?_
          refine q_iload_n (pc := 45) dX8_sortsOf_45 rfl ?_
          refine q_iadd (pc := 46) dX8_sortsOf_46 ?_
          refine q_iaload (pc := 47) dX8_sortsOf_47 (by assumption) (by omega) ?_
          refine q_aload_n (pc := 48) dX8_sortsOf_48 rfl rfl ?_
          refine q_getfield (pc := 49) gf_X8_7 dX8_sortsOf_49 (by assumption) rfl ?_
          refine q_iload (pc := 52) dX8_sortsOf_52 rfl ?_
          refine q_iconst (pc := 54) dX8_sortsOf_54 ?_
          refine q_iadd (pc := 55) dX8_sortsOf_55 ?_
          refine q_iaload (pc := 56) dX8_sortsOf_56 (by assumption) (by omega) ?_
          refine q_aload_n (pc := 57) dX8_sortsOf_57 rfl rfl ?_
          refine q_getfield (pc := 58) gf_X8_7 dX8_sortsOf_58 (by assumption) rfl ?_
          refine q_iload (pc := 61) dX8_sortsOf_61 rfl ?_
          refine q_iconst (pc := 63) dX8_sortsOf_63 ?_
          refine q_iadd (pc := 64) dX8_sortsOf_64 ?_
          refine q_iaload (pc := 65) dX8_sortsOf_65 (by assumption) (by omega) ?_
          refine q_invokestatic (pc := 66) (d' := d - 1) (mc' := 0) (ms' := 0) (As := [_, _, _, _]) cl_X8_71 dX8_sortsOf_66 rfl rfl (by omega) rfl 0 0 (Nat.le_refl 0) (Nat.le_refl 0) ?_
          refine c_X8_farBy (by omega) (by omega) (by omega) (by omega) (by omega) ?_
          refine q_aload_n (pc := 69) dX8_sortsOf_69 rfl rfl ?_
          refine q_getfield (pc := 70) gf_X8_7 dX8_sortsOf_70 (by assumption) rfl ?_
          refine q_iload (pc := 73) dX8_sortsOf_73 rfl ?_
          refine q_iconst (pc := 75) dX8_sortsOf_75 ?_
          refine q_iadd (pc := 76) dX8_sortsOf_76 ?_
          refine q_iaload (pc := 77) dX8_sortsOf_77 (by assumption) (by omega) ?_
          refine q_icmp_ne (pc := 78) (by omega) (by omega) 110 dX8_sortsOf_78 rfl (fun c78 => ?_) (fun c78 => ?_)
          · refine q_iconst (pc := 110) dX8_sortsOf_110 ?_
            first | (have h9 := J92; simp only [zb_t (show zfar (m : Int) (N (74 + c)) (N (138 + 5 * (n : Int) + 1)) (N (138 + 5 * (n : Int) + 2)) = N (138 + 5 * (n : Int) + 3) ∧ zhits (m : Int) (N (138 + 5 * (n : Int) + 1)) = N (138 + 5 * (n : Int) + 4) by omega)] at h9; exact h9 _) | (have h9 := J92; simp only [zb_f (show ¬ (zfar (m : Int) (N (74 + c)) (N (138 + 5 * (n : Int) + 1)) (N (138 + 5 * (n : Int) + 2)) = N (138 + 5 * (n : Int) + 3) ∧ zhits (m : Int) (N (138 + 5 * (n : Int) + 1)) = N (138 + 5 * (n : Int) + 4)) by omega)] at h9; exact h9 _)
          refine q_iload_n (pc := 81) dX8_sortsOf_81 rfl ?_
          refine q_aload_n (pc := 82) dX8_sortsOf_82 rfl rfl ?_
          refine q_getfield (pc := 83) gf_X8_7 dX8_sortsOf_83 (by assumption) rfl ?_
          refine q_iload (pc := 86) dX8_sortsOf_86 rfl ?_
          refine q_iconst (pc := 88) dX8_sortsOf_88 ?_
          refine q_iadd (pc := 89) dX8_sortsOf_89 ?_
          refine q_iaload (pc := 90) dX8_sortsOf_90 (by assumption) (by omega) ?_
          refine q_invokestatic (pc := 91) (d' := d - 1) (mc' := 0) (ms' := 0) (As := [_, _]) cl_X8_75 dX8_sortsOf_91 rfl rfl (by omega) rfl 0 0 (Nat.le_refl 0) (Nat.le_refl 0) ?_
          refine c_X8_hitsBy (by omega) (by omega) (by omega) ?_
          refine q_aload_n (pc := 94) dX8_sortsOf_94 rfl rfl ?_
          refine q_getfield (pc := 95) gf_X8_7 dX8_sortsOf_95 (by assumption) rfl ?_
          refine q_iload (pc := 98) dX8_sortsOf_98 rfl ?_
          refine q_iconst (pc := 100) dX8_sortsOf_100 ?_
          refine q_iadd (pc := 101) dX8_sortsOf_101 ?_
          refine q_iaload (pc := 102) dX8_sortsOf_102 (by assumption) (by omega) ?_
          refine q_icmp_ne (pc := 103) (by omega) (by omega) 110 dX8_sortsOf_103 rfl (fun c103 => ?_) (fun c103 => ?_)
          · refine q_iconst (pc := 110) dX8_sortsOf_110 ?_
            first | (have h9 := J92; simp only [zb_t (show zfar (m : Int) (N (74 + c)) (N (138 + 5 * (n : Int) + 1)) (N (138 + 5 * (n : Int) + 2)) = N (138 + 5 * (n : Int) + 3) ∧ zhits (m : Int) (N (138 + 5 * (n : Int) + 1)) = N (138 + 5 * (n : Int) + 4) by omega)] at h9; exact h9 _) | (have h9 := J92; simp only [zb_f (show ¬ (zfar (m : Int) (N (74 + c)) (N (138 + 5 * (n : Int) + 1)) (N (138 + 5 * (n : Int) + 2)) = N (138 + 5 * (n : Int) + 3) ∧ zhits (m : Int) (N (138 + 5 * (n : Int) + 1)) = N (138 + 5 * (n : Int) + 4)) by omega)] at h9; exact h9 _)
          refine q_iconst (pc := 106) dX8_sortsOf_106 ?_
          refine q_goto (pc := 107) 111 dX8_sortsOf_107 rfl ?_
          first | (have h9 := J92; simp only [zb_t (show zfar (m : Int) (N (74 + c)) (N (138 + 5 * (n : Int) + 1)) (N (138 + 5 * (n : Int) + 2)) = N (138 + 5 * (n : Int) + 3) ∧ zhits (m : Int) (N (138 + 5 * (n : Int) + 1)) = N (138 + 5 * (n : Int) + 4) by omega)] at h9; exact h9 _) | (have h9 := J92; simp only [zb_f (show ¬ (zfar (m : Int) (N (74 + c)) (N (138 + 5 * (n : Int) + 1)) (N (138 + 5 * (n : Int) + 2)) = N (138 + 5 * (n : Int) + 3) ∧ zhits (m : Int) (N (138 + 5 * (n : Int) + 1)) = N (138 + 5 * (n : Int) + 4)) by omega)] at h9; exact h9 _)
      refine q_iload_n (pc := 4) dX8_sortsOf_4 rfl ?_
      refine q_bipush (pc := 5) (by decide) dX8_sortsOf_5 ?_
      refine q_icmp_ge (pc := 7) (by omega) (by omega) 168 dX8_sortsOf_7 rfl (fun c7 => ?_) (fun c7 => ?_)
      · exfalso; omega
      refine q_iconst (pc := 10) dX8_sortsOf_10 ?_
      refine q_istore (pc := 11) [some _, some _, some _, some _, some _, _, _, _] dX8_sortsOf_11 rfl (Nat.le_of_ble_eq_true rfl) rfl ?_
      refine q_iconst (pc := 13) dX8_sortsOf_13 ?_
      refine q_istore (pc := 14) [some _, some _, some _, some _, some _, some _, _, _] dX8_sortsOf_14 rfl (Nat.le_of_ble_eq_true rfl) rfl ?_
      exact L2 (N 7).toNat 0 _ _ (by omega)
  refine zenter [some _, some _, none, none, none, none, none, none] pn_X8 rfl (Nat.le_of_ble_eq_true rfl) ?_
  refine q_iconst (pc := 0) dX8_sortsOf_0 ?_
  refine q_istore_n (pc := 1) [some _, some _, some _, none, none, none, none, none] dX8_sortsOf_1 rfl (Nat.le_of_ble_eq_true rfl) rfl ?_
  refine q_iconst (pc := 2) dX8_sortsOf_2 ?_
  refine q_istore_n (pc := 3) [some _, some _, some _, some _, none, none, none, none] dX8_sortsOf_3 rfl (Nat.le_of_ble_eq_true rfl) rfl ?_
  exact L 6 0 _ _ _ _ (by omega)
set_option maxRecDepth 100000 in
set_option maxHeartbeats 8000000 in
theorem c_X8_is {c : Int} (hd : 6 ≤ d) (hC : zMo g w S) (hO : zOKS S) (h_c : zR32 c) (k : ∀ w', zSame w w' 72 16 → zMo g w' (o_is S c).2 → K (some (zI (o_is S c).1)) w') : zCall g d 0 0 mX8_is [zR g 72, zI c] w K := by
  obtain ⟨⟨p0, p1, p2, p3, p4, it, sm, h72⟩, h73, h74, h75, h76, hScr, h84, h85, h86, h87⟩ := id hC
  have hO1 := hO.1
  have hO2 := hO1.1
  have hO3 := hO2.1
  refine zenter [some _, some _] pn_X8 rfl (Nat.le_of_ble_eq_true rfl) ?_
  refine q_aload_n (pc := 0) dX8_is_0 rfl rfl ?_
  refine q_iload_n (pc := 1) dX8_is_1 rfl ?_
  refine q_invokevirtual (pc := 2) (d' := d - 1) (mc' := 0) (ms' := 0) (As := [_]) (TX8, 26) cl_X8_116 dX8_is_2 rfl rfl (by first | assumption | exact zup_at | exact (zup_ne (by decide)).trans (zup_at) | exact (zup_ne (by decide)).trans (by assumption) | exact (zup_ne (by decide)).trans ((zup_ne (by decide)).trans (zup_at)) | exact (zup_ne (by decide)).trans ((zup_ne (by decide)).trans (by assumption)) | exact (zup_ne (by decide)).trans ((zup_ne (by decide)).trans ((zup_ne (by decide)).trans (zup_at))) | exact (zup_ne (by decide)).trans ((zup_ne (by decide)).trans ((zup_ne (by decide)).trans (by assumption))) | exact (zup_ne (by decide)).trans ((zup_ne (by decide)).trans ((zup_ne (by decide)).trans ((zup_ne (by decide)).trans (zup_at)))) | exact (zup_ne (by decide)).trans ((zup_ne (by decide)).trans ((zup_ne (by decide)).trans ((zup_ne (by decide)).trans (by assumption)))) | exact (zup_ne (by decide)).trans ((zup_ne (by decide)).trans ((zup_ne (by decide)).trans ((zup_ne (by decide)).trans ((zup_ne (by decide)).trans (zup_at))))) | exact (zup_ne (by decide)).trans ((zup_ne (by decide)).trans ((zup_ne (by decide)).trans ((zup_ne (by decide)).trans ((zup_ne (by decide)).trans (by assumption)))))) rfl (by omega) rfl 0 0 (Nat.le_refl 0) (Nat.le_refl 0) ?_
  refine c_X8_isCellar (by omega) h72 h73 hO3 (by omega) ?_
  refine q_ifb_eq (pc := 5) 16 dX8_is_5 rfl (fun c5 => ?_) (fun c5 => ?_)
  · refine q_aload_n (pc := 16) dX8_is_16 rfl rfl ?_
    refine q_invokevirtual (pc := 17) (d' := d - 1) (mc' := 0) (ms' := 0) (As := []) (TX8, 26) cl_X8_103 dX8_is_17 rfl rfl (by first | assumption | exact zup_at | exact (zup_ne (by decide)).trans (zup_at) | exact (zup_ne (by decide)).trans (by assumption) | exact (zup_ne (by decide)).trans ((zup_ne (by decide)).trans (zup_at)) | exact (zup_ne (by decide)).trans ((zup_ne (by decide)).trans (by assumption)) | exact (zup_ne (by decide)).trans ((zup_ne (by decide)).trans ((zup_ne (by decide)).trans (zup_at))) | exact (zup_ne (by decide)).trans ((zup_ne (by decide)).trans ((zup_ne (by decide)).trans (by assumption))) | exact (zup_ne (by decide)).trans ((zup_ne (by decide)).trans ((zup_ne (by decide)).trans ((zup_ne (by decide)).trans (zup_at)))) | exact (zup_ne (by decide)).trans ((zup_ne (by decide)).trans ((zup_ne (by decide)).trans ((zup_ne (by decide)).trans (by assumption)))) | exact (zup_ne (by decide)).trans ((zup_ne (by decide)).trans ((zup_ne (by decide)).trans ((zup_ne (by decide)).trans ((zup_ne (by decide)).trans (zup_at))))) | exact (zup_ne (by decide)).trans ((zup_ne (by decide)).trans ((zup_ne (by decide)).trans ((zup_ne (by decide)).trans ((zup_ne (by decide)).trans (by assumption)))))) rfl (by omega) rfl 0 0 (Nat.le_refl 0) (Nat.le_refl 0) ?_
    refine c_X8_bad hC (fun w9 hs9 hC9 => ?_)
    refine q_ireturn (pc := 20) dX8_is_20 rfl ?_
    first | exact zgm k (by unfold o_is; exact ((if_pos (by omega)).trans rfl)) zSame.rf hC | exact zgm k (by unfold o_is; exact ((if_neg (by omega)).trans rfl)) hs9 hC9
  refine q_aload_n (pc := 8) dX8_is_8 rfl rfl ?_
  refine q_iload_n (pc := 9) dX8_is_9 rfl ?_
  refine q_invokevirtual (pc := 10) (d' := d - 1) (mc' := 0) (ms' := 0) (As := [_]) (TX8, 26) cl_X8_285 dX8_is_10 rfl rfl (by first | assumption | exact zup_at | exact (zup_ne (by decide)).trans (zup_at) | exact (zup_ne (by decide)).trans (by assumption) | exact (zup_ne (by decide)).trans ((zup_ne (by decide)).trans (zup_at)) | exact (zup_ne (by decide)).trans ((zup_ne (by decide)).trans (by assumption)) | exact (zup_ne (by decide)).trans ((zup_ne (by decide)).trans ((zup_ne (by decide)).trans (zup_at))) | exact (zup_ne (by decide)).trans ((zup_ne (by decide)).trans ((zup_ne (by decide)).trans (by assumption))) | exact (zup_ne (by decide)).trans ((zup_ne (by decide)).trans ((zup_ne (by decide)).trans ((zup_ne (by decide)).trans (zup_at)))) | exact (zup_ne (by decide)).trans ((zup_ne (by decide)).trans ((zup_ne (by decide)).trans ((zup_ne (by decide)).trans (by assumption)))) | exact (zup_ne (by decide)).trans ((zup_ne (by decide)).trans ((zup_ne (by decide)).trans ((zup_ne (by decide)).trans ((zup_ne (by decide)).trans (zup_at))))) | exact (zup_ne (by decide)).trans ((zup_ne (by decide)).trans ((zup_ne (by decide)).trans ((zup_ne (by decide)).trans ((zup_ne (by decide)).trans (by assumption)))))) rfl (by omega) rfl 0 0 (Nat.le_refl 0) (Nat.le_refl 0) ?_
  refine c_X8_kindsOf (by omega) h72 h73 hO2 (by omega) ?_
  refine q_goto (pc := 13) 20 dX8_is_13 rfl ?_
  refine q_ireturn (pc := 20) dX8_is_20 rfl ?_
  first | exact zgm k (by unfold o_is; exact ((if_pos (by omega)).trans rfl)) zSame.rf hC | exact zgm k (by unfold o_is; exact ((if_neg (by omega)).trans rfl)) hs9 hC9
set_option maxRecDepth 100000 in
set_option maxHeartbeats 8000000 in
theorem c_X8_who {s : Int} (hd : 6 ≤ d) (hC : zMo g w S) (hO : zOKS S) (h_s : zR32 s) (k : ∀ w', zSame w w' 72 16 → zMo g w' (o_who S s).2 → K (some (zI (o_who S s).1)) w') : zCall g d 0 0 mX8_who [zR g 72, zI s] w K := by
  obtain ⟨⟨p0, p1, p2, p3, p4, it, sm, h72⟩, h73, h74, h75, h76, hScr, h84, h85, h86, h87⟩ := id hC
  have hO1 := hO.1
  have hO2 := hO1.1
  have hO3 := hO2.1
  refine zenter [some _, some _] pn_X8 rfl (Nat.le_of_ble_eq_true rfl) ?_
  refine q_aload_n (pc := 0) dX8_who_0 rfl rfl ?_
  refine q_iload_n (pc := 1) dX8_who_1 rfl ?_
  refine q_invokevirtual (pc := 2) (d' := d - 1) (mc' := 0) (ms' := 0) (As := [_]) (TX8, 26) cl_X8_223 dX8_who_2 rfl rfl (by first | assumption | exact zup_at | exact (zup_ne (by decide)).trans (zup_at) | exact (zup_ne (by decide)).trans (by assumption) | exact (zup_ne (by decide)).trans ((zup_ne (by decide)).trans (zup_at)) | exact (zup_ne (by decide)).trans ((zup_ne (by decide)).trans (by assumption)) | exact (zup_ne (by decide)).trans ((zup_ne (by decide)).trans ((zup_ne (by decide)).trans (zup_at))) | exact (zup_ne (by decide)).trans ((zup_ne (by decide)).trans ((zup_ne (by decide)).trans (by assumption))) | exact (zup_ne (by decide)).trans ((zup_ne (by decide)).trans ((zup_ne (by decide)).trans ((zup_ne (by decide)).trans (zup_at)))) | exact (zup_ne (by decide)).trans ((zup_ne (by decide)).trans ((zup_ne (by decide)).trans ((zup_ne (by decide)).trans (by assumption)))) | exact (zup_ne (by decide)).trans ((zup_ne (by decide)).trans ((zup_ne (by decide)).trans ((zup_ne (by decide)).trans ((zup_ne (by decide)).trans (zup_at))))) | exact (zup_ne (by decide)).trans ((zup_ne (by decide)).trans ((zup_ne (by decide)).trans ((zup_ne (by decide)).trans ((zup_ne (by decide)).trans (by assumption)))))) rfl (by omega) rfl 0 0 (Nat.le_refl 0) (Nat.le_refl 0) ?_
  refine c_X8_isSlinger (by omega) h72 h73 hO3 (by omega) ?_
  refine q_ifb_eq (pc := 5) 16 dX8_who_5 rfl (fun c5 => ?_) (fun c5 => ?_)
  · refine q_aload_n (pc := 16) dX8_who_16 rfl rfl ?_
    refine q_invokevirtual (pc := 17) (d' := d - 1) (mc' := 0) (ms' := 0) (As := []) (TX8, 26) cl_X8_103 dX8_who_17 rfl rfl (by first | assumption | exact zup_at | exact (zup_ne (by decide)).trans (zup_at) | exact (zup_ne (by decide)).trans (by assumption) | exact (zup_ne (by decide)).trans ((zup_ne (by decide)).trans (zup_at)) | exact (zup_ne (by decide)).trans ((zup_ne (by decide)).trans (by assumption)) | exact (zup_ne (by decide)).trans ((zup_ne (by decide)).trans ((zup_ne (by decide)).trans (zup_at))) | exact (zup_ne (by decide)).trans ((zup_ne (by decide)).trans ((zup_ne (by decide)).trans (by assumption))) | exact (zup_ne (by decide)).trans ((zup_ne (by decide)).trans ((zup_ne (by decide)).trans ((zup_ne (by decide)).trans (zup_at)))) | exact (zup_ne (by decide)).trans ((zup_ne (by decide)).trans ((zup_ne (by decide)).trans ((zup_ne (by decide)).trans (by assumption)))) | exact (zup_ne (by decide)).trans ((zup_ne (by decide)).trans ((zup_ne (by decide)).trans ((zup_ne (by decide)).trans ((zup_ne (by decide)).trans (zup_at))))) | exact (zup_ne (by decide)).trans ((zup_ne (by decide)).trans ((zup_ne (by decide)).trans ((zup_ne (by decide)).trans ((zup_ne (by decide)).trans (by assumption)))))) rfl (by omega) rfl 0 0 (Nat.le_refl 0) (Nat.le_refl 0) ?_
    refine c_X8_bad hC (fun w9 hs9 hC9 => ?_)
    refine q_ireturn (pc := 20) dX8_who_20 rfl ?_
    first | exact zgm k (by unfold o_who; exact ((if_pos (by omega)).trans rfl)) zSame.rf hC | exact zgm k (by unfold o_who; exact ((if_neg (by omega)).trans rfl)) hs9 hC9
  refine q_aload_n (pc := 8) dX8_who_8 rfl rfl ?_
  refine q_iload_n (pc := 9) dX8_who_9 rfl ?_
  refine q_invokevirtual (pc := 10) (d' := d - 1) (mc' := 0) (ms' := 0) (As := [_]) (TX8, 26) cl_X8_295 dX8_who_10 rfl rfl (by first | assumption | exact zup_at | exact (zup_ne (by decide)).trans (zup_at) | exact (zup_ne (by decide)).trans (by assumption) | exact (zup_ne (by decide)).trans ((zup_ne (by decide)).trans (zup_at)) | exact (zup_ne (by decide)).trans ((zup_ne (by decide)).trans (by assumption)) | exact (zup_ne (by decide)).trans ((zup_ne (by decide)).trans ((zup_ne (by decide)).trans (zup_at))) | exact (zup_ne (by decide)).trans ((zup_ne (by decide)).trans ((zup_ne (by decide)).trans (by assumption))) | exact (zup_ne (by decide)).trans ((zup_ne (by decide)).trans ((zup_ne (by decide)).trans ((zup_ne (by decide)).trans (zup_at)))) | exact (zup_ne (by decide)).trans ((zup_ne (by decide)).trans ((zup_ne (by decide)).trans ((zup_ne (by decide)).trans (by assumption)))) | exact (zup_ne (by decide)).trans ((zup_ne (by decide)).trans ((zup_ne (by decide)).trans ((zup_ne (by decide)).trans ((zup_ne (by decide)).trans (zup_at))))) | exact (zup_ne (by decide)).trans ((zup_ne (by decide)).trans ((zup_ne (by decide)).trans ((zup_ne (by decide)).trans ((zup_ne (by decide)).trans (by assumption)))))) rfl (by omega) rfl 0 0 (Nat.le_refl 0) (Nat.le_refl 0) ?_
  refine c_X8_sortsOf (by omega) h72 h73 hO2 (by omega) ?_
  refine q_goto (pc := 13) 20 dX8_who_13 rfl ?_
  refine q_ireturn (pc := 20) dX8_who_20 rfl ?_
  first | exact zgm k (by unfold o_who; exact ((if_pos (by omega)).trans rfl)) zSame.rf hC | exact zgm k (by unfold o_who; exact ((if_neg (by omega)).trans rfl)) hs9 hC9
set_option maxRecDepth 100000 in
set_option maxHeartbeats 8000000 in
theorem c_X8_mostAlike {set : Int} {sh : Int → Int} {ab be u len p0 p1 p2 p3 p4 it sm : Int} (hd : 1 ≤ d) (h72 : w.1 72 = some (zMO g ab be u len p0 p1 p2 p3 p4 it sm)) (h82 : w.1 82 = some (.inr (false, 6, sh))) (hs : ∀ i, 0 ≤ i → i < 6 → zR32 (sh i)) (k : K (some (zI (zmost set sh))) w) : zCall g d 0 0 mX8_mostAlike [zR g 72, zI set] w K := by
  unfold zmost at k
  have L : ∀ (q m : Nat) (x y : Option Value), m + q = 6 → zRuns g d mX8_mostAlike 0 0 4 [some (zR g 72), some (zI set), some (zI (zmx (fun a => zsg (fun b => zb (zhas set a ∧ zhas set b ∧ sh a = sh b)) 6 0) m)), some (zI (m : Int)), x, y] [] w K := by
    intro q
    induction q with
    | zero =>
      intro m x y hm
      obtain rfl : m = 6 := by omega
      refine q_iload_n (pc := 4) dX8_mostAlike_4 rfl ?_
      refine q_bipush (pc := 5) (by decide) dX8_mostAlike_5 ?_
      refine q_icmp_ge (pc := 7) (by omega) (by omega) 91 dX8_mostAlike_7 rfl (fun c7 => ?_) (fun c7 => ?_)
      · refine q_iload_n (pc := 91) dX8_mostAlike_91 rfl ?_
        refine q_ireturn (pc := 92) dX8_mostAlike_92 rfl ?_
        exact k
      exfalso; omega
    | succ q ih =>
      intro m x y hm
      have hih := fun x y => ih (m + 1) x y (by omega)
      have hsm := hs (m : Int) (by omega) (by omega)
      have hb6 := zsg_b (f := fun b => zb (zhas set (m : Int) ∧ zhas set b ∧ sh (m : Int) = sh b)) (B := 1) (m := 6) (a := 0) (fun _ _ _ => zb_b)
      have hbm := zmx_b (f := fun a => zsg (fun b => zb (zhas set a ∧ zhas set b ∧ sh a = sh b)) 6 0) (B := 6) (by omega) (m := m) (fun a _ _ => by
        have := zsg_b (f := fun b => zb (zhas set a ∧ zhas set b ∧ sh a = sh b)) (B := 1) (m := 6) (a := 0) (fun _ _ _ => zb_b)
        omega)
      rw [zmx] at hih
      generalize hG : zmx (fun a => zsg (fun b => zb (zhas set a ∧ zhas set b ∧ sh a = sh b)) 6 0) m = G at hih hbm
      have L2 : ∀ (q2 n : Nat), n + q2 = 6 → zRuns g d mX8_mostAlike 0 0 16 [some (zR g 72), some (zI set), some (zI G), some (zI (m : Int)), some (zI (zsg (fun b => zb (zhas set (m : Int) ∧ zhas set b ∧ sh (m : Int) = sh b)) n 0)), some (zI (n : Int))] [] w K := by
        intro q2
        induction q2 with
        | zero =>
          intro n hn
          obtain rfl : n = 6 := by omega
          refine q_iload (pc := 16) dX8_mostAlike_16 rfl ?_
          refine q_bipush (pc := 18) (by decide) dX8_mostAlike_18 ?_
          refine q_icmp_ge (pc := 20) (by omega) (by omega) 72 dX8_mostAlike_20 rfl (fun c20 => ?_) (fun c20 => ?_)
          · refine q_iload (pc := 72) dX8_mostAlike_72 rfl ?_
            refine q_iload_n (pc := 74) dX8_mostAlike_74 rfl ?_
            refine q_icmp_le (pc := 75) (by omega) (by omega) 83 dX8_mostAlike_75 rfl (fun c75 => ?_) (fun c75 => ?_)
            · refine q_iload_n (pc := 83) dX8_mostAlike_83 rfl ?_
              refine q_istore_n (pc := 84) [some _, some _, some _, some _, some _, some _] dX8_mostAlike_84 rfl (Nat.le_of_ble_eq_true rfl) rfl ?_
              refine q_iinc (pc := 85) [some _, some _, some _, some _, some _, some _] dX8_mostAlike_85 rfl rfl rfl ?_
              refine q_goto (pc := 88) 4 dX8_mostAlike_88 rfl ?_
              first | (rw [show max G (zsg (fun b => zb (zhas set (m : Int) ∧ zhas set b ∧ sh (m : Int) = sh b)) 6 0) = zsg (fun b => zb (zhas set (m : Int) ∧ zhas set b ∧ sh (m : Int) = sh b)) 6 0 by omega] at hih; exact hih _ _) | (rw [show max G (zsg (fun b => zb (zhas set (m : Int) ∧ zhas set b ∧ sh (m : Int) = sh b)) 6 0) = G by omega] at hih; exact hih _ _)
            refine q_iload (pc := 78) dX8_mostAlike_78 rfl ?_
            refine q_goto (pc := 80) 84 dX8_mostAlike_80 rfl ?_
            refine q_istore_n (pc := 84) [some _, some _, some _, some _, some _, some _] dX8_mostAlike_84 rfl (Nat.le_of_ble_eq_true rfl) rfl ?_
            refine q_iinc (pc := 85) [some _, some _, some _, some _, some _, some _] dX8_mostAlike_85 rfl rfl rfl ?_
            refine q_goto (pc := 88) 4 dX8_mostAlike_88 rfl ?_
            first | (rw [show max G (zsg (fun b => zb (zhas set (m : Int) ∧ zhas set b ∧ sh (m : Int) = sh b)) 6 0) = zsg (fun b => zb (zhas set (m : Int) ∧ zhas set b ∧ sh (m : Int) = sh b)) 6 0 by omega] at hih; exact hih _ _) | (rw [show max G (zsg (fun b => zb (zhas set (m : Int) ∧ zhas set b ∧ sh (m : Int) = sh b)) 6 0) = G by omega] at hih; exact hih _ _)
          exfalso; omega
        | succ q2 ih2 =>
          intro n hn
          have hsn := hs (n : Int) (by omega) (by omega)
          have hih2 := ih2 (n + 1) (by omega)
          rw [zsg, Int.zero_add] at hih2
          refine q_iload (pc := 16) dX8_mostAlike_16 rfl ?_
          refine q_bipush (pc := 18) (by decide) dX8_mostAlike_18 ?_
          refine q_icmp_ge (pc := 20) (by omega) (by omega) 72 dX8_mostAlike_20 rfl (fun c20 => ?_) (fun c20 => ?_)
          · exfalso; omega
          refine q_iload (pc := 23) dX8_mostAlike_23 rfl ?_
          refine q_iload_n (pc := 25) dX8_mostAlike_25 rfl ?_
          refine q_iload_n (pc := 26) dX8_mostAlike_26 rfl ?_
          refine q_invokestatic (pc := 27) (d' := d - 1) (mc' := 0) (ms' := 0) (As := [_, _]) cl_X8_288 dX8_mostAlike_27 rfl rfl (by omega) rfl 0 0 (Nat.le_refl 0) (Nat.le_refl 0) ?_
          refine c_X8_hasKind ?_
          refine q_ifb_eq (pc := 30) 62 dX8_mostAlike_30 rfl (fun c30 => ?_) (fun c30 => ?_)
          · refine q_iconst (pc := 62) dX8_mostAlike_62 ?_
            refine q_iadd (pc := 63) dX8_mostAlike_63 ?_
            refine q_istore (pc := 64) [some _, some _, some _, some _, some _, some _] dX8_mostAlike_64 rfl (Nat.le_of_ble_eq_true rfl) rfl ?_
            refine q_iinc (pc := 66) [some _, some _, some _, some _, some _, some _] dX8_mostAlike_66 rfl rfl rfl ?_
            refine q_goto (pc := 69) 16 dX8_mostAlike_69 rfl ?_
            first | (rw [zb_t (show zhas set (m : Int) ∧ zhas set (n : Int) ∧ sh (m : Int) = sh (n : Int) from ⟨c30, c39, c55⟩)] at hih2; exact hih2) | (rw [zb_f (show ¬ (zhas set (m : Int) ∧ zhas set (n : Int) ∧ sh (m : Int) = sh (n : Int)) from fun z => c55 z.2.2)] at hih2; exact hih2) | (rw [zb_f (show ¬ (zhas set (m : Int) ∧ zhas set (n : Int) ∧ sh (m : Int) = sh (n : Int)) from fun z => c39 z.2.1)] at hih2; exact hih2) | (rw [zb_f (show ¬ (zhas set (m : Int) ∧ zhas set (n : Int) ∧ sh (m : Int) = sh (n : Int)) from fun z => c30 z.1)] at hih2; exact hih2)
          refine q_iload_n (pc := 33) dX8_mostAlike_33 rfl ?_
          refine q_iload (pc := 34) dX8_mostAlike_34 rfl ?_
          refine q_invokestatic (pc := 36) (d' := d - 1) (mc' := 0) (ms' := 0) (As := [_, _]) cl_X8_288 dX8_mostAlike_36 rfl rfl (by omega) rfl 0 0 (Nat.le_refl 0) (Nat.le_refl 0) ?_
          refine c_X8_hasKind ?_
          refine q_ifb_eq (pc := 39) 62 dX8_mostAlike_39 rfl (fun c39 => ?_) (fun c39 => ?_)
          · refine q_iconst (pc := 62) dX8_mostAlike_62 ?_
            refine q_iadd (pc := 63) dX8_mostAlike_63 ?_
            refine q_istore (pc := 64) [some _, some _, some _, some _, some _, some _] dX8_mostAlike_64 rfl (Nat.le_of_ble_eq_true rfl) rfl ?_
            refine q_iinc (pc := 66) [some _, some _, some _, some _, some _, some _] dX8_mostAlike_66 rfl rfl rfl ?_
            refine q_goto (pc := 69) 16 dX8_mostAlike_69 rfl ?_
            first | (rw [zb_t (show zhas set (m : Int) ∧ zhas set (n : Int) ∧ sh (m : Int) = sh (n : Int) from ⟨c30, c39, c55⟩)] at hih2; exact hih2) | (rw [zb_f (show ¬ (zhas set (m : Int) ∧ zhas set (n : Int) ∧ sh (m : Int) = sh (n : Int)) from fun z => c55 z.2.2)] at hih2; exact hih2) | (rw [zb_f (show ¬ (zhas set (m : Int) ∧ zhas set (n : Int) ∧ sh (m : Int) = sh (n : Int)) from fun z => c39 z.2.1)] at hih2; exact hih2) | (rw [zb_f (show ¬ (zhas set (m : Int) ∧ zhas set (n : Int) ∧ sh (m : Int) = sh (n : Int)) from fun z => c30 z.1)] at hih2; exact hih2)
          refine q_aload_n (pc := 42) dX8_mostAlike_42 rfl rfl ?_
          refine q_getfield (pc := 43) gf_X8_41 dX8_mostAlike_43 (by assumption) rfl ?_
          refine q_iload_n (pc := 46) dX8_mostAlike_46 rfl ?_
          refine q_iaload (pc := 47) dX8_mostAlike_47 (by assumption) (by omega) ?_
          refine q_aload_n (pc := 48) dX8_mostAlike_48 rfl rfl ?_
          refine q_getfield (pc := 49) gf_X8_41 dX8_mostAlike_49 (by assumption) rfl ?_
          refine q_iload (pc := 52) dX8_mostAlike_52 rfl ?_
          refine q_iaload (pc := 54) dX8_mostAlike_54 (by assumption) (by omega) ?_
          refine q_icmp_ne (pc := 55) (by omega) (by omega) 62 dX8_mostAlike_55 rfl (fun c55 => ?_) (fun c55 => ?_)
          · refine q_iconst (pc := 62) dX8_mostAlike_62 ?_
            refine q_iadd (pc := 63) dX8_mostAlike_63 ?_
            refine q_istore (pc := 64) [some _, some _, some _, some _, some _, some _] dX8_mostAlike_64 rfl (Nat.le_of_ble_eq_true rfl) rfl ?_
            refine q_iinc (pc := 66) [some _, some _, some _, some _, some _, some _] dX8_mostAlike_66 rfl rfl rfl ?_
            refine q_goto (pc := 69) 16 dX8_mostAlike_69 rfl ?_
            first | (rw [zb_t (show zhas set (m : Int) ∧ zhas set (n : Int) ∧ sh (m : Int) = sh (n : Int) from ⟨c30, c39, c55⟩)] at hih2; exact hih2) | (rw [zb_f (show ¬ (zhas set (m : Int) ∧ zhas set (n : Int) ∧ sh (m : Int) = sh (n : Int)) from fun z => c55 z.2.2)] at hih2; exact hih2) | (rw [zb_f (show ¬ (zhas set (m : Int) ∧ zhas set (n : Int) ∧ sh (m : Int) = sh (n : Int)) from fun z => c39 z.2.1)] at hih2; exact hih2) | (rw [zb_f (show ¬ (zhas set (m : Int) ∧ zhas set (n : Int) ∧ sh (m : Int) = sh (n : Int)) from fun z => c30 z.1)] at hih2; exact hih2)
          refine q_iconst (pc := 58) dX8_mostAlike_58 ?_
          refine q_goto (pc := 59) 63 dX8_mostAlike_59 rfl ?_
          refine q_iadd (pc := 63) dX8_mostAlike_63 ?_
          refine q_istore (pc := 64) [some _, some _, some _, some _, some _, some _] dX8_mostAlike_64 rfl (Nat.le_of_ble_eq_true rfl) rfl ?_
          refine q_iinc (pc := 66) [some _, some _, some _, some _, some _, some _] dX8_mostAlike_66 rfl rfl rfl ?_
          refine q_goto (pc := 69) 16 dX8_mostAlike_69 rfl ?_
          first | (rw [zb_t (show zhas set (m : Int) ∧ zhas set (n : Int) ∧ sh (m : Int) = sh (n : Int) from ⟨c30, c39, c55⟩)] at hih2; exact hih2) | (rw [zb_f (show ¬ (zhas set (m : Int) ∧ zhas set (n : Int) ∧ sh (m : Int) = sh (n : Int)) from fun z => c55 z.2.2)] at hih2; exact hih2) | (rw [zb_f (show ¬ (zhas set (m : Int) ∧ zhas set (n : Int) ∧ sh (m : Int) = sh (n : Int)) from fun z => c39 z.2.1)] at hih2; exact hih2) | (rw [zb_f (show ¬ (zhas set (m : Int) ∧ zhas set (n : Int) ∧ sh (m : Int) = sh (n : Int)) from fun z => c30 z.1)] at hih2; exact hih2)
      refine q_iload_n (pc := 4) dX8_mostAlike_4 rfl ?_
      refine q_bipush (pc := 5) (by decide) dX8_mostAlike_5 ?_
      refine q_icmp_ge (pc := 7) (by omega) (by omega) 91 dX8_mostAlike_7 rfl (fun c7 => ?_) (fun c7 => ?_)
      · exfalso; omega
      refine q_iconst (pc := 10) dX8_mostAlike_10 ?_
      refine q_istore (pc := 11) [some _, some _, some _, some _, some _, _] dX8_mostAlike_11 rfl (Nat.le_of_ble_eq_true rfl) rfl ?_
      refine q_iconst (pc := 13) dX8_mostAlike_13 ?_
      refine q_istore (pc := 14) [some _, some _, some _, some _, some _, some _] dX8_mostAlike_14 rfl (Nat.le_of_ble_eq_true rfl) rfl ?_
      exact L2 6 0 (by omega)
  refine zenter [some _, some _, none, none, none, none] pn_X8 rfl (Nat.le_of_ble_eq_true rfl) ?_
  refine q_iconst (pc := 0) dX8_mostAlike_0 ?_
  refine q_istore_n (pc := 1) [some _, some _, some _, none, none, none] dX8_mostAlike_1 rfl (Nat.le_of_ble_eq_true rfl) rfl ?_
  refine q_iconst (pc := 2) dX8_mostAlike_2 ?_
  refine q_istore_n (pc := 3) [some _, some _, some _, some _, none, none] dX8_mostAlike_3 rfl (Nat.le_of_ble_eq_true rfl) rfl ?_
  exact L 6 0 _ _ (by omega)
set_option maxRecDepth 100000 in
set_option maxHeartbeats 8000000 in
theorem c_X8_watch {c : Int} (hd : 6 ≤ d) (hC : zMo g w S) (hO : zOKS S) (h_c : zR32 c) (k : ∀ w', zSame w w' 72 16 → zMo g w' (o_watch S c).2 → K (some (zI (o_watch S c).1)) w') : zCall g d 0 0 mX8_watch [zR g 72, zI c] w K := by
  obtain ⟨⟨p0, p1, p2, p3, p4, it, sm, h72⟩, h73, h74, h75, h76, hScr, h84, h85, h86, h87⟩ := id hC
  have hO1 := hO.1
  have hO2 := hO1.1
  have hO3 := hO2.1
  by_cases hv : 0 ≤ c ∧ c < S.1.1 0
  · have hzR : zR32 (zis S.1.1 c) := zbs_R 6
    have hkd := hO2.2.1 c (by omega) (by omega)
    have fin : ∀ (w1 : zWd) (f : Int → Int), zSame w w1 82 1 → w1.1 82 = some (.inr (false, 6, f)) → zMo g w1 S := fun w1 f hs h => hC.scr (hs.wide (by omega) (by omega)) (hScr.p82 hs h)
    have k : ∀ w', zSame w w' 82 1 → zMo g w' S → K (some (zI (zwatch S.1.1 c))) w' := fun w' hs hM => zgm k (by unfold o_watch; exact (if_pos hv).trans rfl) (hs.wide (by omega) (by omega)) hM
    unfold zwatch at k
    generalize hset : zis S.1.1 c = set at k hzR
    have L : ∀ (q m : Nat) (w1 : zWd) (sg : Int → Int) (x6 : Option Value), m + q = 12 → set ≠ 0 → zSame w w1 82 1 → w1.1 82 = some (.inr (false, 6, sg)) → zRuns g d mX8_watch 0 0 28 [some (zR g 72), some (zI c), some (zI set), some (zI (zfl (fun wk => zmost set (fun kd => 10 * zmelt kd wk (S.1.1 (13 + c)) + zcost kd)) 0 m).1), some (zI (if m = 0 then 1000000 else (zfl (fun wk => zmost set (fun kd => 10 * zmelt kd wk (S.1.1 (13 + c)) + zcost kd)) 0 m).2)), some (zI (0 + (m : Int))), x6] [] w1 K := by
      intro q
      induction q with
      | zero =>
        intro m w1 sg x6 hm hs0 hs hG
        obtain rfl : m = 12 := by omega
        rw [if_neg hs0] at k
        refine q_iload (pc := 28) dX8_watch_28 rfl ?_
        refine q_bipush (pc := 30) (by decide) dX8_watch_30 ?_
        refine q_icmp_ge (pc := 32) (by omega) (by omega) 130 dX8_watch_32 rfl (fun c32 => ?_) (fun c32 => ?_)
        · refine q_iload_n (pc := 130) dX8_watch_130 rfl ?_
          refine q_ireturn (pc := 131) dX8_watch_131 rfl ?_
          exact k _ hs (fin _ _ hs hG)
        exfalso; omega
      | succ q ih =>
        intro m w1 sg x6 hm hs0 hs hG
        have hm6 := zmost_b set (fun kd => 10 * zmelt kd (0 + (m : Int)) (S.1.1 (13 + c)) + zcost kd)
        have hfl : (zfl (fun wk => zmost set (fun kd => 10 * zmelt kd wk (S.1.1 (13 + c)) + zcost kd)) 0 m).2 ≤ 7 ∧ 0 ≤ (zfl (fun wk => zmost set (fun kd => 10 * zmelt kd wk (S.1.1 (13 + c)) + zcost kd)) 0 m).2 := zfl_bd (fun a => zmost_b set _) m
        have hf0 : m = 0 → (zfl (fun wk => zmost set (fun kd => 10 * zmelt kd wk (S.1.1 (13 + c)) + zcost kd)) 0 m).2 = 7 := fun z => by rw [z]; rfl
        have hih := fun w1 sg x6 h1 h2 => ih (m + 1) w1 sg x6 (by omega) hs0 h1 h2
        rw [zfl, if_neg (show ¬ m + 1 = 0 by omega), show 0 + ((m + 1 : Nat) : Int) = 0 + (m : Int) + 1 by omega] at hih
        generalize hF : (if m = 0 then 1000000 else (zfl (fun wk => zmost set (fun kd => 10 * zmelt kd wk (S.1.1 (13 + c)) + zcost kd)) 0 m).2) = F
        have hFR : zR32 F ∧ ((zmost set (fun kd => 10 * zmelt kd (0 + (m : Int)) (S.1.1 (13 + c)) + zcost kd) < (zfl (fun wk => zmost set (fun kd => 10 * zmelt kd wk (S.1.1 (13 + c)) + zcost kd)) 0 m).2) ↔ zmost set (fun kd => 10 * zmelt kd (0 + (m : Int)) (S.1.1 (13 + c)) + zcost kd) < F) := by
          by_cases z : m = 0
          · rw [if_pos z] at hF; have := hf0 z; exact ⟨by omega, by omega⟩
          · rw [if_neg z] at hF; rw [← hF]; exact ⟨by omega, Iff.rfl⟩
        have hF2 : ¬ zmost set (fun kd => 10 * zmelt kd (0 + (m : Int)) (S.1.1 (13 + c)) + zcost kd) < (zfl (fun wk => zmost set (fun kd => 10 * zmelt kd wk (S.1.1 (13 + c)) + zcost kd)) 0 m).2 → F = (zfl (fun wk => zmost set (fun kd => 10 * zmelt kd wk (S.1.1 (13 + c)) + zcost kd)) 0 m).2 := fun z => by
          by_cases y : m = 0
          · have := hf0 y; omega
          · rw [if_neg y] at hF; exact hF.symm
        have L2 : ∀ (q2 n : Nat) (w2 : zWd) (sg2 : Int → Int), n + q2 = 6 → zSame w w2 82 1 → w2.1 82 = some (.inr (false, 6, sg2)) → (∀ kd, 0 ≤ kd → kd < (n : Int) → sg2 kd = 10 * zmelt kd (0 + (m : Int)) (S.1.1 (13 + c)) + zcost kd) → zRuns g d mX8_watch 0 0 42 [some (zR g 72), some (zI c), some (zI set), some (zI (zfl (fun wk => zmost set (fun kd => 10 * zmelt kd wk (S.1.1 (13 + c)) + zcost kd)) 0 m).1), some (zI F), some (zI (0 + (m : Int))), some (zI (n : Int))] [] w2 K := by
          intro q2
          induction q2 with
          | zero =>
            intro n w2 sg2 hn hs hG hE
            obtain rfl : n = 6 := by omega
            have h721 := (hs.2 72 (by omega)).trans h72
            have hms : zmost set sg2 = zmost set (fun kd => 10 * zmelt kd (0 + (m : Int)) (S.1.1 (13 + c)) + zcost kd) := zmx_congr (fun a a1 a2 => zsg_congr (fun b b1 b2 => zb_congr (by rw [hE a a1 a2, hE b b1 (by omega)])))
            refine q_iload (pc := 42) dX8_watch_42 rfl ?_
            refine q_bipush (pc := 44) (by decide) dX8_watch_44 ?_
            refine q_icmp_ge (pc := 46) (by omega) (by omega) 87 dX8_watch_46 rfl (fun c46 => ?_) (fun c46 => ?_)
            · refine q_aload_n (pc := 87) dX8_watch_87 rfl rfl ?_
              refine q_iload_n (pc := 88) dX8_watch_88 rfl ?_
              refine q_invokevirtual (pc := 89) (d' := d - 1) (mc' := 0) (ms' := 0) (As := [_]) (TX8, 26) cl_X8_292 dX8_watch_89 rfl rfl (by assumption) rfl (by omega) rfl 0 0 (Nat.le_refl 0) (Nat.le_refl 0) ?_
              refine c_X8_mostAlike (by omega) h721 hG (fun i a b => by rw [hE i a b]; have h1 := zmelt_b i (0 + (m : Int)) (S.1.1 (13 + c)); have h2 := zcost_b i; omega) ?_
              rw [hms]
              refine q_istore (pc := 92) [some _, some _, some _, some _, some _, some _, some _] dX8_watch_92 rfl (Nat.le_of_ble_eq_true rfl) rfl ?_
              refine q_iload (pc := 94) dX8_watch_94 rfl ?_
              refine q_iload (pc := 96) dX8_watch_96 rfl ?_
              refine q_icmp_ge (pc := 98) (by omega) (by omega) 106 dX8_watch_98 rfl (fun c98 => ?_) (fun c98 => ?_)
              · refine q_iload_n (pc := 106) dX8_watch_106 rfl ?_
                refine q_istore_n (pc := 107) [some _, some _, some _, some _, some _, some _, some _] dX8_watch_107 rfl (Nat.le_of_ble_eq_true rfl) rfl ?_
                refine q_iload (pc := 108) dX8_watch_108 rfl ?_
                refine q_iload (pc := 110) dX8_watch_110 rfl ?_
                refine q_icmp_ge (pc := 112) (by omega) (by omega) 120 dX8_watch_112 rfl (fun c112 => ?_) (fun c112 => ?_)
                · refine q_iload (pc := 120) dX8_watch_120 rfl ?_
                  refine q_istore (pc := 122) [some _, some _, some _, some _, some _, some _, some _] dX8_watch_122 rfl (Nat.le_of_ble_eq_true rfl) rfl ?_
                  refine q_iinc (pc := 124) [some _, some _, some _, some _, some _, some _, some _] dX8_watch_124 rfl rfl rfl ?_
                  refine q_goto (pc := 127) 28 dX8_watch_127 rfl ?_
                  first | (exfalso; omega; done) | (rw [if_pos (show zmost set (fun kd => 10 * zmelt kd (0 + (m : Int)) (S.1.1 (13 + c)) + zcost kd) < (zfl (fun wk => zmost set (fun kd => 10 * zmelt kd wk (S.1.1 (13 + c)) + zcost kd)) 0 m).2 by omega)] at hih; exact hih _ _ _ hs hG) | (have h9 := hF2 (by omega); rw [if_neg (show ¬ zmost set (fun kd => 10 * zmelt kd (0 + (m : Int)) (S.1.1 (13 + c)) + zcost kd) < (zfl (fun wk => zmost set (fun kd => 10 * zmelt kd wk (S.1.1 (13 + c)) + zcost kd)) 0 m).2 by omega), ← h9] at hih; exact hih _ _ _ hs hG)
                refine q_iload (pc := 115) dX8_watch_115 rfl ?_
                refine q_goto (pc := 117) 122 dX8_watch_117 rfl ?_
                refine q_istore (pc := 122) [some _, some _, some _, some _, some _, some _, some _] dX8_watch_122 rfl (Nat.le_of_ble_eq_true rfl) rfl ?_
                refine q_iinc (pc := 124) [some _, some _, some _, some _, some _, some _, some _] dX8_watch_124 rfl rfl rfl ?_
                refine q_goto (pc := 127) 28 dX8_watch_127 rfl ?_
                first | (exfalso; omega; done) | (rw [if_pos (show zmost set (fun kd => 10 * zmelt kd (0 + (m : Int)) (S.1.1 (13 + c)) + zcost kd) < (zfl (fun wk => zmost set (fun kd => 10 * zmelt kd wk (S.1.1 (13 + c)) + zcost kd)) 0 m).2 by omega)] at hih; exact hih _ _ _ hs hG) | (have h9 := hF2 (by omega); rw [if_neg (show ¬ zmost set (fun kd => 10 * zmelt kd (0 + (m : Int)) (S.1.1 (13 + c)) + zcost kd) < (zfl (fun wk => zmost set (fun kd => 10 * zmelt kd wk (S.1.1 (13 + c)) + zcost kd)) 0 m).2 by omega), ← h9] at hih; exact hih _ _ _ hs hG)
              refine q_iload (pc := 101) dX8_watch_101 rfl ?_
              refine q_goto (pc := 103) 107 dX8_watch_103 rfl ?_
              refine q_istore_n (pc := 107) [some _, some _, some _, some _, some _, some _, some _] dX8_watch_107 rfl (Nat.le_of_ble_eq_true rfl) rfl ?_
              refine q_iload (pc := 108) dX8_watch_108 rfl ?_
              refine q_iload (pc := 110) dX8_watch_110 rfl ?_
              refine q_icmp_ge (pc := 112) (by omega) (by omega) 120 dX8_watch_112 rfl (fun c112 => ?_) (fun c112 => ?_)
              · refine q_iload (pc := 120) dX8_watch_120 rfl ?_
                refine q_istore (pc := 122) [some _, some _, some _, some _, some _, some _, some _] dX8_watch_122 rfl (Nat.le_of_ble_eq_true rfl) rfl ?_
                refine q_iinc (pc := 124) [some _, some _, some _, some _, some _, some _, some _] dX8_watch_124 rfl rfl rfl ?_
                refine q_goto (pc := 127) 28 dX8_watch_127 rfl ?_
                first | (exfalso; omega; done) | (rw [if_pos (show zmost set (fun kd => 10 * zmelt kd (0 + (m : Int)) (S.1.1 (13 + c)) + zcost kd) < (zfl (fun wk => zmost set (fun kd => 10 * zmelt kd wk (S.1.1 (13 + c)) + zcost kd)) 0 m).2 by omega)] at hih; exact hih _ _ _ hs hG) | (have h9 := hF2 (by omega); rw [if_neg (show ¬ zmost set (fun kd => 10 * zmelt kd (0 + (m : Int)) (S.1.1 (13 + c)) + zcost kd) < (zfl (fun wk => zmost set (fun kd => 10 * zmelt kd wk (S.1.1 (13 + c)) + zcost kd)) 0 m).2 by omega), ← h9] at hih; exact hih _ _ _ hs hG)
              refine q_iload (pc := 115) dX8_watch_115 rfl ?_
              refine q_goto (pc := 117) 122 dX8_watch_117 rfl ?_
              refine q_istore (pc := 122) [some _, some _, some _, some _, some _, some _, some _] dX8_watch_122 rfl (Nat.le_of_ble_eq_true rfl) rfl ?_
              refine q_iinc (pc := 124) [some _, some _, some _, some _, some _, some _, some _] dX8_watch_124 rfl rfl rfl ?_
              refine q_goto (pc := 127) 28 dX8_watch_127 rfl ?_
              first | (exfalso; omega; done) | (rw [if_pos (show zmost set (fun kd => 10 * zmelt kd (0 + (m : Int)) (S.1.1 (13 + c)) + zcost kd) < (zfl (fun wk => zmost set (fun kd => 10 * zmelt kd wk (S.1.1 (13 + c)) + zcost kd)) 0 m).2 by omega)] at hih; exact hih _ _ _ hs hG) | (have h9 := hF2 (by omega); rw [if_neg (show ¬ zmost set (fun kd => 10 * zmelt kd (0 + (m : Int)) (S.1.1 (13 + c)) + zcost kd) < (zfl (fun wk => zmost set (fun kd => 10 * zmelt kd wk (S.1.1 (13 + c)) + zcost kd)) 0 m).2 by omega), ← h9] at hih; exact hih _ _ _ hs hG)
            exfalso; omega
          | succ q2 ih2 =>
            intro n w2 sg2 hn hs hG hE
            have h721 := (hs.2 72 (by omega)).trans h72
            have h731 := (hs.2 73 (by omega)).trans h73
            have hih2 := fun w2 sg2 => ih2 (n + 1) w2 sg2 (by omega)
            refine q_iload (pc := 42) dX8_watch_42 rfl ?_
            refine q_bipush (pc := 44) (by decide) dX8_watch_44 ?_
            refine q_icmp_ge (pc := 46) (by omega) (by omega) 87 dX8_watch_46 rfl (fun c46 => ?_) (fun c46 => ?_)
            · exfalso; omega
            refine q_aload_n (pc := 49) dX8_watch_49 rfl rfl ?_
            refine q_getfield (pc := 50) gf_X8_41 dX8_watch_50 (by assumption) rfl ?_
            refine q_iload (pc := 53) dX8_watch_53 rfl ?_
            refine q_bipush (pc := 55) (by decide) dX8_watch_55 ?_
            refine q_iload (pc := 57) dX8_watch_57 rfl ?_
            refine q_iload (pc := 59) dX8_watch_59 rfl ?_
            refine q_aload_n (pc := 61) dX8_watch_61 rfl rfl ?_
            refine q_getfield (pc := 62) gf_X8_7 dX8_watch_62 (by assumption) rfl ?_
            refine q_bipush (pc := 65) (by decide) dX8_watch_65 ?_
            refine q_iload_n (pc := 67) dX8_watch_67 rfl ?_
            refine q_iadd (pc := 68) dX8_watch_68 ?_
            refine q_iaload (pc := 69) dX8_watch_69 (by assumption) (by omega) ?_
            refine q_invokestatic (pc := 70) (d' := d - 1) (mc' := 0) (ms' := 0) (As := [_, _, _]) cl_X8_87 dX8_watch_70 rfl rfl (by omega) rfl 0 0 (Nat.le_refl 0) (Nat.le_refl 0) ?_
            refine c_X8_meltsBy (by omega) (by omega) (by omega) ?_
            refine q_imul (pc := 73) dX8_watch_73 ?_
            refine q_iload (pc := 74) dX8_watch_74 rfl ?_
            refine q_invokestatic (pc := 76) (d' := d - 1) (mc' := 0) (ms' := 0) (As := [_]) cl_X8_217 dX8_watch_76 rfl rfl (by omega) rfl 0 0 (Nat.le_refl 0) (Nat.le_refl 0) ?_
            refine c_X8_costBy (by omega) ?_
            refine q_iadd (pc := 79) dX8_watch_79 ?_
            refine q_iastore (pc := 80) dX8_watch_80 (by assumption) (by omega) ?_
            refine q_iinc (pc := 81) [some _, some _, some _, some _, some _, some _, some _] dX8_watch_81 rfl rfl rfl ?_
            refine q_goto (pc := 84) 42 dX8_watch_84 rfl ?_
            refine hih2 _ _ (hs.tr (zSame.up (by omega))) zup_at (fun kd a b => ?_)
            simp only [zfu]
            by_cases e : kd = (n : Int)
            · rw [if_pos e, e]
            · rw [if_neg e]; exact hE kd a (by omega)
        have h721 := (hs.2 72 (by omega)).trans h72
        refine q_iload (pc := 28) dX8_watch_28 rfl ?_
        refine q_bipush (pc := 30) (by decide) dX8_watch_30 ?_
        refine q_icmp_ge (pc := 32) (by omega) (by omega) 130 dX8_watch_32 rfl (fun c32 => ?_) (fun c32 => ?_)
        · exfalso; omega
        refine q_iload_n (pc := 35) dX8_watch_35 rfl ?_
        refine q_if_eq (pc := 36) (by omega) 130 dX8_watch_36 rfl (fun c36 => ?_) (fun c36 => ?_)
        · exfalso; omega
        refine q_iconst (pc := 39) dX8_watch_39 ?_
        refine q_istore (pc := 40) [some _, some _, some _, some _, some _, some _, some _] dX8_watch_40 rfl (Nat.le_of_ble_eq_true rfl) rfl ?_
        exact L2 6 0 _ sg (by omega) hs hG (fun kd a b => by omega)
    have J0 : ∀ (_ : K (some (zI (-1))) w), zRuns g d mX8_watch 0 0 28 [some (zR g 72), some (zI c), some (zI 0), some (zI (-1)), some (zI 1000000), some (zI 0), none] [] w K := by
      intro k
      refine q_iload (pc := 28) dX8_watch_28 rfl ?_
      refine q_bipush (pc := 30) (by decide) dX8_watch_30 ?_
      refine q_icmp_ge (pc := 32) (by omega) (by omega) 130 dX8_watch_32 rfl (fun c32 => ?_) (fun c32 => ?_)
      · refine q_iload_n (pc := 130) dX8_watch_130 rfl ?_
        refine q_ireturn (pc := 131) dX8_watch_131 rfl ?_
        first | (exfalso; omega; done) | exact k
      refine q_iload_n (pc := 35) dX8_watch_35 rfl ?_
      refine q_if_eq (pc := 36) (by omega) 130 dX8_watch_36 rfl (fun c36 => ?_) (fun c36 => ?_)
      · refine q_iload_n (pc := 130) dX8_watch_130 rfl ?_
        refine q_ireturn (pc := 131) dX8_watch_131 rfl ?_
        first | (exfalso; omega; done) | exact k
      exfalso; omega
    obtain ⟨f0, h82⟩ := hScr.2.2.2.2.2.1
    refine zenter [some _, some _, none, none, none, none, none] pn_X8 rfl (Nat.le_of_ble_eq_true rfl) ?_
    refine q_aload_n (pc := 0) dX8_watch_0 rfl rfl ?_
    refine q_iload_n (pc := 1) dX8_watch_1 rfl ?_
    refine q_invokevirtual (pc := 2) (d' := d - 1) (mc' := 0) (ms' := 0) (As := [_]) (TX8, 26) cl_X8_116 dX8_watch_2 rfl rfl (by first | assumption | exact zup_at | exact (zup_ne (by decide)).trans (zup_at) | exact (zup_ne (by decide)).trans (by assumption) | exact (zup_ne (by decide)).trans ((zup_ne (by decide)).trans (zup_at)) | exact (zup_ne (by decide)).trans ((zup_ne (by decide)).trans (by assumption)) | exact (zup_ne (by decide)).trans ((zup_ne (by decide)).trans ((zup_ne (by decide)).trans (zup_at))) | exact (zup_ne (by decide)).trans ((zup_ne (by decide)).trans ((zup_ne (by decide)).trans (by assumption))) | exact (zup_ne (by decide)).trans ((zup_ne (by decide)).trans ((zup_ne (by decide)).trans ((zup_ne (by decide)).trans (zup_at)))) | exact (zup_ne (by decide)).trans ((zup_ne (by decide)).trans ((zup_ne (by decide)).trans ((zup_ne (by decide)).trans (by assumption)))) | exact (zup_ne (by decide)).trans ((zup_ne (by decide)).trans ((zup_ne (by decide)).trans ((zup_ne (by decide)).trans ((zup_ne (by decide)).trans (zup_at))))) | exact (zup_ne (by decide)).trans ((zup_ne (by decide)).trans ((zup_ne (by decide)).trans ((zup_ne (by decide)).trans ((zup_ne (by decide)).trans (by assumption)))))) rfl (by omega) rfl 0 0 (Nat.le_refl 0) (Nat.le_refl 0) ?_
    refine c_X8_isCellar (by omega) h72 h73 hO3 (by omega) ?_
    refine q_ifb_ne (pc := 5) 13 dX8_watch_5 rfl (fun c5 => ?_) (fun c5 => ?_)
    · refine q_aload_n (pc := 13) dX8_watch_13 rfl rfl ?_
      refine q_iload_n (pc := 14) dX8_watch_14 rfl ?_
      refine q_invokevirtual (pc := 15) (d' := d - 1) (mc' := 0) (ms' := 0) (As := [_]) (TX8, 26) cl_X8_285 dX8_watch_15 rfl rfl (by first | assumption | exact zup_at | exact (zup_ne (by decide)).trans (zup_at) | exact (zup_ne (by decide)).trans (by assumption) | exact (zup_ne (by decide)).trans ((zup_ne (by decide)).trans (zup_at)) | exact (zup_ne (by decide)).trans ((zup_ne (by decide)).trans (by assumption)) | exact (zup_ne (by decide)).trans ((zup_ne (by decide)).trans ((zup_ne (by decide)).trans (zup_at))) | exact (zup_ne (by decide)).trans ((zup_ne (by decide)).trans ((zup_ne (by decide)).trans (by assumption))) | exact (zup_ne (by decide)).trans ((zup_ne (by decide)).trans ((zup_ne (by decide)).trans ((zup_ne (by decide)).trans (zup_at)))) | exact (zup_ne (by decide)).trans ((zup_ne (by decide)).trans ((zup_ne (by decide)).trans ((zup_ne (by decide)).trans (by assumption)))) | exact (zup_ne (by decide)).trans ((zup_ne (by decide)).trans ((zup_ne (by decide)).trans ((zup_ne (by decide)).trans ((zup_ne (by decide)).trans (zup_at))))) | exact (zup_ne (by decide)).trans ((zup_ne (by decide)).trans ((zup_ne (by decide)).trans ((zup_ne (by decide)).trans ((zup_ne (by decide)).trans (by assumption)))))) rfl (by omega) rfl 0 0 (Nat.le_refl 0) (Nat.le_refl 0) ?_
      refine c_X8_kindsOf (by omega) h72 h73 hO2 hv ?_
      rw [hset]
      refine q_istore_n (pc := 18) [some _, some _, some _, none, none, none, none] dX8_watch_18 rfl (Nat.le_of_ble_eq_true rfl) rfl ?_
      refine q_iconst (pc := 19) dX8_watch_19 ?_
      refine q_istore_n (pc := 20) [some _, some _, some _, some _, none, none, none] dX8_watch_20 rfl (Nat.le_of_ble_eq_true rfl) rfl ?_
      refine q_ldc (pc := 21) tw_5_152 dX8_watch_21 ?_
      refine q_istore (pc := 23) [some _, some _, some _, some _, some _, none, none] dX8_watch_23 rfl (Nat.le_of_ble_eq_true rfl) rfl ?_
      refine q_iconst (pc := 25) dX8_watch_25 ?_
      refine q_istore (pc := 26) [some _, some _, some _, some _, some _, some _, none] dX8_watch_26 rfl (Nat.le_of_ble_eq_true rfl) rfl ?_
      by_cases hs0 : set = 0
      · subst hs0
        exact J0 (k w zSame.rf hC)
      · exact L 12 0 _ f0 _ (by omega) hs0 zSame.rf h82
    exfalso; omega
  · have hz0 := hv
    refine zenter [some _, some _, none, none, none, none, none] pn_X8 rfl (Nat.le_of_ble_eq_true rfl) ?_
    refine q_aload_n (pc := 0) dX8_watch_0 rfl rfl ?_
    refine q_iload_n (pc := 1) dX8_watch_1 rfl ?_
    refine q_invokevirtual (pc := 2) (d' := d - 1) (mc' := 0) (ms' := 0) (As := [_]) (TX8, 26) cl_X8_116 dX8_watch_2 rfl rfl (by first | assumption | exact zup_at | exact (zup_ne (by decide)).trans (zup_at) | exact (zup_ne (by decide)).trans (by assumption) | exact (zup_ne (by decide)).trans ((zup_ne (by decide)).trans (zup_at)) | exact (zup_ne (by decide)).trans ((zup_ne (by decide)).trans (by assumption)) | exact (zup_ne (by decide)).trans ((zup_ne (by decide)).trans ((zup_ne (by decide)).trans (zup_at))) | exact (zup_ne (by decide)).trans ((zup_ne (by decide)).trans ((zup_ne (by decide)).trans (by assumption))) | exact (zup_ne (by decide)).trans ((zup_ne (by decide)).trans ((zup_ne (by decide)).trans ((zup_ne (by decide)).trans (zup_at)))) | exact (zup_ne (by decide)).trans ((zup_ne (by decide)).trans ((zup_ne (by decide)).trans ((zup_ne (by decide)).trans (by assumption)))) | exact (zup_ne (by decide)).trans ((zup_ne (by decide)).trans ((zup_ne (by decide)).trans ((zup_ne (by decide)).trans ((zup_ne (by decide)).trans (zup_at))))) | exact (zup_ne (by decide)).trans ((zup_ne (by decide)).trans ((zup_ne (by decide)).trans ((zup_ne (by decide)).trans ((zup_ne (by decide)).trans (by assumption)))))) rfl (by omega) rfl 0 0 (Nat.le_refl 0) (Nat.le_refl 0) ?_
    refine c_X8_isCellar (by omega) h72 h73 hO3 (by omega) ?_
    refine q_ifb_ne (pc := 5) 13 dX8_watch_5 rfl (fun c5 => ?_) (fun c5 => ?_)
    · exfalso; omega
    refine q_aload_n (pc := 8) dX8_watch_8 rfl rfl ?_
    refine q_invokevirtual (pc := 9) (d' := d - 1) (mc' := 0) (ms' := 0) (As := []) (TX8, 26) cl_X8_103 dX8_watch_9 rfl rfl (by first | assumption | exact zup_at | exact (zup_ne (by decide)).trans (zup_at) | exact (zup_ne (by decide)).trans (by assumption) | exact (zup_ne (by decide)).trans ((zup_ne (by decide)).trans (zup_at)) | exact (zup_ne (by decide)).trans ((zup_ne (by decide)).trans (by assumption)) | exact (zup_ne (by decide)).trans ((zup_ne (by decide)).trans ((zup_ne (by decide)).trans (zup_at))) | exact (zup_ne (by decide)).trans ((zup_ne (by decide)).trans ((zup_ne (by decide)).trans (by assumption))) | exact (zup_ne (by decide)).trans ((zup_ne (by decide)).trans ((zup_ne (by decide)).trans ((zup_ne (by decide)).trans (zup_at)))) | exact (zup_ne (by decide)).trans ((zup_ne (by decide)).trans ((zup_ne (by decide)).trans ((zup_ne (by decide)).trans (by assumption)))) | exact (zup_ne (by decide)).trans ((zup_ne (by decide)).trans ((zup_ne (by decide)).trans ((zup_ne (by decide)).trans ((zup_ne (by decide)).trans (zup_at))))) | exact (zup_ne (by decide)).trans ((zup_ne (by decide)).trans ((zup_ne (by decide)).trans ((zup_ne (by decide)).trans ((zup_ne (by decide)).trans (by assumption)))))) rfl (by omega) rfl 0 0 (Nat.le_refl 0) (Nat.le_refl 0) ?_
    refine c_X8_bad hC (fun w9 hs9 hC9 => ?_)
    refine q_ireturn (pc := 12) dX8_watch_12 rfl ?_
    exact zgm k (by unfold o_watch; exact ((if_neg (by omega)).trans rfl)) hs9 hC9
set_option maxRecDepth 100000 in
set_option maxHeartbeats 8000000 in
theorem c_X8_ask {s : Int} (hd : 6 ≤ d) (hC : zMo g w S) (hO : zOKS S) (h_s : zR32 s) (k : ∀ w', zSame w w' 72 16 → zMo g w' (o_ask S s).2 → K (some (zI (o_ask S s).1)) w') : zCall g d 0 0 mX8_ask [zR g 72, zI s] w K := by
  obtain ⟨⟨p0, p1, p2, p3, p4, it, sm, h72⟩, h73, h74, h75, h76, hScr, h84, h85, h86, h87⟩ := id hC
  have hO1 := hO.1
  have hO2 := hO1.1
  have hO3 := hO2.1
  by_cases hv : 0 ≤ s ∧ s < S.1.1 1
  · have hzR : zR32 (zwho S.1.1 s) := zbs_R 6
    have hkd := hO2.2.2.2.1 s (by omega) (by omega)
    have fin : ∀ (w1 : zWd) (f : Int → Int), zSame w w1 82 1 → w1.1 82 = some (.inr (false, 6, f)) → zMo g w1 S := fun w1 f hs h => hC.scr (hs.wide (by omega) (by omega)) (hScr.p82 hs h)
    have k : ∀ w', zSame w w' 82 1 → zMo g w' S → K (some (zI (zask S.1.1 s))) w' := fun w' hs hM => zgm k (by unfold o_ask; exact (if_pos hv).trans rfl) (hs.wide (by omega) (by omega)) hM
    unfold zask at k
    generalize hset : zwho S.1.1 s = set at k hzR
    have L : ∀ (q m : Nat) (w1 : zWd) (sg : Int → Int) (x6 : Option Value), m + q = 90 → set ≠ 0 → zSame w w1 82 1 → w1.1 82 = some (.inr (false, 6, sg)) → zRuns g d mX8_ask 0 0 29 [some (zR g 72), some (zI s), some (zI set), some (zI (zfl (fun wk => zmost set (fun kd => 100 * zfar kd (S.1.1 (74 + s)) (wk / 10) (wk % 10) + zhits kd (wk / 10))) 10 m).1), some (zI (if m = 0 then 1000000 else (zfl (fun wk => zmost set (fun kd => 100 * zfar kd (S.1.1 (74 + s)) (wk / 10) (wk % 10) + zhits kd (wk / 10))) 10 m).2)), some (zI (10 + (m : Int))), x6] [] w1 K := by
      intro q
      induction q with
      | zero =>
        intro m w1 sg x6 hm hs0 hs hG
        obtain rfl : m = 90 := by omega
        rw [if_neg hs0] at k
        refine q_iload (pc := 29) dX8_ask_29 rfl ?_
        refine q_bipush (pc := 31) (by decide) dX8_ask_31 ?_
        refine q_icmp_ge (pc := 33) (by omega) (by omega) 144 dX8_ask_33 rfl (fun c33 => ?_) (fun c33 => ?_)
        · refine q_iload_n (pc := 144) dX8_ask_144 rfl ?_
          refine q_ireturn (pc := 145) dX8_ask_145 rfl ?_
          exact k _ hs (fin _ _ hs hG)
        exfalso; omega
      | succ q ih =>
        intro m w1 sg x6 hm hs0 hs hG
        have hm6 := zmost_b set (fun kd => 100 * zfar kd (S.1.1 (74 + s)) ((10 + (m : Int)) / 10) ((10 + (m : Int)) % 10) + zhits kd ((10 + (m : Int)) / 10))
        have hfl : (zfl (fun wk => zmost set (fun kd => 100 * zfar kd (S.1.1 (74 + s)) (wk / 10) (wk % 10) + zhits kd (wk / 10))) 10 m).2 ≤ 7 ∧ 0 ≤ (zfl (fun wk => zmost set (fun kd => 100 * zfar kd (S.1.1 (74 + s)) (wk / 10) (wk % 10) + zhits kd (wk / 10))) 10 m).2 := zfl_bd (fun a => zmost_b set _) m
        have hf0 : m = 0 → (zfl (fun wk => zmost set (fun kd => 100 * zfar kd (S.1.1 (74 + s)) (wk / 10) (wk % 10) + zhits kd (wk / 10))) 10 m).2 = 7 := fun z => by rw [z]; rfl
        have hih := fun w1 sg x6 h1 h2 => ih (m + 1) w1 sg x6 (by omega) hs0 h1 h2
        rw [zfl, if_neg (show ¬ m + 1 = 0 by omega), show 10 + ((m + 1 : Nat) : Int) = 10 + (m : Int) + 1 by omega] at hih
        generalize hF : (if m = 0 then 1000000 else (zfl (fun wk => zmost set (fun kd => 100 * zfar kd (S.1.1 (74 + s)) (wk / 10) (wk % 10) + zhits kd (wk / 10))) 10 m).2) = F
        have hFR : zR32 F ∧ ((zmost set (fun kd => 100 * zfar kd (S.1.1 (74 + s)) ((10 + (m : Int)) / 10) ((10 + (m : Int)) % 10) + zhits kd ((10 + (m : Int)) / 10)) < (zfl (fun wk => zmost set (fun kd => 100 * zfar kd (S.1.1 (74 + s)) (wk / 10) (wk % 10) + zhits kd (wk / 10))) 10 m).2) ↔ zmost set (fun kd => 100 * zfar kd (S.1.1 (74 + s)) ((10 + (m : Int)) / 10) ((10 + (m : Int)) % 10) + zhits kd ((10 + (m : Int)) / 10)) < F) := by
          by_cases z : m = 0
          · rw [if_pos z] at hF; have := hf0 z; exact ⟨by omega, by omega⟩
          · rw [if_neg z] at hF; rw [← hF]; exact ⟨by omega, Iff.rfl⟩
        have hF2 : ¬ zmost set (fun kd => 100 * zfar kd (S.1.1 (74 + s)) ((10 + (m : Int)) / 10) ((10 + (m : Int)) % 10) + zhits kd ((10 + (m : Int)) / 10)) < (zfl (fun wk => zmost set (fun kd => 100 * zfar kd (S.1.1 (74 + s)) (wk / 10) (wk % 10) + zhits kd (wk / 10))) 10 m).2 → F = (zfl (fun wk => zmost set (fun kd => 100 * zfar kd (S.1.1 (74 + s)) (wk / 10) (wk % 10) + zhits kd (wk / 10))) 10 m).2 := fun z => by
          by_cases y : m = 0
          · have := hf0 y; omega
          · rw [if_neg y] at hF; exact hF.symm
        have L2 : ∀ (q2 n : Nat) (w2 : zWd) (sg2 : Int → Int), n + q2 = 6 → zSame w w2 82 1 → w2.1 82 = some (.inr (false, 6, sg2)) → (∀ kd, 0 ≤ kd → kd < (n : Int) → sg2 kd = 100 * zfar kd (S.1.1 (74 + s)) ((10 + (m : Int)) / 10) ((10 + (m : Int)) % 10) + zhits kd ((10 + (m : Int)) / 10)) → zRuns g d mX8_ask 0 0 43 [some (zR g 72), some (zI s), some (zI set), some (zI (zfl (fun wk => zmost set (fun kd => 100 * zfar kd (S.1.1 (74 + s)) (wk / 10) (wk % 10) + zhits kd (wk / 10))) 10 m).1), some (zI F), some (zI (10 + (m : Int))), some (zI (n : Int))] [] w2 K := by
          intro q2
          induction q2 with
          | zero =>
            intro n w2 sg2 hn hs hG hE
            obtain rfl : n = 6 := by omega
            have h721 := (hs.2 72 (by omega)).trans h72
            have hms : zmost set sg2 = zmost set (fun kd => 100 * zfar kd (S.1.1 (74 + s)) ((10 + (m : Int)) / 10) ((10 + (m : Int)) % 10) + zhits kd ((10 + (m : Int)) / 10)) := zmx_congr (fun a a1 a2 => zsg_congr (fun b b1 b2 => zb_congr (by rw [hE a a1 a2, hE b b1 (by omega)])))
            refine q_iload (pc := 43) dX8_ask_43 rfl ?_
            refine q_bipush (pc := 45) (by decide) dX8_ask_45 ?_
            refine q_icmp_ge (pc := 47) (by omega) (by omega) 101 dX8_ask_47 rfl (fun c47 => ?_) (fun c47 => ?_)
            · refine q_aload_n (pc := 101) dX8_ask_101 rfl rfl ?_
              refine q_iload_n (pc := 102) dX8_ask_102 rfl ?_
              refine q_invokevirtual (pc := 103) (d' := d - 1) (mc' := 0) (ms' := 0) (As := [_]) (TX8, 26) cl_X8_292 dX8_ask_103 rfl rfl (by assumption) rfl (by omega) rfl 0 0 (Nat.le_refl 0) (Nat.le_refl 0) ?_
              refine c_X8_mostAlike (by omega) h721 hG (fun i a b => by rw [hE i a b]; have h1 := zfar_b (kind := i) (a := S.1.1 (74 + s)) (r := (10 + (m : Int)) / 10) (v := (10 + (m : Int)) % 10) (by omega) (by omega) (by omega); have h2 := zhits_b (kind := i) (r := (10 + (m : Int)) / 10) (by omega); omega) ?_
              rw [hms]
              refine q_istore (pc := 106) [some _, some _, some _, some _, some _, some _, some _] dX8_ask_106 rfl (Nat.le_of_ble_eq_true rfl) rfl ?_
              refine q_iload (pc := 108) dX8_ask_108 rfl ?_
              refine q_iload (pc := 110) dX8_ask_110 rfl ?_
              refine q_icmp_ge (pc := 112) (by omega) (by omega) 120 dX8_ask_112 rfl (fun c112 => ?_) (fun c112 => ?_)
              · refine q_iload_n (pc := 120) dX8_ask_120 rfl ?_
                refine q_istore_n (pc := 121) [some _, some _, some _, some _, some _, some _, some _] dX8_ask_121 rfl (Nat.le_of_ble_eq_true rfl) rfl ?_
                refine q_iload (pc := 122) dX8_ask_122 rfl ?_
                refine q_iload (pc := 124) dX8_ask_124 rfl ?_
                refine q_icmp_ge (pc := 126) (by omega) (by omega) 134 dX8_ask_126 rfl (fun c126 => ?_) (fun c126 => ?_)
                · refine q_iload (pc := 134) dX8_ask_134 rfl ?_
                  refine q_istore (pc := 136) [some _, some _, some _, some _, some _, some _, some _] dX8_ask_136 rfl (Nat.le_of_ble_eq_true rfl) rfl ?_
                  refine q_iinc (pc := 138) [some _, some _, some _, some _, some _, some _, some _] dX8_ask_138 rfl rfl rfl ?_
                  refine q_goto (pc := 141) 29 dX8_ask_141 rfl ?_
                  first | (exfalso; omega; done) | (rw [if_pos (show zmost set (fun kd => 100 * zfar kd (S.1.1 (74 + s)) ((10 + (m : Int)) / 10) ((10 + (m : Int)) % 10) + zhits kd ((10 + (m : Int)) / 10)) < (zfl (fun wk => zmost set (fun kd => 100 * zfar kd (S.1.1 (74 + s)) (wk / 10) (wk % 10) + zhits kd (wk / 10))) 10 m).2 by omega)] at hih; exact hih _ _ _ hs hG) | (have h9 := hF2 (by omega); rw [if_neg (show ¬ zmost set (fun kd => 100 * zfar kd (S.1.1 (74 + s)) ((10 + (m : Int)) / 10) ((10 + (m : Int)) % 10) + zhits kd ((10 + (m : Int)) / 10)) < (zfl (fun wk => zmost set (fun kd => 100 * zfar kd (S.1.1 (74 + s)) (wk / 10) (wk % 10) + zhits kd (wk / 10))) 10 m).2 by omega), ← h9] at hih; exact hih _ _ _ hs hG)
                refine q_iload (pc := 129) dX8_ask_129 rfl ?_
                refine q_goto (pc := 131) 136 dX8_ask_131 rfl ?_
                refine q_istore (pc := 136) [some _, some _, some _, some _, some _, some _, some _] dX8_ask_136 rfl (Nat.le_of_ble_eq_true rfl) rfl ?_
                refine q_iinc (pc := 138) [some _, some _, some _, some _, some _, some _, some _] dX8_ask_138 rfl rfl rfl ?_
                refine q_goto (pc := 141) 29 dX8_ask_141 rfl ?_
                first | (exfalso; omega; done) | (rw [if_pos (show zmost set (fun kd => 100 * zfar kd (S.1.1 (74 + s)) ((10 + (m : Int)) / 10) ((10 + (m : Int)) % 10) + zhits kd ((10 + (m : Int)) / 10)) < (zfl (fun wk => zmost set (fun kd => 100 * zfar kd (S.1.1 (74 + s)) (wk / 10) (wk % 10) + zhits kd (wk / 10))) 10 m).2 by omega)] at hih; exact hih _ _ _ hs hG) | (have h9 := hF2 (by omega); rw [if_neg (show ¬ zmost set (fun kd => 100 * zfar kd (S.1.1 (74 + s)) ((10 + (m : Int)) / 10) ((10 + (m : Int)) % 10) + zhits kd ((10 + (m : Int)) / 10)) < (zfl (fun wk => zmost set (fun kd => 100 * zfar kd (S.1.1 (74 + s)) (wk / 10) (wk % 10) + zhits kd (wk / 10))) 10 m).2 by omega), ← h9] at hih; exact hih _ _ _ hs hG)
              refine q_iload (pc := 115) dX8_ask_115 rfl ?_
              refine q_goto (pc := 117) 121 dX8_ask_117 rfl ?_
              refine q_istore_n (pc := 121) [some _, some _, some _, some _, some _, some _, some _] dX8_ask_121 rfl (Nat.le_of_ble_eq_true rfl) rfl ?_
              refine q_iload (pc := 122) dX8_ask_122 rfl ?_
              refine q_iload (pc := 124) dX8_ask_124 rfl ?_
              refine q_icmp_ge (pc := 126) (by omega) (by omega) 134 dX8_ask_126 rfl (fun c126 => ?_) (fun c126 => ?_)
              · refine q_iload (pc := 134) dX8_ask_134 rfl ?_
                refine q_istore (pc := 136) [some _, some _, some _, some _, some _, some _, some _] dX8_ask_136 rfl (Nat.le_of_ble_eq_true rfl) rfl ?_
                refine q_iinc (pc := 138) [some _, some _, some _, some _, some _, some _, some _] dX8_ask_138 rfl rfl rfl ?_
                refine q_goto (pc := 141) 29 dX8_ask_141 rfl ?_
                first | (exfalso; omega; done) | (rw [if_pos (show zmost set (fun kd => 100 * zfar kd (S.1.1 (74 + s)) ((10 + (m : Int)) / 10) ((10 + (m : Int)) % 10) + zhits kd ((10 + (m : Int)) / 10)) < (zfl (fun wk => zmost set (fun kd => 100 * zfar kd (S.1.1 (74 + s)) (wk / 10) (wk % 10) + zhits kd (wk / 10))) 10 m).2 by omega)] at hih; exact hih _ _ _ hs hG) | (have h9 := hF2 (by omega); rw [if_neg (show ¬ zmost set (fun kd => 100 * zfar kd (S.1.1 (74 + s)) ((10 + (m : Int)) / 10) ((10 + (m : Int)) % 10) + zhits kd ((10 + (m : Int)) / 10)) < (zfl (fun wk => zmost set (fun kd => 100 * zfar kd (S.1.1 (74 + s)) (wk / 10) (wk % 10) + zhits kd (wk / 10))) 10 m).2 by omega), ← h9] at hih; exact hih _ _ _ hs hG)
              refine q_iload (pc := 129) dX8_ask_129 rfl ?_
              refine q_goto (pc := 131) 136 dX8_ask_131 rfl ?_
              refine q_istore (pc := 136) [some _, some _, some _, some _, some _, some _, some _] dX8_ask_136 rfl (Nat.le_of_ble_eq_true rfl) rfl ?_
              refine q_iinc (pc := 138) [some _, some _, some _, some _, some _, some _, some _] dX8_ask_138 rfl rfl rfl ?_
              refine q_goto (pc := 141) 29 dX8_ask_141 rfl ?_
              first | (exfalso; omega; done) | (rw [if_pos (show zmost set (fun kd => 100 * zfar kd (S.1.1 (74 + s)) ((10 + (m : Int)) / 10) ((10 + (m : Int)) % 10) + zhits kd ((10 + (m : Int)) / 10)) < (zfl (fun wk => zmost set (fun kd => 100 * zfar kd (S.1.1 (74 + s)) (wk / 10) (wk % 10) + zhits kd (wk / 10))) 10 m).2 by omega)] at hih; exact hih _ _ _ hs hG) | (have h9 := hF2 (by omega); rw [if_neg (show ¬ zmost set (fun kd => 100 * zfar kd (S.1.1 (74 + s)) ((10 + (m : Int)) / 10) ((10 + (m : Int)) % 10) + zhits kd ((10 + (m : Int)) / 10)) < (zfl (fun wk => zmost set (fun kd => 100 * zfar kd (S.1.1 (74 + s)) (wk / 10) (wk % 10) + zhits kd (wk / 10))) 10 m).2 by omega), ← h9] at hih; exact hih _ _ _ hs hG)
            exfalso; omega
          | succ q2 ih2 =>
            intro n w2 sg2 hn hs hG hE
            have h721 := (hs.2 72 (by omega)).trans h72
            have h731 := (hs.2 73 (by omega)).trans h73
            have hih2 := fun w2 sg2 => ih2 (n + 1) w2 sg2 (by omega)
            refine q_iload (pc := 43) dX8_ask_43 rfl ?_
            refine q_bipush (pc := 45) (by decide) dX8_ask_45 ?_
            refine q_icmp_ge (pc := 47) (by omega) (by omega) 101 dX8_ask_47 rfl (fun c47 => ?_) (fun c47 => ?_)
            · exfalso; omega
            refine q_aload_n (pc := 50) dX8_ask_50 rfl rfl ?_
            refine q_getfield (pc := 51) gf_X8_41 dX8_ask_51 (by assumption) rfl ?_
            refine q_iload (pc := 54) dX8_ask_54 rfl ?_
            refine q_bipush (pc := 56) (by decide) dX8_ask_56 ?_
            refine q_iload (pc := 58) dX8_ask_58 rfl ?_
            refine q_aload_n (pc := 60) dX8_ask_60 rfl rfl ?_
            refine q_getfield (pc := 61) gf_X8_7 dX8_ask_61 (by assumption) rfl ?_
            refine q_bipush (pc := 64) (by decide) dX8_ask_64 ?_
            refine q_iload_n (pc := 66) dX8_ask_66 rfl ?_
            refine q_iadd (pc := 67) dX8_ask_67 ?_
            refine q_iaload (pc := 68) dX8_ask_68 (by assumption) (by omega) ?_
            refine q_iload (pc := 69) dX8_ask_69 rfl ?_
            refine q_bipush (pc := 71) (by decide) dX8_ask_71 ?_
            refine q_idiv (pc := 73) dX8_ask_73 (by omega) (by omega) (by omega) ?_
            refine q_iload (pc := 74) dX8_ask_74 rfl ?_
            refine q_bipush (pc := 76) (by decide) dX8_ask_76 ?_
            refine q_irem (pc := 78) dX8_ask_78 (by omega) (by omega) (by omega) ?_
            refine q_invokestatic (pc := 79) (d' := d - 1) (mc' := 0) (ms' := 0) (As := [_, _, _, _]) cl_X8_71 dX8_ask_79 rfl rfl (by omega) rfl 0 0 (Nat.le_refl 0) (Nat.le_refl 0) ?_
            refine c_X8_farBy (by omega) (by omega) (by omega) (by omega) (by omega) ?_
            refine q_imul (pc := 82) dX8_ask_82 ?_
            refine q_iload (pc := 83) dX8_ask_83 rfl ?_
            refine q_iload (pc := 85) dX8_ask_85 rfl ?_
            refine q_bipush (pc := 87) (by decide) dX8_ask_87 ?_
            refine q_idiv (pc := 89) dX8_ask_89 (by omega) (by omega) (by omega) ?_
            refine q_invokestatic (pc := 90) (d' := d - 1) (mc' := 0) (ms' := 0) (As := [_, _]) cl_X8_75 dX8_ask_90 rfl rfl (by omega) rfl 0 0 (Nat.le_refl 0) (Nat.le_refl 0) ?_
            refine c_X8_hitsBy (by omega) (by omega) (by omega) ?_
            refine q_iadd (pc := 93) dX8_ask_93 ?_
            refine q_iastore (pc := 94) dX8_ask_94 (by assumption) (by omega) ?_
            refine q_iinc (pc := 95) [some _, some _, some _, some _, some _, some _, some _] dX8_ask_95 rfl rfl rfl ?_
            refine q_goto (pc := 98) 43 dX8_ask_98 rfl ?_
            refine hih2 _ _ (hs.tr (zSame.up (by omega))) zup_at (fun kd a b => ?_)
            simp only [zfu]
            by_cases e : kd = (n : Int)
            · rw [if_pos e, e]
            · rw [if_neg e]; exact hE kd a (by omega)
        have h721 := (hs.2 72 (by omega)).trans h72
        refine q_iload (pc := 29) dX8_ask_29 rfl ?_
        refine q_bipush (pc := 31) (by decide) dX8_ask_31 ?_
        refine q_icmp_ge (pc := 33) (by omega) (by omega) 144 dX8_ask_33 rfl (fun c33 => ?_) (fun c33 => ?_)
        · exfalso; omega
        refine q_iload_n (pc := 36) dX8_ask_36 rfl ?_
        refine q_if_eq (pc := 37) (by omega) 144 dX8_ask_37 rfl (fun c37 => ?_) (fun c37 => ?_)
        · exfalso; omega
        refine q_iconst (pc := 40) dX8_ask_40 ?_
        refine q_istore (pc := 41) [some _, some _, some _, some _, some _, some _, some _] dX8_ask_41 rfl (Nat.le_of_ble_eq_true rfl) rfl ?_
        exact L2 6 0 _ sg (by omega) hs hG (fun kd a b => by omega)
    have J0 : ∀ (_ : K (some (zI (-1))) w), zRuns g d mX8_ask 0 0 29 [some (zR g 72), some (zI s), some (zI 0), some (zI (-1)), some (zI 1000000), some (zI 10), none] [] w K := by
      intro k
      refine q_iload (pc := 29) dX8_ask_29 rfl ?_
      refine q_bipush (pc := 31) (by decide) dX8_ask_31 ?_
      refine q_icmp_ge (pc := 33) (by omega) (by omega) 144 dX8_ask_33 rfl (fun c33 => ?_) (fun c33 => ?_)
      · refine q_iload_n (pc := 144) dX8_ask_144 rfl ?_
        refine q_ireturn (pc := 145) dX8_ask_145 rfl ?_
        first | (exfalso; omega; done) | exact k
      refine q_iload_n (pc := 36) dX8_ask_36 rfl ?_
      refine q_if_eq (pc := 37) (by omega) 144 dX8_ask_37 rfl (fun c37 => ?_) (fun c37 => ?_)
      · refine q_iload_n (pc := 144) dX8_ask_144 rfl ?_
        refine q_ireturn (pc := 145) dX8_ask_145 rfl ?_
        first | (exfalso; omega; done) | exact k
      exfalso; omega
    obtain ⟨f0, h82⟩ := hScr.2.2.2.2.2.1
    refine zenter [some _, some _, none, none, none, none, none] pn_X8 rfl (Nat.le_of_ble_eq_true rfl) ?_
    refine q_aload_n (pc := 0) dX8_ask_0 rfl rfl ?_
    refine q_iload_n (pc := 1) dX8_ask_1 rfl ?_
    refine q_invokevirtual (pc := 2) (d' := d - 1) (mc' := 0) (ms' := 0) (As := [_]) (TX8, 26) cl_X8_223 dX8_ask_2 rfl rfl (by first | assumption | exact zup_at | exact (zup_ne (by decide)).trans (zup_at) | exact (zup_ne (by decide)).trans (by assumption) | exact (zup_ne (by decide)).trans ((zup_ne (by decide)).trans (zup_at)) | exact (zup_ne (by decide)).trans ((zup_ne (by decide)).trans (by assumption)) | exact (zup_ne (by decide)).trans ((zup_ne (by decide)).trans ((zup_ne (by decide)).trans (zup_at))) | exact (zup_ne (by decide)).trans ((zup_ne (by decide)).trans ((zup_ne (by decide)).trans (by assumption))) | exact (zup_ne (by decide)).trans ((zup_ne (by decide)).trans ((zup_ne (by decide)).trans ((zup_ne (by decide)).trans (zup_at)))) | exact (zup_ne (by decide)).trans ((zup_ne (by decide)).trans ((zup_ne (by decide)).trans ((zup_ne (by decide)).trans (by assumption)))) | exact (zup_ne (by decide)).trans ((zup_ne (by decide)).trans ((zup_ne (by decide)).trans ((zup_ne (by decide)).trans ((zup_ne (by decide)).trans (zup_at))))) | exact (zup_ne (by decide)).trans ((zup_ne (by decide)).trans ((zup_ne (by decide)).trans ((zup_ne (by decide)).trans ((zup_ne (by decide)).trans (by assumption)))))) rfl (by omega) rfl 0 0 (Nat.le_refl 0) (Nat.le_refl 0) ?_
    refine c_X8_isSlinger (by omega) h72 h73 hO3 (by omega) ?_
    refine q_ifb_ne (pc := 5) 13 dX8_ask_5 rfl (fun c5 => ?_) (fun c5 => ?_)
    · refine q_aload_n (pc := 13) dX8_ask_13 rfl rfl ?_
      refine q_iload_n (pc := 14) dX8_ask_14 rfl ?_
      refine q_invokevirtual (pc := 15) (d' := d - 1) (mc' := 0) (ms' := 0) (As := [_]) (TX8, 26) cl_X8_295 dX8_ask_15 rfl rfl (by first | assumption | exact zup_at | exact (zup_ne (by decide)).trans (zup_at) | exact (zup_ne (by decide)).trans (by assumption) | exact (zup_ne (by decide)).trans ((zup_ne (by decide)).trans (zup_at)) | exact (zup_ne (by decide)).trans ((zup_ne (by decide)).trans (by assumption)) | exact (zup_ne (by decide)).trans ((zup_ne (by decide)).trans ((zup_ne (by decide)).trans (zup_at))) | exact (zup_ne (by decide)).trans ((zup_ne (by decide)).trans ((zup_ne (by decide)).trans (by assumption))) | exact (zup_ne (by decide)).trans ((zup_ne (by decide)).trans ((zup_ne (by decide)).trans ((zup_ne (by decide)).trans (zup_at)))) | exact (zup_ne (by decide)).trans ((zup_ne (by decide)).trans ((zup_ne (by decide)).trans ((zup_ne (by decide)).trans (by assumption)))) | exact (zup_ne (by decide)).trans ((zup_ne (by decide)).trans ((zup_ne (by decide)).trans ((zup_ne (by decide)).trans ((zup_ne (by decide)).trans (zup_at))))) | exact (zup_ne (by decide)).trans ((zup_ne (by decide)).trans ((zup_ne (by decide)).trans ((zup_ne (by decide)).trans ((zup_ne (by decide)).trans (by assumption)))))) rfl (by omega) rfl 0 0 (Nat.le_refl 0) (Nat.le_refl 0) ?_
      refine c_X8_sortsOf (by omega) h72 h73 hO2 hv ?_
      rw [hset]
      refine q_istore_n (pc := 18) [some _, some _, some _, none, none, none, none] dX8_ask_18 rfl (Nat.le_of_ble_eq_true rfl) rfl ?_
      refine q_iconst (pc := 19) dX8_ask_19 ?_
      refine q_istore_n (pc := 20) [some _, some _, some _, some _, none, none, none] dX8_ask_20 rfl (Nat.le_of_ble_eq_true rfl) rfl ?_
      refine q_ldc (pc := 21) tw_5_152 dX8_ask_21 ?_
      refine q_istore (pc := 23) [some _, some _, some _, some _, some _, none, none] dX8_ask_23 rfl (Nat.le_of_ble_eq_true rfl) rfl ?_
      refine q_bipush (pc := 25) (by decide) dX8_ask_25 ?_
      refine q_istore (pc := 27) [some _, some _, some _, some _, some _, some _, none] dX8_ask_27 rfl (Nat.le_of_ble_eq_true rfl) rfl ?_
      by_cases hs0 : set = 0
      · subst hs0
        exact J0 (k w zSame.rf hC)
      · exact L 90 0 _ f0 _ (by omega) hs0 zSame.rf h82
    exfalso; omega
  · have hz0 := hv
    refine zenter [some _, some _, none, none, none, none, none] pn_X8 rfl (Nat.le_of_ble_eq_true rfl) ?_
    refine q_aload_n (pc := 0) dX8_ask_0 rfl rfl ?_
    refine q_iload_n (pc := 1) dX8_ask_1 rfl ?_
    refine q_invokevirtual (pc := 2) (d' := d - 1) (mc' := 0) (ms' := 0) (As := [_]) (TX8, 26) cl_X8_223 dX8_ask_2 rfl rfl (by first | assumption | exact zup_at | exact (zup_ne (by decide)).trans (zup_at) | exact (zup_ne (by decide)).trans (by assumption) | exact (zup_ne (by decide)).trans ((zup_ne (by decide)).trans (zup_at)) | exact (zup_ne (by decide)).trans ((zup_ne (by decide)).trans (by assumption)) | exact (zup_ne (by decide)).trans ((zup_ne (by decide)).trans ((zup_ne (by decide)).trans (zup_at))) | exact (zup_ne (by decide)).trans ((zup_ne (by decide)).trans ((zup_ne (by decide)).trans (by assumption))) | exact (zup_ne (by decide)).trans ((zup_ne (by decide)).trans ((zup_ne (by decide)).trans ((zup_ne (by decide)).trans (zup_at)))) | exact (zup_ne (by decide)).trans ((zup_ne (by decide)).trans ((zup_ne (by decide)).trans ((zup_ne (by decide)).trans (by assumption)))) | exact (zup_ne (by decide)).trans ((zup_ne (by decide)).trans ((zup_ne (by decide)).trans ((zup_ne (by decide)).trans ((zup_ne (by decide)).trans (zup_at))))) | exact (zup_ne (by decide)).trans ((zup_ne (by decide)).trans ((zup_ne (by decide)).trans ((zup_ne (by decide)).trans ((zup_ne (by decide)).trans (by assumption)))))) rfl (by omega) rfl 0 0 (Nat.le_refl 0) (Nat.le_refl 0) ?_
    refine c_X8_isSlinger (by omega) h72 h73 hO3 (by omega) ?_
    refine q_ifb_ne (pc := 5) 13 dX8_ask_5 rfl (fun c5 => ?_) (fun c5 => ?_)
    · exfalso; omega
    refine q_aload_n (pc := 8) dX8_ask_8 rfl rfl ?_
    refine q_invokevirtual (pc := 9) (d' := d - 1) (mc' := 0) (ms' := 0) (As := []) (TX8, 26) cl_X8_103 dX8_ask_9 rfl rfl (by first | assumption | exact zup_at | exact (zup_ne (by decide)).trans (zup_at) | exact (zup_ne (by decide)).trans (by assumption) | exact (zup_ne (by decide)).trans ((zup_ne (by decide)).trans (zup_at)) | exact (zup_ne (by decide)).trans ((zup_ne (by decide)).trans (by assumption)) | exact (zup_ne (by decide)).trans ((zup_ne (by decide)).trans ((zup_ne (by decide)).trans (zup_at))) | exact (zup_ne (by decide)).trans ((zup_ne (by decide)).trans ((zup_ne (by decide)).trans (by assumption))) | exact (zup_ne (by decide)).trans ((zup_ne (by decide)).trans ((zup_ne (by decide)).trans ((zup_ne (by decide)).trans (zup_at)))) | exact (zup_ne (by decide)).trans ((zup_ne (by decide)).trans ((zup_ne (by decide)).trans ((zup_ne (by decide)).trans (by assumption)))) | exact (zup_ne (by decide)).trans ((zup_ne (by decide)).trans ((zup_ne (by decide)).trans ((zup_ne (by decide)).trans ((zup_ne (by decide)).trans (zup_at))))) | exact (zup_ne (by decide)).trans ((zup_ne (by decide)).trans ((zup_ne (by decide)).trans ((zup_ne (by decide)).trans ((zup_ne (by decide)).trans (by assumption)))))) rfl (by omega) rfl 0 0 (Nat.le_refl 0) (Nat.le_refl 0) ?_
    refine c_X8_bad hC (fun w9 hs9 hC9 => ?_)
    refine q_ireturn (pc := 12) dX8_ask_12 rfl ?_
    exact zgm k (by unfold o_ask; exact ((if_neg (by omega)).trans rfl)) hs9 hC9
end X8I
