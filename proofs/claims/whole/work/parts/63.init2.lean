/-! the constructors of the whole -/
theorem zSto.low {g : zG} {w w' : zWd} {b : Nat} {N P : Int → Int} {u : Int} (h : zSto g w b N u P) (e : ∀ i, b ≤ i → i < b + 15 → w'.1 i = w.1 i) : zSto g w' b N u P := by
  obtain ⟨C0, C1, C2, C3, C4, C5, C6, hO, h0, h1, h2, h3, h4, h5, h6, hr⟩ := h
  exact ⟨C0, C1, C2, C3, C4, C5, C6, (e b (by omega) (by omega)).trans hO, h0.low (fun i a b => e i (by omega) (by omega)), h1.low (fun i a b => e i (by omega) (by omega)), h2.low (fun i a b => e i (by omega) (by omega)), h3.low (fun i a b => e i (by omega) (by omega)), h4.low (fun i a b => e i (by omega) (by omega)), h5.low (fun i a b => e i (by omega) (by omega)), h6.low (fun i a b => e i (by omega) (by omega)), hr⟩
def zS0 : zSt := ((fun _ => 0, 0, fun _ => 0), (fun _ => 0, 0), fun _ => 0, (0, 1), (fun _ => 0, fun _ => 0, fun _ => 0, fun _ => 0))
section INIT2
variable {g : zG} {d : Nat} {w : zWd} {K : Option Value → zWd → Prop}
set_option maxRecDepth 100000 in
set_option maxHeartbeats 8000000 in
theorem c_X0_init {b s : Nat} (hd : 2 ≤ d) (hw : w.2 = b + 1) (h0 : w.1 b = some (.inl (0, [.null, .null, .null, .null, .null, .null]))) (k : ∀ w', w'.2 = b + 6 → (∀ i, i < b → w'.1 i = w.1 i) → w'.1 b = some (.inl (0, [zR g s, zR g (b + 1), zR g (b + 2), zR g (b + 3), zR g (b + 4), zR g (b + 5)])) → w'.1 (b + 1) = some (.inr (false, 41, fun _ => 0)) → w'.1 (b + 2) = some (.inr (false, 24, fun _ => 0)) → w'.1 (b + 3) = some (.inr (false, 4, fun _ => 0)) → w'.1 (b + 4) = some (.inr (false, 6, fun _ => 0)) → w'.1 (b + 5) = some (.inr (false, 6, fun _ => 0)) → K none w') : zCall g d 5 81 mX0_init [zR g b, zR g s] w K := by
  obtain ⟨f, m⟩ := w
  obtain rfl : m = b + 1 := hw
  refine zenter [some _, some _] pn_X0 rfl (Nat.le_of_ble_eq_true rfl) ?_
  refine q_aload_n (pc := 0) dX0_init_0 rfl rfl ?_
  refine q_objinit (pc := 1) tw_1_153 tw_1_22 tw_1_23 dX0_init_1 (by omega) rfl ?_
  refine q_aload_n (pc := 4) dX0_init_4 rfl rfl ?_
  refine q_bipush (pc := 5) (by decide) dX0_init_5 ?_
  refine q_newint (pc := 7) dX0_init_7 tw_1_57 (by omega) 4 40 (Nat.le_of_ble_eq_true rfl) (by decide) ?_
  refine q_putfinal2 (pc := 9) [_, _, _, _, _, _] pf_X0_9 dX0_init_9 rfl ((znew_ne (show b ≠ b + 1 by omega)).trans h0) rfl rfl (Nat.le_of_ble_eq_true rfl) rfl ?_
  refine q_aload_n (pc := 12) dX0_init_12 rfl rfl ?_
  refine q_bipush (pc := 13) (by decide) dX0_init_13 ?_
  refine q_newint (pc := 15) dX0_init_15 tw_1_57 (by omega) 3 16 (Nat.le_of_ble_eq_true rfl) (by decide) ?_
  refine q_putfinal2 (pc := 17) [_, _, _, _, _, _] pf_X0_15 dX0_init_17 rfl ((znew_ne (show b ≠ b + 2 by omega)).trans zup_at) rfl rfl (Nat.le_of_ble_eq_true rfl) rfl ?_
  refine q_aload_n (pc := 20) dX0_init_20 rfl rfl ?_
  refine q_iconst (pc := 21) dX0_init_21 ?_
  refine q_newint (pc := 22) dX0_init_22 tw_1_57 (by omega) 2 12 (Nat.le_of_ble_eq_true rfl) (by decide) ?_
  refine q_putfinal2 (pc := 24) [_, _, _, _, _, _] pf_X0_18 dX0_init_24 rfl ((znew_ne (show b ≠ b + 3 by omega)).trans zup_at) rfl rfl (Nat.le_of_ble_eq_true rfl) rfl ?_
  refine q_aload_n (pc := 27) dX0_init_27 rfl rfl ?_
  refine q_bipush (pc := 28) (by decide) dX0_init_28 ?_
  refine q_newint (pc := 30) dX0_init_30 tw_1_57 (by omega) 1 6 (Nat.le_of_ble_eq_true rfl) (by decide) ?_
  refine q_putfinal2 (pc := 32) [_, _, _, _, _, _] pf_X0_21 dX0_init_32 rfl ((znew_ne (show b ≠ b + 4 by omega)).trans zup_at) rfl rfl (Nat.le_of_ble_eq_true rfl) rfl ?_
  refine q_aload_n (pc := 35) dX0_init_35 rfl rfl ?_
  refine q_bipush (pc := 36) (by decide) dX0_init_36 ?_
  refine q_newint (pc := 38) dX0_init_38 tw_1_57 (by omega) 0 0 (Nat.le_of_ble_eq_true rfl) (by decide) ?_
  refine q_putfinal2 (pc := 40) [_, _, _, _, _, _] pf_X0_24 dX0_init_40 rfl ((znew_ne (show b ≠ b + 5 by omega)).trans zup_at) rfl rfl (Nat.le_of_ble_eq_true rfl) rfl ?_
  refine q_aload_n (pc := 43) dX0_init_43 rfl rfl ?_
  refine q_aload_n (pc := 44) dX0_init_44 rfl rfl ?_
  refine q_putfinal2 (pc := 45) [_, _, _, _, _, _] pf_X0_27 dX0_init_45 rfl zup_at rfl rfl (Nat.le_of_ble_eq_true rfl) rfl ?_
  refine q_return (pc := 48) dX0_init_48 rfl ?_
  exact k _ rfl (fun i hi => ((zup_ne (by omega)).trans ((zup_ne (by omega)).trans ((znew_ne (show i ≠ b + 5 by omega)).trans ((zup_ne (by omega)).trans ((znew_ne (show i ≠ b + 4 by omega)).trans ((zup_ne (by omega)).trans ((znew_ne (show i ≠ b + 3 by omega)).trans ((zup_ne (by omega)).trans ((znew_ne (show i ≠ b + 2 by omega)).trans ((zup_ne (by omega)).trans ((znew_ne (show i ≠ b + 1 by omega)).trans (rfl))))))))))))) zup_at ((zup_ne (by omega)).trans ((zup_ne (by omega)).trans ((znew_ne (show b + 1 ≠ b + 5 by omega)).trans ((zup_ne (by omega)).trans ((znew_ne (show b + 1 ≠ b + 4 by omega)).trans ((zup_ne (by omega)).trans ((znew_ne (show b + 1 ≠ b + 3 by omega)).trans ((zup_ne (by omega)).trans ((znew_ne (show b + 1 ≠ b + 2 by omega)).trans ((zup_ne (by omega)).trans (znew_at))))))))))) ((zup_ne (by omega)).trans ((zup_ne (by omega)).trans ((znew_ne (show b + 2 ≠ b + 5 by omega)).trans ((zup_ne (by omega)).trans ((znew_ne (show b + 2 ≠ b + 4 by omega)).trans ((zup_ne (by omega)).trans ((znew_ne (show b + 2 ≠ b + 3 by omega)).trans ((zup_ne (by omega)).trans (znew_at))))))))) ((zup_ne (by omega)).trans ((zup_ne (by omega)).trans ((znew_ne (show b + 3 ≠ b + 5 by omega)).trans ((zup_ne (by omega)).trans ((znew_ne (show b + 3 ≠ b + 4 by omega)).trans ((zup_ne (by omega)).trans (znew_at))))))) ((zup_ne (by omega)).trans ((zup_ne (by omega)).trans ((znew_ne (show b + 4 ≠ b + 5 by omega)).trans ((zup_ne (by omega)).trans (znew_at))))) ((zup_ne (by omega)).trans ((zup_ne (by omega)).trans (znew_at)))
set_option maxRecDepth 100000 in
set_option maxHeartbeats 8000000 in
theorem c_X8_init (hd : 2 ≤ d) (hw : w.2 = 73) (h0 : w.1 72 = some (.inl (7, [.null, .null, .long 0, .long 0, .int 0, .null, .null, .int 0, .int 0, .int 0, .int 0, .int 0, .int 0, .null, .int 0, .null, .null, .null, .null, .null, .null, .null, .null, .null, .null, .long 0]))) (k : ∀ w', w'.2 = 88 → (∀ i, (i < 72 ∨ 88 ≤ i) → w'.1 i = w.1 i) → zMo g w' zS0 → K none w') : zCall g d 15 2502 mX8_init [zR g 72] w K := by
  obtain ⟨f, m⟩ := w
  obtain rfl : m = 73 := hw
  refine zenter [some _] pn_X8 rfl (Nat.le_of_ble_eq_true rfl) ?_
  refine q_aload_n (pc := 0) dX8_init_0 rfl rfl ?_
  refine q_objinit (pc := 1) tw_4_234 tw_1_22 tw_1_23 dX8_init_1 (by omega) rfl ?_
  refine q_aload_n (pc := 4) dX8_init_4 rfl rfl ?_
  refine q_sipush (pc := 5) (by decide) dX8_init_5 ?_
  refine q_newint (pc := 8) dX8_init_8 tw_1_57 (by omega) 14 2334 (Nat.le_of_ble_eq_true rfl) (by decide) ?_
  refine q_putfinal2 (pc := 10) [_, _, _, _, _, _, _, _, _, _, _, _, _, _, _, _, _, _, _, _, _, _, _, _, _, _] pf_X8_7 dX8_init_10 rfl ((znew_ne (show (72 : Nat) ≠ 73 by omega)).trans h0) rfl rfl (Nat.le_of_ble_eq_true rfl) rfl ?_
  refine q_aload_n (pc := 13) dX8_init_13 rfl rfl ?_
  refine q_iconst (pc := 14) dX8_init_14 ?_
  refine q_newint (pc := 15) dX8_init_15 tw_1_57 (by omega) 13 2331 (Nat.le_of_ble_eq_true rfl) (by decide) ?_
  refine q_putfinal2 (pc := 17) [_, _, _, _, _, _, _, _, _, _, _, _, _, _, _, _, _, _, _, _, _, _, _, _, _, _] pf_X8_13 dX8_init_17 rfl ((znew_ne (show (72 : Nat) ≠ 74 by omega)).trans zup_at) rfl rfl (Nat.le_of_ble_eq_true rfl) rfl ?_
  refine q_aload_n (pc := 20) dX8_init_20 rfl rfl ?_
  refine q_lconst (pc := 21) (v := 1) dX8_init_21 rfl ?_
  refine q_putfield2 (pc := 22) [_, _, _, _, _, _, _, _, _, _, _, _, _, _, _, _, _, _, _, _, _, _, _, _, _, _] pf_X8_16 dX8_init_22 zup_at rfl rfl (Nat.le_of_ble_eq_true rfl) rfl ?_
  refine q_aload_n (pc := 25) dX8_init_25 rfl rfl ?_
  refine q_sipush (pc := 26) (by decide) dX8_init_26 ?_
  refine q_newint (pc := 29) dX8_init_29 tw_1_57 (by omega) 12 1851 (Nat.le_of_ble_eq_true rfl) (by decide) ?_
  refine q_putfinal2 (pc := 31) [_, _, _, _, _, _, _, _, _, _, _, _, _, _, _, _, _, _, _, _, _, _, _, _, _, _] pf_X8_20 dX8_init_31 rfl ((znew_ne (show (72 : Nat) ≠ 75 by omega)).trans zup_at) rfl rfl (Nat.le_of_ble_eq_true rfl) rfl ?_
  refine q_aload_n (pc := 34) dX8_init_34 rfl rfl ?_
  refine q_sipush (pc := 35) (by decide) dX8_init_35 ?_
  refine q_newint (pc := 38) dX8_init_38 tw_1_57 (by omega) 11 1701 (Nat.le_of_ble_eq_true rfl) (by decide) ?_
  refine q_putfinal2 (pc := 40) [_, _, _, _, _, _, _, _, _, _, _, _, _, _, _, _, _, _, _, _, _, _, _, _, _, _] pf_X8_23 dX8_init_40 rfl ((znew_ne (show (72 : Nat) ≠ 76 by omega)).trans zup_at) rfl rfl (Nat.le_of_ble_eq_true rfl) rfl ?_
  refine q_aload_n (pc := 43) dX8_init_43 rfl rfl ?_
  refine q_sipush (pc := 44) (by decide) dX8_init_44 ?_
  refine q_newint (pc := 47) dX8_init_47 tw_1_57 (by omega) 10 1533 (Nat.le_of_ble_eq_true rfl) (by decide) ?_
  refine q_putfinal2 (pc := 49) [_, _, _, _, _, _, _, _, _, _, _, _, _, _, _, _, _, _, _, _, _, _, _, _, _, _] pf_X8_26 dX8_init_49 rfl ((znew_ne (show (72 : Nat) ≠ 77 by omega)).trans zup_at) rfl rfl (Nat.le_of_ble_eq_true rfl) rfl ?_
  refine q_aload_n (pc := 52) dX8_init_52 rfl rfl ?_
  refine q_bipush (pc := 53) (by decide) dX8_init_53 ?_
  refine q_newint (pc := 55) dX8_init_55 tw_1_57 (by omega) 9 1523 (Nat.le_of_ble_eq_true rfl) (by decide) ?_
  refine q_putfinal2 (pc := 57) [_, _, _, _, _, _, _, _, _, _, _, _, _, _, _, _, _, _, _, _, _, _, _, _, _, _] pf_X8_29 dX8_init_57 rfl ((znew_ne (show (72 : Nat) ≠ 78 by omega)).trans zup_at) rfl rfl (Nat.le_of_ble_eq_true rfl) rfl ?_
  refine q_aload_n (pc := 60) dX8_init_60 rfl rfl ?_
  refine q_bipush (pc := 61) (by decide) dX8_init_61 ?_
  refine q_newint (pc := 63) dX8_init_63 tw_1_57 (by omega) 8 1482 (Nat.le_of_ble_eq_true rfl) (by decide) ?_
  refine q_putfinal2 (pc := 65) [_, _, _, _, _, _, _, _, _, _, _, _, _, _, _, _, _, _, _, _, _, _, _, _, _, _] pf_X8_32 dX8_init_65 rfl ((znew_ne (show (72 : Nat) ≠ 79 by omega)).trans zup_at) rfl rfl (Nat.le_of_ble_eq_true rfl) rfl ?_
  refine q_aload_n (pc := 68) dX8_init_68 rfl rfl ?_
  refine q_iconst (pc := 69) dX8_init_69 ?_
  refine q_newint (pc := 70) dX8_init_70 tw_1_57 (by omega) 7 1478 (Nat.le_of_ble_eq_true rfl) (by decide) ?_
  refine q_putfinal2 (pc := 72) [_, _, _, _, _, _, _, _, _, _, _, _, _, _, _, _, _, _, _, _, _, _, _, _, _, _] pf_X8_35 dX8_init_72 rfl ((znew_ne (show (72 : Nat) ≠ 80 by omega)).trans zup_at) rfl rfl (Nat.le_of_ble_eq_true rfl) rfl ?_
  refine q_aload_n (pc := 75) dX8_init_75 rfl rfl ?_
  refine q_iconst (pc := 76) dX8_init_76 ?_
  refine q_newint (pc := 77) dX8_init_77 tw_1_57 (by omega) 6 1474 (Nat.le_of_ble_eq_true rfl) (by decide) ?_
  refine q_putfinal2 (pc := 79) [_, _, _, _, _, _, _, _, _, _, _, _, _, _, _, _, _, _, _, _, _, _, _, _, _, _] pf_X8_38 dX8_init_79 rfl ((znew_ne (show (72 : Nat) ≠ 81 by omega)).trans zup_at) rfl rfl (Nat.le_of_ble_eq_true rfl) rfl ?_
  refine q_aload_n (pc := 82) dX8_init_82 rfl rfl ?_
  refine q_bipush (pc := 83) (by decide) dX8_init_83 ?_
  refine q_newint (pc := 85) dX8_init_85 tw_1_57 (by omega) 5 1468 (Nat.le_of_ble_eq_true rfl) (by decide) ?_
  refine q_putfinal2 (pc := 87) [_, _, _, _, _, _, _, _, _, _, _, _, _, _, _, _, _, _, _, _, _, _, _, _, _, _] pf_X8_41 dX8_init_87 rfl ((znew_ne (show (72 : Nat) ≠ 82 by omega)).trans zup_at) rfl rfl (Nat.le_of_ble_eq_true rfl) rfl ?_
  refine q_aload_n (pc := 90) dX8_init_90 rfl rfl ?_
  refine q_sipush (pc := 91) (by decide) dX8_init_91 ?_
  refine q_newint (pc := 94) dX8_init_94 tw_1_57 (by omega) 4 1300 (Nat.le_of_ble_eq_true rfl) (by decide) ?_
  refine q_putfinal2 (pc := 96) [_, _, _, _, _, _, _, _, _, _, _, _, _, _, _, _, _, _, _, _, _, _, _, _, _, _] pf_X8_44 dX8_init_96 rfl ((znew_ne (show (72 : Nat) ≠ 83 by omega)).trans zup_at) rfl rfl (Nat.le_of_ble_eq_true rfl) rfl ?_
  refine q_aload_n (pc := 99) dX8_init_99 rfl rfl ?_
  refine q_sipush (pc := 100) (by decide) dX8_init_100 ?_
  refine q_newint (pc := 103) dX8_init_103 tw_1_57 (by omega) 3 964 (Nat.le_of_ble_eq_true rfl) (by decide) ?_
  refine q_putfinal2 (pc := 105) [_, _, _, _, _, _, _, _, _, _, _, _, _, _, _, _, _, _, _, _, _, _, _, _, _, _] pf_X8_47 dX8_init_105 rfl ((znew_ne (show (72 : Nat) ≠ 84 by omega)).trans zup_at) rfl rfl (Nat.le_of_ble_eq_true rfl) rfl ?_
  refine q_aload_n (pc := 108) dX8_init_108 rfl rfl ?_
  refine q_iconst (pc := 109) dX8_init_109 ?_
  refine q_newbool (pc := 110) dX8_init_110 tw_5_74 (by omega) 2 962 (Nat.le_of_ble_eq_true rfl) (by decide) ?_
  refine q_putfinal2 (pc := 112) [_, _, _, _, _, _, _, _, _, _, _, _, _, _, _, _, _, _, _, _, _, _, _, _, _, _] pf_X8_50 dX8_init_112 rfl ((znew_ne (show (72 : Nat) ≠ 85 by omega)).trans zup_at) rfl rfl (Nat.le_of_ble_eq_true rfl) rfl ?_
  refine q_aload_n (pc := 115) dX8_init_115 rfl rfl ?_
  refine q_iconst (pc := 116) dX8_init_116 ?_
  refine q_newint (pc := 117) dX8_init_117 tw_1_57 (by omega) 1 960 (Nat.le_of_ble_eq_true rfl) (by decide) ?_
  refine q_putfinal2 (pc := 119) [_, _, _, _, _, _, _, _, _, _, _, _, _, _, _, _, _, _, _, _, _, _, _, _, _, _] pf_X8_54 dX8_init_119 rfl ((znew_ne (show (72 : Nat) ≠ 86 by omega)).trans zup_at) rfl rfl (Nat.le_of_ble_eq_true rfl) rfl ?_
  refine q_aload_n (pc := 122) dX8_init_122 rfl rfl ?_
  refine q_sipush (pc := 123) (by decide) dX8_init_123 ?_
  refine q_newint (pc := 126) dX8_init_126 tw_1_57 (by omega) 0 0 (Nat.le_of_ble_eq_true rfl) (by decide) ?_
  refine q_putfinal2 (pc := 128) [_, _, _, _, _, _, _, _, _, _, _, _, _, _, _, _, _, _, _, _, _, _, _, _, _, _] pf_X8_57 dX8_init_128 rfl ((znew_ne (show (72 : Nat) ≠ 87 by omega)).trans zup_at) rfl rfl (Nat.le_of_ble_eq_true rfl) rfl ?_
  refine q_aload_n (pc := 131) dX8_init_131 rfl rfl ?_
  refine q_getfield (pc := 132) gf_X8_7 dX8_init_132 zup_at rfl ?_
  refine q_iconst (pc := 135) dX8_init_135 ?_
  refine q_iconst (pc := 136) dX8_init_136 ?_
  refine q_iastore (pc := 137) dX8_init_137 ((zup_ne (by omega)).trans ((znew_ne (show (73 : Nat) ≠ 87 by omega)).trans ((zup_ne (by omega)).trans ((znew_ne (show (73 : Nat) ≠ 86 by omega)).trans ((zup_ne (by omega)).trans ((znew_ne (show (73 : Nat) ≠ 85 by omega)).trans ((zup_ne (by omega)).trans ((znew_ne (show (73 : Nat) ≠ 84 by omega)).trans ((zup_ne (by omega)).trans ((znew_ne (show (73 : Nat) ≠ 83 by omega)).trans ((zup_ne (by omega)).trans ((znew_ne (show (73 : Nat) ≠ 82 by omega)).trans ((zup_ne (by omega)).trans ((znew_ne (show (73 : Nat) ≠ 81 by omega)).trans ((zup_ne (by omega)).trans ((znew_ne (show (73 : Nat) ≠ 80 by omega)).trans ((zup_ne (by omega)).trans ((znew_ne (show (73 : Nat) ≠ 79 by omega)).trans ((zup_ne (by omega)).trans ((znew_ne (show (73 : Nat) ≠ 78 by omega)).trans ((zup_ne (by omega)).trans ((znew_ne (show (73 : Nat) ≠ 77 by omega)).trans ((zup_ne (by omega)).trans ((znew_ne (show (73 : Nat) ≠ 76 by omega)).trans ((zup_ne (by omega)).trans ((znew_ne (show (73 : Nat) ≠ 75 by omega)).trans ((zup_ne (by omega)).trans ((zup_ne (by omega)).trans ((znew_ne (show (73 : Nat) ≠ 74 by omega)).trans ((zup_ne (by omega)).trans (znew_at))))))))))))))))))))))))))))))) (by omega) ?_
  refine q_return (pc := 138) dX8_init_138 rfl ?_
  exact k _ rfl (fun i hi => ((zup_ne (by omega)).trans ((zup_ne (by omega)).trans ((znew_ne (show i ≠ 87 by omega)).trans ((zup_ne (by omega)).trans ((znew_ne (show i ≠ 86 by omega)).trans ((zup_ne (by omega)).trans ((znew_ne (show i ≠ 85 by omega)).trans ((zup_ne (by omega)).trans ((znew_ne (show i ≠ 84 by omega)).trans ((zup_ne (by omega)).trans ((znew_ne (show i ≠ 83 by omega)).trans ((zup_ne (by omega)).trans ((znew_ne (show i ≠ 82 by omega)).trans ((zup_ne (by omega)).trans ((znew_ne (show i ≠ 81 by omega)).trans ((zup_ne (by omega)).trans ((znew_ne (show i ≠ 80 by omega)).trans ((zup_ne (by omega)).trans ((znew_ne (show i ≠ 79 by omega)).trans ((zup_ne (by omega)).trans ((znew_ne (show i ≠ 78 by omega)).trans ((zup_ne (by omega)).trans ((znew_ne (show i ≠ 77 by omega)).trans ((zup_ne (by omega)).trans ((znew_ne (show i ≠ 76 by omega)).trans ((zup_ne (by omega)).trans ((znew_ne (show i ≠ 75 by omega)).trans ((zup_ne (by omega)).trans ((zup_ne (by omega)).trans ((znew_ne (show i ≠ 74 by omega)).trans ((zup_ne (by omega)).trans ((znew_ne (show i ≠ 73 by omega)).trans (rfl)))))))))))))))))))))))))))))))))) ⟨⟨0, 0, 0, 0, 0, 0, 0, (zup_ne (by omega)).trans zup_at⟩, zup_at.trans (by rw [zfu_same rfl]; rfl), ((zup_ne (by omega)).trans ((zup_ne (by omega)).trans ((znew_ne (show (74 : Nat) ≠ 87 by omega)).trans ((zup_ne (by omega)).trans ((znew_ne (show (74 : Nat) ≠ 86 by omega)).trans ((zup_ne (by omega)).trans ((znew_ne (show (74 : Nat) ≠ 85 by omega)).trans ((zup_ne (by omega)).trans ((znew_ne (show (74 : Nat) ≠ 84 by omega)).trans ((zup_ne (by omega)).trans ((znew_ne (show (74 : Nat) ≠ 83 by omega)).trans ((zup_ne (by omega)).trans ((znew_ne (show (74 : Nat) ≠ 82 by omega)).trans ((zup_ne (by omega)).trans ((znew_ne (show (74 : Nat) ≠ 81 by omega)).trans ((zup_ne (by omega)).trans ((znew_ne (show (74 : Nat) ≠ 80 by omega)).trans ((zup_ne (by omega)).trans ((znew_ne (show (74 : Nat) ≠ 79 by omega)).trans ((zup_ne (by omega)).trans ((znew_ne (show (74 : Nat) ≠ 78 by omega)).trans ((zup_ne (by omega)).trans ((znew_ne (show (74 : Nat) ≠ 77 by omega)).trans ((zup_ne (by omega)).trans ((znew_ne (show (74 : Nat) ≠ 76 by omega)).trans ((zup_ne (by omega)).trans ((znew_ne (show (74 : Nat) ≠ 75 by omega)).trans ((zup_ne (by omega)).trans ((zup_ne (by omega)).trans (znew_at)))))))))))))))))))))))))))))), ((zup_ne (by omega)).trans ((zup_ne (by omega)).trans ((znew_ne (show (75 : Nat) ≠ 87 by omega)).trans ((zup_ne (by omega)).trans ((znew_ne (show (75 : Nat) ≠ 86 by omega)).trans ((zup_ne (by omega)).trans ((znew_ne (show (75 : Nat) ≠ 85 by omega)).trans ((zup_ne (by omega)).trans ((znew_ne (show (75 : Nat) ≠ 84 by omega)).trans ((zup_ne (by omega)).trans ((znew_ne (show (75 : Nat) ≠ 83 by omega)).trans ((zup_ne (by omega)).trans ((znew_ne (show (75 : Nat) ≠ 82 by omega)).trans ((zup_ne (by omega)).trans ((znew_ne (show (75 : Nat) ≠ 81 by omega)).trans ((zup_ne (by omega)).trans ((znew_ne (show (75 : Nat) ≠ 80 by omega)).trans ((zup_ne (by omega)).trans ((znew_ne (show (75 : Nat) ≠ 79 by omega)).trans ((zup_ne (by omega)).trans ((znew_ne (show (75 : Nat) ≠ 78 by omega)).trans ((zup_ne (by omega)).trans ((znew_ne (show (75 : Nat) ≠ 77 by omega)).trans ((zup_ne (by omega)).trans ((znew_ne (show (75 : Nat) ≠ 76 by omega)).trans ((zup_ne (by omega)).trans (znew_at))))))))))))))))))))))))))), ((zup_ne (by omega)).trans ((zup_ne (by omega)).trans ((znew_ne (show (76 : Nat) ≠ 87 by omega)).trans ((zup_ne (by omega)).trans ((znew_ne (show (76 : Nat) ≠ 86 by omega)).trans ((zup_ne (by omega)).trans ((znew_ne (show (76 : Nat) ≠ 85 by omega)).trans ((zup_ne (by omega)).trans ((znew_ne (show (76 : Nat) ≠ 84 by omega)).trans ((zup_ne (by omega)).trans ((znew_ne (show (76 : Nat) ≠ 83 by omega)).trans ((zup_ne (by omega)).trans ((znew_ne (show (76 : Nat) ≠ 82 by omega)).trans ((zup_ne (by omega)).trans ((znew_ne (show (76 : Nat) ≠ 81 by omega)).trans ((zup_ne (by omega)).trans ((znew_ne (show (76 : Nat) ≠ 80 by omega)).trans ((zup_ne (by omega)).trans ((znew_ne (show (76 : Nat) ≠ 79 by omega)).trans ((zup_ne (by omega)).trans ((znew_ne (show (76 : Nat) ≠ 78 by omega)).trans ((zup_ne (by omega)).trans ((znew_ne (show (76 : Nat) ≠ 77 by omega)).trans ((zup_ne (by omega)).trans (znew_at))))))))))))))))))))))))), ⟨⟨_, ((zup_ne (by omega)).trans ((zup_ne (by omega)).trans ((znew_ne (show (77 : Nat) ≠ 87 by omega)).trans ((zup_ne (by omega)).trans ((znew_ne (show (77 : Nat) ≠ 86 by omega)).trans ((zup_ne (by omega)).trans ((znew_ne (show (77 : Nat) ≠ 85 by omega)).trans ((zup_ne (by omega)).trans ((znew_ne (show (77 : Nat) ≠ 84 by omega)).trans ((zup_ne (by omega)).trans ((znew_ne (show (77 : Nat) ≠ 83 by omega)).trans ((zup_ne (by omega)).trans ((znew_ne (show (77 : Nat) ≠ 82 by omega)).trans ((zup_ne (by omega)).trans ((znew_ne (show (77 : Nat) ≠ 81 by omega)).trans ((zup_ne (by omega)).trans ((znew_ne (show (77 : Nat) ≠ 80 by omega)).trans ((zup_ne (by omega)).trans ((znew_ne (show (77 : Nat) ≠ 79 by omega)).trans ((zup_ne (by omega)).trans ((znew_ne (show (77 : Nat) ≠ 78 by omega)).trans ((zup_ne (by omega)).trans (znew_at)))))))))))))))))))))))⟩, ⟨_, ((zup_ne (by omega)).trans ((zup_ne (by omega)).trans ((znew_ne (show (78 : Nat) ≠ 87 by omega)).trans ((zup_ne (by omega)).trans ((znew_ne (show (78 : Nat) ≠ 86 by omega)).trans ((zup_ne (by omega)).trans ((znew_ne (show (78 : Nat) ≠ 85 by omega)).trans ((zup_ne (by omega)).trans ((znew_ne (show (78 : Nat) ≠ 84 by omega)).trans ((zup_ne (by omega)).trans ((znew_ne (show (78 : Nat) ≠ 83 by omega)).trans ((zup_ne (by omega)).trans ((znew_ne (show (78 : Nat) ≠ 82 by omega)).trans ((zup_ne (by omega)).trans ((znew_ne (show (78 : Nat) ≠ 81 by omega)).trans ((zup_ne (by omega)).trans ((znew_ne (show (78 : Nat) ≠ 80 by omega)).trans ((zup_ne (by omega)).trans ((znew_ne (show (78 : Nat) ≠ 79 by omega)).trans ((zup_ne (by omega)).trans (znew_at)))))))))))))))))))))⟩, ⟨_, ((zup_ne (by omega)).trans ((zup_ne (by omega)).trans ((znew_ne (show (79 : Nat) ≠ 87 by omega)).trans ((zup_ne (by omega)).trans ((znew_ne (show (79 : Nat) ≠ 86 by omega)).trans ((zup_ne (by omega)).trans ((znew_ne (show (79 : Nat) ≠ 85 by omega)).trans ((zup_ne (by omega)).trans ((znew_ne (show (79 : Nat) ≠ 84 by omega)).trans ((zup_ne (by omega)).trans ((znew_ne (show (79 : Nat) ≠ 83 by omega)).trans ((zup_ne (by omega)).trans ((znew_ne (show (79 : Nat) ≠ 82 by omega)).trans ((zup_ne (by omega)).trans ((znew_ne (show (79 : Nat) ≠ 81 by omega)).trans ((zup_ne (by omega)).trans ((znew_ne (show (79 : Nat) ≠ 80 by omega)).trans ((zup_ne (by omega)).trans (znew_at)))))))))))))))))))⟩, ⟨_, ((zup_ne (by omega)).trans ((zup_ne (by omega)).trans ((znew_ne (show (80 : Nat) ≠ 87 by omega)).trans ((zup_ne (by omega)).trans ((znew_ne (show (80 : Nat) ≠ 86 by omega)).trans ((zup_ne (by omega)).trans ((znew_ne (show (80 : Nat) ≠ 85 by omega)).trans ((zup_ne (by omega)).trans ((znew_ne (show (80 : Nat) ≠ 84 by omega)).trans ((zup_ne (by omega)).trans ((znew_ne (show (80 : Nat) ≠ 83 by omega)).trans ((zup_ne (by omega)).trans ((znew_ne (show (80 : Nat) ≠ 82 by omega)).trans ((zup_ne (by omega)).trans ((znew_ne (show (80 : Nat) ≠ 81 by omega)).trans ((zup_ne (by omega)).trans (znew_at)))))))))))))))))⟩, ⟨_, ((zup_ne (by omega)).trans ((zup_ne (by omega)).trans ((znew_ne (show (81 : Nat) ≠ 87 by omega)).trans ((zup_ne (by omega)).trans ((znew_ne (show (81 : Nat) ≠ 86 by omega)).trans ((zup_ne (by omega)).trans ((znew_ne (show (81 : Nat) ≠ 85 by omega)).trans ((zup_ne (by omega)).trans ((znew_ne (show (81 : Nat) ≠ 84 by omega)).trans ((zup_ne (by omega)).trans ((znew_ne (show (81 : Nat) ≠ 83 by omega)).trans ((zup_ne (by omega)).trans ((znew_ne (show (81 : Nat) ≠ 82 by omega)).trans ((zup_ne (by omega)).trans (znew_at)))))))))))))))⟩, ⟨_, ((zup_ne (by omega)).trans ((zup_ne (by omega)).trans ((znew_ne (show (82 : Nat) ≠ 87 by omega)).trans ((zup_ne (by omega)).trans ((znew_ne (show (82 : Nat) ≠ 86 by omega)).trans ((zup_ne (by omega)).trans ((znew_ne (show (82 : Nat) ≠ 85 by omega)).trans ((zup_ne (by omega)).trans ((znew_ne (show (82 : Nat) ≠ 84 by omega)).trans ((zup_ne (by omega)).trans ((znew_ne (show (82 : Nat) ≠ 83 by omega)).trans ((zup_ne (by omega)).trans (znew_at)))))))))))))⟩, _, ((zup_ne (by omega)).trans ((zup_ne (by omega)).trans ((znew_ne (show (83 : Nat) ≠ 87 by omega)).trans ((zup_ne (by omega)).trans ((znew_ne (show (83 : Nat) ≠ 86 by omega)).trans ((zup_ne (by omega)).trans ((znew_ne (show (83 : Nat) ≠ 85 by omega)).trans ((zup_ne (by omega)).trans ((znew_ne (show (83 : Nat) ≠ 84 by omega)).trans ((zup_ne (by omega)).trans (znew_at)))))))))))⟩, ((zup_ne (by omega)).trans ((zup_ne (by omega)).trans ((znew_ne (show (84 : Nat) ≠ 87 by omega)).trans ((zup_ne (by omega)).trans ((znew_ne (show (84 : Nat) ≠ 86 by omega)).trans ((zup_ne (by omega)).trans ((znew_ne (show (84 : Nat) ≠ 85 by omega)).trans ((zup_ne (by omega)).trans (znew_at))))))))), ((zup_ne (by omega)).trans ((zup_ne (by omega)).trans ((znew_ne (show (85 : Nat) ≠ 87 by omega)).trans ((zup_ne (by omega)).trans ((znew_ne (show (85 : Nat) ≠ 86 by omega)).trans ((zup_ne (by omega)).trans (znew_at))))))), ((zup_ne (by omega)).trans ((zup_ne (by omega)).trans ((znew_ne (show (86 : Nat) ≠ 87 by omega)).trans ((zup_ne (by omega)).trans (znew_at))))), ((zup_ne (by omega)).trans ((zup_ne (by omega)).trans (znew_at)))⟩
set_option maxRecDepth 100000 in
set_option maxHeartbeats 8000000 in
theorem c_X7_init (hd : 4 ≤ d) (hw : w.2 = 1) (h0 : w.1 0 = some (.inl (6, [.null, .null, .null, .null, .null, .null, .null, .null, .int 0, .int 0, .long 0, .long 0, .int 0, .int 0, .int 0]))) (k : ∀ w', w'.2 = 72 → zCl g w' zS0 → K none w') : zCall g d 71 3229 mX7_init [zR g 0] w K := by
  have J108 : ∀ w1 : zWd, w1.2 = 72 → w1.1 0 = some (.inl (6, [zR g 1, zR g 16, zR g 31, zR g 46, zR g 61, zR g 63, zR g 64, zR g 70, .int 0, .int 0, .long 0, .long 0, .int 0, .int 0, .int 0])) → (∀ P, zSto g w1 1 (fun _ => 0) 0 P) → (∀ P, zSto g w1 16 (fun _ => 0) 0 P) → (∀ P, zSto g w1 31 (fun _ => 0) 0 P) → (∀ P, zSto g w1 46 (fun _ => 0) 0 P) → w1.1 61 = some (zRd g 61 46 0 0 0 0 0) → w1.1 62 = some (.inr (false, 150, fun _ => 0)) → w1.1 63 = some (.inl (1, [zR g 1])) → w1.1 64 = some (.inl (0, [zR g 1, zR g 65, zR g 66, zR g 67, zR g 68, zR g 69])) → w1.1 65 = some (.inr (false, 41, fun _ => 0)) → w1.1 66 = some (.inr (false, 24, fun _ => 0)) → w1.1 67 = some (.inr (false, 4, fun _ => 0)) → w1.1 68 = some (.inr (false, 6, fun _ => 0)) → w1.1 69 = some (.inr (false, 6, fun _ => 0)) → w1.1 70 = some (.inl (4, [zR g 1, zR g 71])) → w1.1 71 = some (.inr (false, 6, fun _ => 0)) → zRuns g d mX7_init 0 0 108 [some (zR g 0)] [] w1 K := by
    intro w1 e1 hob hS1 hS16 hS31 hS46 h61 h62 h63 h64 h65 h66 h67 h68 h69 h70 h71
    obtain ⟨f1, m1⟩ := w1
    obtain rfl : m1 = 72 := e1
    refine q_aload_n (pc := 108) dX7_init_108 rfl rfl ?_
    refine q_lconst (pc := 109) (v := 0) dX7_init_109 rfl ?_
    refine q_putfield2 (pc := 110) [_, _, _, _, _, _, _, _, _, _, _, _, _, _, _] pf_X7_55 dX7_init_110 hob rfl rfl (Nat.le_of_ble_eq_true rfl) rfl ?_
    refine q_aload_n (pc := 113) dX7_init_113 rfl rfl ?_
    refine q_lconst (pc := 114) (v := 1) dX7_init_114 rfl ?_
    refine q_putfield2 (pc := 115) [_, _, _, _, _, _, _, _, _, _, _, _, _, _, _] pf_X7_59 dX7_init_115 zup_at rfl rfl (Nat.le_of_ble_eq_true rfl) rfl ?_
    refine q_return (pc := 118) dX7_init_118 rfl ?_
    exact k _ rfl ⟨zup_at, (hS1 _).low (fun i a b => (zup_ne (show i ≠ 0 by omega)).trans (zup_ne (show i ≠ 0 by omega))), ((hS16 (fun _ => 0)).low (fun i a b => (zup_ne (show i ≠ 0 by omega)).trans (zup_ne (show i ≠ 0 by omega)))).shp, ((hS31 (fun _ => 0)).low (fun i a b => (zup_ne (show i ≠ 0 by omega)).trans (zup_ne (show i ≠ 0 by omega)))).shp, ((hS46 (fun _ => 0)).low (fun i a b => (zup_ne (show i ≠ 0 by omega)).trans (zup_ne (show i ≠ 0 by omega)))).shp, fun z => absurd (show (0 : Int) = 1 from z) (by decide), fun z => absurd (show (0 : Int) = 1 from z) (by decide), ⟨0, 0, 0, 0, (zup_ne (by omega)).trans ((zup_ne (by omega)).trans h61), by omega⟩, (zup_ne (by omega)).trans ((zup_ne (by omega)).trans h62), (zup_ne (by omega)).trans ((zup_ne (by omega)).trans h63), (zup_ne (by omega)).trans ((zup_ne (by omega)).trans h64), ⟨_, (zup_ne (by omega)).trans ((zup_ne (by omega)).trans h65)⟩, ⟨_, (zup_ne (by omega)).trans ((zup_ne (by omega)).trans h66)⟩, ⟨_, (zup_ne (by omega)).trans ((zup_ne (by omega)).trans h67)⟩, ⟨_, (zup_ne (by omega)).trans ((zup_ne (by omega)).trans h68)⟩, ⟨_, (zup_ne (by omega)).trans ((zup_ne (by omega)).trans h69)⟩, (zup_ne (by omega)).trans ((zup_ne (by omega)).trans h70), _, (zup_ne (by omega)).trans ((zup_ne (by omega)).trans h71)⟩
  have J93 : ∀ w1 : zWd, w1.2 = 70 → w1.1 0 = some (.inl (6, [zR g 1, zR g 16, zR g 31, zR g 46, zR g 61, zR g 63, zR g 64, .null, .int 0, .int 0, .long 0, .long 0, .int 0, .int 0, .int 0])) → (∀ P, zSto g w1 1 (fun _ => 0) 0 P) → (∀ P, zSto g w1 16 (fun _ => 0) 0 P) → (∀ P, zSto g w1 31 (fun _ => 0) 0 P) → (∀ P, zSto g w1 46 (fun _ => 0) 0 P) → w1.1 61 = some (zRd g 61 46 0 0 0 0 0) → w1.1 62 = some (.inr (false, 150, fun _ => 0)) → w1.1 63 = some (.inl (1, [zR g 1])) → w1.1 64 = some (.inl (0, [zR g 1, zR g 65, zR g 66, zR g 67, zR g 68, zR g 69])) → w1.1 65 = some (.inr (false, 41, fun _ => 0)) → w1.1 66 = some (.inr (false, 24, fun _ => 0)) → w1.1 67 = some (.inr (false, 4, fun _ => 0)) → w1.1 68 = some (.inr (false, 6, fun _ => 0)) → w1.1 69 = some (.inr (false, 6, fun _ => 0)) → zRuns g d mX7_init 2 8 93 [some (zR g 0)] [] w1 K := by
    intro w1 e1 hob hS1 hS16 hS31 hS46 h61 h62 h63 h64 h65 h66 h67 h68 h69
    obtain ⟨f1, m1⟩ := w1
    obtain rfl : m1 = 70 := e1
    refine q_aload_n (pc := 93) dX7_init_93 rfl rfl ?_
    refine q_new (pc := 94) nw_X7_48 dX7_init_94 1 6 (Nat.le_of_ble_eq_true rfl) (Nat.le_of_ble_eq_true rfl) ?_
    refine q_dup (pc := 97) rfl dX7_init_97 ?_
    refine q_aload_n (pc := 98) dX7_init_98 rfl rfl ?_
    refine q_getfield (pc := 99) gf_X7_10 dX7_init_99 ((znew_ne (show (0 : Nat) ≠ 70 by omega)).trans hob) rfl ?_
    refine q_invokeinit (pc := 102) (d' := d - 1) (mc' := 1) (ms' := 6) (As := [_]) cl_X7_50 dX7_init_102 rfl rfl (by omega) rfl 0 0 (Nat.le_of_ble_eq_true rfl) (Nat.le_of_ble_eq_true rfl) ?_
    refine c_X5_init (b := 70) (s := 1) (by omega) rfl znew_at (fun w2 e2 hl2 hN hN2 => ?_)
    refine q_putfinal2 (pc := 105) [_, _, _, _, _, _, _, _, _, _, _, _, _, _, _] pf_X7_51 dX7_init_105 rfl ((hl2 0 (by omega)).trans ((znew_ne (show (0 : Nat) ≠ 70 by omega)).trans hob)) rfl rfl (Nat.le_of_ble_eq_true rfl) rfl ?_
    exact J108 _ e2 zup_at (fun P => (hS1 P).low (fun i a b => (zup_ne (by omega)).trans ((hl2 i (by omega)).trans (znew_ne (show i ≠ 70 by omega))))) (fun P => (hS16 P).low (fun i a b => (zup_ne (by omega)).trans ((hl2 i (by omega)).trans (znew_ne (show i ≠ 70 by omega))))) (fun P => (hS31 P).low (fun i a b => (zup_ne (by omega)).trans ((hl2 i (by omega)).trans (znew_ne (show i ≠ 70 by omega))))) (fun P => (hS46 P).low (fun i a b => (zup_ne (by omega)).trans ((hl2 i (by omega)).trans (znew_ne (show i ≠ 70 by omega))))) (((zup_ne (by omega)).trans ((hl2 (61 : Nat) (by omega)).trans (znew_ne (show (61 : Nat) ≠ 70 by omega)))).trans h61) (((zup_ne (by omega)).trans ((hl2 (62 : Nat) (by omega)).trans (znew_ne (show (62 : Nat) ≠ 70 by omega)))).trans h62) (((zup_ne (by omega)).trans ((hl2 (63 : Nat) (by omega)).trans (znew_ne (show (63 : Nat) ≠ 70 by omega)))).trans h63) (((zup_ne (by omega)).trans ((hl2 (64 : Nat) (by omega)).trans (znew_ne (show (64 : Nat) ≠ 70 by omega)))).trans h64) (((zup_ne (by omega)).trans ((hl2 (65 : Nat) (by omega)).trans (znew_ne (show (65 : Nat) ≠ 70 by omega)))).trans h65) (((zup_ne (by omega)).trans ((hl2 (66 : Nat) (by omega)).trans (znew_ne (show (66 : Nat) ≠ 70 by omega)))).trans h66) (((zup_ne (by omega)).trans ((hl2 (67 : Nat) (by omega)).trans (znew_ne (show (67 : Nat) ≠ 70 by omega)))).trans h67) (((zup_ne (by omega)).trans ((hl2 (68 : Nat) (by omega)).trans (znew_ne (show (68 : Nat) ≠ 70 by omega)))).trans h68) (((zup_ne (by omega)).trans ((hl2 (69 : Nat) (by omega)).trans (znew_ne (show (69 : Nat) ≠ 70 by omega)))).trans h69) ((zup_ne (by omega)).trans hN) ((zup_ne (by omega)).trans hN2)
  have J78 : ∀ w1 : zWd, w1.2 = 64 → w1.1 0 = some (.inl (6, [zR g 1, zR g 16, zR g 31, zR g 46, zR g 61, zR g 63, .null, .null, .int 0, .int 0, .long 0, .long 0, .int 0, .int 0, .int 0])) → (∀ P, zSto g w1 1 (fun _ => 0) 0 P) → (∀ P, zSto g w1 16 (fun _ => 0) 0 P) → (∀ P, zSto g w1 31 (fun _ => 0) 0 P) → (∀ P, zSto g w1 46 (fun _ => 0) 0 P) → w1.1 61 = some (zRd g 61 46 0 0 0 0 0) → w1.1 62 = some (.inr (false, 150, fun _ => 0)) → w1.1 63 = some (.inl (1, [zR g 1])) → zRuns g d mX7_init 8 95 78 [some (zR g 0)] [] w1 K := by
    intro w1 e1 hob hS1 hS16 hS31 hS46 h61 h62 h63
    obtain ⟨f1, m1⟩ := w1
    obtain rfl : m1 = 64 := e1
    refine q_aload_n (pc := 78) dX7_init_78 rfl rfl ?_
    refine q_new (pc := 79) nw_X7_41 dX7_init_79 7 89 (Nat.le_of_ble_eq_true rfl) (Nat.le_of_ble_eq_true rfl) ?_
    refine q_dup (pc := 82) rfl dX7_init_82 ?_
    refine q_aload_n (pc := 83) dX7_init_83 rfl rfl ?_
    refine q_getfield (pc := 84) gf_X7_10 dX7_init_84 ((znew_ne (show (0 : Nat) ≠ 64 by omega)).trans hob) rfl ?_
    refine q_invokeinit (pc := 87) (d' := d - 1) (mc' := 5) (ms' := 81) (As := [_]) cl_X7_43 dX7_init_87 rfl rfl (by omega) rfl 2 8 (Nat.le_of_ble_eq_true rfl) (Nat.le_of_ble_eq_true rfl) ?_
    refine c_X0_init (b := 64) (s := 1) (by omega) rfl znew_at (fun w2 e2 hl2 hN hN2 hN3 hN4 hN5 hN6 => ?_)
    refine q_putfinal2 (pc := 90) [_, _, _, _, _, _, _, _, _, _, _, _, _, _, _] pf_X7_44 dX7_init_90 rfl ((hl2 0 (by omega)).trans ((znew_ne (show (0 : Nat) ≠ 64 by omega)).trans hob)) rfl rfl (Nat.le_of_ble_eq_true rfl) rfl ?_
    exact J93 _ e2 zup_at (fun P => (hS1 P).low (fun i a b => (zup_ne (by omega)).trans ((hl2 i (by omega)).trans (znew_ne (show i ≠ 64 by omega))))) (fun P => (hS16 P).low (fun i a b => (zup_ne (by omega)).trans ((hl2 i (by omega)).trans (znew_ne (show i ≠ 64 by omega))))) (fun P => (hS31 P).low (fun i a b => (zup_ne (by omega)).trans ((hl2 i (by omega)).trans (znew_ne (show i ≠ 64 by omega))))) (fun P => (hS46 P).low (fun i a b => (zup_ne (by omega)).trans ((hl2 i (by omega)).trans (znew_ne (show i ≠ 64 by omega))))) (((zup_ne (by omega)).trans ((hl2 (61 : Nat) (by omega)).trans (znew_ne (show (61 : Nat) ≠ 64 by omega)))).trans h61) (((zup_ne (by omega)).trans ((hl2 (62 : Nat) (by omega)).trans (znew_ne (show (62 : Nat) ≠ 64 by omega)))).trans h62) (((zup_ne (by omega)).trans ((hl2 (63 : Nat) (by omega)).trans (znew_ne (show (63 : Nat) ≠ 64 by omega)))).trans h63) ((zup_ne (by omega)).trans hN) ((zup_ne (by omega)).trans hN2) ((zup_ne (by omega)).trans hN3) ((zup_ne (by omega)).trans hN4) ((zup_ne (by omega)).trans hN5) ((zup_ne (by omega)).trans hN6)
  have J63 : ∀ w1 : zWd, w1.2 = 63 → w1.1 0 = some (.inl (6, [zR g 1, zR g 16, zR g 31, zR g 46, zR g 61, .null, .null, .null, .int 0, .int 0, .long 0, .long 0, .int 0, .int 0, .int 0])) → (∀ P, zSto g w1 1 (fun _ => 0) 0 P) → (∀ P, zSto g w1 16 (fun _ => 0) 0 P) → (∀ P, zSto g w1 31 (fun _ => 0) 0 P) → (∀ P, zSto g w1 46 (fun _ => 0) 0 P) → w1.1 61 = some (zRd g 61 46 0 0 0 0 0) → w1.1 62 = some (.inr (false, 150, fun _ => 0)) → zRuns g d mX7_init 9 96 63 [some (zR g 0)] [] w1 K := by
    intro w1 e1 hob hS1 hS16 hS31 hS46 h61 h62
    obtain ⟨f1, m1⟩ := w1
    obtain rfl : m1 = 63 := e1
    refine q_aload_n (pc := 63) dX7_init_63 rfl rfl ?_
    refine q_new (pc := 64) nw_X7_34 dX7_init_64 8 95 (Nat.le_of_ble_eq_true rfl) (Nat.le_of_ble_eq_true rfl) ?_
    refine q_dup (pc := 67) rfl dX7_init_67 ?_
    refine q_aload_n (pc := 68) dX7_init_68 rfl rfl ?_
    refine q_getfield (pc := 69) gf_X7_10 dX7_init_69 ((znew_ne (show (0 : Nat) ≠ 63 by omega)).trans hob) rfl ?_
    refine q_invokeinit (pc := 72) (d' := d - 1) (mc' := 0) (ms' := 0) (As := [_]) cl_X7_36 dX7_init_72 rfl rfl (by omega) rfl 8 95 (Nat.le_of_ble_eq_true rfl) (Nat.le_of_ble_eq_true rfl) ?_
    refine c_X1_init (b := 63) (s := 1) (by omega) znew_at ?_
    refine q_putfinal2 (pc := 75) [_, _, _, _, _, _, _, _, _, _, _, _, _, _, _] pf_X7_37 dX7_init_75 rfl ((zup_ne (by omega)).trans ((znew_ne (show (0 : Nat) ≠ 63 by omega)).trans hob)) rfl rfl (Nat.le_of_ble_eq_true rfl) rfl ?_
    exact J78 _ rfl zup_at (fun P => (hS1 P).low (fun i a b => (zup_ne (by omega)).trans ((zup_ne (by omega)).trans (znew_ne (show i ≠ 63 by omega))))) (fun P => (hS16 P).low (fun i a b => (zup_ne (by omega)).trans ((zup_ne (by omega)).trans (znew_ne (show i ≠ 63 by omega))))) (fun P => (hS31 P).low (fun i a b => (zup_ne (by omega)).trans ((zup_ne (by omega)).trans (znew_ne (show i ≠ 63 by omega))))) (fun P => (hS46 P).low (fun i a b => (zup_ne (by omega)).trans ((zup_ne (by omega)).trans (znew_ne (show i ≠ 63 by omega))))) (((zup_ne (by omega)).trans ((zup_ne (by omega)).trans (znew_ne (show (61 : Nat) ≠ 63 by omega)))).trans h61) (((zup_ne (by omega)).trans ((zup_ne (by omega)).trans (znew_ne (show (62 : Nat) ≠ 63 by omega)))).trans h62) ((zup_ne (by omega)).trans zup_at)
  have J48 : ∀ w1 : zWd, w1.2 = 61 → w1.1 0 = some (.inl (6, [zR g 1, zR g 16, zR g 31, zR g 46, .null, .null, .null, .null, .int 0, .int 0, .long 0, .long 0, .int 0, .int 0, .int 0])) → (∀ P, zSto g w1 1 (fun _ => 0) 0 P) → (∀ P, zSto g w1 16 (fun _ => 0) 0 P) → (∀ P, zSto g w1 31 (fun _ => 0) 0 P) → (∀ P, zSto g w1 46 (fun _ => 0) 0 P) → zRuns g d mX7_init 11 253 48 [some (zR g 0)] [] w1 K := by
    intro w1 e1 hob hS1 hS16 hS31 hS46
    obtain ⟨f1, m1⟩ := w1
    obtain rfl : m1 = 61 := e1
    refine q_aload_n (pc := 48) dX7_init_48 rfl rfl ?_
    refine q_new (pc := 49) nw_X7_25 dX7_init_49 10 246 (Nat.le_of_ble_eq_true rfl) (Nat.le_of_ble_eq_true rfl) ?_
    refine q_dup (pc := 52) rfl dX7_init_52 ?_
    refine q_aload_n (pc := 53) dX7_init_53 rfl rfl ?_
    refine q_getfield (pc := 54) gf_X7_22 dX7_init_54 ((znew_ne (show (0 : Nat) ≠ 61 by omega)).trans hob) rfl ?_
    refine q_invokeinit (pc := 57) (d' := d - 1) (mc' := 1) (ms' := 150) (As := [_]) cl_X7_27 dX7_init_57 rfl rfl (by omega) rfl 9 96 (Nat.le_of_ble_eq_true rfl) (Nat.le_of_ble_eq_true rfl) ?_
    refine c_X3_init (b := 61) (s := 46) (by omega) rfl znew_at (fun w2 e2 hl2 hN hN2 => ?_)
    refine q_putfinal2 (pc := 60) [_, _, _, _, _, _, _, _, _, _, _, _, _, _, _] pf_X7_30 dX7_init_60 rfl ((hl2 0 (by omega)).trans ((znew_ne (show (0 : Nat) ≠ 61 by omega)).trans hob)) rfl rfl (Nat.le_of_ble_eq_true rfl) rfl ?_
    exact J63 _ e2 zup_at (fun P => (hS1 P).low (fun i a b => (zup_ne (by omega)).trans ((hl2 i (by omega)).trans (znew_ne (show i ≠ 61 by omega))))) (fun P => (hS16 P).low (fun i a b => (zup_ne (by omega)).trans ((hl2 i (by omega)).trans (znew_ne (show i ≠ 61 by omega))))) (fun P => (hS31 P).low (fun i a b => (zup_ne (by omega)).trans ((hl2 i (by omega)).trans (znew_ne (show i ≠ 61 by omega))))) (fun P => (hS46 P).low (fun i a b => (zup_ne (by omega)).trans ((hl2 i (by omega)).trans (znew_ne (show i ≠ 61 by omega))))) ((zup_ne (by omega)).trans hN) ((zup_ne (by omega)).trans hN2)
  have J37 : ∀ w1 : zWd, w1.2 = 46 → w1.1 0 = some (.inl (6, [zR g 1, zR g 16, zR g 31, .null, .null, .null, .null, .null, .int 0, .int 0, .long 0, .long 0, .int 0, .int 0, .int 0])) → (∀ P, zSto g w1 1 (fun _ => 0) 0 P) → (∀ P, zSto g w1 16 (fun _ => 0) 0 P) → (∀ P, zSto g w1 31 (fun _ => 0) 0 P) → zRuns g d mX7_init 26 997 37 [some (zR g 0)] [] w1 K := by
    intro w1 e1 hob hS1 hS16 hS31
    obtain ⟨f1, m1⟩ := w1
    obtain rfl : m1 = 46 := e1
    refine q_aload_n (pc := 37) dX7_init_37 rfl rfl ?_
    refine q_new (pc := 38) nw_X7_7 dX7_init_38 25 988 (Nat.le_of_ble_eq_true rfl) (Nat.le_of_ble_eq_true rfl) ?_
    refine q_dup (pc := 41) rfl dX7_init_41 ?_
    refine q_invokeinitnest (pc := 42) (d' := d - 1) (mc' := 14) (ms' := 735) (As := []) cl_X7_9 dX7_init_42 rfl rfl (by omega) rfl 11 253 (Nat.le_of_ble_eq_true rfl) (Nat.le_of_ble_eq_true rfl) ?_
    refine c_X6_init (b := 46) (by omega) rfl znew_at (fun w2 e2 hl2 hN => ?_)
    refine q_putfinal2 (pc := 45) [_, _, _, _, _, _, _, _, _, _, _, _, _, _, _] pf_X7_22 dX7_init_45 rfl ((hl2 0 (by omega)).trans ((znew_ne (show (0 : Nat) ≠ 46 by omega)).trans hob)) rfl rfl (Nat.le_of_ble_eq_true rfl) rfl ?_
    exact J48 _ e2 zup_at (fun P => (hS1 P).low (fun i a b => (zup_ne (by omega)).trans ((hl2 i (by omega)).trans (znew_ne (show i ≠ 46 by omega))))) (fun P => (hS16 P).low (fun i a b => (zup_ne (by omega)).trans ((hl2 i (by omega)).trans (znew_ne (show i ≠ 46 by omega))))) (fun P => (hS31 P).low (fun i a b => (zup_ne (by omega)).trans ((hl2 i (by omega)).trans (znew_ne (show i ≠ 46 by omega))))) (fun P => (hN P).low (fun i a b => zup_ne (by omega)))
  have J26 : ∀ w1 : zWd, w1.2 = 31 → w1.1 0 = some (.inl (6, [zR g 1, zR g 16, .null, .null, .null, .null, .null, .null, .int 0, .int 0, .long 0, .long 0, .int 0, .int 0, .int 0])) → (∀ P, zSto g w1 1 (fun _ => 0) 0 P) → (∀ P, zSto g w1 16 (fun _ => 0) 0 P) → zRuns g d mX7_init 41 1741 26 [some (zR g 0)] [] w1 K := by
    intro w1 e1 hob hS1 hS16
    obtain ⟨f1, m1⟩ := w1
    obtain rfl : m1 = 31 := e1
    refine q_aload_n (pc := 26) dX7_init_26 rfl rfl ?_
    refine q_new (pc := 27) nw_X7_7 dX7_init_27 40 1732 (Nat.le_of_ble_eq_true rfl) (Nat.le_of_ble_eq_true rfl) ?_
    refine q_dup (pc := 30) rfl dX7_init_30 ?_
    refine q_invokeinitnest (pc := 31) (d' := d - 1) (mc' := 14) (ms' := 735) (As := []) cl_X7_9 dX7_init_31 rfl rfl (by omega) rfl 26 997 (Nat.le_of_ble_eq_true rfl) (Nat.le_of_ble_eq_true rfl) ?_
    refine c_X6_init (b := 31) (by omega) rfl znew_at (fun w2 e2 hl2 hN => ?_)
    refine q_putfinal2 (pc := 34) [_, _, _, _, _, _, _, _, _, _, _, _, _, _, _] pf_X7_19 dX7_init_34 rfl ((hl2 0 (by omega)).trans ((znew_ne (show (0 : Nat) ≠ 31 by omega)).trans hob)) rfl rfl (Nat.le_of_ble_eq_true rfl) rfl ?_
    exact J37 _ e2 zup_at (fun P => (hS1 P).low (fun i a b => (zup_ne (by omega)).trans ((hl2 i (by omega)).trans (znew_ne (show i ≠ 31 by omega))))) (fun P => (hS16 P).low (fun i a b => (zup_ne (by omega)).trans ((hl2 i (by omega)).trans (znew_ne (show i ≠ 31 by omega))))) (fun P => (hN P).low (fun i a b => zup_ne (by omega)))
  have J15 : ∀ w1 : zWd, w1.2 = 16 → w1.1 0 = some (.inl (6, [zR g 1, .null, .null, .null, .null, .null, .null, .null, .int 0, .int 0, .long 0, .long 0, .int 0, .int 0, .int 0])) → (∀ P, zSto g w1 1 (fun _ => 0) 0 P) → zRuns g d mX7_init 56 2485 15 [some (zR g 0)] [] w1 K := by
    intro w1 e1 hob hS1
    obtain ⟨f1, m1⟩ := w1
    obtain rfl : m1 = 16 := e1
    refine q_aload_n (pc := 15) dX7_init_15 rfl rfl ?_
    refine q_new (pc := 16) nw_X7_7 dX7_init_16 55 2476 (Nat.le_of_ble_eq_true rfl) (Nat.le_of_ble_eq_true rfl) ?_
    refine q_dup (pc := 19) rfl dX7_init_19 ?_
    refine q_invokeinitnest (pc := 20) (d' := d - 1) (mc' := 14) (ms' := 735) (As := []) cl_X7_9 dX7_init_20 rfl rfl (by omega) rfl 41 1741 (Nat.le_of_ble_eq_true rfl) (Nat.le_of_ble_eq_true rfl) ?_
    refine c_X6_init (b := 16) (by omega) rfl znew_at (fun w2 e2 hl2 hN => ?_)
    refine q_putfinal2 (pc := 23) [_, _, _, _, _, _, _, _, _, _, _, _, _, _, _] pf_X7_16 dX7_init_23 rfl ((hl2 0 (by omega)).trans ((znew_ne (show (0 : Nat) ≠ 16 by omega)).trans hob)) rfl rfl (Nat.le_of_ble_eq_true rfl) rfl ?_
    exact J26 _ e2 zup_at (fun P => (hS1 P).low (fun i a b => (zup_ne (by omega)).trans ((hl2 i (by omega)).trans (znew_ne (show i ≠ 16 by omega))))) (fun P => (hN P).low (fun i a b => zup_ne (by omega)))
  have J4 : ∀ w1 : zWd, w1.2 = 1 → w1.1 0 = some (.inl (6, [.null, .null, .null, .null, .null, .null, .null, .null, .int 0, .int 0, .long 0, .long 0, .int 0, .int 0, .int 0])) → zRuns g d mX7_init 71 3229 4 [some (zR g 0)] [] w1 K := by
    intro w1 e1 hob 
    obtain ⟨f1, m1⟩ := w1
    obtain rfl : m1 = 1 := e1
    refine q_aload_n (pc := 4) dX7_init_4 rfl rfl ?_
    refine q_new (pc := 5) nw_X7_7 dX7_init_5 70 3220 (Nat.le_of_ble_eq_true rfl) (Nat.le_of_ble_eq_true rfl) ?_
    refine q_dup (pc := 8) rfl dX7_init_8 ?_
    refine q_invokeinitnest (pc := 9) (d' := d - 1) (mc' := 14) (ms' := 735) (As := []) cl_X7_9 dX7_init_9 rfl rfl (by omega) rfl 56 2485 (Nat.le_of_ble_eq_true rfl) (Nat.le_of_ble_eq_true rfl) ?_
    refine c_X6_init (b := 1) (by omega) rfl znew_at (fun w2 e2 hl2 hN => ?_)
    refine q_putfinal2 (pc := 12) [_, _, _, _, _, _, _, _, _, _, _, _, _, _, _] pf_X7_10 dX7_init_12 rfl ((hl2 0 (by omega)).trans ((znew_ne (show (0 : Nat) ≠ 1 by omega)).trans hob)) rfl rfl (Nat.le_of_ble_eq_true rfl) rfl ?_
    exact J15 _ e2 zup_at (fun P => (hN P).low (fun i a b => zup_ne (by omega)))
  refine zenter [some _] pn_X7 rfl (Nat.le_of_ble_eq_true rfl) ?_
  refine q_aload_n (pc := 0) dX7_init_0 rfl rfl ?_
  refine q_objinit (pc := 1) tw_1_21 tw_1_22 tw_1_23 dX7_init_1 (by omega) rfl ?_
  exact J4 w hw h0
end INIT2
