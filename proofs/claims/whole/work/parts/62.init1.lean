/-! the constructors -/
theorem znew_at {w : zWd} {e : zE} : (znew w e).1 w.2 = some e := if_pos rfl
theorem znew_ne {w : zWd} {e : zE} {i : Nat} (h : i ≠ w.2) : (znew w e).1 i = w.1 i := if_neg h
theorem zSheet.low {g : zG} {w w' : zWd} {b n : Nat} {mo wi ro : Int} {f : Int → Int} (hS : zSheet g w b n mo wi ro f) (h : ∀ i, b ≤ i → i < b + 2 → w'.1 i = w.1 i) : zSheet g w' b n mo wi ro f := ⟨(h b (by omega) (by omega)).trans hS.1, (h (b + 1) (by omega) (by omega)).trans hS.2⟩
section INIT
variable {g : zG} {d : Nat} {w : zWd} {K : Option Value → zWd → Prop}
set_option maxRecDepth 100000 in
set_option maxHeartbeats 4000000 in
theorem c_X4_init {b n : Nat} {mo wi : Int} (hd : 2 ≤ d) (hw : w.2 = b + 1) (h0 : w.1 b = some (.inl (3, [.int 0, .int 0, .null, .int 0]))) (hn : mo * wi = (n : Int)) (hm : 0 ≤ mo ∧ mo ≤ 10) (hwi : 0 ≤ wi ∧ wi ≤ 100) (hnn : n ≤ 1000) (k : ∀ w', w'.2 = b + 2 → (∀ i, i < b → w'.1 i = w.1 i) → zSheet g w' b n mo wi 0 (fun _ => 0) → K none w') : zCall g d 1 n mX4_init [zR g b, zI mo, zI wi] w K := by
  obtain ⟨f, m⟩ := w
  obtain rfl : m = b + 1 := hw
  have em : max 0 mo = mo := by omega
  have ew : max 0 wi = wi := by omega
  refine zenter [some _, some _, some _] pn_X4 rfl (Nat.le_of_ble_eq_true rfl) ?_
  refine q_aload_n (pc := 0) dX4_init_0 rfl rfl ?_
  refine q_objinit (pc := 1) tw_1_35 tw_1_22 tw_1_23 dX4_init_1 (by omega) rfl ?_
  refine q_aload_n (pc := 4) dX4_init_4 rfl rfl ?_
  refine q_iconst (pc := 5) dX4_init_5 ?_
  refine q_iload_n (pc := 6) dX4_init_6 rfl ?_
  refine q_max (pc := 7) tw_1_36 tw_1_37 tw_1_4 tw_1_38 dX4_init_7 (by omega) rfl (by omega) (by omega) ?_
  rw [em]
  refine q_putfinal2 (pc := 10) [_, _, _, _] pf_X4_15 dX4_init_10 rfl h0 rfl rfl (Nat.le_of_ble_eq_true rfl) rfl ?_
  refine q_aload_n (pc := 13) dX4_init_13 rfl rfl ?_
  refine q_iconst (pc := 14) dX4_init_14 ?_
  refine q_iload_n (pc := 15) dX4_init_15 rfl ?_
  refine q_max (pc := 16) tw_1_36 tw_1_37 tw_1_4 tw_1_38 dX4_init_16 (by omega) rfl (by omega) (by omega) ?_
  rw [ew]
  refine q_putfinal2 (pc := 19) [_, _, _, _] pf_X4_21 dX4_init_19 rfl zup_at rfl rfl (Nat.le_of_ble_eq_true rfl) rfl ?_
  refine q_aload_n (pc := 22) dX4_init_22 rfl rfl ?_
  refine q_aload_n (pc := 23) dX4_init_23 rfl rfl ?_
  refine q_getfield (pc := 24) gf_X4_15 dX4_init_24 zup_at rfl ?_
  refine q_aload_n (pc := 27) dX4_init_27 rfl rfl ?_
  refine q_getfield (pc := 28) gf_X4_21 dX4_init_28 zup_at rfl ?_
  refine q_imul (pc := 31) dX4_init_31 ?_
  rw [hn]
  refine q_newint (pc := 32) dX4_init_32 tw_1_57 (by omega) 0 0 (Nat.le_of_ble_eq_true rfl) (by omega) ?_
  refine q_putfinal2 (pc := 34) [_, _, _, _] pf_X4_24 dX4_init_34 rfl ((znew_ne (show b ≠ b + 1 by omega)).trans zup_at) rfl rfl (Nat.le_of_ble_eq_true rfl) rfl ?_
  refine q_return (pc := 37) dX4_init_37 rfl ?_
  exact k _ rfl (fun i hi => (zup_ne (by omega)).trans ((znew_ne (show i ≠ b + 1 by omega)).trans ((zup_ne (by omega)).trans (zup_ne (by omega))))) ⟨zup_at, (zup_ne (by omega)).trans znew_at⟩
set_option maxRecDepth 100000 in
set_option maxHeartbeats 4000000 in
theorem c_X6_init {b : Nat} (hd : 3 ≤ d) (hw : w.2 = b + 1) (h0 : w.1 b = some (.inl (5, [.int 0, .int 0, .null, .null, .null, .null, .null, .null, .null]))) (k : ∀ w', w'.2 = b + 15 → (∀ i, i < b → w'.1 i = w.1 i) → (∀ P, zSto g w' b (fun _ => 0) 0 P) → K none w') : zCall g d 14 735 mX6_init [zR g b] w K := by
  have J101 : ∀ w1 : zWd, w1.2 = b + 15 → (∀ i, i < b → w1.1 i = w.1 i) → w1.1 b = some (.inl (5, [.int 0, .int 0, zR g (b + 1), zR g (b + 3), zR g (b + 5), zR g (b + 7), zR g (b + 9), zR g (b + 11), zR g (b + 13)])) → zSheet g w1 (b + 1) 55 5 11 0 (fun _ => 0) → zSheet g w1 (b + 3) 12 6 2 0 (fun _ => 0) → zSheet g w1 (b + 5) 12 4 3 0 (fun _ => 0) → zSheet g w1 (b + 7) 16 4 4 0 (fun _ => 0) → zSheet g w1 (b + 9) 30 6 5 0 (fun _ => 0) → zSheet g w1 (b + 11) 30 6 5 0 (fun _ => 0) → zSheet g w1 (b + 13) 552 8 69 0 (fun _ => 0) → zRuns g d mX6_init 0 0 101 [some (zR g b)] [] w1 K := by
    intro w1 e1 hlow hob hS0 hS1 hS2 hS3 hS4 hS5 hS6
    obtain ⟨f1, m1⟩ := w1
    obtain rfl : m1 = b + 15 := e1
    refine q_return (pc := 101) dX6_init_101 rfl ?_
    exact k _ rfl hlow (fun P => ⟨_, _, _, _, _, _, _, hob, hS0, hS1, hS2, hS3, hS4, hS5, hS6, fun c a b => (by have b : c < 0 := b; omega), fun c a b => (by have b : c < 0 := b; omega), fun c a b => (by have b : c < 0 := b; omega), fun i j a b => (by have b : i < 0 := b; omega), fun i j a b => (by have b : i < 0 := b; omega), fun i j a b => (by have b : i < 0 := b; omega), fun i a b => (by omega)⟩)
  have J86 : ∀ w1 : zWd, w1.2 = b + 13 → (∀ i, i < b → w1.1 i = w.1 i) → w1.1 b = some (.inl (5, [.int 0, .int 0, zR g (b + 1), zR g (b + 3), zR g (b + 5), zR g (b + 7), zR g (b + 9), zR g (b + 11), .null])) → zSheet g w1 (b + 1) 55 5 11 0 (fun _ => 0) → zSheet g w1 (b + 3) 12 6 2 0 (fun _ => 0) → zSheet g w1 (b + 5) 12 4 3 0 (fun _ => 0) → zSheet g w1 (b + 7) 16 4 4 0 (fun _ => 0) → zSheet g w1 (b + 9) 30 6 5 0 (fun _ => 0) → zSheet g w1 (b + 11) 30 6 5 0 (fun _ => 0) → zRuns g d mX6_init 2 556 86 [some (zR g b)] [] w1 K := by
    intro w1 e1 hlow hob hS0 hS1 hS2 hS3 hS4 hS5
    obtain ⟨f1, m1⟩ := w1
    obtain rfl : m1 = b + 13 := e1
    refine q_aload_n (pc := 86) dX6_init_86 rfl rfl ?_
    refine q_new (pc := 87) nw_X6_11 dX6_init_87 1 552 (Nat.le_of_ble_eq_true rfl) (Nat.le_of_ble_eq_true rfl) ?_
    refine q_dup (pc := 90) rfl dX6_init_90 ?_
    refine q_bipush (pc := 91) (by decide) dX6_init_91 ?_
    refine q_bipush (pc := 93) (by decide) dX6_init_93 ?_
    refine q_invokeinit (pc := 95) (d' := d - 1) (mc' := 1) (ms' := 552) (As := [_, _]) cl_X6_13 dX6_init_95 rfl rfl (by omega) rfl 0 0 (Nat.le_of_ble_eq_true rfl) (Nat.le_of_ble_eq_true rfl) ?_
    refine c_X4_init (b := b + 13) (n := 552) (by omega) rfl znew_at (by decide) (by omega) (by omega) (by omega) (fun w2 e2 hl2 hS6 => ?_)
    refine q_putfinal2 (pc := 98) [_, _, _, _, _, _, _, _, _] pf_X6_35 dX6_init_98 rfl ((hl2 b (by omega)).trans ((znew_ne (show b ≠ b + 13 by omega)).trans hob)) rfl rfl (Nat.le_of_ble_eq_true rfl) rfl ?_
    exact J101 _ e2 (fun i hi => (zup_ne (by omega)).trans ((hl2 i (by omega)).trans ((znew_ne (show i ≠ b + 13 by omega)).trans (hlow i hi)))) zup_at (hS0.low (fun i h1 h2 => (zup_ne (show i ≠ b by omega)).trans ((hl2 i (by omega)).trans (znew_ne (show i ≠ b + 13 by omega))))) (hS1.low (fun i h1 h2 => (zup_ne (show i ≠ b by omega)).trans ((hl2 i (by omega)).trans (znew_ne (show i ≠ b + 13 by omega))))) (hS2.low (fun i h1 h2 => (zup_ne (show i ≠ b by omega)).trans ((hl2 i (by omega)).trans (znew_ne (show i ≠ b + 13 by omega))))) (hS3.low (fun i h1 h2 => (zup_ne (show i ≠ b by omega)).trans ((hl2 i (by omega)).trans (znew_ne (show i ≠ b + 13 by omega))))) (hS4.low (fun i h1 h2 => (zup_ne (show i ≠ b by omega)).trans ((hl2 i (by omega)).trans (znew_ne (show i ≠ b + 13 by omega))))) (hS5.low (fun i h1 h2 => (zup_ne (show i ≠ b by omega)).trans ((hl2 i (by omega)).trans (znew_ne (show i ≠ b + 13 by omega))))) (hS6.low (fun i h1 h2 => zup_ne (show i ≠ b by omega)))
  have J72 : ∀ w1 : zWd, w1.2 = b + 11 → (∀ i, i < b → w1.1 i = w.1 i) → w1.1 b = some (.inl (5, [.int 0, .int 0, zR g (b + 1), zR g (b + 3), zR g (b + 5), zR g (b + 7), zR g (b + 9), .null, .null])) → zSheet g w1 (b + 1) 55 5 11 0 (fun _ => 0) → zSheet g w1 (b + 3) 12 6 2 0 (fun _ => 0) → zSheet g w1 (b + 5) 12 4 3 0 (fun _ => 0) → zSheet g w1 (b + 7) 16 4 4 0 (fun _ => 0) → zSheet g w1 (b + 9) 30 6 5 0 (fun _ => 0) → zRuns g d mX6_init 4 590 72 [some (zR g b)] [] w1 K := by
    intro w1 e1 hlow hob hS0 hS1 hS2 hS3 hS4
    obtain ⟨f1, m1⟩ := w1
    obtain rfl : m1 = b + 11 := e1
    refine q_aload_n (pc := 72) dX6_init_72 rfl rfl ?_
    refine q_new (pc := 73) nw_X6_11 dX6_init_73 3 586 (Nat.le_of_ble_eq_true rfl) (Nat.le_of_ble_eq_true rfl) ?_
    refine q_dup (pc := 76) rfl dX6_init_76 ?_
    refine q_bipush (pc := 77) (by decide) dX6_init_77 ?_
    refine q_iconst (pc := 79) dX6_init_79 ?_
    refine q_invokeinit (pc := 80) (d' := d - 1) (mc' := 1) (ms' := 30) (As := [_, _]) cl_X6_13 dX6_init_80 rfl rfl (by omega) rfl 2 556 (Nat.le_of_ble_eq_true rfl) (Nat.le_of_ble_eq_true rfl) ?_
    refine c_X4_init (b := b + 11) (n := 30) (by omega) rfl znew_at (by decide) (by omega) (by omega) (by omega) (fun w2 e2 hl2 hS5 => ?_)
    refine q_putfinal2 (pc := 83) [_, _, _, _, _, _, _, _, _] pf_X6_32 dX6_init_83 rfl ((hl2 b (by omega)).trans ((znew_ne (show b ≠ b + 11 by omega)).trans hob)) rfl rfl (Nat.le_of_ble_eq_true rfl) rfl ?_
    exact J86 _ e2 (fun i hi => (zup_ne (by omega)).trans ((hl2 i (by omega)).trans ((znew_ne (show i ≠ b + 11 by omega)).trans (hlow i hi)))) zup_at (hS0.low (fun i h1 h2 => (zup_ne (show i ≠ b by omega)).trans ((hl2 i (by omega)).trans (znew_ne (show i ≠ b + 11 by omega))))) (hS1.low (fun i h1 h2 => (zup_ne (show i ≠ b by omega)).trans ((hl2 i (by omega)).trans (znew_ne (show i ≠ b + 11 by omega))))) (hS2.low (fun i h1 h2 => (zup_ne (show i ≠ b by omega)).trans ((hl2 i (by omega)).trans (znew_ne (show i ≠ b + 11 by omega))))) (hS3.low (fun i h1 h2 => (zup_ne (show i ≠ b by omega)).trans ((hl2 i (by omega)).trans (znew_ne (show i ≠ b + 11 by omega))))) (hS4.low (fun i h1 h2 => (zup_ne (show i ≠ b by omega)).trans ((hl2 i (by omega)).trans (znew_ne (show i ≠ b + 11 by omega))))) (hS5.low (fun i h1 h2 => zup_ne (show i ≠ b by omega)))
  have J58 : ∀ w1 : zWd, w1.2 = b + 9 → (∀ i, i < b → w1.1 i = w.1 i) → w1.1 b = some (.inl (5, [.int 0, .int 0, zR g (b + 1), zR g (b + 3), zR g (b + 5), zR g (b + 7), .null, .null, .null])) → zSheet g w1 (b + 1) 55 5 11 0 (fun _ => 0) → zSheet g w1 (b + 3) 12 6 2 0 (fun _ => 0) → zSheet g w1 (b + 5) 12 4 3 0 (fun _ => 0) → zSheet g w1 (b + 7) 16 4 4 0 (fun _ => 0) → zRuns g d mX6_init 6 624 58 [some (zR g b)] [] w1 K := by
    intro w1 e1 hlow hob hS0 hS1 hS2 hS3
    obtain ⟨f1, m1⟩ := w1
    obtain rfl : m1 = b + 9 := e1
    refine q_aload_n (pc := 58) dX6_init_58 rfl rfl ?_
    refine q_new (pc := 59) nw_X6_11 dX6_init_59 5 620 (Nat.le_of_ble_eq_true rfl) (Nat.le_of_ble_eq_true rfl) ?_
    refine q_dup (pc := 62) rfl dX6_init_62 ?_
    refine q_bipush (pc := 63) (by decide) dX6_init_63 ?_
    refine q_iconst (pc := 65) dX6_init_65 ?_
    refine q_invokeinit (pc := 66) (d' := d - 1) (mc' := 1) (ms' := 30) (As := [_, _]) cl_X6_13 dX6_init_66 rfl rfl (by omega) rfl 4 590 (Nat.le_of_ble_eq_true rfl) (Nat.le_of_ble_eq_true rfl) ?_
    refine c_X4_init (b := b + 9) (n := 30) (by omega) rfl znew_at (by decide) (by omega) (by omega) (by omega) (fun w2 e2 hl2 hS4 => ?_)
    refine q_putfinal2 (pc := 69) [_, _, _, _, _, _, _, _, _] pf_X6_29 dX6_init_69 rfl ((hl2 b (by omega)).trans ((znew_ne (show b ≠ b + 9 by omega)).trans hob)) rfl rfl (Nat.le_of_ble_eq_true rfl) rfl ?_
    exact J72 _ e2 (fun i hi => (zup_ne (by omega)).trans ((hl2 i (by omega)).trans ((znew_ne (show i ≠ b + 9 by omega)).trans (hlow i hi)))) zup_at (hS0.low (fun i h1 h2 => (zup_ne (show i ≠ b by omega)).trans ((hl2 i (by omega)).trans (znew_ne (show i ≠ b + 9 by omega))))) (hS1.low (fun i h1 h2 => (zup_ne (show i ≠ b by omega)).trans ((hl2 i (by omega)).trans (znew_ne (show i ≠ b + 9 by omega))))) (hS2.low (fun i h1 h2 => (zup_ne (show i ≠ b by omega)).trans ((hl2 i (by omega)).trans (znew_ne (show i ≠ b + 9 by omega))))) (hS3.low (fun i h1 h2 => (zup_ne (show i ≠ b by omega)).trans ((hl2 i (by omega)).trans (znew_ne (show i ≠ b + 9 by omega))))) (hS4.low (fun i h1 h2 => zup_ne (show i ≠ b by omega)))
  have J45 : ∀ w1 : zWd, w1.2 = b + 7 → (∀ i, i < b → w1.1 i = w.1 i) → w1.1 b = some (.inl (5, [.int 0, .int 0, zR g (b + 1), zR g (b + 3), zR g (b + 5), .null, .null, .null, .null])) → zSheet g w1 (b + 1) 55 5 11 0 (fun _ => 0) → zSheet g w1 (b + 3) 12 6 2 0 (fun _ => 0) → zSheet g w1 (b + 5) 12 4 3 0 (fun _ => 0) → zRuns g d mX6_init 8 644 45 [some (zR g b)] [] w1 K := by
    intro w1 e1 hlow hob hS0 hS1 hS2
    obtain ⟨f1, m1⟩ := w1
    obtain rfl : m1 = b + 7 := e1
    refine q_aload_n (pc := 45) dX6_init_45 rfl rfl ?_
    refine q_new (pc := 46) nw_X6_11 dX6_init_46 7 640 (Nat.le_of_ble_eq_true rfl) (Nat.le_of_ble_eq_true rfl) ?_
    refine q_dup (pc := 49) rfl dX6_init_49 ?_
    refine q_iconst (pc := 50) dX6_init_50 ?_
    refine q_iconst (pc := 51) dX6_init_51 ?_
    refine q_invokeinit (pc := 52) (d' := d - 1) (mc' := 1) (ms' := 16) (As := [_, _]) cl_X6_13 dX6_init_52 rfl rfl (by omega) rfl 6 624 (Nat.le_of_ble_eq_true rfl) (Nat.le_of_ble_eq_true rfl) ?_
    refine c_X4_init (b := b + 7) (n := 16) (by omega) rfl znew_at (by decide) (by omega) (by omega) (by omega) (fun w2 e2 hl2 hS3 => ?_)
    refine q_putfinal2 (pc := 55) [_, _, _, _, _, _, _, _, _] pf_X6_26 dX6_init_55 rfl ((hl2 b (by omega)).trans ((znew_ne (show b ≠ b + 7 by omega)).trans hob)) rfl rfl (Nat.le_of_ble_eq_true rfl) rfl ?_
    exact J58 _ e2 (fun i hi => (zup_ne (by omega)).trans ((hl2 i (by omega)).trans ((znew_ne (show i ≠ b + 7 by omega)).trans (hlow i hi)))) zup_at (hS0.low (fun i h1 h2 => (zup_ne (show i ≠ b by omega)).trans ((hl2 i (by omega)).trans (znew_ne (show i ≠ b + 7 by omega))))) (hS1.low (fun i h1 h2 => (zup_ne (show i ≠ b by omega)).trans ((hl2 i (by omega)).trans (znew_ne (show i ≠ b + 7 by omega))))) (hS2.low (fun i h1 h2 => (zup_ne (show i ≠ b by omega)).trans ((hl2 i (by omega)).trans (znew_ne (show i ≠ b + 7 by omega))))) (hS3.low (fun i h1 h2 => zup_ne (show i ≠ b by omega)))
  have J32 : ∀ w1 : zWd, w1.2 = b + 5 → (∀ i, i < b → w1.1 i = w.1 i) → w1.1 b = some (.inl (5, [.int 0, .int 0, zR g (b + 1), zR g (b + 3), .null, .null, .null, .null, .null])) → zSheet g w1 (b + 1) 55 5 11 0 (fun _ => 0) → zSheet g w1 (b + 3) 12 6 2 0 (fun _ => 0) → zRuns g d mX6_init 10 660 32 [some (zR g b)] [] w1 K := by
    intro w1 e1 hlow hob hS0 hS1
    obtain ⟨f1, m1⟩ := w1
    obtain rfl : m1 = b + 5 := e1
    refine q_aload_n (pc := 32) dX6_init_32 rfl rfl ?_
    refine q_new (pc := 33) nw_X6_11 dX6_init_33 9 656 (Nat.le_of_ble_eq_true rfl) (Nat.le_of_ble_eq_true rfl) ?_
    refine q_dup (pc := 36) rfl dX6_init_36 ?_
    refine q_iconst (pc := 37) dX6_init_37 ?_
    refine q_iconst (pc := 38) dX6_init_38 ?_
    refine q_invokeinit (pc := 39) (d' := d - 1) (mc' := 1) (ms' := 12) (As := [_, _]) cl_X6_13 dX6_init_39 rfl rfl (by omega) rfl 8 644 (Nat.le_of_ble_eq_true rfl) (Nat.le_of_ble_eq_true rfl) ?_
    refine c_X4_init (b := b + 5) (n := 12) (by omega) rfl znew_at (by decide) (by omega) (by omega) (by omega) (fun w2 e2 hl2 hS2 => ?_)
    refine q_putfinal2 (pc := 42) [_, _, _, _, _, _, _, _, _] pf_X6_23 dX6_init_42 rfl ((hl2 b (by omega)).trans ((znew_ne (show b ≠ b + 5 by omega)).trans hob)) rfl rfl (Nat.le_of_ble_eq_true rfl) rfl ?_
    exact J45 _ e2 (fun i hi => (zup_ne (by omega)).trans ((hl2 i (by omega)).trans ((znew_ne (show i ≠ b + 5 by omega)).trans (hlow i hi)))) zup_at (hS0.low (fun i h1 h2 => (zup_ne (show i ≠ b by omega)).trans ((hl2 i (by omega)).trans (znew_ne (show i ≠ b + 5 by omega))))) (hS1.low (fun i h1 h2 => (zup_ne (show i ≠ b by omega)).trans ((hl2 i (by omega)).trans (znew_ne (show i ≠ b + 5 by omega))))) (hS2.low (fun i h1 h2 => zup_ne (show i ≠ b by omega)))
  have J18 : ∀ w1 : zWd, w1.2 = b + 3 → (∀ i, i < b → w1.1 i = w.1 i) → w1.1 b = some (.inl (5, [.int 0, .int 0, zR g (b + 1), .null, .null, .null, .null, .null, .null])) → zSheet g w1 (b + 1) 55 5 11 0 (fun _ => 0) → zRuns g d mX6_init 12 676 18 [some (zR g b)] [] w1 K := by
    intro w1 e1 hlow hob hS0
    obtain ⟨f1, m1⟩ := w1
    obtain rfl : m1 = b + 3 := e1
    refine q_aload_n (pc := 18) dX6_init_18 rfl rfl ?_
    refine q_new (pc := 19) nw_X6_11 dX6_init_19 11 672 (Nat.le_of_ble_eq_true rfl) (Nat.le_of_ble_eq_true rfl) ?_
    refine q_dup (pc := 22) rfl dX6_init_22 ?_
    refine q_bipush (pc := 23) (by decide) dX6_init_23 ?_
    refine q_iconst (pc := 25) dX6_init_25 ?_
    refine q_invokeinit (pc := 26) (d' := d - 1) (mc' := 1) (ms' := 12) (As := [_, _]) cl_X6_13 dX6_init_26 rfl rfl (by omega) rfl 10 660 (Nat.le_of_ble_eq_true rfl) (Nat.le_of_ble_eq_true rfl) ?_
    refine c_X4_init (b := b + 3) (n := 12) (by omega) rfl znew_at (by decide) (by omega) (by omega) (by omega) (fun w2 e2 hl2 hS1 => ?_)
    refine q_putfinal2 (pc := 29) [_, _, _, _, _, _, _, _, _] pf_X6_20 dX6_init_29 rfl ((hl2 b (by omega)).trans ((znew_ne (show b ≠ b + 3 by omega)).trans hob)) rfl rfl (Nat.le_of_ble_eq_true rfl) rfl ?_
    exact J32 _ e2 (fun i hi => (zup_ne (by omega)).trans ((hl2 i (by omega)).trans ((znew_ne (show i ≠ b + 3 by omega)).trans (hlow i hi)))) zup_at (hS0.low (fun i h1 h2 => (zup_ne (show i ≠ b by omega)).trans ((hl2 i (by omega)).trans (znew_ne (show i ≠ b + 3 by omega))))) (hS1.low (fun i h1 h2 => zup_ne (show i ≠ b by omega)))
  have J4 : ∀ w1 : zWd, w1.2 = b + 1 → (∀ i, i < b → w1.1 i = w.1 i) → w1.1 b = some (.inl (5, [.int 0, .int 0, .null, .null, .null, .null, .null, .null, .null])) → zRuns g d mX6_init 14 735 4 [some (zR g b)] [] w1 K := by
    intro w1 e1 hlow hob 
    obtain ⟨f1, m1⟩ := w1
    obtain rfl : m1 = b + 1 := e1
    refine q_aload_n (pc := 4) dX6_init_4 rfl rfl ?_
    refine q_new (pc := 5) nw_X6_11 dX6_init_5 13 731 (Nat.le_of_ble_eq_true rfl) (Nat.le_of_ble_eq_true rfl) ?_
    refine q_dup (pc := 8) rfl dX6_init_8 ?_
    refine q_iconst (pc := 9) dX6_init_9 ?_
    refine q_bipush (pc := 10) (by decide) dX6_init_10 ?_
    refine q_invokeinit (pc := 12) (d' := d - 1) (mc' := 1) (ms' := 55) (As := [_, _]) cl_X6_13 dX6_init_12 rfl rfl (by omega) rfl 12 676 (Nat.le_of_ble_eq_true rfl) (Nat.le_of_ble_eq_true rfl) ?_
    refine c_X4_init (b := b + 1) (n := 55) (by omega) rfl znew_at (by decide) (by omega) (by omega) (by omega) (fun w2 e2 hl2 hS0 => ?_)
    refine q_putfinal2 (pc := 15) [_, _, _, _, _, _, _, _, _] pf_X6_16 dX6_init_15 rfl ((hl2 b (by omega)).trans ((znew_ne (show b ≠ b + 1 by omega)).trans hob)) rfl rfl (Nat.le_of_ble_eq_true rfl) rfl ?_
    exact J18 _ e2 (fun i hi => (zup_ne (by omega)).trans ((hl2 i (by omega)).trans ((znew_ne (show i ≠ b + 1 by omega)).trans (hlow i hi)))) zup_at (hS0.low (fun i h1 h2 => zup_ne (show i ≠ b by omega)))
  refine zenter [some _] pn_X6 rfl (Nat.le_of_ble_eq_true rfl) ?_
  refine q_aload_n (pc := 0) dX6_init_0 rfl rfl ?_
  refine q_objinit (pc := 1) tw_1_29 tw_1_22 tw_1_23 dX6_init_1 (by omega) rfl ?_
  exact J4 w hw (fun _ _ => rfl) h0
set_option maxRecDepth 100000 in
set_option maxHeartbeats 4000000 in
theorem c_X1_init {b s : Nat} (hd : 2 ≤ d) (h0 : w.1 b = some (.inl (1, [.null]))) (k : K none (zup w b (.inl (1, [zR g s])))) : zCall g d 0 0 mX1_init [zR g b, zR g s] w K := by
  refine zenter [some _, some _] pn_X1 rfl (Nat.le_of_ble_eq_true rfl) ?_
  refine q_aload_n (pc := 0) dX1_init_0 rfl rfl ?_
  refine q_objinit (pc := 1) tw_1_143 tw_1_22 tw_1_23 dX1_init_1 (by omega) rfl ?_
  refine q_aload_n (pc := 4) dX1_init_4 rfl rfl ?_
  refine q_aload_n (pc := 5) dX1_init_5 rfl rfl ?_
  refine q_putfinal2 (pc := 6) [_] pf_X1_9 dX1_init_6 rfl h0 rfl rfl (Nat.le_of_ble_eq_true rfl) rfl ?_
  refine q_return (pc := 9) dX1_init_9 rfl ?_
  exact k
set_option maxRecDepth 100000 in
set_option maxHeartbeats 4000000 in
theorem c_X3_init {b s : Nat} (hd : 2 ≤ d) (hw : w.2 = b + 1) (h0 : w.1 b = some (.inl (2, [.null, .int 0, .null, .int 0, .int 0, .int 0, .int 0]))) (k : ∀ w', w'.2 = b + 2 → (∀ i, i < b → w'.1 i = w.1 i) → w'.1 b = some (zRd g b s 0 0 0 0 0) → w'.1 (b + 1) = some (.inr (false, 150, fun _ => 0)) → K none w') : zCall g d 1 150 mX3_init [zR g b, zR g s] w K := by
  obtain ⟨f, m⟩ := w
  obtain rfl : m = b + 1 := hw
  refine zenter [some _, some _] pn_X3 rfl (Nat.le_of_ble_eq_true rfl) ?_
  refine q_aload_n (pc := 0) dX3_init_0 rfl rfl ?_
  refine q_objinit (pc := 1) tw_1_114 tw_1_22 tw_1_23 dX3_init_1 (by omega) rfl ?_
  refine q_aload_n (pc := 4) dX3_init_4 rfl rfl ?_
  refine q_sipush (pc := 5) (by decide) dX3_init_5 ?_
  refine q_newint (pc := 8) dX3_init_8 tw_1_57 (by omega) 0 0 (Nat.le_of_ble_eq_true rfl) (by decide) ?_
  refine q_putfinal2 (pc := 10) [_, _, _, _, _, _, _] pf_X3_9 dX3_init_10 rfl ((znew_ne (show b ≠ b + 1 by omega)).trans h0) rfl rfl (Nat.le_of_ble_eq_true rfl) rfl ?_
  refine q_aload_n (pc := 13) dX3_init_13 rfl rfl ?_
  refine q_aload_n (pc := 14) dX3_init_14 rfl rfl ?_
  refine q_putfinal2 (pc := 15) [_, _, _, _, _, _, _] pf_X3_15 dX3_init_15 rfl zup_at rfl rfl (Nat.le_of_ble_eq_true rfl) rfl ?_
  refine q_return (pc := 18) dX3_init_18 rfl ?_
  exact k _ rfl (fun i hi => (zup_ne (by omega)).trans ((zup_ne (by omega)).trans (znew_ne (show i ≠ b + 1 by omega)))) zup_at ((zup_ne (by omega)).trans ((zup_ne (by omega)).trans znew_at))
set_option maxRecDepth 100000 in
set_option maxHeartbeats 4000000 in
theorem c_X5_init {b s : Nat} (hd : 2 ≤ d) (hw : w.2 = b + 1) (h0 : w.1 b = some (.inl (4, [.null, .null]))) (k : ∀ w', w'.2 = b + 2 → (∀ i, i < b → w'.1 i = w.1 i) → w'.1 b = some (.inl (4, [zR g s, zR g (b + 1)])) → w'.1 (b + 1) = some (.inr (false, 6, fun _ => 0)) → K none w') : zCall g d 1 6 mX5_init [zR g b, zR g s] w K := by
  obtain ⟨f, m⟩ := w
  obtain rfl : m = b + 1 := hw
  refine zenter [some _, some _] pn_X5 rfl (Nat.le_of_ble_eq_true rfl) ?_
  refine q_aload_n (pc := 0) dX5_init_0 rfl rfl ?_
  refine q_objinit (pc := 1) tw_1_178 tw_1_22 tw_1_23 dX5_init_1 (by omega) rfl ?_
  refine q_aload_n (pc := 4) dX5_init_4 rfl rfl ?_
  refine q_bipush (pc := 5) (by decide) dX5_init_5 ?_
  refine q_newint (pc := 7) dX5_init_7 tw_1_57 (by omega) 0 0 (Nat.le_of_ble_eq_true rfl) (by decide) ?_
  refine q_putfinal2 (pc := 9) [_, _] pf_X5_9 dX5_init_9 rfl ((znew_ne (show b ≠ b + 1 by omega)).trans h0) rfl rfl (Nat.le_of_ble_eq_true rfl) rfl ?_
  refine q_aload_n (pc := 12) dX5_init_12 rfl rfl ?_
  refine q_aload_n (pc := 13) dX5_init_13 rfl rfl ?_
  refine q_putfinal2 (pc := 14) [_, _] pf_X5_15 dX5_init_14 rfl zup_at rfl rfl (Nat.le_of_ble_eq_true rfl) rfl ?_
  refine q_return (pc := 17) dX5_init_17 rfl ?_
  exact k _ rfl (fun i hi => (zup_ne (by omega)).trans ((zup_ne (by omega)).trans (znew_ne (show i ≠ b + 1 by omega)))) zup_at ((zup_ne (by omega)).trans ((zup_ne (by omega)).trans znew_at))
end INIT
