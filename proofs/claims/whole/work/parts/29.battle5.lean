/-! the Battle: the next way -/
def zval (n : Int) (W : Int → Int) : Nat → Int
  | 0 => 0
  | m + 1 => zval n W m * n + W (m : Int)
def zpw (n : Int) : Nat → Int
  | 0 => 1
  | m + 1 => zpw n m * n
theorem zval_c {n : Int} {W W2 : Int → Int} : ∀ m : Nat, (∀ c, 0 ≤ c → c < (m : Int) → W c = W2 c) → zval n W m = zval n W2 m
  | 0, _ => rfl
  | m + 1, h => by rw [zval, zval, zval_c m (fun c h1 h2 => h c h1 (by omega)), h (m : Int) (by omega) (by omega)]
theorem zval_b {n : Int} {W : Int → Int} : ∀ m : Nat, (∀ c, 0 ≤ c → c < (m : Int) → 0 ≤ W c ∧ W c < n) → 0 ≤ zval n W m ∧ zval n W m + 1 ≤ zpw n m
  | 0, _ => by rw [zval, zpw]; omega
  | m + 1, h => by
    have h1 := zval_b m (fun c h1 h2 => h c h1 (by omega))
    have h2 := h (m : Int) (by omega) (by omega)
    have e1 : 0 ≤ zval n W m * n := Int.mul_nonneg h1.1 (by omega)
    have e2 : (zval n W m + 1) * n ≤ zpw n m * n := Int.mul_le_mul_of_nonneg_right h1.2 (by omega)
    rw [Int.add_mul] at e2
    rw [zval, zpw]; omega
theorem zval_top {n : Int} {W : Int → Int} : ∀ m : Nat, (∀ c, 0 ≤ c → c < (m : Int) → W c = n - 1) → zval n W m + 1 = zpw n m
  | 0, _ => by rw [zval, zpw]; omega
  | m + 1, h => by
    have h1 := zval_top (n := n) m (fun c h1 h2 => h c h1 (by omega))
    have h2 := h (m : Int) (by omega) (by omega)
    rw [zval, zpw, ← h1, h2, Int.add_mul]; omega
theorem zval_up {n : Int} {W W2 : Int → Int} {m : Nat} (h : ∀ c, 0 ≤ c → c < (m : Int) → W2 c = W c) (hm : W2 (m : Int) = W (m : Int) + 1) : ∀ j : Nat, (∀ c, (m : Int) < c → c ≤ (m : Int) + (j : Int) → W2 c = 0 ∧ W c = n - 1) → zval n W2 (m + 1 + j) = zval n W (m + 1 + j) + 1
  | 0, _ => by rw [Nat.add_zero, zval, zval, zval_c m h, hm]; omega
  | j + 1, hj => by
    have h1 := zval_up h hm j (fun c h1 h2 => hj c h1 (by omega))
    have h2 := hj ((m + 1 + j : Nat) : Int) (by omega) (by omega)
    rw [show m + 1 + (j + 1) = m + 1 + j + 1 by omega, zval, zval, h1, h2.1, h2.2, Int.add_mul]; omega
theorem zsg_fu {W : Int → Int} {F : Int → Int → Int} {s x : Int} (hs : 0 ≤ s) : ∀ m : Nat, zsg (fun c => F (zfu W s x c) c) m 0 = zsg (fun c => F (W c) c) m 0 + (if s < (m : Int) then F x s - F (W s) s else 0)
  | 0 => by rw [zsg, zsg, if_neg (by omega)]; rfl
  | m + 1 => by
    rw [zsg, zsg, zsg_fu hs m, show (0 : Int) + (m : Int) = (m : Int) by omega]
    by_cases e : s = (m : Int)
    · subst e; rw [zfu_at, if_neg (by omega), if_pos (by omega)]; omega
    · rw [zfu_ne (fun z => e z.symm)]
      by_cases p : s < (m : Int)
      · rw [if_pos p, if_pos (by omega)]; omega
      · rw [if_neg p, if_neg (by omega)]; omega
theorem zopn_fu {N H W : Int → Int} {s x q : Int} (hs : 0 ≤ s ∧ s < N 1) : zopn N H (zfu W s x) q = zopn N H W q + (if W s = q then H (s * 4 + q) else 0) - (if x = q then H (s * 4 + q) else 0) := by
  have h := zsg_fu (W := W) (F := fun v c => if v = q then H (c * 4 + q) else 0) (x := x) hs.1 (N 1).toNat
  rw [if_pos (by omega)] at h
  unfold zopn
  omega
theorem zclose2 {O : Int → Int} {a x A X q : Int} : zfu (zfu O a (O a - -A)) x (zfu O a (O a - -A) x - X) q = O q + (if a = q then A else 0) - (if x = q then X else 0) := by
  unfold zfu
  by_cases h1 : q = x
  · subst h1
    rw [if_pos rfl, if_pos rfl]
    by_cases h2 : q = a
    · subst h2; rw [if_pos rfl, if_pos rfl]; omega
    · rw [if_neg h2, if_neg (fun z => h2 z.symm)]; omega
  · rw [if_neg h1, if_neg (c := x = q) (fun z => h1 z.symm)]
    by_cases h2 : q = a
    · subst h2; rw [if_pos rfl, if_pos rfl]; omega
    · rw [if_neg h2, if_neg (c := a = q) (fun z => h2 z.symm)]; omega
theorem zopn_cl {N H W O : Int → Int} {s x q : Int} (hs : 0 ≤ s ∧ s < N 1) (h : O q = zopn N H W q) : zfu (zfu O (W s) (O (W s) - -(H (s * 4 + W s)))) x (zfu O (W s) (O (W s) - -(H (s * 4 + W s))) x - H (s * 4 + x)) q = zopn N H (zfu W s x) q := by
  have e1 : (if W s = q then H (s * 4 + W s) else 0) = (if W s = q then H (s * 4 + q) else 0) := by
    by_cases e : W s = q
    · rw [if_pos e, if_pos e, e]
    · rw [if_neg e, if_neg e]
  have e2 : (if x = q then H (s * 4 + x) else 0) = (if x = q then H (s * 4 + q) else 0) := by
    by_cases e : x = q
    · rw [if_pos e, if_pos e, e]
    · rw [if_neg e, if_neg e]
  rw [zclose2, zopn_fu hs, h, e1, e2]
section X0E
variable {g : zG} {d : Nat} {w : zWd} {K : Option Value → zWd → Prop} {b sb : Nat} {N P : Int → Int} {u : Int}
set_option maxRecDepth 100000 in
set_option maxHeartbeats 4000000 in
theorem c_X0_nextWay {H O W : Int → Int} (hd : 2 ≤ d) (hF : w.1 sb = some (.inl (0, [zR g b, zR g (sb + 1), zR g (sb + 2), zR g (sb + 3), zR g (sb + 4), zR g (sb + 5)]))) (hG2 : w.1 (sb + 2) = some (.inr (false, 24, H))) (hG3 : w.1 (sb + 3) = some (.inr (false, 4, O))) (hG4 : w.1 (sb + 4) = some (.inr (false, 6, W))) (hS : zSto g w b N u P) (hO : zOK N) (hn2 : 1 ≤ N 2) (hb : b + 15 ≤ sb ∨ sb + 6 ≤ b) (hW : ∀ c, 0 ≤ c → c < N 1 → 0 ≤ W c ∧ W c < N 2) (hZ : ∀ q, 0 ≤ q → q < N 2 → O q = zopn N H W q) (k : ∀ w1 O1 W1, zSame w w1 (sb + 3) 2 → w1.1 (sb + 3) = some (.inr (false, 4, O1)) → w1.1 (sb + 4) = some (.inr (false, 6, W1)) → (∀ c, 0 ≤ c → c < N 1 → 0 ≤ W1 c ∧ W1 c < N 2) → (∀ q, 0 ≤ q → q < N 2 → O1 q = zopn N H W1 q) → (zval (N 2) W (N 1).toNat + 1 ≠ zpw (N 2) (N 1).toNat → zval (N 2) W1 (N 1).toNat = zval (N 2) W (N 1).toNat + 1) → K (some (zI (zb (zval (N 2) W (N 1).toNat + 1 ≠ zpw (N 2) (N 1).toNat)))) w1) : zCall g d 0 0 mX0_nextWay [zR g sb] w K := by
  have hh := hO.1
  have L : ∀ (m : Nat) (w1 : zWd) (O1 W1 : Int → Int) (x2 x3 : Option Value), (m : Int) ≤ N 1 → zSame w w1 (sb + 3) 2 → w1.1 (sb + 3) = some (.inr (false, 4, O1)) → w1.1 (sb + 4) = some (.inr (false, 6, W1)) → (∀ c, 0 ≤ c → c < (m : Int) → W1 c = W c) → (∀ c, (m : Int) ≤ c → c < N 1 → W1 c = 0 ∧ W c = N 2 - 1) → (∀ q, 0 ≤ q → q < N 2 → O1 q = zopn N H W1 q) → zRuns g d mX0_nextWay 0 0 21 [some (zR g sb), some (zI ((m : Int) - 1)), x2, x3] [] w1 K := by
    intro m
    induction m with
    | zero =>
      intro w1 O1 W1 x2 x3 hm hs hG3 hG4 i1 i2 i3
      have et := zval_top (n := N 2) (W := W) (N 1).toNat (fun c h1 h2 => (i2 c (by omega) (by omega)).2)
      refine q_iload_n (pc := 21) dX0_nextWay_21 rfl ?_
      refine q_if_lt (pc := 22) (by omega) 116 dX0_nextWay_22 rfl (fun c22 => ?_) (fun c22 => ?_)
      · refine q_iconst (pc := 116) dX0_nextWay_116 ?_
        exact q_zreturn0 (pc := 117) (fun z => z et) dX0_nextWay_117 rfl (k _ _ _ hs hG3 hG4 (fun c h1 h2 => by have := i2 c (by omega) h2; omega) i3 (fun z => absurd et z))
      exfalso; omega
    | succ m ih =>
      intro w1 O1 W1 x2 x3 hm hs hG3 hG4 i1 i2 i3
      rw [show ((m + 1 : Nat) : Int) - 1 = (m : Int) by omega]
      have hF := (hs.2 sb (by omega)).trans hF
      have hG2 := (hs.2 (sb + 2) (by omega)).trans hG2
      have hS := hS.keep hs (by omega)
      have eW := i1 (m : Int) (by omega) (by omega)
      have bW := hW (m : Int) (by omega) (by omega)
      by_cases hr : W1 (m : Int) + 1 < N 2
      · skip
        have eu := zval_up (n := N 2) (W := W) (W2 := zfu W1 (m : Int) (W1 (m : Int) + 1)) (m := m) (fun c h1 h2 => by rw [zfu_ne (by omega)]; exact i1 c h1 (by omega)) (by rw [zfu_at, eW]) ((N 1).toNat - (m + 1)) (fun c h1 h2 => by rw [zfu_ne (by omega)]; exact i2 c (by omega) (by omega))
        rw [show m + 1 + ((N 1).toNat - (m + 1)) = (N 1).toNat by omega] at eu
        have bw : ∀ c, 0 ≤ c → c < N 1 → 0 ≤ zfu W1 (m : Int) (W1 (m : Int) + 1) c ∧ zfu W1 (m : Int) (W1 (m : Int) + 1) c < N 2 := fun c h1 h2 => by
          by_cases e : c = (m : Int)
          · rw [e, zfu_at]; omega
          · rw [zfu_ne e]
            by_cases p : c < (m : Int)
            · rw [i1 c h1 (by omega)]; exact hW c h1 h2
            · have := i2 c (by omega) h2; omega
        have eb := (zval_b (n := N 2) (N 1).toNat (fun c h1 h2 => bw c h1 (by omega))).2
        refine q_iload_n (pc := 21) dX0_nextWay_21 rfl ?_
        refine q_if_lt (pc := 22) (by omega) 116 dX0_nextWay_22 rfl (fun c22 => ?_) (fun c22 => ?_)
        · exfalso; omega
        refine q_aload_n (pc := 25) dX0_nextWay_25 rfl rfl ?_
        refine q_getfield (pc := 26) gf_X0_21 dX0_nextWay_26 (by first | assumption | exact hS.o | exact hS.s1 | exact hS.s2 | (simp only [zup]; rw [if_neg (by omega)]; exact hF) | (simp only [zup]; rw [if_neg (by omega), if_neg (by omega)]; exact hF) | (simp only [zup]; rw [if_neg (by omega), if_pos trivial]; done) | (simp only [zup]; rw [if_pos trivial]; done)) rfl ?_
        refine q_iload_n (pc := 29) dX0_nextWay_29 rfl ?_
        refine q_iaload (pc := 30) dX0_nextWay_30 (by first | assumption | exact hS.o | exact hS.s1 | exact hS.s2 | (simp only [zup]; rw [if_neg (by omega)]; exact hF) | (simp only [zup]; rw [if_neg (by omega), if_neg (by omega)]; exact hF) | (simp only [zup]; rw [if_neg (by omega), if_pos trivial]; done) | (simp only [zup]; rw [if_pos trivial]; done)) (by omega) ?_
        refine q_istore_n (pc := 31) [some _, some _, some _, _] dX0_nextWay_31 rfl (Nat.le_of_ble_eq_true rfl) rfl ?_
        refine q_iload_n (pc := 32) dX0_nextWay_32 rfl ?_
        refine q_iconst (pc := 33) dX0_nextWay_33 ?_
        refine q_iadd (pc := 34) dX0_nextWay_34 ?_
        refine q_aload_n (pc := 35) dX0_nextWay_35 rfl rfl ?_
        refine q_getfield (pc := 36) gf_X0_27 dX0_nextWay_36 (by first | assumption | exact hS.o | exact hS.s1 | exact hS.s2 | (simp only [zup]; rw [if_neg (by omega)]; exact hF) | (simp only [zup]; rw [if_neg (by omega), if_neg (by omega)]; exact hF) | (simp only [zup]; rw [if_neg (by omega), if_pos trivial]; done) | (simp only [zup]; rw [if_pos trivial]; done)) rfl ?_
        refine q_getfield (pc := 39) gf_X0_96 dX0_nextWay_39 (by first | assumption | exact hS.o | exact hS.s1 | exact hS.s2 | (simp only [zup]; rw [if_neg (by omega)]; exact hF) | (simp only [zup]; rw [if_neg (by omega), if_neg (by omega)]; exact hF) | (simp only [zup]; rw [if_neg (by omega), if_pos trivial]; done) | (simp only [zup]; rw [if_pos trivial]; done)) rfl ?_
        refine q_getfield (pc := 42) gf_X0_91 dX0_nextWay_42 (by first | assumption | exact hS.o | exact hS.s1 | exact hS.s2 | (simp only [zup]; rw [if_neg (by omega)]; exact hF) | (simp only [zup]; rw [if_neg (by omega), if_neg (by omega)]; exact hF) | (simp only [zup]; rw [if_neg (by omega), if_pos trivial]; done) | (simp only [zup]; rw [if_pos trivial]; done)) rfl ?_
        refine q_icmp_ge (pc := 45) (by omega) (by omega) 52 dX0_nextWay_45 rfl (fun c45 => ?_) (fun c45 => ?_)
        · exfalso; omega
        refine q_iconst (pc := 48) dX0_nextWay_48 ?_
        refine q_goto (pc := 49) 53 dX0_nextWay_49 rfl ?_
        refine q_istore_n (pc := 53) [some _, some _, some _, some _] dX0_nextWay_53 rfl (Nat.le_of_ble_eq_true rfl) rfl ?_
        refine q_aload_n (pc := 54) dX0_nextWay_54 rfl rfl ?_
        refine q_getfield (pc := 55) gf_X0_21 dX0_nextWay_55 (by first | assumption | exact hS.o | exact hS.s1 | exact hS.s2 | (simp only [zup]; rw [if_neg (by omega)]; exact hF) | (simp only [zup]; rw [if_neg (by omega), if_neg (by omega)]; exact hF) | (simp only [zup]; rw [if_neg (by omega), if_pos trivial]; done) | (simp only [zup]; rw [if_pos trivial]; done)) rfl ?_
        refine q_iload_n (pc := 58) dX0_nextWay_58 rfl ?_
        refine q_iload_n (pc := 59) dX0_nextWay_59 rfl ?_
        refine q_if_eq (pc := 60) (by omega) 69 dX0_nextWay_60 rfl (fun c60 => ?_) (fun c60 => ?_)
        · exfalso; omega
        refine q_iload_n (pc := 63) dX0_nextWay_63 rfl ?_
        refine q_iconst (pc := 64) dX0_nextWay_64 ?_
        refine q_iadd (pc := 65) dX0_nextWay_65 ?_
        refine q_goto (pc := 66) 70 dX0_nextWay_66 rfl ?_
        refine q_iastore (pc := 70) dX0_nextWay_70 (by first | assumption | exact hS.o | exact hS.s1 | exact hS.s2 | (simp only [zup]; rw [if_neg (by omega)]; exact hF) | (simp only [zup]; rw [if_neg (by omega), if_neg (by omega)]; exact hF) | (simp only [zup]; rw [if_neg (by omega), if_pos trivial]; done) | (simp only [zup]; rw [if_pos trivial]; done)) (by omega) ?_
        refine q_aload_n (pc := 71) dX0_nextWay_71 rfl rfl ?_
        refine q_iload_n (pc := 72) dX0_nextWay_72 rfl ?_
        refine q_aload_n (pc := 73) dX0_nextWay_73 rfl rfl ?_
        refine q_iload_n (pc := 74) dX0_nextWay_74 rfl ?_
        refine q_iload_n (pc := 75) dX0_nextWay_75 rfl ?_
        refine q_invokevirtual (pc := 76) (d' := d - 1) (mc' := 0) (ms' := 0) (As := [_, _]) (TX0, 6) cl_X0_107 dX0_nextWay_76 rfl rfl (by first | assumption | exact hS.o | exact hS.s1 | exact hS.s2 | (simp only [zup]; rw [if_neg (by omega)]; exact hF) | (simp only [zup]; rw [if_neg (by omega), if_neg (by omega)]; exact hF) | (simp only [zup]; rw [if_neg (by omega), if_pos trivial]; done) | (simp only [zup]; rw [if_pos trivial]; done)) rfl (by omega) rfl 0 0 (Nat.le_refl 0) (Nat.le_refl 0) ?_
        refine c_X0_hitsKept (by omega) (by first | assumption | exact hS.o | exact hS.s1 | exact hS.s2 | (simp only [zup]; rw [if_neg (by omega)]; exact hF) | (simp only [zup]; rw [if_neg (by omega), if_neg (by omega)]; exact hF) | (simp only [zup]; rw [if_neg (by omega), if_pos trivial]; done) | (simp only [zup]; rw [if_pos trivial]; done)) (by simp only [zup]; rw [if_neg (by omega)]; exact hG2) (by omega) (by omega) ?_
        refine q_ineg (pc := 79) dX0_nextWay_79 ?_
        refine q_invokevirtual (pc := 80) (d' := d - 1) (mc' := 0) (ms' := 0) (As := [_, _]) (TX0, 6) cl_X0_110 dX0_nextWay_80 rfl rfl (by first | assumption | exact hS.o | exact hS.s1 | exact hS.s2 | (simp only [zup]; rw [if_neg (by omega)]; exact hF) | (simp only [zup]; rw [if_neg (by omega), if_neg (by omega)]; exact hF) | (simp only [zup]; rw [if_neg (by omega), if_pos trivial]; done) | (simp only [zup]; rw [if_pos trivial]; done)) rfl (by omega) rfl 0 0 (Nat.le_refl 0) (Nat.le_refl 0) ?_
        refine c_X0_close (by omega) (by first | assumption | exact hS.o | exact hS.s1 | exact hS.s2 | (simp only [zup]; rw [if_neg (by omega)]; exact hF) | (simp only [zup]; rw [if_neg (by omega), if_neg (by omega)]; exact hF) | (simp only [zup]; rw [if_neg (by omega), if_pos trivial]; done) | (simp only [zup]; rw [if_pos trivial]; done)) (by simp only [zup]; rw [if_neg (by omega)]; exact hG3) (by omega) ?_
        refine q_aload_n (pc := 83) dX0_nextWay_83 rfl rfl ?_
        refine q_aload_n (pc := 84) dX0_nextWay_84 rfl rfl ?_
        refine q_getfield (pc := 85) gf_X0_21 dX0_nextWay_85 (by first | assumption | exact hS.o | exact hS.s1 | exact hS.s2 | (simp only [zup]; rw [if_neg (by omega)]; exact hF) | (simp only [zup]; rw [if_neg (by omega), if_neg (by omega)]; exact hF) | (simp only [zup]; rw [if_neg (by omega), if_pos trivial]; done) | (simp only [zup]; rw [if_pos trivial]; done)) rfl ?_
        refine q_iload_n (pc := 88) dX0_nextWay_88 rfl ?_
        refine q_iaload (pc := 89) dX0_nextWay_89 (by first | assumption | exact hS.o | exact hS.s1 | exact hS.s2 | (simp only [zup]; rw [if_neg (by omega)]; exact hF) | (simp only [zup]; rw [if_neg (by omega), if_neg (by omega)]; exact hF) | (simp only [zup]; rw [if_neg (by omega), if_pos trivial]; done) | (simp only [zup]; rw [if_pos trivial]; done)) (by omega) ?_
        rw [zfu_at]
        refine q_aload_n (pc := 90) dX0_nextWay_90 rfl rfl ?_
        refine q_iload_n (pc := 91) dX0_nextWay_91 rfl ?_
        refine q_aload_n (pc := 92) dX0_nextWay_92 rfl rfl ?_
        refine q_getfield (pc := 93) gf_X0_21 dX0_nextWay_93 (by first | assumption | exact hS.o | exact hS.s1 | exact hS.s2 | (simp only [zup]; rw [if_neg (by omega)]; exact hF) | (simp only [zup]; rw [if_neg (by omega), if_neg (by omega)]; exact hF) | (simp only [zup]; rw [if_neg (by omega), if_pos trivial]; done) | (simp only [zup]; rw [if_pos trivial]; done)) rfl ?_
        refine q_iload_n (pc := 96) dX0_nextWay_96 rfl ?_
        refine q_iaload (pc := 97) dX0_nextWay_97 (by first | assumption | exact hS.o | exact hS.s1 | exact hS.s2 | (simp only [zup]; rw [if_neg (by omega)]; exact hF) | (simp only [zup]; rw [if_neg (by omega), if_neg (by omega)]; exact hF) | (simp only [zup]; rw [if_neg (by omega), if_pos trivial]; done) | (simp only [zup]; rw [if_pos trivial]; done)) (by omega) ?_
        rw [zfu_at]
        refine q_invokevirtual (pc := 98) (d' := d - 1) (mc' := 0) (ms' := 0) (As := [_, _]) (TX0, 6) cl_X0_107 dX0_nextWay_98 rfl rfl (by first | assumption | exact hS.o | exact hS.s1 | exact hS.s2 | (simp only [zup]; rw [if_neg (by omega)]; exact hF) | (simp only [zup]; rw [if_neg (by omega), if_neg (by omega)]; exact hF) | (simp only [zup]; rw [if_neg (by omega), if_pos trivial]; done) | (simp only [zup]; rw [if_pos trivial]; done)) rfl (by omega) rfl 0 0 (Nat.le_refl 0) (Nat.le_refl 0) ?_
        refine c_X0_hitsKept (by omega) (by first | assumption | exact hS.o | exact hS.s1 | exact hS.s2 | (simp only [zup]; rw [if_neg (by omega)]; exact hF) | (simp only [zup]; rw [if_neg (by omega), if_neg (by omega)]; exact hF) | (simp only [zup]; rw [if_neg (by omega), if_pos trivial]; done) | (simp only [zup]; rw [if_pos trivial]; done)) (by simp only [zup]; rw [if_neg (by omega), if_neg (by omega)]; exact hG2) (by omega) (by omega) ?_
        refine q_invokevirtual (pc := 101) (d' := d - 1) (mc' := 0) (ms' := 0) (As := [_, _]) (TX0, 6) cl_X0_110 dX0_nextWay_101 rfl rfl (by first | assumption | exact hS.o | exact hS.s1 | exact hS.s2 | (simp only [zup]; rw [if_neg (by omega)]; exact hF) | (simp only [zup]; rw [if_neg (by omega), if_neg (by omega)]; exact hF) | (simp only [zup]; rw [if_neg (by omega), if_pos trivial]; done) | (simp only [zup]; rw [if_pos trivial]; done)) rfl (by omega) rfl 0 0 (Nat.le_refl 0) (Nat.le_refl 0) ?_
        refine c_X0_close (by omega) (by first | assumption | exact hS.o | exact hS.s1 | exact hS.s2 | (simp only [zup]; rw [if_neg (by omega)]; exact hF) | (simp only [zup]; rw [if_neg (by omega), if_neg (by omega)]; exact hF) | (simp only [zup]; rw [if_neg (by omega), if_pos trivial]; done) | (simp only [zup]; rw [if_pos trivial]; done)) (by simp only [zup]; rw [if_pos trivial]) (by omega) ?_
        refine q_iload_n (pc := 104) dX0_nextWay_104 rfl ?_
        refine q_if_eq (pc := 105) (by omega) 110 dX0_nextWay_105 rfl (fun c105 => ?_) (fun c105 => ?_)
        · exfalso; omega
        refine q_iconst (pc := 108) dX0_nextWay_108 ?_
        exact q_zreturn1 (pc := 109) (by omega) dX0_nextWay_109 rfl (k _ _ _ (((hs.tr (zSame.up (by omega))).tr (zSame.up (by omega))).tr (zSame.up (by omega))) (by simp only [zup]; rw [if_pos trivial]) (by simp only [zup]; rw [if_neg (by omega), if_neg (by omega), if_pos trivial]) bw (fun q h1 h2 => zopn_cl (by omega) (i3 q h1 h2)) (fun _ => eu))
      · skip
        refine q_iload_n (pc := 21) dX0_nextWay_21 rfl ?_
        refine q_if_lt (pc := 22) (by omega) 116 dX0_nextWay_22 rfl (fun c22 => ?_) (fun c22 => ?_)
        · exfalso; omega
        refine q_aload_n (pc := 25) dX0_nextWay_25 rfl rfl ?_
        refine q_getfield (pc := 26) gf_X0_21 dX0_nextWay_26 (by first | assumption | exact hS.o | exact hS.s1 | exact hS.s2 | (simp only [zup]; rw [if_neg (by omega)]; exact hF) | (simp only [zup]; rw [if_neg (by omega), if_neg (by omega)]; exact hF) | (simp only [zup]; rw [if_neg (by omega), if_pos trivial]; done) | (simp only [zup]; rw [if_pos trivial]; done)) rfl ?_
        refine q_iload_n (pc := 29) dX0_nextWay_29 rfl ?_
        refine q_iaload (pc := 30) dX0_nextWay_30 (by first | assumption | exact hS.o | exact hS.s1 | exact hS.s2 | (simp only [zup]; rw [if_neg (by omega)]; exact hF) | (simp only [zup]; rw [if_neg (by omega), if_neg (by omega)]; exact hF) | (simp only [zup]; rw [if_neg (by omega), if_pos trivial]; done) | (simp only [zup]; rw [if_pos trivial]; done)) (by omega) ?_
        refine q_istore_n (pc := 31) [some _, some _, some _, _] dX0_nextWay_31 rfl (Nat.le_of_ble_eq_true rfl) rfl ?_
        refine q_iload_n (pc := 32) dX0_nextWay_32 rfl ?_
        refine q_iconst (pc := 33) dX0_nextWay_33 ?_
        refine q_iadd (pc := 34) dX0_nextWay_34 ?_
        refine q_aload_n (pc := 35) dX0_nextWay_35 rfl rfl ?_
        refine q_getfield (pc := 36) gf_X0_27 dX0_nextWay_36 (by first | assumption | exact hS.o | exact hS.s1 | exact hS.s2 | (simp only [zup]; rw [if_neg (by omega)]; exact hF) | (simp only [zup]; rw [if_neg (by omega), if_neg (by omega)]; exact hF) | (simp only [zup]; rw [if_neg (by omega), if_pos trivial]; done) | (simp only [zup]; rw [if_pos trivial]; done)) rfl ?_
        refine q_getfield (pc := 39) gf_X0_96 dX0_nextWay_39 (by first | assumption | exact hS.o | exact hS.s1 | exact hS.s2 | (simp only [zup]; rw [if_neg (by omega)]; exact hF) | (simp only [zup]; rw [if_neg (by omega), if_neg (by omega)]; exact hF) | (simp only [zup]; rw [if_neg (by omega), if_pos trivial]; done) | (simp only [zup]; rw [if_pos trivial]; done)) rfl ?_
        refine q_getfield (pc := 42) gf_X0_91 dX0_nextWay_42 (by first | assumption | exact hS.o | exact hS.s1 | exact hS.s2 | (simp only [zup]; rw [if_neg (by omega)]; exact hF) | (simp only [zup]; rw [if_neg (by omega), if_neg (by omega)]; exact hF) | (simp only [zup]; rw [if_neg (by omega), if_pos trivial]; done) | (simp only [zup]; rw [if_pos trivial]; done)) rfl ?_
        refine q_icmp_ge (pc := 45) (by omega) (by omega) 52 dX0_nextWay_45 rfl (fun c45 => ?_) (fun c45 => ?_)
        · refine q_iconst (pc := 52) dX0_nextWay_52 ?_
          refine q_istore_n (pc := 53) [some _, some _, some _, some _] dX0_nextWay_53 rfl (Nat.le_of_ble_eq_true rfl) rfl ?_
          refine q_aload_n (pc := 54) dX0_nextWay_54 rfl rfl ?_
          refine q_getfield (pc := 55) gf_X0_21 dX0_nextWay_55 (by first | assumption | exact hS.o | exact hS.s1 | exact hS.s2 | (simp only [zup]; rw [if_neg (by omega)]; exact hF) | (simp only [zup]; rw [if_neg (by omega), if_neg (by omega)]; exact hF) | (simp only [zup]; rw [if_neg (by omega), if_pos trivial]; done) | (simp only [zup]; rw [if_pos trivial]; done)) rfl ?_
          refine q_iload_n (pc := 58) dX0_nextWay_58 rfl ?_
          refine q_iload_n (pc := 59) dX0_nextWay_59 rfl ?_
          refine q_if_eq (pc := 60) (by omega) 69 dX0_nextWay_60 rfl (fun c60 => ?_) (fun c60 => ?_)
          · refine q_iconst (pc := 69) dX0_nextWay_69 ?_
            refine q_iastore (pc := 70) dX0_nextWay_70 (by first | assumption | exact hS.o | exact hS.s1 | exact hS.s2 | (simp only [zup]; rw [if_neg (by omega)]; exact hF) | (simp only [zup]; rw [if_neg (by omega), if_neg (by omega)]; exact hF) | (simp only [zup]; rw [if_neg (by omega), if_pos trivial]; done) | (simp only [zup]; rw [if_pos trivial]; done)) (by omega) ?_
            refine q_aload_n (pc := 71) dX0_nextWay_71 rfl rfl ?_
            refine q_iload_n (pc := 72) dX0_nextWay_72 rfl ?_
            refine q_aload_n (pc := 73) dX0_nextWay_73 rfl rfl ?_
            refine q_iload_n (pc := 74) dX0_nextWay_74 rfl ?_
            refine q_iload_n (pc := 75) dX0_nextWay_75 rfl ?_
            refine q_invokevirtual (pc := 76) (d' := d - 1) (mc' := 0) (ms' := 0) (As := [_, _]) (TX0, 6) cl_X0_107 dX0_nextWay_76 rfl rfl (by first | assumption | exact hS.o | exact hS.s1 | exact hS.s2 | (simp only [zup]; rw [if_neg (by omega)]; exact hF) | (simp only [zup]; rw [if_neg (by omega), if_neg (by omega)]; exact hF) | (simp only [zup]; rw [if_neg (by omega), if_pos trivial]; done) | (simp only [zup]; rw [if_pos trivial]; done)) rfl (by omega) rfl 0 0 (Nat.le_refl 0) (Nat.le_refl 0) ?_
            refine c_X0_hitsKept (by omega) (by first | assumption | exact hS.o | exact hS.s1 | exact hS.s2 | (simp only [zup]; rw [if_neg (by omega)]; exact hF) | (simp only [zup]; rw [if_neg (by omega), if_neg (by omega)]; exact hF) | (simp only [zup]; rw [if_neg (by omega), if_pos trivial]; done) | (simp only [zup]; rw [if_pos trivial]; done)) (by simp only [zup]; rw [if_neg (by omega)]; exact hG2) (by omega) (by omega) ?_
            refine q_ineg (pc := 79) dX0_nextWay_79 ?_
            refine q_invokevirtual (pc := 80) (d' := d - 1) (mc' := 0) (ms' := 0) (As := [_, _]) (TX0, 6) cl_X0_110 dX0_nextWay_80 rfl rfl (by first | assumption | exact hS.o | exact hS.s1 | exact hS.s2 | (simp only [zup]; rw [if_neg (by omega)]; exact hF) | (simp only [zup]; rw [if_neg (by omega), if_neg (by omega)]; exact hF) | (simp only [zup]; rw [if_neg (by omega), if_pos trivial]; done) | (simp only [zup]; rw [if_pos trivial]; done)) rfl (by omega) rfl 0 0 (Nat.le_refl 0) (Nat.le_refl 0) ?_
            refine c_X0_close (by omega) (by first | assumption | exact hS.o | exact hS.s1 | exact hS.s2 | (simp only [zup]; rw [if_neg (by omega)]; exact hF) | (simp only [zup]; rw [if_neg (by omega), if_neg (by omega)]; exact hF) | (simp only [zup]; rw [if_neg (by omega), if_pos trivial]; done) | (simp only [zup]; rw [if_pos trivial]; done)) (by simp only [zup]; rw [if_neg (by omega)]; exact hG3) (by omega) ?_
            refine q_aload_n (pc := 83) dX0_nextWay_83 rfl rfl ?_
            refine q_aload_n (pc := 84) dX0_nextWay_84 rfl rfl ?_
            refine q_getfield (pc := 85) gf_X0_21 dX0_nextWay_85 (by first | assumption | exact hS.o | exact hS.s1 | exact hS.s2 | (simp only [zup]; rw [if_neg (by omega)]; exact hF) | (simp only [zup]; rw [if_neg (by omega), if_neg (by omega)]; exact hF) | (simp only [zup]; rw [if_neg (by omega), if_pos trivial]; done) | (simp only [zup]; rw [if_pos trivial]; done)) rfl ?_
            refine q_iload_n (pc := 88) dX0_nextWay_88 rfl ?_
            refine q_iaload (pc := 89) dX0_nextWay_89 (by first | assumption | exact hS.o | exact hS.s1 | exact hS.s2 | (simp only [zup]; rw [if_neg (by omega)]; exact hF) | (simp only [zup]; rw [if_neg (by omega), if_neg (by omega)]; exact hF) | (simp only [zup]; rw [if_neg (by omega), if_pos trivial]; done) | (simp only [zup]; rw [if_pos trivial]; done)) (by omega) ?_
            rw [zfu_at]
            refine q_aload_n (pc := 90) dX0_nextWay_90 rfl rfl ?_
            refine q_iload_n (pc := 91) dX0_nextWay_91 rfl ?_
            refine q_aload_n (pc := 92) dX0_nextWay_92 rfl rfl ?_
            refine q_getfield (pc := 93) gf_X0_21 dX0_nextWay_93 (by first | assumption | exact hS.o | exact hS.s1 | exact hS.s2 | (simp only [zup]; rw [if_neg (by omega)]; exact hF) | (simp only [zup]; rw [if_neg (by omega), if_neg (by omega)]; exact hF) | (simp only [zup]; rw [if_neg (by omega), if_pos trivial]; done) | (simp only [zup]; rw [if_pos trivial]; done)) rfl ?_
            refine q_iload_n (pc := 96) dX0_nextWay_96 rfl ?_
            refine q_iaload (pc := 97) dX0_nextWay_97 (by first | assumption | exact hS.o | exact hS.s1 | exact hS.s2 | (simp only [zup]; rw [if_neg (by omega)]; exact hF) | (simp only [zup]; rw [if_neg (by omega), if_neg (by omega)]; exact hF) | (simp only [zup]; rw [if_neg (by omega), if_pos trivial]; done) | (simp only [zup]; rw [if_pos trivial]; done)) (by omega) ?_
            rw [zfu_at]
            refine q_invokevirtual (pc := 98) (d' := d - 1) (mc' := 0) (ms' := 0) (As := [_, _]) (TX0, 6) cl_X0_107 dX0_nextWay_98 rfl rfl (by first | assumption | exact hS.o | exact hS.s1 | exact hS.s2 | (simp only [zup]; rw [if_neg (by omega)]; exact hF) | (simp only [zup]; rw [if_neg (by omega), if_neg (by omega)]; exact hF) | (simp only [zup]; rw [if_neg (by omega), if_pos trivial]; done) | (simp only [zup]; rw [if_pos trivial]; done)) rfl (by omega) rfl 0 0 (Nat.le_refl 0) (Nat.le_refl 0) ?_
            refine c_X0_hitsKept (by omega) (by first | assumption | exact hS.o | exact hS.s1 | exact hS.s2 | (simp only [zup]; rw [if_neg (by omega)]; exact hF) | (simp only [zup]; rw [if_neg (by omega), if_neg (by omega)]; exact hF) | (simp only [zup]; rw [if_neg (by omega), if_pos trivial]; done) | (simp only [zup]; rw [if_pos trivial]; done)) (by simp only [zup]; rw [if_neg (by omega), if_neg (by omega)]; exact hG2) (by omega) (by omega) ?_
            refine q_invokevirtual (pc := 101) (d' := d - 1) (mc' := 0) (ms' := 0) (As := [_, _]) (TX0, 6) cl_X0_110 dX0_nextWay_101 rfl rfl (by first | assumption | exact hS.o | exact hS.s1 | exact hS.s2 | (simp only [zup]; rw [if_neg (by omega)]; exact hF) | (simp only [zup]; rw [if_neg (by omega), if_neg (by omega)]; exact hF) | (simp only [zup]; rw [if_neg (by omega), if_pos trivial]; done) | (simp only [zup]; rw [if_pos trivial]; done)) rfl (by omega) rfl 0 0 (Nat.le_refl 0) (Nat.le_refl 0) ?_
            refine c_X0_close (by omega) (by first | assumption | exact hS.o | exact hS.s1 | exact hS.s2 | (simp only [zup]; rw [if_neg (by omega)]; exact hF) | (simp only [zup]; rw [if_neg (by omega), if_neg (by omega)]; exact hF) | (simp only [zup]; rw [if_neg (by omega), if_pos trivial]; done) | (simp only [zup]; rw [if_pos trivial]; done)) (by simp only [zup]; rw [if_pos trivial]) (by omega) ?_
            refine q_iload_n (pc := 104) dX0_nextWay_104 rfl ?_
            refine q_if_eq (pc := 105) (by omega) 110 dX0_nextWay_105 rfl (fun c105 => ?_) (fun c105 => ?_)
            · refine q_iinc (pc := 110) [some _, some _, some _, some _] dX0_nextWay_110 rfl rfl rfl ?_
              refine q_goto (pc := 113) 21 dX0_nextWay_113 rfl ?_
              rw [show (m : Int) + -1 = (m : Int) - 1 by omega]
              refine ih _ _ (zfu W1 (m : Int) 0) _ _ (by omega) (((hs.tr (zSame.up (by omega))).tr (zSame.up (by omega))).tr (zSame.up (by omega))) (by simp only [zup]; rw [if_pos trivial]) (by simp only [zup]; rw [if_neg (by omega), if_neg (by omega), if_pos trivial]) (fun c h1 h2 => ?_) (fun c h1 h2 => ?_) (fun q h1 h2 => zopn_cl (by omega) (i3 q h1 h2))
              · rw [zfu_ne (by omega)]; exact i1 c h1 (by omega)
              · by_cases e : c = (m : Int)
                · rw [e, zfu_at]; omega
                · rw [zfu_ne e]; exact i2 c (by omega) h2
            exfalso; omega
          exfalso; omega
        exfalso; omega
  refine zenter [some _, none, none, none] pn_X0 rfl (Nat.le_of_ble_eq_true rfl) ?_
  refine q_aload_n (pc := 0) dX0_nextWay_0 rfl rfl ?_
  refine q_getfield (pc := 1) gf_X0_27 dX0_nextWay_1 (by first | assumption | exact hS.o | exact hS.s0 | exact hS.s1 | exact hS.s2 | exact hS.s3 | exact hS.s4 | exact hS.s5 | exact hS.s6) rfl ?_
  refine q_getfield (pc := 4) gf_X0_87 dX0_nextWay_4 (by first | assumption | exact hS.o | exact hS.s0 | exact hS.s1 | exact hS.s2 | exact hS.s3 | exact hS.s4 | exact hS.s5 | exact hS.s6) rfl ?_
  refine q_getfield (pc := 7) gf_X0_91 dX0_nextWay_7 (by first | assumption | exact hS.o | exact hS.s0 | exact hS.s1 | exact hS.s2 | exact hS.s3 | exact hS.s4 | exact hS.s5 | exact hS.s6) rfl ?_
  refine q_aload_n (pc := 10) dX0_nextWay_10 rfl rfl ?_
  refine q_getfield (pc := 11) gf_X0_21 dX0_nextWay_11 (by first | assumption | exact hS.o | exact hS.s0 | exact hS.s1 | exact hS.s2 | exact hS.s3 | exact hS.s4 | exact hS.s5 | exact hS.s6) rfl ?_
  refine q_arraylength (pc := 14) dX0_nextWay_14 (by first | assumption | exact hS.o | exact hS.s0 | exact hS.s1 | exact hS.s2 | exact hS.s3 | exact hS.s4 | exact hS.s5 | exact hS.s6) ?_
  refine q_min (pc := 15) tw_3_223 tw_2_67 tw_1_4 tw_2_68 dX0_nextWay_15 (by omega) rfl (by omega) (by omega) ?_
  refine q_iconst (pc := 18) dX0_nextWay_18 ?_
  refine q_isub (pc := 19) dX0_nextWay_19 ?_
  refine q_istore_n (pc := 20) [some _, some _, none, none] dX0_nextWay_20 rfl (Nat.le_of_ble_eq_true rfl) rfl ?_
  rw [show min (N 1) ((6 : Nat) : Int) = ((N 1).toNat : Int) by omega]
  exact L (N 1).toNat _ O W _ _ (by omega) zSame.rf hG3 hG4 (fun c h1 h2 => rfl) (fun c h1 h2 => by omega) hZ
end X0E
