/-! the Forecast: what is left when -/
theorem zsg_b {f : Int → Int} {B : Int} : ∀ {m : Nat} {a : Int}, (∀ i, a ≤ i → i < a + (m : Int) → 0 ≤ f i ∧ f i ≤ B) → 0 ≤ zsg f m a ∧ zsg f m a ≤ (m : Int) * B
  | 0, _, _ => by simp [zsg]
  | m + 1, a, h => by
    have h1 := zsg_b (m := m) (a := a) (fun i h1 h2 => h i h1 (by omega))
    have h2 := h (a + (m : Int)) (by omega) (by omega)
    have e : ((m + 1 : Nat) : Int) * B = (m : Int) * B + B := by rw [Int.natCast_add, Int.add_mul]; simp
    rw [e, zsg]
    omega
theorem zfrom_b {N : Int → Int} {c r : Int} (h : zOK N) (hc : 0 ≤ c ∧ c < 5) : 0 ≤ zfrom N c r ∧ zfrom N c r ≤ 891 := by
  have h1 := zsg_b (f := fun i => N (18 + 10 * c + i)) (B := 99) (m := (10 - max 1 r).toNat) (a := max 1 r) (fun i h1 h2 => (h.2.2.1 c i hc.1 hc.2 (by omega) (by omega)).1)
  unfold zfrom
  omega
theorem zgr_b {f : Int → Int} : ∀ m : Nat, 0 ≤ zgr f m ∧ zgr f m ≤ (m : Int)
  | 0 => by simp [zgr]
  | m + 1 => by
    have := zgr_b (f := f) m
    rw [zgr]; split <;> omega
theorem zgreat_b (N : Int → Int) (c : Int) : 0 ≤ zgreat N c ∧ zgreat N c ≤ 9 := zgr_b 9
def zlost (N : Int → Int) (c st m dd : Int) : Int := zsg (fun i => dd * zcost (N (8 + c)) + zmelt (N (8 + c)) (N 3 + i) st) m.toNat 0
theorem zlost_b {N : Int → Int} {c st m dd : Int} (hm : 0 ≤ m ∧ m ≤ 60) (hd : 0 ≤ dd ∧ dd ≤ 9) : 0 ≤ zlost N c st m dd ∧ zlost N c st m dd ≤ 1200 := by
  have hc := zcost_b (N (8 + c))
  have e1 : 0 ≤ dd * zcost (N (8 + c)) := Int.mul_nonneg hd.1 hc.1
  have e2 : dd * zcost (N (8 + c)) ≤ 9 * 2 := Int.mul_le_mul hd.2 hc.2 hc.1 (by omega)
  have h1 := zsg_b (f := fun i => dd * zcost (N (8 + c)) + zmelt (N (8 + c)) (N 3 + i) st) (B := 20) (m := m.toNat) (a := 0) (fun i _ _ => by have := zmelt_b (N (8 + c)) (N 3 + i) st; show 0 ≤ _ + _ ∧ _ + _ ≤ 20; omega)
  unfold zlost
  omega
def zthen (N : Int → Int) (c m dd what : Int) : Int := if what = 0 then zfrom N c (zlost N c (N (13 + c)) m dd + 1) else if what = 4 then max 0 (zgreat N c - zlost N c (N (13 + c)) m dd) else zfrom N c (zlost N c (N (13 + c)) m dd + 3 * what - 2) - zfrom N c (zlost N c (N (13 + c)) m dd + 3 * what + 1)
def zkeep (N : Int → Int) (c r : Int) : Nat → Int → Int → Int
  | 0, _, _ => -1
  | q + 1, m, gr => if gr < r then m else zkeep N c r q (m + 1) (gr - zmelt (N (8 + c)) (N 3 + m) (N (13 + c)))
def zlasts (N : Int → Int) (c r : Int) : Int := zkeep N c r 100 0 (zgreat N c)
def zls (N : Int → Int) (c r m : Int) : Nat → Int → Int
  | 0, _ => -1
  | q + 1, s => if r ≤ zgreat N c - zlost N c s m 0 then s else zls N c r m q (s + 1)
def zleast (N : Int → Int) (c r m : Int) : Int := zls N c r m 10 0
def zlbd (N : Int → Int) (c r : Int) : Int := zfrom N c r - zfrom N c (r + zcost (N (8 + c)))
def zbd (N : Int → Int) (r : Int) : Nat → Int
  | 0 => -1
  | m + 1 => if 0 < zfrom N (m : Int) r ∧ (zbd N r m = -1 ∨ zlbd N (m : Int) r < zlbd N (zbd N r m) r) then (m : Int) else zbd N r m
theorem zbd_b {N : Int → Int} {r : Int} : ∀ m : Nat, -1 ≤ zbd N r m ∧ zbd N r m < (m : Int) ∨ zbd N r m = -1
  | 0 => by simp [zbd]
  | m + 1 => by
    have := zbd_b (N := N) (r := r) m
    rw [zbd]; split <;> omega
def zlcg (seed : Int) : Nat → Int
  | 0 => seed
  | i + 1 => (zlcg seed i * 1103515245 + 12345) % 2147483648
theorem zlcg_b {seed : Int} (h : 0 ≤ seed ∧ seed ≤ 999999) : ∀ m : Nat, 0 ≤ zlcg seed m ∧ zlcg seed m < 2147483648
  | 0 => by rw [zlcg]; omega
  | m + 1 => by rw [zlcg]; omega
def zlsd (N : Int → Int) (c seed : Int) : Nat → Int
  | 0 => 0
  | i + 1 => zlsd N c seed i + (if zlcg seed (i + 1) / 65536 % 5 = c then zcost (N (8 + c)) else 0) + zmelt (N (8 + c)) (N 3 + (i : Int)) (N (13 + c))
theorem zlsd_b {N : Int → Int} {c seed : Int} : ∀ m : Nat, 0 ≤ zlsd N c seed m ∧ zlsd N c seed m ≤ 4 * (m : Int)
  | 0 => by simp [zlsd]
  | m + 1 => by
    have := zlsd_b (N := N) (c := c) (seed := seed) m
    have := zcost_b (N (8 + c))
    have := zmelt_b (N (8 + c)) (N 3 + (m : Int)) (N (13 + c))
    rw [zlsd]; split <;> omega
def zsummers (N : Int → Int) (seed n : Int) : Int := zsg (fun c => zfrom N c (1 + zlsd N c seed n.toNat)) (N 0).toNat 0
section X1
variable {g : zG} {d : Nat} {w : zWd} {K : Option Value → zWd → Prop} {b fb : Nat} {N P : Int → Int} {u : Int}
set_option maxRecDepth 100000 in
set_option maxHeartbeats 4000000 in
theorem c_X1_lostRings {c st m dd : Int} (hd : 2 ≤ d) (hF : w.1 fb = some (.inl (1, [zR g b]))) (hS : zSto g w b N u P) (hO : zOK N) (hc : 0 ≤ c ∧ c < N 0) (hst : 0 ≤ st ∧ st ≤ 9) (hm : 0 ≤ m ∧ m ≤ 60) (hdd : 0 ≤ dd ∧ dd ≤ 9) (k : K (some (zI (zlost N c st m dd))) w) : zCall g d 0 0 mX1_lostRings [zR g fb, zI c, zI st, zI m, zI dd] w K := by
  have hk := k
  unfold zlost at hk
  have hh := hO.1
  have hkd := hO.2.1 c hc.1 hc.2
  have L : ∀ (q i : Nat), i + q = m.toNat → zRuns g d mX1_lostRings 0 0 20 [some (zR g fb), some (zI c), some (zI st), some (zI m), some (zI dd), some (zI (N (8 + c))), some (zI (zsg (fun i => dd * zcost (N (8 + c)) + zmelt (N (8 + c)) (N 3 + i) st) i 0)), some (zI (i : Int))] [] w K := by
    intro q
    induction q with
    | zero =>
      intro i hi
      refine q_iload (pc := 20) dX1_lostRings_20 rfl ?_
      refine q_iload_n (pc := 22) dX1_lostRings_22 rfl ?_
      refine q_icmp_ge (pc := 23) (by omega) (by omega) 62 dX1_lostRings_23 rfl (fun c23 => ?_) (fun c23 => ?_)
      · refine q_iload (pc := 62) dX1_lostRings_62 rfl ?_
        refine q_ireturn (pc := 64) dX1_lostRings_64 rfl ?_
        rw [show m.toNat = i by omega] at hk; exact hk
      exfalso; omega
    | succ q ih =>
      intro i hi
      refine q_iload (pc := 20) dX1_lostRings_20 rfl ?_
      refine q_iload_n (pc := 22) dX1_lostRings_22 rfl ?_
      refine q_icmp_ge (pc := 23) (by omega) (by omega) 62 dX1_lostRings_23 rfl (fun c23 => ?_) (fun c23 => ?_)
      · exfalso; omega
      refine q_iload (pc := 26) dX1_lostRings_26 rfl ?_
      refine q_iload (pc := 28) dX1_lostRings_28 rfl ?_
      refine q_iload (pc := 30) dX1_lostRings_30 rfl ?_
      refine q_invokestatic (pc := 32) (d' := d - 1) (mc' := 0) (ms' := 0) (As := [_]) cl_X1_27 dX1_lostRings_32 rfl rfl (by omega) rfl 0 0 (Nat.le_refl 0) (Nat.le_refl 0) ?_
      refine c_X2_costOfDoor (by omega) ?_
      refine q_imul (pc := 35) dX1_lostRings_35 ?_
      refine q_iload (pc := 36) dX1_lostRings_36 rfl ?_
      refine q_aload_n (pc := 38) dX1_lostRings_38 rfl rfl ?_
      refine q_getfield (pc := 39) gf_X1_9 dX1_lostRings_39 (by first | assumption | exact hS.o | exact hS.s0 | exact hS.s1 | exact hS.s2 | exact hS.s3 | exact hS.s4 | exact hS.s5 | exact hS.s6) rfl ?_
      refine q_getfield (pc := 42) gf_X1_33 dX1_lostRings_42 (by first | assumption | exact hS.o | exact hS.s0 | exact hS.s1 | exact hS.s2 | exact hS.s3 | exact hS.s4 | exact hS.s5 | exact hS.s6) rfl ?_
      refine q_iload (pc := 45) dX1_lostRings_45 rfl ?_
      refine q_iadd (pc := 47) dX1_lostRings_47 ?_
      refine q_iload_n (pc := 48) dX1_lostRings_48 rfl ?_
      refine q_invokestatic (pc := 49) (d' := d - 1) (mc' := 0) (ms' := 0) (As := [_, _, _]) cl_X1_37 dX1_lostRings_49 rfl rfl (by omega) rfl 0 0 (Nat.le_refl 0) (Nat.le_refl 0) ?_
      refine c_X2_meltBy (by omega) (by omega) (by omega) ?_
      refine q_iadd (pc := 52) dX1_lostRings_52 ?_
      refine q_iadd (pc := 53) dX1_lostRings_53 ?_
      rw [zsg_s (fun i => dd * zcost (N (8 + c)) + zmelt (N (8 + c)) (N 3 + i) st) i 0 (i : Int) (by omega)]
      refine q_istore (pc := 54) [some _, some _, some _, some _, some _, some _, some _, some _] dX1_lostRings_54 rfl (Nat.le_of_ble_eq_true rfl) rfl ?_
      refine q_iinc (pc := 56) [some _, some _, some _, some _, some _, some _, some _, some _] dX1_lostRings_56 rfl rfl rfl ?_
      refine q_goto (pc := 59) 20 dX1_lostRings_59 rfl ?_
      exact ih (i + 1) (by omega)
  refine zenter [some _, some _, some _, some _, some _, none, none, none] pn_X1 rfl (Nat.le_of_ble_eq_true rfl) ?_
  refine q_aload_n (pc := 0) dX1_lostRings_0 rfl rfl ?_
  refine q_getfield (pc := 1) gf_X1_9 dX1_lostRings_1 (by first | assumption | exact hS.o | exact hS.s0 | exact hS.s1 | exact hS.s2 | exact hS.s3 | exact hS.s4 | exact hS.s5 | exact hS.s6) rfl ?_
  refine q_getfield (pc := 4) gf_X1_15 dX1_lostRings_4 (by first | assumption | exact hS.o | exact hS.s0 | exact hS.s1 | exact hS.s2 | exact hS.s3 | exact hS.s4 | exact hS.s5 | exact hS.s6) rfl ?_
  refine q_iload_n (pc := 7) dX1_lostRings_7 rfl ?_
  refine q_iconst (pc := 8) dX1_lostRings_8 ?_
  refine q_invokevirtual (pc := 9) (d' := d - 1) (mc' := 0) (ms' := 0) (As := [_, _]) (TX4, 4) cl_X1_21 dX1_lostRings_9 rfl rfl (by first | assumption | exact hS.o | exact hS.s0 | exact hS.s1 | exact hS.s2 | exact hS.s3 | exact hS.s4 | exact hS.s5 | exact hS.s6) rfl (by omega) rfl 0 0 (Nat.le_refl 0) (Nat.le_refl 0) ?_
  refine s_get_kind (by omega) hS hO.1 hc ?_
  refine q_istore (pc := 12) [some _, some _, some _, some _, some _, some _, none, none] dX1_lostRings_12 rfl (Nat.le_of_ble_eq_true rfl) rfl ?_
  refine q_iconst (pc := 14) dX1_lostRings_14 ?_
  refine q_istore (pc := 15) [some _, some _, some _, some _, some _, some _, some _, none] dX1_lostRings_15 rfl (Nat.le_of_ble_eq_true rfl) rfl ?_
  refine q_iconst (pc := 17) dX1_lostRings_17 ?_
  refine q_istore (pc := 18) [some _, some _, some _, some _, some _, some _, some _, some _] dX1_lostRings_18 rfl (Nat.le_of_ble_eq_true rfl) rfl ?_
  exact L m.toNat 0 (by omega)
set_option maxRecDepth 100000 in
set_option maxHeartbeats 4000000 in
theorem c_X1_leftBehind {c m dd what : Int} (hd : 4 ≤ d) (hF : w.1 fb = some (.inl (1, [zR g b]))) (hS : zSto g w b N u P) (hO : zOK N) (hc : 0 ≤ c ∧ c < N 0) (hm : 0 ≤ m ∧ m ≤ 60) (hdd : 0 ≤ dd ∧ dd ≤ 9) (hw : 0 ≤ what ∧ what ≤ 4) (k : K (some (zI (zthen N c m dd what))) w) : zCall g d 0 0 mX1_leftBehind [zR g fb, zI c, zI m, zI dd, zI what] w K := by
  have hh := hO.1
  have hkd := hO.2.1 c hc.1 hc.2
  have hl := zlost_b (N := N) (c := c) (st := N (13 + c)) hm hdd
  have hgr := zgreat_b N c
  unfold zthen at k
  refine zenter [some _, some _, some _, some _, some _, none] pn_X1 rfl (Nat.le_of_ble_eq_true rfl) ?_
  refine q_aload_n (pc := 0) dX1_leftBehind_0 rfl rfl ?_
  refine q_iload_n (pc := 1) dX1_leftBehind_1 rfl ?_
  refine q_aload_n (pc := 2) dX1_leftBehind_2 rfl rfl ?_
  refine q_getfield (pc := 3) gf_X1_9 dX1_leftBehind_3 (by first | assumption | exact hS.o | exact hS.s0 | exact hS.s1 | exact hS.s2 | exact hS.s3 | exact hS.s4 | exact hS.s5 | exact hS.s6) rfl ?_
  refine q_getfield (pc := 6) gf_X1_15 dX1_leftBehind_6 (by first | assumption | exact hS.o | exact hS.s0 | exact hS.s1 | exact hS.s2 | exact hS.s3 | exact hS.s4 | exact hS.s5 | exact hS.s6) rfl ?_
  refine q_iload_n (pc := 9) dX1_leftBehind_9 rfl ?_
  refine q_iconst (pc := 10) dX1_leftBehind_10 ?_
  refine q_invokevirtual (pc := 11) (d' := d - 1) (mc' := 0) (ms' := 0) (As := [_, _]) (TX4, 4) cl_X1_21 dX1_leftBehind_11 rfl rfl (by first | assumption | exact hS.o | exact hS.s0 | exact hS.s1 | exact hS.s2 | exact hS.s3 | exact hS.s4 | exact hS.s5 | exact hS.s6) rfl (by omega) rfl 0 0 (Nat.le_refl 0) (Nat.le_refl 0) ?_
  refine s_get_straw (by omega) hS hO.1 hc ?_
  refine q_iload_n (pc := 14) dX1_leftBehind_14 rfl ?_
  refine q_iload_n (pc := 15) dX1_leftBehind_15 rfl ?_
  refine q_invokevirtual (pc := 16) (d' := d - 1) (mc' := 0) (ms' := 0) (As := [_, _, _, _]) (TX1, 1) cl_X1_41 dX1_leftBehind_16 rfl rfl (by first | assumption | exact hS.o | exact hS.s0 | exact hS.s1 | exact hS.s2 | exact hS.s3 | exact hS.s4 | exact hS.s5 | exact hS.s6) rfl (by omega) rfl 0 0 (Nat.le_refl 0) (Nat.le_refl 0) ?_
  refine c_X1_lostRings (by omega) hF hS hO hc (by omega) hm hdd ?_
  refine q_istore (pc := 19) [some _, some _, some _, some _, some _, some _] dX1_leftBehind_19 rfl (Nat.le_of_ble_eq_true rfl) rfl ?_
  refine q_iload (pc := 21) dX1_leftBehind_21 rfl ?_
  refine q_if_ne (pc := 23) (by omega) 39 dX1_leftBehind_23 rfl (fun c23 => ?_) (fun c23 => ?_)
  · refine q_iload (pc := 39) dX1_leftBehind_39 rfl ?_
    refine q_iconst (pc := 41) dX1_leftBehind_41 ?_
    refine q_icmp_ne (pc := 42) (by omega) (by omega) 61 dX1_leftBehind_42 rfl (fun c42 => ?_) (fun c42 => ?_)
    · refine q_aload_n (pc := 61) dX1_leftBehind_61 rfl rfl ?_
      refine q_getfield (pc := 62) gf_X1_9 dX1_leftBehind_62 (by first | assumption | exact hS.o | exact hS.s0 | exact hS.s1 | exact hS.s2 | exact hS.s3 | exact hS.s4 | exact hS.s5 | exact hS.s6) rfl ?_
      refine q_iload_n (pc := 65) dX1_leftBehind_65 rfl ?_
      refine q_iload (pc := 66) dX1_leftBehind_66 rfl ?_
      refine q_iconst (pc := 68) dX1_leftBehind_68 ?_
      refine q_iload (pc := 69) dX1_leftBehind_69 rfl ?_
      refine q_imul (pc := 71) dX1_leftBehind_71 ?_
      refine q_iadd (pc := 72) dX1_leftBehind_72 ?_
      refine q_iconst (pc := 73) dX1_leftBehind_73 ?_
      refine q_isub (pc := 74) dX1_leftBehind_74 ?_
      refine q_invokevirtual (pc := 75) (d' := d - 1) (mc' := 0) (ms' := 0) (As := [_, _]) (TX6, 9) cl_X1_45 dX1_leftBehind_75 rfl rfl (by first | assumption | exact hS.o | exact hS.s0 | exact hS.s1 | exact hS.s2 | exact hS.s3 | exact hS.s4 | exact hS.s5 | exact hS.s6) rfl (by omega) rfl 0 0 (Nat.le_refl 0) (Nat.le_refl 0) ?_
      refine c_X6_stonesFrom (by omega) hS hO.1 hc (by omega) ?_
      refine q_aload_n (pc := 78) dX1_leftBehind_78 rfl rfl ?_
      refine q_getfield (pc := 79) gf_X1_9 dX1_leftBehind_79 (by first | assumption | exact hS.o | exact hS.s0 | exact hS.s1 | exact hS.s2 | exact hS.s3 | exact hS.s4 | exact hS.s5 | exact hS.s6) rfl ?_
      refine q_iload_n (pc := 82) dX1_leftBehind_82 rfl ?_
      refine q_iload (pc := 83) dX1_leftBehind_83 rfl ?_
      refine q_iconst (pc := 85) dX1_leftBehind_85 ?_
      refine q_iload (pc := 86) dX1_leftBehind_86 rfl ?_
      refine q_imul (pc := 88) dX1_leftBehind_88 ?_
      refine q_iadd (pc := 89) dX1_leftBehind_89 ?_
      refine q_iconst (pc := 90) dX1_leftBehind_90 ?_
      refine q_iadd (pc := 91) dX1_leftBehind_91 ?_
      refine q_invokevirtual (pc := 92) (d' := d - 1) (mc' := 0) (ms' := 0) (As := [_, _]) (TX6, 9) cl_X1_45 dX1_leftBehind_92 rfl rfl (by first | assumption | exact hS.o | exact hS.s0 | exact hS.s1 | exact hS.s2 | exact hS.s3 | exact hS.s4 | exact hS.s5 | exact hS.s6) rfl (by omega) rfl 0 0 (Nat.le_refl 0) (Nat.le_refl 0) ?_
      refine c_X6_stonesFrom (by omega) hS hO.1 hc (by omega) ?_
      refine q_isub (pc := 95) dX1_leftBehind_95 ?_
      refine q_ireturn (pc := 96) dX1_leftBehind_96 rfl ?_
      rw [if_neg (by omega), if_neg (by omega)] at k; exact k
    refine q_iconst (pc := 45) dX1_leftBehind_45 ?_
    refine q_aload_n (pc := 46) dX1_leftBehind_46 rfl rfl ?_
    refine q_getfield (pc := 47) gf_X1_9 dX1_leftBehind_47 (by first | assumption | exact hS.o | exact hS.s0 | exact hS.s1 | exact hS.s2 | exact hS.s3 | exact hS.s4 | exact hS.s5 | exact hS.s6) rfl ?_
    refine q_iload_n (pc := 50) dX1_leftBehind_50 rfl ?_
    refine q_invokevirtual (pc := 51) (d' := d - 1) (mc' := 0) (ms' := 0) (As := [_]) (TX6, 9) cl_X1_48 dX1_leftBehind_51 rfl rfl (by first | assumption | exact hS.o | exact hS.s0 | exact hS.s1 | exact hS.s2 | exact hS.s3 | exact hS.s4 | exact hS.s5 | exact hS.s6) rfl (by omega) rfl 0 0 (Nat.le_refl 0) (Nat.le_refl 0) ?_
    refine c_X6_greatest (by omega) hS hO hc ?_
    refine q_iload (pc := 54) dX1_leftBehind_54 rfl ?_
    refine q_isub (pc := 56) dX1_leftBehind_56 ?_
    refine q_max (pc := 57) tw_3_181 tw_1_37 tw_1_4 tw_1_38 dX1_leftBehind_57 (by omega) rfl (by omega) (by omega) ?_
    refine q_ireturn (pc := 60) dX1_leftBehind_60 rfl ?_
    rw [if_neg (by omega), if_pos (by omega)] at k; exact k
  refine q_aload_n (pc := 26) dX1_leftBehind_26 rfl rfl ?_
  refine q_getfield (pc := 27) gf_X1_9 dX1_leftBehind_27 (by first | assumption | exact hS.o | exact hS.s0 | exact hS.s1 | exact hS.s2 | exact hS.s3 | exact hS.s4 | exact hS.s5 | exact hS.s6) rfl ?_
  refine q_iload_n (pc := 30) dX1_leftBehind_30 rfl ?_
  refine q_iload (pc := 31) dX1_leftBehind_31 rfl ?_
  refine q_iconst (pc := 33) dX1_leftBehind_33 ?_
  refine q_iadd (pc := 34) dX1_leftBehind_34 ?_
  refine q_invokevirtual (pc := 35) (d' := d - 1) (mc' := 0) (ms' := 0) (As := [_, _]) (TX6, 9) cl_X1_45 dX1_leftBehind_35 rfl rfl (by first | assumption | exact hS.o | exact hS.s0 | exact hS.s1 | exact hS.s2 | exact hS.s3 | exact hS.s4 | exact hS.s5 | exact hS.s6) rfl (by omega) rfl 0 0 (Nat.le_refl 0) (Nat.le_refl 0) ?_
  refine c_X6_stonesFrom (by omega) hS hO.1 hc (by omega) ?_
  refine q_ireturn (pc := 38) dX1_leftBehind_38 rfl ?_
  rw [if_pos (by omega)] at k; exact k
set_option maxRecDepth 100000 in
set_option maxHeartbeats 4000000 in
theorem c_X1_weeksKept {c r : Int} (hd : 4 ≤ d) (hF : w.1 fb = some (.inl (1, [zR g b]))) (hS : zSto g w b N u P) (hO : zOK N) (hc : 0 ≤ c ∧ c < N 0) (hr : 1 ≤ r ∧ r ≤ 9) (k : K (some (zI (zlasts N c r))) w) : zCall g d 0 0 mX1_weeksKept [zR g fb, zI c, zI r] w K := by
  have hh := hO.1
  have hgr := zgreat_b N c
  have L : ∀ (q : Nat) (m gr : Int), m + q = 100 → 0 ≤ m → gr ≤ 9 → -1000 ≤ gr - 2 * m + 200 → K (some (zI (zkeep N c r q m gr))) w → zRuns g d mX1_weeksKept 0 0 12 [some (zR g fb), some (zI c), some (zI r), some (zI gr), some (zI m)] [] w K := by
    intro q
    induction q with
    | zero =>
      intro m gr hm h0 h9 h8 hz
      refine q_iload (pc := 12) dX1_weeksKept_12 rfl ?_
      refine q_bipush (pc := 14) (by decide) dX1_weeksKept_14 ?_
      refine q_icmp_gt (pc := 16) (by omega) (by omega) 54 dX1_weeksKept_16 rfl (fun c16 => ?_) (fun c16 => ?_)
      · refine q_iconst (pc := 54) dX1_weeksKept_54 ?_
        refine q_ireturn (pc := 55) dX1_weeksKept_55 rfl ?_
        exact hz
      exfalso; omega
    | succ q ih =>
      intro m gr hm h0 h9 h8 hz
      have hmb := zmelt_b (N (8 + c)) (N 3 + m) (N (13 + c))
      rw [zkeep] at hz
      refine q_iload (pc := 12) dX1_weeksKept_12 rfl ?_
      refine q_bipush (pc := 14) (by decide) dX1_weeksKept_14 ?_
      refine q_icmp_gt (pc := 16) (by omega) (by omega) 54 dX1_weeksKept_16 rfl (fun c16 => ?_) (fun c16 => ?_)
      · exfalso; omega
      refine q_iload_n (pc := 19) dX1_weeksKept_19 rfl ?_
      refine q_iload_n (pc := 20) dX1_weeksKept_20 rfl ?_
      refine q_icmp_ge (pc := 21) (by omega) (by omega) 27 dX1_weeksKept_21 rfl (fun c21 => ?_) (fun c21 => ?_)
      · refine q_iload_n (pc := 27) dX1_weeksKept_27 rfl ?_
        refine q_aload_n (pc := 28) dX1_weeksKept_28 rfl rfl ?_
        refine q_getfield (pc := 29) gf_X1_9 dX1_weeksKept_29 (by first | assumption | exact hS.o | exact hS.s0 | exact hS.s1 | exact hS.s2 | exact hS.s3 | exact hS.s4 | exact hS.s5 | exact hS.s6) rfl ?_
        refine q_iload_n (pc := 32) dX1_weeksKept_32 rfl ?_
        refine q_aload_n (pc := 33) dX1_weeksKept_33 rfl rfl ?_
        refine q_getfield (pc := 34) gf_X1_9 dX1_weeksKept_34 (by first | assumption | exact hS.o | exact hS.s0 | exact hS.s1 | exact hS.s2 | exact hS.s3 | exact hS.s4 | exact hS.s5 | exact hS.s6) rfl ?_
        refine q_getfield (pc := 37) gf_X1_33 dX1_weeksKept_37 (by first | assumption | exact hS.o | exact hS.s0 | exact hS.s1 | exact hS.s2 | exact hS.s3 | exact hS.s4 | exact hS.s5 | exact hS.s6) rfl ?_
        refine q_iload (pc := 40) dX1_weeksKept_40 rfl ?_
        refine q_iadd (pc := 42) dX1_weeksKept_42 ?_
        refine q_invokevirtual (pc := 43) (d' := d - 1) (mc' := 0) (ms' := 0) (As := [_, _]) (TX6, 9) cl_X1_56 dX1_weeksKept_43 rfl rfl (by first | assumption | exact hS.o | exact hS.s0 | exact hS.s1 | exact hS.s2 | exact hS.s3 | exact hS.s4 | exact hS.s5 | exact hS.s6) rfl (by omega) rfl 0 0 (Nat.le_refl 0) (Nat.le_refl 0) ?_
        refine c_X6_meltIn (by omega) hS hO hc (by omega) ?_
        refine q_isub (pc := 46) dX1_weeksKept_46 ?_
        refine q_istore_n (pc := 47) [some _, some _, some _, some _, some _] dX1_weeksKept_47 rfl (Nat.le_of_ble_eq_true rfl) rfl ?_
        refine q_iinc (pc := 48) [some _, some _, some _, some _, some _] dX1_weeksKept_48 rfl rfl rfl ?_
        refine q_goto (pc := 51) 12 dX1_weeksKept_51 rfl ?_
        rw [if_neg (by omega)] at hz
        exact ih _ _ (by omega) (by omega) (by omega) (by omega) hz
      refine q_iload (pc := 24) dX1_weeksKept_24 rfl ?_
      refine q_ireturn (pc := 26) dX1_weeksKept_26 rfl ?_
      rw [if_pos (by omega)] at hz; exact hz
  refine zenter [some _, some _, some _, none, none] pn_X1 rfl (Nat.le_of_ble_eq_true rfl) ?_
  refine q_aload_n (pc := 0) dX1_weeksKept_0 rfl rfl ?_
  refine q_getfield (pc := 1) gf_X1_9 dX1_weeksKept_1 (by first | assumption | exact hS.o | exact hS.s0 | exact hS.s1 | exact hS.s2 | exact hS.s3 | exact hS.s4 | exact hS.s5 | exact hS.s6) rfl ?_
  refine q_iload_n (pc := 4) dX1_weeksKept_4 rfl ?_
  refine q_invokevirtual (pc := 5) (d' := d - 1) (mc' := 0) (ms' := 0) (As := [_]) (TX6, 9) cl_X1_48 dX1_weeksKept_5 rfl rfl (by first | assumption | exact hS.o | exact hS.s0 | exact hS.s1 | exact hS.s2 | exact hS.s3 | exact hS.s4 | exact hS.s5 | exact hS.s6) rfl (by omega) rfl 0 0 (Nat.le_refl 0) (Nat.le_refl 0) ?_
  refine c_X6_greatest (by omega) hS hO hc ?_
  refine q_istore_n (pc := 8) [some _, some _, some _, some _, none] dX1_weeksKept_8 rfl (Nat.le_of_ble_eq_true rfl) rfl ?_
  refine q_iconst (pc := 9) dX1_weeksKept_9 ?_
  refine q_istore (pc := 10) [some _, some _, some _, some _, some _] dX1_weeksKept_10 rfl (Nat.le_of_ble_eq_true rfl) rfl ?_
  exact L 100 0 _ (by omega) (by omega) (by omega) (by omega) k
set_option maxRecDepth 100000 in
set_option maxHeartbeats 4000000 in
theorem c_X1_leastStraw {c r m : Int} (hd : 4 ≤ d) (hF : w.1 fb = some (.inl (1, [zR g b]))) (hS : zSto g w b N u P) (hO : zOK N) (hc : 0 ≤ c ∧ c < N 0) (hr : 1 ≤ r ∧ r ≤ 9) (hm : 0 ≤ m ∧ m ≤ 60) (k : K (some (zI (zleast N c r m))) w) : zCall g d 0 0 mX1_leastStraw [zR g fb, zI c, zI r, zI m] w K := by
  have hh := hO.1
  have hgr := zgreat_b N c
  have L : ∀ (q : Nat) (s : Int), s + q = 10 → 0 ≤ s → K (some (zI (zls N c r m q s))) w → zRuns g d mX1_leastStraw 0 0 3 [some (zR g fb), some (zI c), some (zI r), some (zI m), some (zI s)] [] w K := by
    intro q
    induction q with
    | zero =>
      intro s hm h0 hz
      refine q_iload (pc := 3) dX1_leastStraw_3 rfl ?_
      refine q_bipush (pc := 5) (by decide) dX1_leastStraw_5 ?_
      refine q_icmp_gt (pc := 7) (by omega) (by omega) 41 dX1_leastStraw_7 rfl (fun c7 => ?_) (fun c7 => ?_)
      · refine q_iconst (pc := 41) dX1_leastStraw_41 ?_
        refine q_ireturn (pc := 42) dX1_leastStraw_42 rfl ?_
        exact hz
      exfalso; omega
    | succ q ih =>
      intro s hs h0 hz
      have hl := zlost_b (N := N) (c := c) (st := s) (dd := 0) hm (by omega)
      rw [zls] at hz
      refine q_iload (pc := 3) dX1_leastStraw_3 rfl ?_
      refine q_bipush (pc := 5) (by decide) dX1_leastStraw_5 ?_
      refine q_icmp_gt (pc := 7) (by omega) (by omega) 41 dX1_leastStraw_7 rfl (fun c7 => ?_) (fun c7 => ?_)
      · exfalso; omega
      refine q_aload_n (pc := 10) dX1_leastStraw_10 rfl rfl ?_
      refine q_getfield (pc := 11) gf_X1_9 dX1_leastStraw_11 (by first | assumption | exact hS.o | exact hS.s0 | exact hS.s1 | exact hS.s2 | exact hS.s3 | exact hS.s4 | exact hS.s5 | exact hS.s6) rfl ?_
      refine q_iload_n (pc := 14) dX1_leastStraw_14 rfl ?_
      refine q_invokevirtual (pc := 15) (d' := d - 1) (mc' := 0) (ms' := 0) (As := [_]) (TX6, 9) cl_X1_48 dX1_leastStraw_15 rfl rfl (by first | assumption | exact hS.o | exact hS.s0 | exact hS.s1 | exact hS.s2 | exact hS.s3 | exact hS.s4 | exact hS.s5 | exact hS.s6) rfl (by omega) rfl 0 0 (Nat.le_refl 0) (Nat.le_refl 0) ?_
      refine c_X6_greatest (by omega) hS hO hc ?_
      refine q_aload_n (pc := 18) dX1_leastStraw_18 rfl rfl ?_
      refine q_iload_n (pc := 19) dX1_leastStraw_19 rfl ?_
      refine q_iload (pc := 20) dX1_leastStraw_20 rfl ?_
      refine q_iload_n (pc := 22) dX1_leastStraw_22 rfl ?_
      refine q_iconst (pc := 23) dX1_leastStraw_23 ?_
      refine q_invokevirtual (pc := 24) (d' := d - 1) (mc' := 0) (ms' := 0) (As := [_, _, _, _]) (TX1, 1) cl_X1_41 dX1_leastStraw_24 rfl rfl (by first | assumption | exact hS.o | exact hS.s0 | exact hS.s1 | exact hS.s2 | exact hS.s3 | exact hS.s4 | exact hS.s5 | exact hS.s6) rfl (by omega) rfl 0 0 (Nat.le_refl 0) (Nat.le_refl 0) ?_
      refine c_X1_lostRings (by omega) hF hS hO hc (by omega) hm (by omega) ?_
      refine q_isub (pc := 27) dX1_leastStraw_27 ?_
      refine q_iload_n (pc := 28) dX1_leastStraw_28 rfl ?_
      refine q_icmp_lt (pc := 29) (by omega) (by omega) 35 dX1_leastStraw_29 rfl (fun c29 => ?_) (fun c29 => ?_)
      · refine q_iinc (pc := 35) [some _, some _, some _, some _, some _] dX1_leastStraw_35 rfl rfl rfl ?_
        refine q_goto (pc := 38) 3 dX1_leastStraw_38 rfl ?_
        rw [if_neg (by omega)] at hz
        exact ih _ (by omega) (by omega) hz
      refine q_iload (pc := 32) dX1_leastStraw_32 rfl ?_
      refine q_ireturn (pc := 34) dX1_leastStraw_34 rfl ?_
      rw [if_pos (by omega)] at hz; exact hz
  refine zenter [some _, some _, some _, some _, none] pn_X1 rfl (Nat.le_of_ble_eq_true rfl) ?_
  refine q_iconst (pc := 0) dX1_leastStraw_0 ?_
  refine q_istore (pc := 1) [some _, some _, some _, some _, some _] dX1_leastStraw_1 rfl (Nat.le_of_ble_eq_true rfl) rfl ?_
  exact L 10 0 (by omega) (by omega) k
set_option maxRecDepth 100000 in
set_option maxHeartbeats 4000000 in
theorem c_X1_lostByDoor {c r : Int} (hd : 4 ≤ d) (hF : w.1 fb = some (.inl (1, [zR g b]))) (hS : zSto g w b N u P) (hO : zOK N) (hc : 0 ≤ c ∧ c < N 0) (hr : 1 ≤ r ∧ r ≤ 9) (k : K (some (zI (zlbd N c r))) w) : zCall g d 0 0 mX1_lostByDoor [zR g fb, zI c, zI r] w K := by
  have hcb := zcost_b (N (8 + c))
  refine zenter [some _, some _, some _] pn_X1 rfl (Nat.le_of_ble_eq_true rfl) ?_
  refine q_aload_n (pc := 0) dX1_lostByDoor_0 rfl rfl ?_
  refine q_getfield (pc := 1) gf_X1_9 dX1_lostByDoor_1 (by first | assumption | exact hS.o | exact hS.s0 | exact hS.s1 | exact hS.s2 | exact hS.s3 | exact hS.s4 | exact hS.s5 | exact hS.s6) rfl ?_
  refine q_iload_n (pc := 4) dX1_lostByDoor_4 rfl ?_
  refine q_iload_n (pc := 5) dX1_lostByDoor_5 rfl ?_
  refine q_invokevirtual (pc := 6) (d' := d - 1) (mc' := 0) (ms' := 0) (As := [_, _]) (TX6, 9) cl_X1_45 dX1_lostByDoor_6 rfl rfl (by first | assumption | exact hS.o | exact hS.s0 | exact hS.s1 | exact hS.s2 | exact hS.s3 | exact hS.s4 | exact hS.s5 | exact hS.s6) rfl (by omega) rfl 0 0 (Nat.le_refl 0) (Nat.le_refl 0) ?_
  refine c_X6_stonesFrom (by omega) hS hO.1 hc (by omega) ?_
  refine q_aload_n (pc := 9) dX1_lostByDoor_9 rfl rfl ?_
  refine q_getfield (pc := 10) gf_X1_9 dX1_lostByDoor_10 (by first | assumption | exact hS.o | exact hS.s0 | exact hS.s1 | exact hS.s2 | exact hS.s3 | exact hS.s4 | exact hS.s5 | exact hS.s6) rfl ?_
  refine q_iload_n (pc := 13) dX1_lostByDoor_13 rfl ?_
  refine q_iload_n (pc := 14) dX1_lostByDoor_14 rfl ?_
  refine q_aload_n (pc := 15) dX1_lostByDoor_15 rfl rfl ?_
  refine q_getfield (pc := 16) gf_X1_9 dX1_lostByDoor_16 (by first | assumption | exact hS.o | exact hS.s0 | exact hS.s1 | exact hS.s2 | exact hS.s3 | exact hS.s4 | exact hS.s5 | exact hS.s6) rfl ?_
  refine q_iload_n (pc := 19) dX1_lostByDoor_19 rfl ?_
  refine q_invokevirtual (pc := 20) (d' := d - 1) (mc' := 0) (ms' := 0) (As := [_]) (TX6, 9) cl_X1_59 dX1_lostByDoor_20 rfl rfl (by first | assumption | exact hS.o | exact hS.s0 | exact hS.s1 | exact hS.s2 | exact hS.s3 | exact hS.s4 | exact hS.s5 | exact hS.s6) rfl (by omega) rfl 0 0 (Nat.le_refl 0) (Nat.le_refl 0) ?_
  refine c_X6_doorCost (by omega) hS hO hc ?_
  refine q_iadd (pc := 23) dX1_lostByDoor_23 ?_
  refine q_invokevirtual (pc := 24) (d' := d - 1) (mc' := 0) (ms' := 0) (As := [_, _]) (TX6, 9) cl_X1_45 dX1_lostByDoor_24 rfl rfl (by first | assumption | exact hS.o | exact hS.s0 | exact hS.s1 | exact hS.s2 | exact hS.s3 | exact hS.s4 | exact hS.s5 | exact hS.s6) rfl (by omega) rfl 0 0 (Nat.le_refl 0) (Nat.le_refl 0) ?_
  refine c_X6_stonesFrom (by omega) hS hO.1 hc (by omega) ?_
  refine q_isub (pc := 27) dX1_lostByDoor_27 ?_
  refine q_ireturn (pc := 28) dX1_lostByDoor_28 rfl ?_
  exact k
set_option maxRecDepth 100000 in
set_option maxHeartbeats 4000000 in
theorem c_X1_cheapestDoor {r : Int} (hd : 5 ≤ d) (hF : w.1 fb = some (.inl (1, [zR g b]))) (hS : zSto g w b N u P) (hO : zOK N) (hr : 1 ≤ r ∧ r ≤ 9) (k : K (some (zI (zbd N r (N 0).toNat))) w) : zCall g d 0 0 mX1_cheapestDoor [zR g fb, zI r] w K := by
  have hh := hO.1
  have L : ∀ (q m : Nat), m + q = (N 0).toNat → zRuns g d mX1_cheapestDoor 0 0 4 [some (zR g fb), some (zI r), some (zI (zbd N r m)), some (zI (m : Int))] [] w K := by
    intro q
    induction q with
    | zero =>
      intro m hm
      refine q_iload_n (pc := 4) dX1_cheapestDoor_4 rfl ?_
      refine q_aload_n (pc := 5) dX1_cheapestDoor_5 rfl rfl ?_
      refine q_getfield (pc := 6) gf_X1_9 dX1_cheapestDoor_6 (by first | assumption | exact hS.o | exact hS.s0 | exact hS.s1 | exact hS.s2 | exact hS.s3 | exact hS.s4 | exact hS.s5 | exact hS.s6) rfl ?_
      refine q_getfield (pc := 9) gf_X1_15 dX1_cheapestDoor_9 (by first | assumption | exact hS.o | exact hS.s0 | exact hS.s1 | exact hS.s2 | exact hS.s3 | exact hS.s4 | exact hS.s5 | exact hS.s6) rfl ?_
      refine q_getfield (pc := 12) gf_X1_62 dX1_cheapestDoor_12 (by first | assumption | exact hS.o | exact hS.s0 | exact hS.s1 | exact hS.s2 | exact hS.s3 | exact hS.s4 | exact hS.s5 | exact hS.s6) rfl ?_
      refine q_icmp_ge (pc := 15) (by omega) (by omega) 58 dX1_cheapestDoor_15 rfl (fun c15 => ?_) (fun c15 => ?_)
      · refine q_iload_n (pc := 58) dX1_cheapestDoor_58 rfl ?_
        refine q_ireturn (pc := 59) dX1_cheapestDoor_59 rfl ?_
        rw [show (N 0).toNat = m by omega] at k; exact k
      exfalso; omega
    | succ q ih =>
      intro m hm
      have hb := zbd_b (N := N) (r := r) m
      have hf := zfrom_b (r := r) hO (c := (m : Int)) (by omega)
      have hf2 := zfrom_b (r := r + zcost (N (8 + (m : Int)))) hO (c := (m : Int)) (by omega)
      have hih := ih (m + 1) (by omega)
      rw [zbd] at hih
      have J : ∀ x, x = (if 0 < zfrom N (m : Int) r ∧ (zbd N r m = -1 ∨ zlbd N (m : Int) r < zlbd N (zbd N r m) r) then (m : Int) else zbd N r m) → zRuns g d mX1_cheapestDoor 0 0 52 [some (zR g fb), some (zI r), some (zI x), some (zI (m : Int))] [] w K := by
        intro x hx
        rw [← hx] at hih
        refine q_iinc (pc := 52) [some _, some _, some _, some _] dX1_cheapestDoor_52 rfl rfl rfl ?_
        refine q_goto (pc := 55) 4 dX1_cheapestDoor_55 rfl ?_
        exact hih
      by_cases hb1 : zbd N r m = -1
      · skip
        refine q_iload_n (pc := 4) dX1_cheapestDoor_4 rfl ?_
        refine q_aload_n (pc := 5) dX1_cheapestDoor_5 rfl rfl ?_
        refine q_getfield (pc := 6) gf_X1_9 dX1_cheapestDoor_6 (by first | assumption | exact hS.o | exact hS.s0 | exact hS.s1 | exact hS.s2 | exact hS.s3 | exact hS.s4 | exact hS.s5 | exact hS.s6) rfl ?_
        refine q_getfield (pc := 9) gf_X1_15 dX1_cheapestDoor_9 (by first | assumption | exact hS.o | exact hS.s0 | exact hS.s1 | exact hS.s2 | exact hS.s3 | exact hS.s4 | exact hS.s5 | exact hS.s6) rfl ?_
        refine q_getfield (pc := 12) gf_X1_62 dX1_cheapestDoor_12 (by first | assumption | exact hS.o | exact hS.s0 | exact hS.s1 | exact hS.s2 | exact hS.s3 | exact hS.s4 | exact hS.s5 | exact hS.s6) rfl ?_
        refine q_icmp_ge (pc := 15) (by omega) (by omega) 58 dX1_cheapestDoor_15 rfl (fun c15 => ?_) (fun c15 => ?_)
        · exfalso; omega
        refine q_aload_n (pc := 18) dX1_cheapestDoor_18 rfl rfl ?_
        refine q_getfield (pc := 19) gf_X1_9 dX1_cheapestDoor_19 (by first | assumption | exact hS.o | exact hS.s0 | exact hS.s1 | exact hS.s2 | exact hS.s3 | exact hS.s4 | exact hS.s5 | exact hS.s6) rfl ?_
        refine q_iload_n (pc := 22) dX1_cheapestDoor_22 rfl ?_
        refine q_iload_n (pc := 23) dX1_cheapestDoor_23 rfl ?_
        refine q_invokevirtual (pc := 24) (d' := d - 1) (mc' := 0) (ms' := 0) (As := [_, _]) (TX6, 9) cl_X1_45 dX1_cheapestDoor_24 rfl rfl (by first | assumption | exact hS.o | exact hS.s0 | exact hS.s1 | exact hS.s2 | exact hS.s3 | exact hS.s4 | exact hS.s5 | exact hS.s6) rfl (by omega) rfl 0 0 (Nat.le_refl 0) (Nat.le_refl 0) ?_
        refine c_X6_stonesFrom (by omega) hS hO.1 (by omega) (by omega) ?_
        refine q_if_le (pc := 27) (by omega) 52 dX1_cheapestDoor_27 rfl (fun c27 => ?_) (fun c27 => ?_)
        · first | exact J _ (by rw [if_neg (by omega)]) | exact J _ (by rw [if_pos (by omega)])
        refine q_iload_n (pc := 30) dX1_cheapestDoor_30 rfl ?_
        refine q_iconst (pc := 31) dX1_cheapestDoor_31 ?_
        refine q_icmp_eq (pc := 32) (by omega) (by omega) 50 dX1_cheapestDoor_32 rfl (fun c32 => ?_) (fun c32 => ?_)
        · refine q_iload_n (pc := 50) dX1_cheapestDoor_50 rfl ?_
          refine q_istore_n (pc := 51) [some _, some _, some _, some _] dX1_cheapestDoor_51 rfl (Nat.le_of_ble_eq_true rfl) rfl ?_
          first | exact J _ (by rw [if_neg (by omega)]) | exact J _ (by rw [if_pos (by omega)])
        exfalso; omega
      · have hg := zfrom_b (r := r) hO (c := zbd N r m) (by omega)
        have hg2 := zfrom_b (r := r + zcost (N (8 + zbd N r m))) hO (c := zbd N r m) (by omega)
        have hl1 : zlbd N (m : Int) r = zfrom N (m : Int) r - zfrom N (m : Int) (r + zcost (N (8 + (m : Int)))) := rfl
        have hl2 : zlbd N (zbd N r m) r = zfrom N (zbd N r m) r - zfrom N (zbd N r m) (r + zcost (N (8 + zbd N r m))) := rfl
        refine q_iload_n (pc := 4) dX1_cheapestDoor_4 rfl ?_
        refine q_aload_n (pc := 5) dX1_cheapestDoor_5 rfl rfl ?_
        refine q_getfield (pc := 6) gf_X1_9 dX1_cheapestDoor_6 (by first | assumption | exact hS.o | exact hS.s0 | exact hS.s1 | exact hS.s2 | exact hS.s3 | exact hS.s4 | exact hS.s5 | exact hS.s6) rfl ?_
        refine q_getfield (pc := 9) gf_X1_15 dX1_cheapestDoor_9 (by first | assumption | exact hS.o | exact hS.s0 | exact hS.s1 | exact hS.s2 | exact hS.s3 | exact hS.s4 | exact hS.s5 | exact hS.s6) rfl ?_
        refine q_getfield (pc := 12) gf_X1_62 dX1_cheapestDoor_12 (by first | assumption | exact hS.o | exact hS.s0 | exact hS.s1 | exact hS.s2 | exact hS.s3 | exact hS.s4 | exact hS.s5 | exact hS.s6) rfl ?_
        refine q_icmp_ge (pc := 15) (by omega) (by omega) 58 dX1_cheapestDoor_15 rfl (fun c15 => ?_) (fun c15 => ?_)
        · exfalso; omega
        refine q_aload_n (pc := 18) dX1_cheapestDoor_18 rfl rfl ?_
        refine q_getfield (pc := 19) gf_X1_9 dX1_cheapestDoor_19 (by first | assumption | exact hS.o | exact hS.s0 | exact hS.s1 | exact hS.s2 | exact hS.s3 | exact hS.s4 | exact hS.s5 | exact hS.s6) rfl ?_
        refine q_iload_n (pc := 22) dX1_cheapestDoor_22 rfl ?_
        refine q_iload_n (pc := 23) dX1_cheapestDoor_23 rfl ?_
        refine q_invokevirtual (pc := 24) (d' := d - 1) (mc' := 0) (ms' := 0) (As := [_, _]) (TX6, 9) cl_X1_45 dX1_cheapestDoor_24 rfl rfl (by first | assumption | exact hS.o | exact hS.s0 | exact hS.s1 | exact hS.s2 | exact hS.s3 | exact hS.s4 | exact hS.s5 | exact hS.s6) rfl (by omega) rfl 0 0 (Nat.le_refl 0) (Nat.le_refl 0) ?_
        refine c_X6_stonesFrom (by omega) hS hO.1 (by omega) (by omega) ?_
        refine q_if_le (pc := 27) (by omega) 52 dX1_cheapestDoor_27 rfl (fun c27 => ?_) (fun c27 => ?_)
        · exact J _ (by rw [if_neg (by omega)])
        refine q_iload_n (pc := 30) dX1_cheapestDoor_30 rfl ?_
        refine q_iconst (pc := 31) dX1_cheapestDoor_31 ?_
        refine q_icmp_eq (pc := 32) (by omega) (by omega) 50 dX1_cheapestDoor_32 rfl (fun c32 => ?_) (fun c32 => ?_)
        · first | (exfalso; omega; done) | (refine q_iload_n (pc := 50) dX1_cheapestDoor_50 rfl ?_; refine q_istore_n (pc := 51) [some _, some _, some _, some _] dX1_cheapestDoor_51 rfl (Nat.le_of_ble_eq_true rfl) rfl ?_; exact J _ (by rw [if_pos (by omega)]))
        refine q_aload_n (pc := 35) dX1_cheapestDoor_35 rfl rfl ?_
        refine q_iload_n (pc := 36) dX1_cheapestDoor_36 rfl ?_
        refine q_iload_n (pc := 37) dX1_cheapestDoor_37 rfl ?_
        refine q_invokevirtual (pc := 38) (d' := d - 1) (mc' := 0) (ms' := 0) (As := [_, _]) (TX1, 1) cl_X1_65 dX1_cheapestDoor_38 rfl rfl (by first | assumption | exact hS.o | exact hS.s0 | exact hS.s1 | exact hS.s2 | exact hS.s3 | exact hS.s4 | exact hS.s5 | exact hS.s6) rfl (by omega) rfl 0 0 (Nat.le_refl 0) (Nat.le_refl 0) ?_
        refine c_X1_lostByDoor (by omega) hF hS hO (by omega) hr ?_
        refine q_aload_n (pc := 41) dX1_cheapestDoor_41 rfl rfl ?_
        refine q_iload_n (pc := 42) dX1_cheapestDoor_42 rfl ?_
        refine q_iload_n (pc := 43) dX1_cheapestDoor_43 rfl ?_
        refine q_invokevirtual (pc := 44) (d' := d - 1) (mc' := 0) (ms' := 0) (As := [_, _]) (TX1, 1) cl_X1_65 dX1_cheapestDoor_44 rfl rfl (by first | assumption | exact hS.o | exact hS.s0 | exact hS.s1 | exact hS.s2 | exact hS.s3 | exact hS.s4 | exact hS.s5 | exact hS.s6) rfl (by omega) rfl 0 0 (Nat.le_refl 0) (Nat.le_refl 0) ?_
        refine c_X1_lostByDoor (by omega) hF hS hO (by omega) hr ?_
        refine q_icmp_ge (pc := 47) (by omega) (by omega) 52 dX1_cheapestDoor_47 rfl (fun c47 => ?_) (fun c47 => ?_)
        · exact J _ (by rw [if_neg (by omega)])
        first | (exfalso; omega; done) | (refine q_iload_n (pc := 50) dX1_cheapestDoor_50 rfl ?_; refine q_istore_n (pc := 51) [some _, some _, some _, some _] dX1_cheapestDoor_51 rfl (Nat.le_of_ble_eq_true rfl) rfl ?_; exact J _ (by rw [if_pos (by omega)]))
  refine zenter [some _, some _, none, none] pn_X1 rfl (Nat.le_of_ble_eq_true rfl) ?_
  refine q_iconst (pc := 0) dX1_cheapestDoor_0 ?_
  refine q_istore_n (pc := 1) [some _, some _, some _, none] dX1_cheapestDoor_1 rfl (Nat.le_of_ble_eq_true rfl) rfl ?_
  refine q_iconst (pc := 2) dX1_cheapestDoor_2 ?_
  refine q_istore_n (pc := 3) [some _, some _, some _, some _] dX1_cheapestDoor_3 rfl (Nat.le_of_ble_eq_true rfl) rfl ?_
  exact L (N 0).toNat 0 (by omega)
set_option maxRecDepth 100000 in
set_option maxHeartbeats 4000000 in
theorem c_X1_lostBySeed {c seed n : Int} (hd : 3 ≤ d) (hF : w.1 fb = some (.inl (1, [zR g b]))) (hS : zSto g w b N u P) (hO : zOK N) (hc : 0 ≤ c ∧ c < N 0) (hs : 0 ≤ seed ∧ seed ≤ 999999) (hn : 0 ≤ n ∧ n ≤ 60) (k : K (some (zI (zlsd N c seed n.toNat))) w) : zCall g d 0 0 mX1_lostBySeed [zR g fb, zI c, zI seed, zI n] w K := by
  have hh := hO.1
  have L : ∀ (q i : Nat), i + q = n.toNat → zRuns g d mX1_lostBySeed 0 0 10 [some (zR g fb), some (zI c), some (zI seed), some (zI n), some (zJ (zlcg seed i)), none, some (zI (zlsd N c seed i)), some (zI (i : Int))] [] w K := by
    intro q
    induction q with
    | zero =>
      intro i hi
      refine q_iload (pc := 10) dX1_lostBySeed_10 rfl ?_
      refine q_iload_n (pc := 12) dX1_lostBySeed_12 rfl ?_
      refine q_icmp_ge (pc := 13) (by omega) (by omega) 90 dX1_lostBySeed_13 rfl (fun c13 => ?_) (fun c13 => ?_)
      · refine q_iload (pc := 90) dX1_lostBySeed_90 rfl ?_
        refine q_ireturn (pc := 92) dX1_lostBySeed_92 rfl ?_
        rw [show n.toNat = i by omega] at k; exact k
      exfalso; omega
    | succ q ih =>
      intro i hi
      have hx := zlcg_b hs i
      have hx2 := zlcg_b hs (i + 1)
      have hih := ih (i + 1) (by omega)
      rw [zlsd] at hih
      have ex : (zlcg seed i * 1103515245 + 12345) % 2147483648 = zlcg seed (i + 1) := rfl
      have J : ∀ x, x = (if zlcg seed (i + 1) / 65536 % 5 = c then zcost (N (8 + c)) else 0) → zRuns g d mX1_lostBySeed 0 0 61 [some (zR g fb), some (zI c), some (zI seed), some (zI n), some (zJ (zlcg seed (i + 1))), none, some (zI (zlsd N c seed i + x)), some (zI (i : Int))] [] w K := by
        intro x hx
        rw [← hx] at hih
        refine q_iload (pc := 61) dX1_lostBySeed_61 rfl ?_
        refine q_aload_n (pc := 63) dX1_lostBySeed_63 rfl rfl ?_
        refine q_getfield (pc := 64) gf_X1_9 dX1_lostBySeed_64 (by first | assumption | exact hS.o | exact hS.s0 | exact hS.s1 | exact hS.s2 | exact hS.s3 | exact hS.s4 | exact hS.s5 | exact hS.s6) rfl ?_
        refine q_iload_n (pc := 67) dX1_lostBySeed_67 rfl ?_
        refine q_aload_n (pc := 68) dX1_lostBySeed_68 rfl rfl ?_
        refine q_getfield (pc := 69) gf_X1_9 dX1_lostBySeed_69 (by first | assumption | exact hS.o | exact hS.s0 | exact hS.s1 | exact hS.s2 | exact hS.s3 | exact hS.s4 | exact hS.s5 | exact hS.s6) rfl ?_
        refine q_getfield (pc := 72) gf_X1_33 dX1_lostBySeed_72 (by first | assumption | exact hS.o | exact hS.s0 | exact hS.s1 | exact hS.s2 | exact hS.s3 | exact hS.s4 | exact hS.s5 | exact hS.s6) rfl ?_
        refine q_iload (pc := 75) dX1_lostBySeed_75 rfl ?_
        refine q_iadd (pc := 77) dX1_lostBySeed_77 ?_
        refine q_invokevirtual (pc := 78) (d' := d - 1) (mc' := 0) (ms' := 0) (As := [_, _]) (TX6, 9) cl_X1_56 dX1_lostBySeed_78 rfl rfl (by first | assumption | exact hS.o | exact hS.s0 | exact hS.s1 | exact hS.s2 | exact hS.s3 | exact hS.s4 | exact hS.s5 | exact hS.s6) rfl (by omega) rfl 0 0 (Nat.le_refl 0) (Nat.le_refl 0) ?_
        refine c_X6_meltIn (by omega) hS hO hc (by omega) ?_
        refine q_iadd (pc := 81) dX1_lostBySeed_81 ?_
        refine q_istore (pc := 82) [some _, some _, some _, some _, some _, none, some _, some _] dX1_lostBySeed_82 rfl (Nat.le_of_ble_eq_true rfl) rfl ?_
        refine q_iinc (pc := 84) [some _, some _, some _, some _, some _, none, some _, some _] dX1_lostBySeed_84 rfl rfl rfl ?_
        refine q_goto (pc := 87) 10 dX1_lostBySeed_87 rfl ?_
        exact hih
      refine q_iload (pc := 10) dX1_lostBySeed_10 rfl ?_
      refine q_iload_n (pc := 12) dX1_lostBySeed_12 rfl ?_
      refine q_icmp_ge (pc := 13) (by omega) (by omega) 90 dX1_lostBySeed_13 rfl (fun c13 => ?_) (fun c13 => ?_)
      · exfalso; omega
      refine q_lload (pc := 16) dX1_lostBySeed_16 rfl ?_
      refine q_ldc2_w (pc := 18) tw_4_185 dX1_lostBySeed_18 ?_
      refine q_lmul (pc := 21) dX1_lostBySeed_21 ?_
      refine q_ldc2_w (pc := 22) tw_4_186 dX1_lostBySeed_22 ?_
      refine q_ladd (pc := 25) dX1_lostBySeed_25 ?_
      refine q_ldc2_w (pc := 26) tw_4_187 dX1_lostBySeed_26 ?_
      refine q_lrem (pc := 29) dX1_lostBySeed_29 (by omega) (by omega) (by omega) ?_
      rw [ex]
      refine q_lstore (pc := 30) [some _, some _, some _, some _, some _, none, some _, some _] dX1_lostBySeed_30 rfl (Nat.le_of_ble_eq_true rfl) rfl ?_
      refine q_lload (pc := 32) dX1_lostBySeed_32 rfl ?_
      refine q_ldc2_w (pc := 34) tw_4_188 dX1_lostBySeed_34 ?_
      refine q_ldiv (pc := 37) dX1_lostBySeed_37 (by omega) (by omega) (by omega) ?_
      refine q_ldc2_w (pc := 38) tw_4_189 dX1_lostBySeed_38 ?_
      refine q_lrem (pc := 41) dX1_lostBySeed_41 (by omega) (by omega) (by omega) ?_
      refine q_iload_n (pc := 42) dX1_lostBySeed_42 rfl ?_
      refine q_i2l (pc := 43) dX1_lostBySeed_43 (by omega) ?_
      refine q_lcmp (pc := 44) dX1_lostBySeed_44 (by omega) (by omega) ?_
      refine q_ifc_ne (pc := 45) 61 dX1_lostBySeed_45 rfl (fun c45 => ?_) (fun c45 => ?_)
      · first | exact J _ (by rw [if_pos (by omega)]) | (have := J 0 (by rw [if_neg (by omega)]); rw [Int.add_zero] at this; exact this)
      refine q_iload (pc := 48) dX1_lostBySeed_48 rfl ?_
      refine q_aload_n (pc := 50) dX1_lostBySeed_50 rfl rfl ?_
      refine q_getfield (pc := 51) gf_X1_9 dX1_lostBySeed_51 (by first | assumption | exact hS.o | exact hS.s0 | exact hS.s1 | exact hS.s2 | exact hS.s3 | exact hS.s4 | exact hS.s5 | exact hS.s6) rfl ?_
      refine q_iload_n (pc := 54) dX1_lostBySeed_54 rfl ?_
      refine q_invokevirtual (pc := 55) (d' := d - 1) (mc' := 0) (ms' := 0) (As := [_]) (TX6, 9) cl_X1_59 dX1_lostBySeed_55 rfl rfl (by first | assumption | exact hS.o | exact hS.s0 | exact hS.s1 | exact hS.s2 | exact hS.s3 | exact hS.s4 | exact hS.s5 | exact hS.s6) rfl (by omega) rfl 0 0 (Nat.le_refl 0) (Nat.le_refl 0) ?_
      refine c_X6_doorCost (by omega) hS hO hc ?_
      refine q_iadd (pc := 58) dX1_lostBySeed_58 ?_
      refine q_istore (pc := 59) [some _, some _, some _, some _, some _, none, some _, some _] dX1_lostBySeed_59 rfl (Nat.le_of_ble_eq_true rfl) rfl ?_
      first | exact J _ (by rw [if_pos (by omega)]) | (have := J 0 (by rw [if_neg (by omega)]); rw [Int.add_zero] at this; exact this)
  refine zenter [some _, some _, some _, some _, none, none, none, none] pn_X1 rfl (Nat.le_of_ble_eq_true rfl) ?_
  refine q_iload_n (pc := 0) dX1_lostBySeed_0 rfl ?_
  refine q_i2l (pc := 1) dX1_lostBySeed_1 (by omega) ?_
  refine q_lstore (pc := 2) [some _, some _, some _, some _, some _, none, none, none] dX1_lostBySeed_2 rfl (Nat.le_of_ble_eq_true rfl) rfl ?_
  refine q_iconst (pc := 4) dX1_lostBySeed_4 ?_
  refine q_istore (pc := 5) [some _, some _, some _, some _, some _, none, some _, none] dX1_lostBySeed_5 rfl (Nat.le_of_ble_eq_true rfl) rfl ?_
  refine q_iconst (pc := 7) dX1_lostBySeed_7 ?_
  refine q_istore (pc := 8) [some _, some _, some _, some _, some _, none, some _, some _] dX1_lostBySeed_8 rfl (Nat.le_of_ble_eq_true rfl) rfl ?_
  exact L n.toNat 0 (by omega)
set_option maxRecDepth 100000 in
set_option maxHeartbeats 4000000 in
theorem c_X1_leftBySeed {seed n : Int} (hd : 4 ≤ d) (hF : w.1 fb = some (.inl (1, [zR g b]))) (hS : zSto g w b N u P) (hO : zOK N) (hs : 0 ≤ seed ∧ seed ≤ 999999) (hn : 0 ≤ n ∧ n ≤ 60) (k : K (some (zI (zsummers N seed n))) w) : zCall g d 0 0 mX1_leftBySeed [zR g fb, zI seed, zI n] w K := by
  have hh := hO.1
  have hk := k
  unfold zsummers at hk
  have L : ∀ (q i : Nat), i + q = (N 0).toNat → zRuns g d mX1_leftBySeed 0 0 5 [some (zR g fb), some (zI seed), some (zI n), some (zI (zsg (fun c => zfrom N c (1 + zlsd N c seed n.toNat)) i 0)), some (zI (i : Int))] [] w K := by
    intro q
    induction q with
    | zero =>
      intro i hi
      refine q_iload (pc := 5) dX1_leftBySeed_5 rfl ?_
      refine q_aload_n (pc := 7) dX1_leftBySeed_7 rfl rfl ?_
      refine q_getfield (pc := 8) gf_X1_9 dX1_leftBySeed_8 (by first | assumption | exact hS.o | exact hS.s0 | exact hS.s1 | exact hS.s2 | exact hS.s3 | exact hS.s4 | exact hS.s5 | exact hS.s6) rfl ?_
      refine q_getfield (pc := 11) gf_X1_15 dX1_leftBySeed_11 (by first | assumption | exact hS.o | exact hS.s0 | exact hS.s1 | exact hS.s2 | exact hS.s3 | exact hS.s4 | exact hS.s5 | exact hS.s6) rfl ?_
      refine q_getfield (pc := 14) gf_X1_62 dX1_leftBySeed_14 (by first | assumption | exact hS.o | exact hS.s0 | exact hS.s1 | exact hS.s2 | exact hS.s3 | exact hS.s4 | exact hS.s5 | exact hS.s6) rfl ?_
      refine q_icmp_ge (pc := 17) (by omega) (by omega) 48 dX1_leftBySeed_17 rfl (fun c17 => ?_) (fun c17 => ?_)
      · refine q_iload_n (pc := 48) dX1_leftBySeed_48 rfl ?_
        refine q_ireturn (pc := 49) dX1_leftBySeed_49 rfl ?_
        rw [show (N 0).toNat = i by omega] at hk; exact hk
      exfalso; omega
    | succ q ih =>
      intro i hi
      have hb := zlsd_b (N := N) (c := (i : Int)) (seed := seed) n.toNat
      refine q_iload (pc := 5) dX1_leftBySeed_5 rfl ?_
      refine q_aload_n (pc := 7) dX1_leftBySeed_7 rfl rfl ?_
      refine q_getfield (pc := 8) gf_X1_9 dX1_leftBySeed_8 (by first | assumption | exact hS.o | exact hS.s0 | exact hS.s1 | exact hS.s2 | exact hS.s3 | exact hS.s4 | exact hS.s5 | exact hS.s6) rfl ?_
      refine q_getfield (pc := 11) gf_X1_15 dX1_leftBySeed_11 (by first | assumption | exact hS.o | exact hS.s0 | exact hS.s1 | exact hS.s2 | exact hS.s3 | exact hS.s4 | exact hS.s5 | exact hS.s6) rfl ?_
      refine q_getfield (pc := 14) gf_X1_62 dX1_leftBySeed_14 (by first | assumption | exact hS.o | exact hS.s0 | exact hS.s1 | exact hS.s2 | exact hS.s3 | exact hS.s4 | exact hS.s5 | exact hS.s6) rfl ?_
      refine q_icmp_ge (pc := 17) (by omega) (by omega) 48 dX1_leftBySeed_17 rfl (fun c17 => ?_) (fun c17 => ?_)
      · exfalso; omega
      refine q_iload_n (pc := 20) dX1_leftBySeed_20 rfl ?_
      refine q_aload_n (pc := 21) dX1_leftBySeed_21 rfl rfl ?_
      refine q_getfield (pc := 22) gf_X1_9 dX1_leftBySeed_22 (by first | assumption | exact hS.o | exact hS.s0 | exact hS.s1 | exact hS.s2 | exact hS.s3 | exact hS.s4 | exact hS.s5 | exact hS.s6) rfl ?_
      refine q_iload (pc := 25) dX1_leftBySeed_25 rfl ?_
      refine q_iconst (pc := 27) dX1_leftBySeed_27 ?_
      refine q_aload_n (pc := 28) dX1_leftBySeed_28 rfl rfl ?_
      refine q_iload (pc := 29) dX1_leftBySeed_29 rfl ?_
      refine q_iload_n (pc := 31) dX1_leftBySeed_31 rfl ?_
      refine q_iload_n (pc := 32) dX1_leftBySeed_32 rfl ?_
      refine q_invokevirtual (pc := 33) (d' := d - 1) (mc' := 0) (ms' := 0) (As := [_, _, _]) (TX1, 1) cl_X1_68 dX1_leftBySeed_33 rfl rfl (by first | assumption | exact hS.o | exact hS.s0 | exact hS.s1 | exact hS.s2 | exact hS.s3 | exact hS.s4 | exact hS.s5 | exact hS.s6) rfl (by omega) rfl 0 0 (Nat.le_refl 0) (Nat.le_refl 0) ?_
      refine c_X1_lostBySeed (by omega) hF hS hO (by omega) hs hn ?_
      refine q_iadd (pc := 36) dX1_leftBySeed_36 ?_
      refine q_invokevirtual (pc := 37) (d' := d - 1) (mc' := 0) (ms' := 0) (As := [_, _]) (TX6, 9) cl_X1_45 dX1_leftBySeed_37 rfl rfl (by first | assumption | exact hS.o | exact hS.s0 | exact hS.s1 | exact hS.s2 | exact hS.s3 | exact hS.s4 | exact hS.s5 | exact hS.s6) rfl (by omega) rfl 0 0 (Nat.le_refl 0) (Nat.le_refl 0) ?_
      refine c_X6_stonesFrom (by omega) hS hO.1 (by omega) (by omega) ?_
      refine q_iadd (pc := 40) dX1_leftBySeed_40 ?_
      rw [zsg_s (fun c => zfrom N c (1 + zlsd N c seed n.toNat)) i 0 (i : Int) (by omega)]
      refine q_istore_n (pc := 41) [some _, some _, some _, some _, some _] dX1_leftBySeed_41 rfl (Nat.le_of_ble_eq_true rfl) rfl ?_
      refine q_iinc (pc := 42) [some _, some _, some _, some _, some _] dX1_leftBySeed_42 rfl rfl rfl ?_
      refine q_goto (pc := 45) 5 dX1_leftBySeed_45 rfl ?_
      exact ih (i + 1) (by omega)
  refine zenter [some _, some _, some _, none, none] pn_X1 rfl (Nat.le_of_ble_eq_true rfl) ?_
  refine q_iconst (pc := 0) dX1_leftBySeed_0 ?_
  refine q_istore_n (pc := 1) [some _, some _, some _, some _, none] dX1_leftBySeed_1 rfl (Nat.le_of_ble_eq_true rfl) rfl ?_
  refine q_iconst (pc := 2) dX1_leftBySeed_2 ?_
  refine q_istore (pc := 3) [some _, some _, some _, some _, some _] dX1_leftBySeed_3 rfl (Nat.le_of_ble_eq_true rfl) rfl ?_
  exact L (N 0).toNat 0 (by omega)
end X1
