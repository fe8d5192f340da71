/-! the Sleuth: which doors and kinds fit -/
theorem zand_R {a b : Int} : zR32 (zand a b) := by have h1 := Int32.le_toInt (Int32.ofInt a &&& Int32.ofInt b); have h2 := Int32.toInt_lt (Int32.ofInt a &&& Int32.ofInt b); unfold zand zR32; omega
theorem zor_R {a b : Int} : zR32 (zor a b) := by have h1 := Int32.le_toInt (Int32.ofInt a ||| Int32.ofInt b); have h2 := Int32.toInt_lt (Int32.ofInt a ||| Int32.ofInt b); unfold zor zR32; omega
theorem zshl_R {a b : Int} : zR32 (zshl a b) := by have h1 := Int32.le_toInt (Int32.ofInt a <<< (Int32.ofInt b &&& 31)); have h2 := Int32.toInt_lt (Int32.ofInt a <<< (Int32.ofInt b &&& 31)); unfold zshl zR32; omega
/-- a set of the numbers below m that p says, as bits -/
def zbs (p : Int → Bool) : Nat → Int
  | 0 => 0
  | m + 1 => if p (m : Int) = true then zor (zbs p m) (zshl 1 (m : Int)) else zbs p m
theorem zbs_R {p : Int → Bool} : ∀ m : Nat, zR32 (zbs p m)
  | 0 => by rw [zbs]; omega
  | m + 1 => by rw [zbs]; split; · exact zor_R
                · exact zbs_R m
abbrev zhas (set kd : Int) : Prop := zand (zshr set kd) 1 = 1
def zmx (f : Int → Int) : Nat → Int
  | 0 => 0
  | m + 1 => max (zmx f m) (f (m : Int))
def zmostg (sg : Int → Int) : Int := zmx (fun a => zsg (fun b => zb (sg a ≠ -1 ∧ sg a = sg b)) 6 0) 6
def zmost (set : Int) (sh : Int → Int) : Int := zmx (fun a => zsg (fun b => zb (zhas set a ∧ zhas set b ∧ sh a = sh b)) 6 0) 6
theorem zsg_congr {f f2 : Int → Int} : ∀ {m : Nat} {a : Int}, (∀ i, a ≤ i → i < a + (m : Int) → f i = f2 i) → zsg f m a = zsg f2 m a
  | 0, _, _ => rfl
  | m + 1, a, h => by rw [zsg, zsg, zsg_congr (fun i h1 h2 => h i h1 (by omega)), h _ (by omega) (by omega)]
theorem zmx_congr {f f2 : Int → Int} : ∀ {m : Nat}, (∀ i, 0 ≤ i → i < (m : Int) → f i = f2 i) → zmx f m = zmx f2 m
  | 0, _ => rfl
  | m + 1, h => by rw [zmx, zmx, zmx_congr (fun i h1 h2 => h i h1 (by omega)), h _ (by omega) (by omega)]
theorem zmx_b {f : Int → Int} {B : Int} (hB : 0 ≤ B) : ∀ {m : Nat}, (∀ i, 0 ≤ i → i < (m : Int) → f i ≤ B) → 0 ≤ zmx f m ∧ zmx f m ≤ B
  | 0, _ => by rw [zmx]; omega
  | m + 1, h => by
    have h1 := zmx_b hB (m := m) (fun i h1 h2 => h i h1 (by omega))
    have h2 := h (m : Int) (by omega) (by omega)
    rw [zmx]; omega
theorem zb_congr {P Q : Prop} [Decidable P] [Decidable Q] (h : P ↔ Q) : zb P = zb Q := by
  unfold zb
  by_cases hp : P
  · rw [if_pos hp, if_pos (h.mp hp)]
  · rw [if_neg hp, if_neg (fun q => hp (h.mpr q))]
theorem zb_b {P : Prop} [Decidable P] : 0 ≤ zb P ∧ zb P ≤ 1 := by unfold zb; split <;> omega
theorem zmost_b (set : Int) (sh : Int → Int) : 0 ≤ zmost set sh ∧ zmost set sh ≤ 6 := zmx_b (by omega) (fun a _ _ => by
  have := zsg_b (f := fun b => zb (zhas set a ∧ zhas set b ∧ sh a = sh b)) (B := 1) (m := 6) (a := 0) (fun _ _ _ => zb_b)
  omega)
theorem zmost_sg {set : Int} {sh enc sg : Int → Int} (he : ∀ a b, 0 ≤ a → a < 6 → 0 ≤ b → b < 6 → (enc a = enc b ↔ sh a = sh b)) (h0 : ∀ a, 0 ≤ a → a < 6 → 0 ≤ enc a) (hs : ∀ a, 0 ≤ a → a < 6 → sg a = if zhas set a then enc a else -1) : zmostg sg = zmost set sh := by
  refine zmx_congr (fun a a1 a2 => zsg_congr (fun b b1 b2 => zb_congr ?_))
  have h1 := hs a a1 (by omega)
  have h2 := hs b (by omega) (by omega)
  have h3 := h0 a a1 (by omega)
  have h4 := h0 b (by omega) (by omega)
  have h5 := he a b a1 (by omega) (by omega) (by omega)
  rw [h1, h2]
  by_cases p : zhas set a <;> by_cases q : zhas set b
  · rw [if_pos p, if_pos q]; exact ⟨fun z => ⟨p, q, h5.mp z.2⟩, fun z => ⟨by omega, h5.mpr z.2.2⟩⟩
  · rw [if_pos p, if_neg q]; exact ⟨fun z => by omega, fun z => absurd z.2.1 q⟩
  · rw [if_neg p]; exact ⟨fun z => absurd rfl z.1, fun z => absurd z.1 p⟩
  · rw [if_neg p]; exact ⟨fun z => absurd rfl z.1, fun z => absurd z.1 p⟩
/-- the first of the least -/
def zfl (f : Int → Int) (z : Int) : Nat → Int × Int
  | 0 => (-1, 7)
  | m + 1 => if f (z + (m : Int)) < (zfl f z m).2 then (z + (m : Int), f (z + (m : Int))) else zfl f z m
def zcool (N : Int → Int) (i : Int) : Int := zbs (fun dd => decide (max 0 (N (92 + 4 * i + 2) - zmelt (N (8 + N (92 + 4 * i + 0))) (N (92 + 4 * i + 1)) (N (13 + N (92 + 4 * i + 0))) - dd * zcost (N (8 + N (92 + 4 * i + 0)))) = N (92 + 4 * i + 3))) 10
def zeven (N : Int → Int) (c : Int) : Nat → Int
  | 0 => 1023
  | m + 1 => if N (92 + 4 * (m : Int) + 0) = c then zand (zeven N c m) (zcool N (m : Int)) else zeven N c m
def zfn (N : Int → Int) (c kd : Int) : Nat → Bool
  | 0 => true
  | m + 1 => zfn N c kd m && (decide (N (108 + 5 * (m : Int) + 0) ≠ c) || decide (zmelt kd (N (108 + 5 * (m : Int) + 2)) (N (108 + 5 * (m : Int) + 1)) = N (108 + 5 * (m : Int) + 3) ∧ zcost kd = N (108 + 5 * (m : Int) + 4)))
theorem zfn_f {N : Int → Int} {c kd : Int} {m : Nat} (h : zfn N c kd m = false) : ∀ q : Nat, zfn N c kd (m + q) = false
  | 0 => h
  | q + 1 => by show (zfn N c kd (m + q) && _) = false; rw [zfn_f h q]; rfl
def zis (N : Int → Int) (c : Int) : Int := zbs (fun kd => zfn N c kd (N 6).toNat) 6
def zwatch (N : Int → Int) (c : Int) : Int := if zis N c = 0 then -1 else (zfl (fun wk => zmost (zis N c) (fun kd => 10 * zmelt kd wk (N (13 + c)) + zcost kd)) 0 12).1
def zft (N : Int → Int) (s kd : Int) : Nat → Bool
  | 0 => true
  | m + 1 => zft N s kd m && (decide (N (138 + 5 * (m : Int) + 0) ≠ s) || decide (zfar kd (N (74 + s)) (N (138 + 5 * (m : Int) + 1)) (N (138 + 5 * (m : Int) + 2)) = N (138 + 5 * (m : Int) + 3) ∧ zhits kd (N (138 + 5 * (m : Int) + 1)) = N (138 + 5 * (m : Int) + 4)))
theorem zft_f {N : Int → Int} {c kd : Int} {m : Nat} (h : zft N c kd m = false) : ∀ q : Nat, zft N c kd (m + q) = false
  | 0 => h
  | q + 1 => by show (zft N c kd (m + q) && _) = false; rw [zft_f h q]; rfl
def zwho (N : Int → Int) (s : Int) : Int := zbs (fun kd => zft N s kd (N 7).toNat) 6
def zask (N : Int → Int) (s : Int) : Int := if zwho N s = 0 then -1 else (zfl (fun q => zmost (zwho N s) (fun kd => 100 * zfar kd (N (74 + s)) (q / 10) (q % 10) + zhits kd (q / 10))) 10 90).1
theorem zrg_b {N : Int → Int} {i : Int} (h : zOK N) (hi : 0 ≤ i ∧ i < N 5) : (0 ≤ N (92 + 4 * i + 0) ∧ N (92 + 4 * i + 0) < N 0) ∧ (0 ≤ N (92 + 4 * i + 1) ∧ N (92 + 4 * i + 1) ≤ 99) ∧ (1 ≤ N (92 + 4 * i + 2) ∧ N (92 + 4 * i + 2) ≤ 9) ∧ (0 ≤ N (92 + 4 * i + 3) ∧ N (92 + 4 * i + 3) ≤ 9) := by
  have q := h.2.2.2.2.2.1 i hi.1 hi.2
  rw [show 92 + 4 * i + 0 = 92 + 4 * i by omega, show 92 + 4 * i + 1 = 93 + 4 * i by omega, show 92 + 4 * i + 2 = 94 + 4 * i by omega, show 92 + 4 * i + 3 = 95 + 4 * i by omega]; exact q
theorem znt_b {N : Int → Int} {i : Int} (h : zOK N) (hi : 0 ≤ i ∧ i < N 6) : (0 ≤ N (108 + 5 * i + 0) ∧ N (108 + 5 * i + 0) < N 0) ∧ (0 ≤ N (108 + 5 * i + 1) ∧ N (108 + 5 * i + 1) ≤ 9) ∧ (0 ≤ N (108 + 5 * i + 2) ∧ N (108 + 5 * i + 2) ≤ 99) ∧ (0 ≤ N (108 + 5 * i + 3) ∧ N (108 + 5 * i + 3) ≤ 4) ∧ (0 ≤ N (108 + 5 * i + 4) ∧ N (108 + 5 * i + 4) ≤ 4) := by
  have q := h.2.2.2.2.2.2.1 i hi.1 hi.2
  rw [show 108 + 5 * i + 0 = 108 + 5 * i by omega, show 108 + 5 * i + 1 = 109 + 5 * i by omega, show 108 + 5 * i + 2 = 110 + 5 * i by omega, show 108 + 5 * i + 3 = 111 + 5 * i by omega, show 108 + 5 * i + 4 = 112 + 5 * i by omega]; exact q
theorem zfl_b {N : Int → Int} {i : Int} (h : zOK N) (hi : 0 ≤ i ∧ i < N 7) : (0 ≤ N (138 + 5 * i + 0) ∧ N (138 + 5 * i + 0) < N 1) ∧ (1 ≤ N (138 + 5 * i + 1) ∧ N (138 + 5 * i + 1) ≤ 9) ∧ (0 ≤ N (138 + 5 * i + 2) ∧ N (138 + 5 * i + 2) ≤ 9) ∧ (0 ≤ N (138 + 5 * i + 3) ∧ N (138 + 5 * i + 3) ≤ 60) ∧ (0 ≤ N (138 + 5 * i + 4) ∧ N (138 + 5 * i + 4) ≤ 12) := by
  have q := h.2.2.2.2.2.2.2 i hi.1 hi.2
  rw [show 138 + 5 * i + 0 = 138 + 5 * i by omega, show 138 + 5 * i + 1 = 139 + 5 * i by omega, show 138 + 5 * i + 2 = 140 + 5 * i by omega, show 138 + 5 * i + 3 = 141 + 5 * i by omega, show 138 + 5 * i + 4 = 142 + 5 * i by omega]; exact q
section X5
variable {g : zG} {d : Nat} {w : zWd} {K : Option Value → zWd → Prop} {b sb : Nat} {N P : Int → Int} {u : Int}
set_option maxRecDepth 100000 in
set_option maxHeartbeats 4000000 in
theorem c_X5_isIn {set kd : Int} (k : K (some (zI (zb (zhas set kd)))) w) : zCall g d 0 0 mX5_isIn [zI set, zI kd] w K := by
  have hR := zand_R (a := zshr set kd) (b := 1)
  refine zenter [some _, some _] pn_X5 rfl (Nat.le_of_ble_eq_true rfl) ?_
  refine q_iload_n (pc := 0) dX5_isIn_0 rfl ?_
  refine q_iload_n (pc := 1) dX5_isIn_1 rfl ?_
  refine q_ishr (pc := 2) dX5_isIn_2 ?_
  refine q_iconst (pc := 3) dX5_isIn_3 ?_
  refine q_iand (pc := 4) dX5_isIn_4 ?_
  refine q_iconst (pc := 5) dX5_isIn_5 ?_
  refine q_icmp_ne (pc := 6) (by omega) (by omega) 13 dX5_isIn_6 rfl (fun c6 => ?_) (fun c6 => ?_)
  · refine q_iconst (pc := 13) dX5_isIn_13 ?_
    exact q_zreturn0 (pc := 14) (by assumption) dX5_isIn_14 rfl k
  refine q_iconst (pc := 9) dX5_isIn_9 ?_
  refine q_goto (pc := 10) 14 dX5_isIn_10 rfl ?_
  exact q_zreturn1 (pc := 14) (by assumption) dX5_isIn_14 rfl k
set_option maxRecDepth 100000 in
set_option maxHeartbeats 4000000 in
theorem c_X5_doorsBy {i : Int} (hd : 3 ≤ d) (hF : w.1 sb = some (.inl (4, [zR g b, zR g (sb + 1)]))) (hS : zSto g w b N u P) (hO : zOK N) (hi : 0 ≤ i ∧ i < N 5) (k : K (some (zI (zcool N i))) w) : zCall g d 0 0 mX5_doorsBy [zR g sb, zI i] w K := by
  have hh := hO.1
  have hb := zrg_b hO hi
  have hmb := zmelt_b (N (8 + N (92 + 4 * i + 0))) (N (92 + 4 * i + 1)) (N (13 + N (92 + 4 * i + 0)))
  have hcb := zcost_b (N (8 + N (92 + 4 * i + 0)))
  have hk := k
  unfold zcool at hk
  have L : ∀ (q m : Nat), m + q = 10 → zRuns g d mX5_doorsBy 0 0 53 [some (zR g sb), some (zI i), some (zI (N (92 + 4 * i + 0))), some (zI (N (92 + 4 * i + 2) - zmelt (N (8 + N (92 + 4 * i + 0))) (N (92 + 4 * i + 1)) (N (13 + N (92 + 4 * i + 0))))), some (zI (zbs (fun dd => decide (max 0 (N (92 + 4 * i + 2) - zmelt (N (8 + N (92 + 4 * i + 0))) (N (92 + 4 * i + 1)) (N (13 + N (92 + 4 * i + 0))) - dd * zcost (N (8 + N (92 + 4 * i + 0)))) = N (92 + 4 * i + 3))) m)), some (zI (m : Int))] [] w K := by
    intro q
    induction q with
    | zero =>
      intro m hm
      refine q_iload (pc := 53) dX5_doorsBy_53 rfl ?_
      refine q_bipush (pc := 55) (by decide) dX5_doorsBy_55 ?_
      refine q_icmp_gt (pc := 57) (by omega) (by omega) 107 dX5_doorsBy_57 rfl (fun c57 => ?_) (fun c57 => ?_)
      · refine q_iload (pc := 107) dX5_doorsBy_107 rfl ?_
        refine q_ireturn (pc := 109) dX5_doorsBy_109 rfl ?_
        rw [show m = 10 by omega]; exact hk
      exfalso; omega
    | succ q ih =>
      intro m hm
      have hih := ih (m + 1) (by omega)
      rw [zbs] at hih
      have e1 : 0 ≤ (m : Int) * zcost (N (8 + N (92 + 4 * i + 0))) := Int.mul_nonneg (by omega) hcb.1
      have e2 : (m : Int) * zcost (N (8 + N (92 + 4 * i + 0))) ≤ 9 * 2 := Int.mul_le_mul (by omega) hcb.2 hcb.1 (by omega)
      refine q_iload (pc := 53) dX5_doorsBy_53 rfl ?_
      refine q_bipush (pc := 55) (by decide) dX5_doorsBy_55 ?_
      refine q_icmp_gt (pc := 57) (by omega) (by omega) 107 dX5_doorsBy_57 rfl (fun c57 => ?_) (fun c57 => ?_)
      · exfalso; omega
      refine q_iconst (pc := 60) dX5_doorsBy_60 ?_
      refine q_iload_n (pc := 61) dX5_doorsBy_61 rfl ?_
      refine q_iload (pc := 62) dX5_doorsBy_62 rfl ?_
      refine q_aload_n (pc := 64) dX5_doorsBy_64 rfl rfl ?_
      refine q_getfield (pc := 65) gf_X5_15 dX5_doorsBy_65 (by first | assumption | exact hS.o | exact hS.s0 | exact hS.s1 | exact hS.s2 | exact hS.s3 | exact hS.s4 | exact hS.s5 | exact hS.s6) rfl ?_
      refine q_iload_n (pc := 68) dX5_doorsBy_68 rfl ?_
      refine q_invokevirtual (pc := 69) (d' := d - 1) (mc' := 0) (ms' := 0) (As := [_]) (TX6, 9) cl_X5_34 dX5_doorsBy_69 rfl rfl (by first | assumption | exact hS.o | exact hS.s0 | exact hS.s1 | exact hS.s2 | exact hS.s3 | exact hS.s4 | exact hS.s5 | exact hS.s6) rfl (by omega) rfl 0 0 (Nat.le_refl 0) (Nat.le_refl 0) ?_
      refine c_X6_doorCost (by omega) hS hO hb.1 ?_
      refine q_imul (pc := 72) dX5_doorsBy_72 ?_
      refine q_isub (pc := 73) dX5_doorsBy_73 ?_
      refine q_max (pc := 74) tw_4_74 tw_1_37 tw_1_4 tw_1_38 dX5_doorsBy_74 (by omega) rfl (by omega) (by omega) ?_
      refine q_aload_n (pc := 77) dX5_doorsBy_77 rfl rfl ?_
      refine q_getfield (pc := 78) gf_X5_15 dX5_doorsBy_78 (by first | assumption | exact hS.o | exact hS.s0 | exact hS.s1 | exact hS.s2 | exact hS.s3 | exact hS.s4 | exact hS.s5 | exact hS.s6) rfl ?_
      refine q_getfield (pc := 81) gf_X5_19 dX5_doorsBy_81 (by first | assumption | exact hS.o | exact hS.s0 | exact hS.s1 | exact hS.s2 | exact hS.s3 | exact hS.s4 | exact hS.s5 | exact hS.s6) rfl ?_
      refine q_iload_n (pc := 84) dX5_doorsBy_84 rfl ?_
      refine q_iconst (pc := 85) dX5_doorsBy_85 ?_
      refine q_invokevirtual (pc := 86) (d' := d - 1) (mc' := 0) (ms' := 0) (As := [_, _]) (TX4, 4) cl_X5_25 dX5_doorsBy_86 rfl rfl (by first | assumption | exact hS.o | exact hS.s0 | exact hS.s1 | exact hS.s2 | exact hS.s3 | exact hS.s4 | exact hS.s5 | exact hS.s6) rfl (by omega) rfl 0 0 (Nat.le_refl 0) (Nat.le_refl 0) ?_
      refine s_get_ring (by omega) hS hO.1 hi (by omega) ?_
      refine q_icmp_ne (pc := 89) (by omega) (by omega) 101 dX5_doorsBy_89 rfl (fun c89 => ?_) (fun c89 => ?_)
      · first | (rw [if_pos (decide_eq_true c89)] at hih; refine q_iinc (pc := 101) [some _, some _, some _, some _, some _, some _] dX5_doorsBy_101 rfl rfl rfl ?_; refine q_goto (pc := 104) 53 dX5_doorsBy_104 rfl ?_; exact hih) | (rw [if_neg (by simpa using c89)] at hih; refine q_iinc (pc := 101) [some _, some _, some _, some _, some _, some _] dX5_doorsBy_101 rfl rfl rfl ?_; refine q_goto (pc := 104) 53 dX5_doorsBy_104 rfl ?_; exact hih)
      refine q_iload (pc := 92) dX5_doorsBy_92 rfl ?_
      refine q_iconst (pc := 94) dX5_doorsBy_94 ?_
      refine q_iload (pc := 95) dX5_doorsBy_95 rfl ?_
      refine q_ishl (pc := 97) dX5_doorsBy_97 ?_
      refine q_ior (pc := 98) dX5_doorsBy_98 ?_
      refine q_istore (pc := 99) [some _, some _, some _, some _, some _, some _] dX5_doorsBy_99 rfl (Nat.le_of_ble_eq_true rfl) rfl ?_
      first | (rw [if_pos (decide_eq_true c89)] at hih; refine q_iinc (pc := 101) [some _, some _, some _, some _, some _, some _] dX5_doorsBy_101 rfl rfl rfl ?_; refine q_goto (pc := 104) 53 dX5_doorsBy_104 rfl ?_; exact hih) | (rw [if_neg (by simpa using c89)] at hih; refine q_iinc (pc := 101) [some _, some _, some _, some _, some _, some _] dX5_doorsBy_101 rfl rfl rfl ?_; refine q_goto (pc := 104) 53 dX5_doorsBy_104 rfl ?_; exact hih)
  refine zenter [some _, some _, none, none, none, none] pn_X5 rfl (Nat.le_of_ble_eq_true rfl) ?_
  refine q_aload_n (pc := 0) dX5_doorsBy_0 rfl rfl ?_
  refine q_getfield (pc := 1) gf_X5_15 dX5_doorsBy_1 (by first | assumption | exact hS.o | exact hS.s0 | exact hS.s1 | exact hS.s2 | exact hS.s3 | exact hS.s4 | exact hS.s5 | exact hS.s6) rfl ?_
  refine q_getfield (pc := 4) gf_X5_19 dX5_doorsBy_4 (by first | assumption | exact hS.o | exact hS.s0 | exact hS.s1 | exact hS.s2 | exact hS.s3 | exact hS.s4 | exact hS.s5 | exact hS.s6) rfl ?_
  refine q_iload_n (pc := 7) dX5_doorsBy_7 rfl ?_
  refine q_iconst (pc := 8) dX5_doorsBy_8 ?_
  refine q_invokevirtual (pc := 9) (d' := d - 1) (mc' := 0) (ms' := 0) (As := [_, _]) (TX4, 4) cl_X5_25 dX5_doorsBy_9 rfl rfl (by first | assumption | exact hS.o | exact hS.s0 | exact hS.s1 | exact hS.s2 | exact hS.s3 | exact hS.s4 | exact hS.s5 | exact hS.s6) rfl (by omega) rfl 0 0 (Nat.le_refl 0) (Nat.le_refl 0) ?_
  refine s_get_ring (by omega) hS hO.1 hi (by omega) ?_
  refine q_istore_n (pc := 12) [some _, some _, some _, none, none, none] dX5_doorsBy_12 rfl (Nat.le_of_ble_eq_true rfl) rfl ?_
  refine q_aload_n (pc := 13) dX5_doorsBy_13 rfl rfl ?_
  refine q_getfield (pc := 14) gf_X5_15 dX5_doorsBy_14 (by first | assumption | exact hS.o | exact hS.s0 | exact hS.s1 | exact hS.s2 | exact hS.s3 | exact hS.s4 | exact hS.s5 | exact hS.s6) rfl ?_
  refine q_getfield (pc := 17) gf_X5_19 dX5_doorsBy_17 (by first | assumption | exact hS.o | exact hS.s0 | exact hS.s1 | exact hS.s2 | exact hS.s3 | exact hS.s4 | exact hS.s5 | exact hS.s6) rfl ?_
  refine q_iload_n (pc := 20) dX5_doorsBy_20 rfl ?_
  refine q_iconst (pc := 21) dX5_doorsBy_21 ?_
  refine q_invokevirtual (pc := 22) (d' := d - 1) (mc' := 0) (ms' := 0) (As := [_, _]) (TX4, 4) cl_X5_25 dX5_doorsBy_22 rfl rfl (by first | assumption | exact hS.o | exact hS.s0 | exact hS.s1 | exact hS.s2 | exact hS.s3 | exact hS.s4 | exact hS.s5 | exact hS.s6) rfl (by omega) rfl 0 0 (Nat.le_refl 0) (Nat.le_refl 0) ?_
  refine s_get_ring (by omega) hS hO.1 hi (by omega) ?_
  refine q_aload_n (pc := 25) dX5_doorsBy_25 rfl rfl ?_
  refine q_getfield (pc := 26) gf_X5_15 dX5_doorsBy_26 (by first | assumption | exact hS.o | exact hS.s0 | exact hS.s1 | exact hS.s2 | exact hS.s3 | exact hS.s4 | exact hS.s5 | exact hS.s6) rfl ?_
  refine q_iload_n (pc := 29) dX5_doorsBy_29 rfl ?_
  refine q_aload_n (pc := 30) dX5_doorsBy_30 rfl rfl ?_
  refine q_getfield (pc := 31) gf_X5_15 dX5_doorsBy_31 (by first | assumption | exact hS.o | exact hS.s0 | exact hS.s1 | exact hS.s2 | exact hS.s3 | exact hS.s4 | exact hS.s5 | exact hS.s6) rfl ?_
  refine q_getfield (pc := 34) gf_X5_19 dX5_doorsBy_34 (by first | assumption | exact hS.o | exact hS.s0 | exact hS.s1 | exact hS.s2 | exact hS.s3 | exact hS.s4 | exact hS.s5 | exact hS.s6) rfl ?_
  refine q_iload_n (pc := 37) dX5_doorsBy_37 rfl ?_
  refine q_iconst (pc := 38) dX5_doorsBy_38 ?_
  refine q_invokevirtual (pc := 39) (d' := d - 1) (mc' := 0) (ms' := 0) (As := [_, _]) (TX4, 4) cl_X5_25 dX5_doorsBy_39 rfl rfl (by first | assumption | exact hS.o | exact hS.s0 | exact hS.s1 | exact hS.s2 | exact hS.s3 | exact hS.s4 | exact hS.s5 | exact hS.s6) rfl (by omega) rfl 0 0 (Nat.le_refl 0) (Nat.le_refl 0) ?_
  refine s_get_ring (by omega) hS hO.1 hi (by omega) ?_
  refine q_invokevirtual (pc := 42) (d' := d - 1) (mc' := 0) (ms' := 0) (As := [_, _]) (TX6, 9) cl_X5_31 dX5_doorsBy_42 rfl rfl (by first | assumption | exact hS.o | exact hS.s0 | exact hS.s1 | exact hS.s2 | exact hS.s3 | exact hS.s4 | exact hS.s5 | exact hS.s6) rfl (by omega) rfl 0 0 (Nat.le_refl 0) (Nat.le_refl 0) ?_
  refine c_X6_meltIn (by omega) hS hO hb.1 (by omega) ?_
  refine q_isub (pc := 45) dX5_doorsBy_45 ?_
  refine q_istore_n (pc := 46) [some _, some _, some _, some _, none, none] dX5_doorsBy_46 rfl (Nat.le_of_ble_eq_true rfl) rfl ?_
  refine q_iconst (pc := 47) dX5_doorsBy_47 ?_
  refine q_istore (pc := 48) [some _, some _, some _, some _, some _, none] dX5_doorsBy_48 rfl (Nat.le_of_ble_eq_true rfl) rfl ?_
  refine q_iconst (pc := 50) dX5_doorsBy_50 ?_
  refine q_istore (pc := 51) [some _, some _, some _, some _, some _, some _] dX5_doorsBy_51 rfl (Nat.le_of_ble_eq_true rfl) rfl ?_
  exact L 10 0 (by omega)
set_option maxRecDepth 100000 in
set_option maxHeartbeats 4000000 in
theorem c_X5_doorsByAll {c : Int} (hd : 4 ≤ d) (hF : w.1 sb = some (.inl (4, [zR g b, zR g (sb + 1)]))) (hS : zSto g w b N u P) (hO : zOK N) (hc : 0 ≤ c ∧ c < N 0) (k : K (some (zI (zeven N c (N 5).toNat))) w) : zCall g d 0 0 mX5_doorsByAll [zR g sb, zI c] w K := by
  have hh := hO.1
  have L : ∀ (q m : Nat), m + q = (N 5).toNat → zRuns g d mX5_doorsByAll 0 0 6 [some (zR g sb), some (zI c), some (zI (zeven N c m)), some (zI (m : Int))] [] w K := by
    intro q
    induction q with
    | zero =>
      intro m hm
      refine q_iload_n (pc := 6) dX5_doorsByAll_6 rfl ?_
      refine q_aload_n (pc := 7) dX5_doorsByAll_7 rfl rfl ?_
      refine q_getfield (pc := 8) gf_X5_15 dX5_doorsByAll_8 (by first | assumption | exact hS.o | exact hS.s0 | exact hS.s1 | exact hS.s2 | exact hS.s3 | exact hS.s4 | exact hS.s5 | exact hS.s6) rfl ?_
      refine q_getfield (pc := 11) gf_X5_19 dX5_doorsByAll_11 (by first | assumption | exact hS.o | exact hS.s0 | exact hS.s1 | exact hS.s2 | exact hS.s3 | exact hS.s4 | exact hS.s5 | exact hS.s6) rfl ?_
      refine q_getfield (pc := 14) gf_X5_43 dX5_doorsByAll_14 (by first | assumption | exact hS.o | exact hS.s0 | exact hS.s1 | exact hS.s2 | exact hS.s3 | exact hS.s4 | exact hS.s5 | exact hS.s6) rfl ?_
      refine q_icmp_ge (pc := 17) (by omega) (by omega) 50 dX5_doorsByAll_17 rfl (fun c17 => ?_) (fun c17 => ?_)
      · refine q_iload_n (pc := 50) dX5_doorsByAll_50 rfl ?_
        refine q_ireturn (pc := 51) dX5_doorsByAll_51 rfl ?_
        rw [show (N 5).toNat = m by omega] at k; exact k
      exfalso; omega
    | succ q ih =>
      intro m hm
      have hih := ih (m + 1) (by omega)
      rw [zeven] at hih
      have hb := zrg_b hO (i := (m : Int)) (by omega)
      by_cases hc1 : N (92 + 4 * (m : Int) + 0) = c
      · skip
        rw [if_pos hc1] at hih
        refine q_iload_n (pc := 6) dX5_doorsByAll_6 rfl ?_
        refine q_aload_n (pc := 7) dX5_doorsByAll_7 rfl rfl ?_
        refine q_getfield (pc := 8) gf_X5_15 dX5_doorsByAll_8 (by first | assumption | exact hS.o | exact hS.s0 | exact hS.s1 | exact hS.s2 | exact hS.s3 | exact hS.s4 | exact hS.s5 | exact hS.s6) rfl ?_
        refine q_getfield (pc := 11) gf_X5_19 dX5_doorsByAll_11 (by first | assumption | exact hS.o | exact hS.s0 | exact hS.s1 | exact hS.s2 | exact hS.s3 | exact hS.s4 | exact hS.s5 | exact hS.s6) rfl ?_
        refine q_getfield (pc := 14) gf_X5_43 dX5_doorsByAll_14 (by first | assumption | exact hS.o | exact hS.s0 | exact hS.s1 | exact hS.s2 | exact hS.s3 | exact hS.s4 | exact hS.s5 | exact hS.s6) rfl ?_
        refine q_icmp_ge (pc := 17) (by omega) (by omega) 50 dX5_doorsByAll_17 rfl (fun c17 => ?_) (fun c17 => ?_)
        · exfalso; omega
        refine q_aload_n (pc := 20) dX5_doorsByAll_20 rfl rfl ?_
        refine q_getfield (pc := 21) gf_X5_15 dX5_doorsByAll_21 (by first | assumption | exact hS.o | exact hS.s0 | exact hS.s1 | exact hS.s2 | exact hS.s3 | exact hS.s4 | exact hS.s5 | exact hS.s6) rfl ?_
        refine q_getfield (pc := 24) gf_X5_19 dX5_doorsByAll_24 (by first | assumption | exact hS.o | exact hS.s0 | exact hS.s1 | exact hS.s2 | exact hS.s3 | exact hS.s4 | exact hS.s5 | exact hS.s6) rfl ?_
        refine q_iload_n (pc := 27) dX5_doorsByAll_27 rfl ?_
        refine q_iconst (pc := 28) dX5_doorsByAll_28 ?_
        refine q_invokevirtual (pc := 29) (d' := d - 1) (mc' := 0) (ms' := 0) (As := [_, _]) (TX4, 4) cl_X5_25 dX5_doorsByAll_29 rfl rfl (by first | assumption | exact hS.o | exact hS.s0 | exact hS.s1 | exact hS.s2 | exact hS.s3 | exact hS.s4 | exact hS.s5 | exact hS.s6) rfl (by omega) rfl 0 0 (Nat.le_refl 0) (Nat.le_refl 0) ?_
        refine s_get_ring (by omega) hS hO.1 (by omega) (by omega) ?_
        refine q_iload_n (pc := 32) dX5_doorsByAll_32 rfl ?_
        refine q_icmp_ne (pc := 33) (by omega) (by omega) 44 dX5_doorsByAll_33 rfl (fun c33 => ?_) (fun c33 => ?_)
        · first | (exfalso; omega; done) | (refine q_iinc (pc := 44) [some _, some _, some _, some _] dX5_doorsByAll_44 rfl rfl rfl ?_; refine q_goto (pc := 47) 6 dX5_doorsByAll_47 rfl ?_; exact hih)
        refine q_iload_n (pc := 36) dX5_doorsByAll_36 rfl ?_
        refine q_aload_n (pc := 37) dX5_doorsByAll_37 rfl rfl ?_
        refine q_iload_n (pc := 38) dX5_doorsByAll_38 rfl ?_
        refine q_invokevirtual (pc := 39) (d' := d - 1) (mc' := 0) (ms' := 0) (As := [_]) (TX5, 2) cl_X5_47 dX5_doorsByAll_39 rfl rfl (by first | assumption | exact hS.o | exact hS.s0 | exact hS.s1 | exact hS.s2 | exact hS.s3 | exact hS.s4 | exact hS.s5 | exact hS.s6) rfl (by omega) rfl 0 0 (Nat.le_refl 0) (Nat.le_refl 0) ?_
        refine c_X5_doorsBy (by omega) hF hS hO (by omega) ?_
        refine q_iand (pc := 42) dX5_doorsByAll_42 ?_
        refine q_istore_n (pc := 43) [some _, some _, some _, some _] dX5_doorsByAll_43 rfl (Nat.le_of_ble_eq_true rfl) rfl ?_
        first | (exfalso; omega; done) | (refine q_iinc (pc := 44) [some _, some _, some _, some _] dX5_doorsByAll_44 rfl rfl rfl ?_; refine q_goto (pc := 47) 6 dX5_doorsByAll_47 rfl ?_; exact hih)
      · skip
        rw [if_neg hc1] at hih
        refine q_iload_n (pc := 6) dX5_doorsByAll_6 rfl ?_
        refine q_aload_n (pc := 7) dX5_doorsByAll_7 rfl rfl ?_
        refine q_getfield (pc := 8) gf_X5_15 dX5_doorsByAll_8 (by first | assumption | exact hS.o | exact hS.s0 | exact hS.s1 | exact hS.s2 | exact hS.s3 | exact hS.s4 | exact hS.s5 | exact hS.s6) rfl ?_
        refine q_getfield (pc := 11) gf_X5_19 dX5_doorsByAll_11 (by first | assumption | exact hS.o | exact hS.s0 | exact hS.s1 | exact hS.s2 | exact hS.s3 | exact hS.s4 | exact hS.s5 | exact hS.s6) rfl ?_
        refine q_getfield (pc := 14) gf_X5_43 dX5_doorsByAll_14 (by first | assumption | exact hS.o | exact hS.s0 | exact hS.s1 | exact hS.s2 | exact hS.s3 | exact hS.s4 | exact hS.s5 | exact hS.s6) rfl ?_
        refine q_icmp_ge (pc := 17) (by omega) (by omega) 50 dX5_doorsByAll_17 rfl (fun c17 => ?_) (fun c17 => ?_)
        · exfalso; omega
        refine q_aload_n (pc := 20) dX5_doorsByAll_20 rfl rfl ?_
        refine q_getfield (pc := 21) gf_X5_15 dX5_doorsByAll_21 (by first | assumption | exact hS.o | exact hS.s0 | exact hS.s1 | exact hS.s2 | exact hS.s3 | exact hS.s4 | exact hS.s5 | exact hS.s6) rfl ?_
        refine q_getfield (pc := 24) gf_X5_19 dX5_doorsByAll_24 (by first | assumption | exact hS.o | exact hS.s0 | exact hS.s1 | exact hS.s2 | exact hS.s3 | exact hS.s4 | exact hS.s5 | exact hS.s6) rfl ?_
        refine q_iload_n (pc := 27) dX5_doorsByAll_27 rfl ?_
        refine q_iconst (pc := 28) dX5_doorsByAll_28 ?_
        refine q_invokevirtual (pc := 29) (d' := d - 1) (mc' := 0) (ms' := 0) (As := [_, _]) (TX4, 4) cl_X5_25 dX5_doorsByAll_29 rfl rfl (by first | assumption | exact hS.o | exact hS.s0 | exact hS.s1 | exact hS.s2 | exact hS.s3 | exact hS.s4 | exact hS.s5 | exact hS.s6) rfl (by omega) rfl 0 0 (Nat.le_refl 0) (Nat.le_refl 0) ?_
        refine s_get_ring (by omega) hS hO.1 (by omega) (by omega) ?_
        refine q_iload_n (pc := 32) dX5_doorsByAll_32 rfl ?_
        refine q_icmp_ne (pc := 33) (by omega) (by omega) 44 dX5_doorsByAll_33 rfl (fun c33 => ?_) (fun c33 => ?_)
        · refine q_iinc (pc := 44) [some _, some _, some _, some _] dX5_doorsByAll_44 rfl rfl rfl ?_
          refine q_goto (pc := 47) 6 dX5_doorsByAll_47 rfl ?_
          exact hih
        exfalso; omega
  refine zenter [some _, some _, none, none] pn_X5 rfl (Nat.le_of_ble_eq_true rfl) ?_
  refine q_sipush (pc := 0) (by decide) dX5_doorsByAll_0 ?_
  refine q_istore_n (pc := 3) [some _, some _, some _, none] dX5_doorsByAll_3 rfl (Nat.le_of_ble_eq_true rfl) rfl ?_
  refine q_iconst (pc := 4) dX5_doorsByAll_4 ?_
  refine q_istore_n (pc := 5) [some _, some _, some _, some _] dX5_doorsByAll_5 rfl (Nat.le_of_ble_eq_true rfl) rfl ?_
  exact L (N 5).toNat 0 (by omega)
end X5
