theorem zdd {a b c : Int} (ha : 0 ≤ a) (hb : 0 ≤ b) (hc : 0 ≤ c) : a / b / c = a / (b * c) := by
  obtain ⟨A, rfl⟩ := Int.eq_ofNat_of_zero_le ha
  obtain ⟨B, rfl⟩ := Int.eq_ofNat_of_zero_le hb
  obtain ⟨C, rfl⟩ := Int.eq_ofNat_of_zero_le hc
  rw [← Int.natCast_mul, ← Int.natCast_ediv, ← Int.natCast_ediv, ← Int.natCast_ediv, Nat.div_div_eq_div_mul]
def zgt (N W : Int → Int) (r k x : Int) : Int → Int := fun s => if W s = k ∧ (0 < x ∧ x ≤ zfar (N (68 + s)) (N (74 + s)) r (N 4)) then zhits (N (68 + s)) r else 0
def zgn (N W : Int → Int) (r k x : Int) : Int := zsg (zgt N W r k x) (N 1).toNat 0
def zGG (N W : Int → Int) (r k x : Int) : Int := zsg (fun s => if W s = k then zhits (N (68 + s)) r * min x (zfar (N (68 + s)) (N (74 + s)) r (N 4)) else 0) (N 1).toNat 0
theorem zsg_sub {f f2 : Int → Int} : ∀ (m : Nat) (a : Int), zsg f m a - zsg f2 m a = zsg (fun i => f i - f2 i) m a
  | 0, a => by simp [zsg]
  | m + 1, a => by rw [zsg, zsg, zsg, ← zsg_sub m a]; omega
theorem zsg_z {f : Int → Int} : ∀ (m : Nat) (a : Int), (∀ i, a ≤ i → i < a + (m : Int) → f i = 0) → zsg f m a = 0
  | 0, a, _ => rfl
  | m + 1, a, h => by rw [zsg, zsg_z m a (fun i b c => h i b (by omega)), h _ (by omega) (by omega)]; rfl
theorem zgn_0 {N W : Int → Int} {r k : Int} : zgn N W r k 0 = 0 := zsg_z _ _ (fun i _ _ => by unfold zgt; rw [if_neg (by omega)])
theorem zgn_G {N W : Int → Int} {r k x : Int} (hO : zOK N) (hr : 1 ≤ r ∧ r ≤ 9) (hx : 1 ≤ x) : zgn N W r k x = zGG N W r k x - zGG N W r k (x - 1) := by
  have hh := hO.1
  unfold zgn zGG
  rw [zsg_sub]
  refine zsg_congr (fun s a b => ?_)
  have hl := hO.2.2.2.1 s (by omega) (by omega)
  have hf := zfar_b (kind := N (68 + s)) (a := N (74 + s)) (r := r) (v := N 4) (by omega) (by omega) (by omega)
  unfold zgt
  by_cases hw : W s = k
  · rw [if_pos hw, if_pos hw]
    by_cases hy : x ≤ zfar (N (68 + s)) (N (74 + s)) r (N 4)
    · rw [if_pos ⟨hw, by omega, hy⟩, show min x (zfar (N (68 + s)) (N (74 + s)) r (N 4)) = x by omega, show min (x - 1) (zfar (N (68 + s)) (N (74 + s)) r (N 4)) = x - 1 by omega, Int.mul_sub]; omega
    · rw [if_neg (fun z => hy z.2.2), show min x (zfar (N (68 + s)) (N (74 + s)) r (N 4)) = zfar (N (68 + s)) (N (74 + s)) r (N 4) by omega, show min (x - 1) (zfar (N (68 + s)) (N (74 + s)) r (N 4)) = zfar (N (68 + s)) (N (74 + s)) r (N 4) by omega]; omega
  · rw [if_neg (fun z => hw z.1), if_neg hw, if_neg hw]; rfl
theorem zgn_b {N W : Int → Int} {r k x : Int} (hO : zOK N) (hr : 1 ≤ r ∧ r ≤ 9) : 0 ≤ zgn N W r k x ∧ zgn N W r k x ≤ 60 := by
  have hh := hO.1
  have := zsg_bd (f := zgt N W r k x) (M := 10) (N 1).toNat 0 (fun s a b => by
    have := zhits_b (kind := N (68 + s)) hr
    unfold zgt; split <;> omega)
  unfold zgn; omega
theorem zGG_b {N W : Int → Int} {r k x : Int} (hO : zOK N) (hr : 1 ≤ r ∧ r ≤ 9) (hx : 0 ≤ x) : 0 ≤ zGG N W r k x := by
  have hh := hO.1
  have h0 : zsg (fun _ => 0) (N 1).toNat 0 = 0 := zsg_z _ _ (fun _ _ _ => rfl)
  unfold zGG
  refine Int.le_trans (Int.le_of_eq h0.symm) (zsg_mono (fun s a b => ?_))
  have hl := hO.2.2.2.1 s (by omega) (by omega)
  have hf := zfar_b (kind := N (68 + s)) (a := N (74 + s)) (r := r) (v := N 4) (by omega) (by omega) (by omega)
  have hz := zhits_b (kind := N (68 + s)) hr
  split
  · exact Int.mul_nonneg (by omega) (by omega)
  · omega
theorem zGG_0 {N W : Int → Int} {r k : Int} (hO : zOK N) (hr : 1 ≤ r ∧ r ≤ 9) : zGG N W r k 0 = 0 := by
  have hh := hO.1
  refine zsg_z _ _ (fun s a b => ?_)
  have hl := hO.2.2.2.1 s (by omega) (by omega)
  have hf := zfar_b (kind := N (68 + s)) (a := N (74 + s)) (r := r) (v := N 4) (by omega) (by omega) (by omega)
  split
  · rw [show min 0 (zfar (N (68 + s)) (N (74 + s)) r (N 4)) = 0 by omega, Int.mul_zero]
  · rfl
/-- a cloud after n hours -/
def zSk (N W : Int → Int) (r : Int) (n : Nat) (f h : Int → Int) : Prop := ∀ k, 0 ≤ k → k < N 2 → (0 ≤ f k ∧ f k ≤ 30) ∧ (0 ≤ h k ∧ h k ≤ 40 + 60 * (n : Int)) ∧ ((N (84 + k) ≤ h k ∧ N (84 + k) ≤ N (88 + k) + zGG N W r k (N (80 + k))) ∨ (h k < N (84 + k) ∧ h k + zGG N W r k (f k) = N (88 + k) + zGG N W r k (N (80 + k)) ∧ f k = max 0 (N (80 + k) - (n : Int))))
theorem zSk_s {N W f h f2 h2 : Int → Int} {r : Int} {n : Nat} (hO : zOK N) (hr : 1 ≤ r ∧ r ≤ 9) (I : zSk N W r n f h) (e : ∀ k, 0 ≤ k → k < N 2 → h2 k = h k + zgn N W r k (f k) ∧ f2 k = if h2 k < N (84 + k) ∧ 0 < f k then f k - 1 else f k) : zSk N W r (n + 1) f2 h2 := fun k a b => by
  obtain ⟨i1, i2, i3⟩ := I k a b
  obtain ⟨e1, e2⟩ := e k a b
  have gb := zgn_b (W := W) (k := k) (x := f k) hO hr
  have hsk := hO.2.2.2.2.1 k a b
  rw [e2]
  refine ⟨by split <;> omega, by omega, ?_⟩
  rcases i3 with ⟨j1, j2⟩ | ⟨j1, j2, j3⟩
  · exact Or.inl ⟨by omega, j2⟩
  · by_cases f0 : f k = 0
    · rw [f0, zgn_0] at e1
      rw [if_neg (by omega)]
      exact Or.inr ⟨by omega, by omega, by omega⟩
    · rw [zgn_G hO hr (by omega)] at e1
      have g1 := zGG_b (W := W) (k := k) (x := f k - 1) hO hr (by omega)
      by_cases y : h2 k < N (84 + k)
      · rw [if_pos (by omega)]
        exact Or.inr ⟨y, by omega, by omega⟩
      · exact Or.inl ⟨by omega, by omega⟩
theorem zSk_e {N W f h : Int → Int} {r k : Int} (hO : zOK N) (hr : 1 ≤ r ∧ r ≤ 9) (I : zSk N W r 30 f h) (hk : 0 ≤ k ∧ k < N 2) : N (84 + k) ≤ h k ↔ zopn N (zhw N r) W k ≤ 0 := by
  have hh := hO.1
  obtain ⟨i1, i2, i3⟩ := I k hk.1 hk.2
  have hsk := hO.2.2.2.2.1 k hk.1 hk.2
  have e : zopn N (zhw N r) W k = N (84 + k) - N (88 + k) - zGG N W r k (N (80 + k)) := by
    unfold zopn zGG
    congr 1
    refine zsg_congr (fun c a b => ?_)
    split
    · rw [zhw_at (by omega)]; rfl
    · rfl
  rw [e]
  rcases i3 with ⟨j1, j2⟩ | ⟨j1, j2, j3⟩
  · omega
  · rw [show f k = 0 by omega, zGG_0 hO hr] at j2
    omega
theorem zwy_b {N : Int → Int} {i c : Int} (h : 1 ≤ N 2) : 0 ≤ zwy N i c ∧ zwy N i c < N 2 := ⟨Int.emod_nonneg _ (by omega), Int.emod_lt_of_pos _ (by omega)⟩
theorem zmw2_b {N : Int → Int} {r : Int} : ∀ i : Nat, 0 ≤ (zmw N r i).2 ∧ (zmw N r i).2 ≤ (i : Int)
  | 0 => by show (0 : Int) ≤ 0 ∧ (0 : Int) ≤ 0; omega
  | i + 1 => by
    have := zmw2_b (N := N) (r := r) i
    rw [zmw]; split
    · show 0 ≤ (i : Int) ∧ (i : Int) ≤ ((i + 1 : Nat) : Int); omega
    · omega
theorem zif_and {P Q : Prop} [Decidable P] [Decidable Q] [Decidable (P ∧ Q)] (hp : P) {a b : Int} : (if P ∧ Q then a else b) = if Q then a else b := by
  by_cases q : Q
  · rw [if_pos q, if_pos ⟨hp, q⟩]
  · rw [if_neg q, if_neg (fun z => q z.2)]
/-! the reference's own calls, who throws at which -/
section X8M
variable {g : zG} {d : Nat} {w : zWd} {K : Option Value → zWd → Prop} {S : zSt}
set_option maxRecDepth 100000 in
set_option maxHeartbeats 8000000 in
theorem c_X8_ways {N : Int → Int} {ab be u len p0 p1 p2 p3 p4 it sm : Int} (h72 : w.1 72 = some (zMO g ab be u len p0 p1 p2 p3 p4 it sm)) (h73 : w.1 73 = some (.inr (false, 168, N))) (hO : zOK N) (k : K (some (zI (zpw (N 2) (N 1).toNat))) w) : zCall g d 0 0 mX8_ways [zR g 72] w K := by
  have hh := hO.1
  have L : ∀ (q m : Nat), (m : Int) + (q : Int) = N 1 → zRuns g d mX8_ways 0 0 4 [some (zR g 72), some (zI (zpw (N 2) m)), some (zI (m : Int))] [] w K := by
    intro q
    induction q with
    | zero =>
      intro m h1
      have e : m = (N 1).toNat := by omega
      refine q_iload_n (pc := 4) dX8_ways_4 rfl ?_
      refine q_aload_n (pc := 5) dX8_ways_5 rfl rfl ?_
      refine q_getfield (pc := 6) gf_X8_7 dX8_ways_6 (by assumption) rfl ?_
      refine q_iconst (pc := 9) dX8_ways_9 ?_
      refine q_iaload (pc := 10) dX8_ways_10 (by assumption) (by omega) ?_
      refine q_icmp_ge (pc := 11) (by omega) (by omega) 29 dX8_ways_11 rfl (fun c11 => ?_) (fun c11 => ?_)
      · refine q_iload_n (pc := 29) dX8_ways_29 rfl ?_
        refine q_ireturn (pc := 30) dX8_ways_30 rfl ?_
        rw [e]; exact k
      exfalso; omega
    | succ q ih =>
      intro m h1
      have hih := ih (m + 1) (by omega)
      rw [zpw] at hih
      refine q_iload_n (pc := 4) dX8_ways_4 rfl ?_
      refine q_aload_n (pc := 5) dX8_ways_5 rfl rfl ?_
      refine q_getfield (pc := 6) gf_X8_7 dX8_ways_6 (by assumption) rfl ?_
      refine q_iconst (pc := 9) dX8_ways_9 ?_
      refine q_iaload (pc := 10) dX8_ways_10 (by assumption) (by omega) ?_
      refine q_icmp_ge (pc := 11) (by omega) (by omega) 29 dX8_ways_11 rfl (fun c11 => ?_) (fun c11 => ?_)
      · exfalso; omega
      refine q_iload_n (pc := 14) dX8_ways_14 rfl ?_
      refine q_aload_n (pc := 15) dX8_ways_15 rfl rfl ?_
      refine q_getfield (pc := 16) gf_X8_7 dX8_ways_16 (by assumption) rfl ?_
      refine q_iconst (pc := 19) dX8_ways_19 ?_
      refine q_iaload (pc := 20) dX8_ways_20 (by assumption) (by omega) ?_
      refine q_imul (pc := 21) dX8_ways_21 ?_
      refine q_istore_n (pc := 22) [some _, some _, some _] dX8_ways_22 rfl (Nat.le_of_ble_eq_true rfl) rfl ?_
      refine q_iinc (pc := 23) [some _, some _, some _] dX8_ways_23 rfl rfl rfl ?_
      refine q_goto (pc := 26) 4 dX8_ways_26 rfl ?_
      exact hih
  refine zenter [some _, none, none] pn_X8 rfl (Nat.le_of_ble_eq_true rfl) ?_
  refine q_iconst (pc := 0) dX8_ways_0 ?_
  refine q_istore_n (pc := 1) [some _, some _, none] dX8_ways_1 rfl (Nat.le_of_ble_eq_true rfl) rfl ?_
  refine q_iconst (pc := 2) dX8_ways_2 ?_
  refine q_istore_n (pc := 3) [some _, some _, some _] dX8_ways_3 rfl (Nat.le_of_ble_eq_true rfl) rfl ?_
  exact L (N 1).toNat 0 (by omega)
set_option maxRecDepth 100000 in
set_option maxHeartbeats 8000000 in
theorem c_X8_cloudOf {way s : Int} {N : Int → Int} {ab be u len p0 p1 p2 p3 p4 it sm : Int} (h72 : w.1 72 = some (zMO g ab be u len p0 p1 p2 p3 p4 it sm)) (h73 : w.1 73 = some (.inr (false, 168, N))) (hO : zOK N) (hn2 : 1 ≤ N 2) (hw : 0 ≤ way ∧ way ≤ 5000) (hs : 0 ≤ s ∧ s < N 1) (k : K (some (zI (zwy N way s))) w) : zCall g d 0 0 mX8_cloudOf [zR g 72, zI way, zI s] w K := by
  have hh := hO.1
  have L : ∀ (q m : Nat), (m : Int) + (q : Int) = N 1 - 1 - s → zRuns g d mX8_cloudOf 0 0 12 [some (zR g 72), some (zI way), some (zI s), some (zI (way / zpw (N 2) m)), some (zI (N 1 - 1 - (m : Int)))] [] w K := by
    intro q
    induction q with
    | zero =>
      intro m h1
      have e : m = (N 1 - 1 - s).toNat := by omega
      have hp := zpw_p hn2 m
      have h2 := Int.ediv_nonneg hw.1 (show 0 ≤ zpw (N 2) m by omega)
      have h3 := Int.ediv_le_self (zpw (N 2) m) hw.1
      refine q_iload (pc := 12) dX8_cloudOf_12 rfl ?_
      refine q_iload_n (pc := 14) dX8_cloudOf_14 rfl ?_
      refine q_icmp_le (pc := 15) (by omega) (by omega) 33 dX8_cloudOf_15 rfl (fun c15 => ?_) (fun c15 => ?_)
      · refine q_iload_n (pc := 33) dX8_cloudOf_33 rfl ?_
        refine q_aload_n (pc := 34) dX8_cloudOf_34 rfl rfl ?_
        refine q_getfield (pc := 35) gf_X8_7 dX8_cloudOf_35 (by assumption) rfl ?_
        refine q_iconst (pc := 38) dX8_cloudOf_38 ?_
        refine q_iaload (pc := 39) dX8_cloudOf_39 (by assumption) (by omega) ?_
        refine q_irem (pc := 40) dX8_cloudOf_40 (by omega) (by omega) (by omega) ?_
        refine q_ireturn (pc := 41) dX8_cloudOf_41 rfl ?_
        rw [e]; exact k
      exfalso; omega
    | succ q ih =>
      intro m h1
      have hih := ih (m + 1) (by omega)
      have hp := zpw_p hn2 m
      have h2 := Int.ediv_nonneg hw.1 (show 0 ≤ zpw (N 2) m by omega)
      have h3 := Int.ediv_le_self (zpw (N 2) m) hw.1
      rw [zpw, ← zdd hw.1 (by omega) (by omega), show N 1 - 1 - ((m + 1 : Nat) : Int) = N 1 - 1 - (m : Int) + -1 by omega] at hih
      refine q_iload (pc := 12) dX8_cloudOf_12 rfl ?_
      refine q_iload_n (pc := 14) dX8_cloudOf_14 rfl ?_
      refine q_icmp_le (pc := 15) (by omega) (by omega) 33 dX8_cloudOf_15 rfl (fun c15 => ?_) (fun c15 => ?_)
      · exfalso; omega
      refine q_iload_n (pc := 18) dX8_cloudOf_18 rfl ?_
      refine q_aload_n (pc := 19) dX8_cloudOf_19 rfl rfl ?_
      refine q_getfield (pc := 20) gf_X8_7 dX8_cloudOf_20 (by assumption) rfl ?_
      refine q_iconst (pc := 23) dX8_cloudOf_23 ?_
      refine q_iaload (pc := 24) dX8_cloudOf_24 (by assumption) (by omega) ?_
      refine q_idiv (pc := 25) dX8_cloudOf_25 (by omega) (by omega) (by omega) ?_
      refine q_istore_n (pc := 26) [some _, some _, some _, some _, some _] dX8_cloudOf_26 rfl (Nat.le_of_ble_eq_true rfl) rfl ?_
      refine q_iinc (pc := 27) [some _, some _, some _, some _, some _] dX8_cloudOf_27 rfl rfl rfl ?_
      refine q_goto (pc := 30) 12 dX8_cloudOf_30 rfl ?_
      exact hih
  refine zenter [some _, some _, some _, none, none] pn_X8 rfl (Nat.le_of_ble_eq_true rfl) ?_
  refine q_iload_n (pc := 0) dX8_cloudOf_0 rfl ?_
  refine q_istore_n (pc := 1) [some _, some _, some _, some _, none] dX8_cloudOf_1 rfl (Nat.le_of_ble_eq_true rfl) rfl ?_
  refine q_aload_n (pc := 2) dX8_cloudOf_2 rfl rfl ?_
  refine q_getfield (pc := 3) gf_X8_7 dX8_cloudOf_3 (by assumption) rfl ?_
  refine q_iconst (pc := 6) dX8_cloudOf_6 ?_
  refine q_iaload (pc := 7) dX8_cloudOf_7 (by assumption) (by omega) ?_
  refine q_iconst (pc := 8) dX8_cloudOf_8 ?_
  refine q_isub (pc := 9) dX8_cloudOf_9 ?_
  refine q_istore (pc := 10) [some _, some _, some _, some _, some _] dX8_cloudOf_10 rfl (Nat.le_of_ble_eq_true rfl) rfl ?_
  have h9 := L (N 1 - 1 - s).toNat 0 (by omega)
  rw [zpw, Int.ediv_one, show N 1 - 1 - ((0 : Nat) : Int) = N 1 - 1 by omega] at h9
  exact h9
set_option maxRecDepth 100000 in
set_option maxHeartbeats 8000000 in
theorem c_X8_anHour {way r B : Int} {f h : Int → Int} {N : Int → Int} {ab be u len p0 p1 p2 p3 p4 it sm : Int} (hd : 4 ≤ d) (h72 : w.1 72 = some (zMO g ab be u len p0 p1 p2 p3 p4 it sm)) (h73 : w.1 73 = some (.inr (false, 168, N))) (h80 : w.1 80 = some (.inr (false, 4, f))) (h81 : w.1 81 = some (.inr (false, 4, h))) (hO : zOK N) (hn2 : 1 ≤ N 2) (hw : 0 ≤ way ∧ way ≤ 5000) (hr : 1 ≤ r ∧ r ≤ 9) (hf : ∀ k, 0 ≤ k → k < N 2 → 0 ≤ f k ∧ f k ≤ 30) (hh0 : ∀ k, 0 ≤ k → k < N 2 → 0 ≤ h k ∧ h k ≤ B) (hB : B ≤ 100000) (k : ∀ w' f2 h2, zSame w w' 80 2 → w'.1 80 = some (.inr (false, 4, f2)) → w'.1 81 = some (.inr (false, 4, h2)) → (∀ k, 0 ≤ k → k < N 2 → h2 k = h k + zgn N (zwy N way) r k (f k) ∧ f2 k = if h2 k < N (84 + k) ∧ 0 < f k then f k - 1 else f k) → K none w') : zCall g d 0 0 mX8_anHour [zR g 72, zI way, zI r] w K := by
  have hh := hO.1
  have L2 : ∀ (h2 : Int → Int), (∀ k, 0 ≤ k → k < N 2 → h2 k = h k + zgn N (zwy N way) r k (f k)) → ∀ (q m : Nat) (w1 : zWd) (f2 : Int → Int) (x4 x5 : Option Value), (m : Int) + (q : Int) = N 2 → zSame w w1 80 2 → w1.1 80 = some (.inr (false, 4, f2)) → w1.1 81 = some (.inr (false, 4, h2)) → (∀ k, 0 ≤ k → k < N 2 → f2 k = if k < (m : Int) then (if h2 k < N (84 + k) ∧ 0 < f k then f k - 1 else f k) else f k) → zRuns g d mX8_anHour 0 0 92 [some (zR g 72), some (zI way), some (zI r), some (zI (m : Int)), x4, x5] [] w1 K := by
    intro h2 eh q
    induction q with
    | zero =>
      intro m w1 f2 x4 x5 h1 hs h80 h81 ef
      have h721 := (hs.2 72 (by omega)).trans h72
      have h731 := (hs.2 73 (by omega)).trans h73
      refine q_iload_n (pc := 92) dX8_anHour_92 rfl ?_
      refine q_aload_n (pc := 93) dX8_anHour_93 rfl rfl ?_
      refine q_getfield (pc := 94) gf_X8_7 dX8_anHour_94 (by assumption) rfl ?_
      refine q_iconst (pc := 97) dX8_anHour_97 ?_
      refine q_iaload (pc := 98) dX8_anHour_98 (by assumption) (by omega) ?_
      refine q_icmp_ge (pc := 99) (by omega) (by omega) 149 dX8_anHour_99 rfl (fun c99 => ?_) (fun c99 => ?_)
      · refine q_return (pc := 149) dX8_anHour_149 rfl ?_
        exact k _ f2 h2 hs h80 h81 (fun k a b => ⟨eh k a b, by rw [ef k a b, if_pos (by omega)]⟩)
      exfalso; omega
    | succ q ih =>
      intro m w1 f2 x4 x5 h1 hs h80 h81 ef
      have h721 := (hs.2 72 (by omega)).trans h72
      have h731 := (hs.2 73 (by omega)).trans h73
      have hih := ih (m + 1)
      have efm := ef (m : Int) (by omega) (by omega)
      rw [if_neg (by omega)] at efm
      have hfm := hf (m : Int) (by omega) (by omega)
      have hhm := hh0 (m : Int) (by omega) (by omega)
      have hgm := zgn_b (W := zwy N way) (k := (m : Int)) (x := f (m : Int)) hO hr
      have ehm := eh (m : Int) (by omega) (by omega)
      have hsk := hO.2.2.2.2.1 (m : Int) (by omega) (by omega)
      have J141 : ∀ (v : Int), f (m : Int) - v = (if h2 (m : Int) < N (84 + (m : Int)) ∧ 0 < f (m : Int) then f (m : Int) - 1 else f (m : Int)) → zRuns g d mX8_anHour 0 0 141 [some (zR g 72), some (zI way), some (zI r), some (zI (m : Int)), x4, x5] [zI v, zI (f (m : Int)), zI (m : Int), zR g 80] w1 K := by
        intro v ev
        refine q_isub (pc := 141) dX8_anHour_141 ?_
        refine q_iastore (pc := 142) dX8_anHour_142 (by assumption) (by omega) ?_
        refine q_iinc (pc := 143) [some _, some _, some _, some _, _, _] dX8_anHour_143 rfl rfl rfl ?_
        refine q_goto (pc := 146) 92 dX8_anHour_146 rfl ?_
        refine hih _ _ _ _ (by omega) (hs.tr (zSame.up (by omega))) zup_at ((zup_ne (by decide)).trans h81) (fun k a b => ?_)
        simp only [zfu]
        by_cases e : k = (m : Int)
        · subst e; rw [if_pos rfl, if_pos (by omega)]; exact ev
        · rw [if_neg e, ef k a b]; by_cases y : k < (m : Int)
          · rw [if_pos y, if_pos (show k < ((m + 1 : Nat) : Int) by omega)]
          · rw [if_neg y, if_neg (show ¬ k < ((m + 1 : Nat) : Int) by omega)]
      refine q_iload_n (pc := 92) dX8_anHour_92 rfl ?_
      refine q_aload_n (pc := 93) dX8_anHour_93 rfl rfl ?_
      refine q_getfield (pc := 94) gf_X8_7 dX8_anHour_94 (by assumption) rfl ?_
      refine q_iconst (pc := 97) dX8_anHour_97 ?_
      refine q_iaload (pc := 98) dX8_anHour_98 (by assumption) (by omega) ?_
      refine q_icmp_ge (pc := 99) (by omega) (by omega) 149 dX8_anHour_99 rfl (fun c99 => ?_) (fun c99 => ?_)
      · exfalso; omega
      refine q_aload_n (pc := 102) dX8_anHour_102 rfl rfl ?_
      refine q_getfield (pc := 103) gf_X8_35 dX8_anHour_103 (by assumption) rfl ?_
      refine q_iload_n (pc := 106) dX8_anHour_106 rfl ?_
      refine q_dup2 (pc := 107) rfl rfl dX8_anHour_107 ?_
      refine q_iaload (pc := 108) dX8_anHour_108 (by assumption) (by omega) ?_
      rw [efm]
      refine q_aload_n (pc := 109) dX8_anHour_109 rfl rfl ?_
      refine q_getfield (pc := 110) gf_X8_38 dX8_anHour_110 (by assumption) rfl ?_
      refine q_iload_n (pc := 113) dX8_anHour_113 rfl ?_
      refine q_iaload (pc := 114) dX8_anHour_114 (by assumption) (by omega) ?_
      refine q_aload_n (pc := 115) dX8_anHour_115 rfl rfl ?_
      refine q_getfield (pc := 116) gf_X8_7 dX8_anHour_116 (by assumption) rfl ?_
      refine q_bipush (pc := 119) (by decide) dX8_anHour_119 ?_
      refine q_iload_n (pc := 121) dX8_anHour_121 rfl ?_
      refine q_iadd (pc := 122) dX8_anHour_122 ?_
      refine q_iaload (pc := 123) dX8_anHour_123 (by assumption) (by omega) ?_
      refine q_icmp_ge (pc := 124) (by omega) (by omega) 140 dX8_anHour_124 rfl (fun c124 => ?_) (fun c124 => ?_)
      · refine q_iconst (pc := 140) dX8_anHour_140 ?_
        first | exact J141 _ (by rw [if_pos (by omega)]) | exact J141 _ (by rw [if_neg (by omega)]; omega)
      refine q_aload_n (pc := 127) dX8_anHour_127 rfl rfl ?_
      refine q_getfield (pc := 128) gf_X8_35 dX8_anHour_128 (by assumption) rfl ?_
      refine q_iload_n (pc := 131) dX8_anHour_131 rfl ?_
      refine q_iaload (pc := 132) dX8_anHour_132 (by assumption) (by omega) ?_
      rw [efm]
      refine q_if_le (pc := 133) (by omega) 140 dX8_anHour_133 rfl (fun c133 => ?_) (fun c133 => ?_)
      · refine q_iconst (pc := 140) dX8_anHour_140 ?_
        first | exact J141 _ (by rw [if_pos (by omega)]) | exact J141 _ (by rw [if_neg (by omega)]; omega)
      refine q_iconst (pc := 136) dX8_anHour_136 ?_
      refine q_goto (pc := 137) 141 dX8_anHour_137 rfl ?_
      first | exact J141 _ (by rw [if_pos (by omega)]) | exact J141 _ (by rw [if_neg (by omega)]; omega)
  have L1 : ∀ (q m : Nat) (w1 : zWd) (h2 : Int → Int) (x4 x5 : Option Value), (m : Int) + (q : Int) = N 1 → zSame w w1 81 1 → w1.1 81 = some (.inr (false, 4, h2)) → (∀ k, 0 ≤ k → k < N 2 → h2 k = h k + zsg (zgt N (zwy N way) r k (f k)) m 0) → zRuns g d mX8_anHour 0 0 2 [some (zR g 72), some (zI way), some (zI r), some (zI (m : Int)), x4, x5] [] w1 K := by
    intro q
    induction q with
    | zero =>
      intro m w1 h2 x4 x5 h1 hs h81 eh
      have e : m = (N 1).toNat := by omega
      subst e
      have h721 := (hs.2 72 (by omega)).trans h72
      have h731 := (hs.2 73 (by omega)).trans h73
      have h801 := (hs.2 80 (by omega)).trans h80
      refine q_iload_n (pc := 2) dX8_anHour_2 rfl ?_
      refine q_aload_n (pc := 3) dX8_anHour_3 rfl rfl ?_
      refine q_getfield (pc := 4) gf_X8_7 dX8_anHour_4 (by assumption) rfl ?_
      refine q_iconst (pc := 7) dX8_anHour_7 ?_
      refine q_iaload (pc := 8) dX8_anHour_8 (by assumption) (by omega) ?_
      refine q_icmp_ge (pc := 9) (by omega) (by omega) 90 dX8_anHour_9 rfl (fun c9 => ?_) (fun c9 => ?_)
      · refine q_iconst (pc := 90) dX8_anHour_90 ?_
        refine q_istore_n (pc := 91) [some _, some _, some _, some _, _, _] dX8_anHour_91 rfl (Nat.le_of_ble_eq_true rfl) rfl ?_
        exact L2 h2 eh (N 2).toNat 0 _ f _ _ (by omega) (hs.wide (by omega) (by omega)) h801 h81 (fun k a b => by rw [if_neg (by omega)])
      exfalso; omega
    | succ q ih =>
      intro m w1 h2 x4 x5 h1 hs h81 eh
      have h721 := (hs.2 72 (by omega)).trans h72
      have h731 := (hs.2 73 (by omega)).trans h73
      have h801 := (hs.2 80 (by omega)).trans h80
      have hih := fun w1 h2 x4 x5 => ih (m + 1) w1 h2 x4 x5 (by omega)
      have hwb := zwy_b (N := N) (i := way) (c := (m : Int)) hn2
      have hl := hO.2.2.2.1 (m : Int) (by omega) (by omega)
      have hfb := zfar_b (kind := N (68 + (m : Int))) (a := N (74 + (m : Int))) (r := r) (v := N 4) (by omega) (by omega) (by omega)
      have hft := hf (zwy N way (m : Int)) hwb.1 hwb.2
      generalize hk0 : zwy N way (m : Int) = k0 at hwb hft
      have J82 : ∀ (v : Int) (x5 : Option Value), v = (if 0 < f k0 ∧ f k0 ≤ zfar (N (68 + (m : Int))) (N (74 + (m : Int))) r (N 4) then zhits (N (68 + (m : Int))) r else 0) → zRuns g d mX8_anHour 0 0 82 [some (zR g 72), some (zI way), some (zI r), some (zI (m : Int)), some (zI k0), x5] [zI v, zI (h2 k0), zI k0, zR g 81] w1 K := by
        intro v x5 ev
        refine q_iadd (pc := 82) dX8_anHour_82 ?_
        refine q_iastore (pc := 83) dX8_anHour_83 (by assumption) (by omega) ?_
        refine q_iinc (pc := 84) [some _, some _, some _, some _, some _, _] dX8_anHour_84 rfl rfl rfl ?_
        refine q_goto (pc := 87) 2 dX8_anHour_87 rfl ?_
        refine hih _ _ _ _ (hs.tr (zSame.up (by omega))) zup_at (fun k a b => ?_)
        rw [zsg, Int.zero_add]
        simp only [zfu]
        by_cases e : k = k0
        · subst e; rw [if_pos rfl, eh k a b, ev]; show _ = h k + (zsg (zgt N (zwy N way) r k (f k)) m 0 + (if zwy N way (m : Int) = k ∧ (0 < f k ∧ f k ≤ zfar (N (68 + (m : Int))) (N (74 + (m : Int))) r (N 4)) then zhits (N (68 + (m : Int))) r else 0)); rw [hk0, zif_and rfl]; omega
        · rw [if_neg e, eh k a b]; show _ = h k + (zsg (zgt N (zwy N way) r k (f k)) m 0 + (if zwy N way (m : Int) = k ∧ (0 < f k ∧ f k ≤ zfar (N (68 + (m : Int))) (N (74 + (m : Int))) r (N 4)) then zhits (N (68 + (m : Int))) r else 0)); rw [hk0, if_neg (fun z => e z.1.symm)]; omega
      have J57 : zRuns g d mX8_anHour 0 0 57 [some (zR g 72), some (zI way), some (zI r), some (zI (m : Int)), some (zI k0), x5] [zI (zb (0 < f k0 ∧ f k0 ≤ zfar (N (68 + (m : Int))) (N (74 + (m : Int))) r (N 4)))] w1 K := by
        refine q_istore (pc := 57) [some _, some _, some _, some _, some _, some _] dX8_anHour_57 rfl (Nat.le_of_ble_eq_true rfl) rfl ?_
        refine q_aload_n (pc := 59) dX8_anHour_59 rfl rfl ?_
        refine q_getfield (pc := 60) gf_X8_38 dX8_anHour_60 (by assumption) rfl ?_
        refine q_iload (pc := 63) dX8_anHour_63 rfl ?_
        refine q_dup2 (pc := 65) rfl rfl dX8_anHour_65 ?_
        refine q_iaload (pc := 66) dX8_anHour_66 (by assumption) (by omega) ?_
        refine q_iload (pc := 67) dX8_anHour_67 rfl ?_
        refine q_ifb_eq (pc := 69) 81 dX8_anHour_69 rfl (fun c69 => ?_) (fun c69 => ?_)
        · refine q_iconst (pc := 81) dX8_anHour_81 ?_
          first | exact J82 _ _ (by rw [if_pos c69]) | exact J82 _ _ (by rw [if_neg c69])
        refine q_aload_n (pc := 72) dX8_anHour_72 rfl rfl ?_
        refine q_iload_n (pc := 73) dX8_anHour_73 rfl ?_
        refine q_iload_n (pc := 74) dX8_anHour_74 rfl ?_
        refine q_invokevirtual (pc := 75) (d' := d - 1) (mc' := 0) (ms' := 0) (As := [_, _]) (TX8, 26) cl_X8_236 dX8_anHour_75 rfl rfl (by assumption) rfl (by omega) rfl 0 0 (Nat.le_refl 0) (Nat.le_refl 0) ?_
        refine c_X8_hitsOf (by omega) h721 h731 hO (by omega) hr ?_
        refine q_goto (pc := 78) 82 dX8_anHour_78 rfl ?_
        first | exact J82 _ _ (by rw [if_pos c69]) | exact J82 _ _ (by rw [if_neg c69])
      refine q_iload_n (pc := 2) dX8_anHour_2 rfl ?_
      refine q_aload_n (pc := 3) dX8_anHour_3 rfl rfl ?_
      refine q_getfield (pc := 4) gf_X8_7 dX8_anHour_4 (by assumption) rfl ?_
      refine q_iconst (pc := 7) dX8_anHour_7 ?_
      refine q_iaload (pc := 8) dX8_anHour_8 (by assumption) (by omega) ?_
      refine q_icmp_ge (pc := 9) (by omega) (by omega) 90 dX8_anHour_9 rfl (fun c9 => ?_) (fun c9 => ?_)
      · exfalso; omega
      refine q_aload_n (pc := 12) dX8_anHour_12 rfl rfl ?_
      refine q_iload_n (pc := 13) dX8_anHour_13 rfl ?_
      refine q_iload_n (pc := 14) dX8_anHour_14 rfl ?_
      refine q_invokevirtual (pc := 15) (d' := d - 1) (mc' := 0) (ms' := 0) (As := [_, _]) (TX8, 26) cl_X8_258 dX8_anHour_15 rfl rfl (by assumption) rfl (by omega) rfl 0 0 (Nat.le_refl 0) (Nat.le_refl 0) ?_
      refine c_X8_cloudOf h721 h731 hO hn2 hw (by omega) ?_
      rw [hk0]
      refine q_istore (pc := 18) [some _, some _, some _, some _, some _, _] dX8_anHour_18 rfl (Nat.le_of_ble_eq_true rfl) rfl ?_
      refine q_aload_n (pc := 20) dX8_anHour_20 rfl rfl ?_
      refine q_getfield (pc := 21) gf_X8_35 dX8_anHour_21 (by assumption) rfl ?_
      refine q_iload (pc := 24) dX8_anHour_24 rfl ?_
      refine q_iaload (pc := 26) dX8_anHour_26 (by assumption) (by omega) ?_
      refine q_if_le (pc := 27) (by omega) 56 dX8_anHour_27 rfl (fun c27 => ?_) (fun c27 => ?_)
      · refine q_iconst (pc := 56) dX8_anHour_56 ?_
        first | (have h9 := J57; rw [zb_t (show 0 < f k0 ∧ f k0 ≤ zfar (N (68 + (m : Int))) (N (74 + (m : Int))) r (N 4) by omega)] at h9; exact h9) | (have h9 := J57; rw [zb_f (show ¬ (0 < f k0 ∧ f k0 ≤ zfar (N (68 + (m : Int))) (N (74 + (m : Int))) r (N 4)) by omega)] at h9; exact h9)
      refine q_aload_n (pc := 30) dX8_anHour_30 rfl rfl ?_
      refine q_getfield (pc := 31) gf_X8_35 dX8_anHour_31 (by assumption) rfl ?_
      refine q_iload (pc := 34) dX8_anHour_34 rfl ?_
      refine q_iaload (pc := 36) dX8_anHour_36 (by assumption) (by omega) ?_
      refine q_aload_n (pc := 37) dX8_anHour_37 rfl rfl ?_
      refine q_iload_n (pc := 38) dX8_anHour_38 rfl ?_
      refine q_iload_n (pc := 39) dX8_anHour_39 rfl ?_
      refine q_aload_n (pc := 40) dX8_anHour_40 rfl rfl ?_
      refine q_getfield (pc := 41) gf_X8_7 dX8_anHour_41 (by assumption) rfl ?_
      refine q_iconst (pc := 44) dX8_anHour_44 ?_
      refine q_iaload (pc := 45) dX8_anHour_45 (by assumption) (by omega) ?_
      refine q_invokevirtual (pc := 46) (d' := d - 1) (mc' := 0) (ms' := 0) (As := [_, _, _]) (TX8, 26) cl_X8_79 dX8_anHour_46 rfl rfl (by assumption) rfl (by omega) rfl 0 0 (Nat.le_refl 0) (Nat.le_refl 0) ?_
      refine c_X8_farOf (by omega) h721 h731 hO (by omega) hr (by omega) ?_
      refine q_icmp_gt (pc := 49) (by omega) (by omega) 56 dX8_anHour_49 rfl (fun c49 => ?_) (fun c49 => ?_)
      · refine q_iconst (pc := 56) dX8_anHour_56 ?_
        first | (have h9 := J57; rw [zb_t (show 0 < f k0 ∧ f k0 ≤ zfar (N (68 + (m : Int))) (N (74 + (m : Int))) r (N 4) by omega)] at h9; exact h9) | (have h9 := J57; rw [zb_f (show ¬ (0 < f k0 ∧ f k0 ≤ zfar (N (68 + (m : Int))) (N (74 + (m : Int))) r (N 4)) by omega)] at h9; exact h9)
      refine q_iconst (pc := 52) dX8_anHour_52 ?_
      refine q_goto (pc := 53) 57 dX8_anHour_53 rfl ?_
      first | (have h9 := J57; rw [zb_t (show 0 < f k0 ∧ f k0 ≤ zfar (N (68 + (m : Int))) (N (74 + (m : Int))) r (N 4) by omega)] at h9; exact h9) | (have h9 := J57; rw [zb_f (show ¬ (0 < f k0 ∧ f k0 ≤ zfar (N (68 + (m : Int))) (N (74 + (m : Int))) r (N 4)) by omega)] at h9; exact h9)
  refine zenter [some _, some _, some _, none, none, none] pn_X8 rfl (Nat.le_of_ble_eq_true rfl) ?_
  refine q_iconst (pc := 0) dX8_anHour_0 ?_
  refine q_istore_n (pc := 1) [some _, some _, some _, some _, none, none] dX8_anHour_1 rfl (Nat.le_of_ble_eq_true rfl) rfl ?_
  exact L1 (N 1).toNat 0 _ h _ _ (by omega) zSame.rf h81 (fun k a b => by rw [zsg]; omega)
set_option maxRecDepth 100000 in
set_option maxHeartbeats 8000000 in
theorem c_X8_turnedBy {way r : Int} {f0 h0 : Int → Int} {N : Int → Int} {ab be u len p0 p1 p2 p3 p4 it sm : Int} (hd : 5 ≤ d) (h72 : w.1 72 = some (zMO g ab be u len p0 p1 p2 p3 p4 it sm)) (h73 : w.1 73 = some (.inr (false, 168, N))) (h80 : w.1 80 = some (.inr (false, 4, f0))) (h81 : w.1 81 = some (.inr (false, 4, h0))) (hO : zOK N) (hn2 : 1 ≤ N 2) (hw : 0 ≤ way ∧ way ≤ 5000) (hr : 1 ≤ r ∧ r ≤ 9) (k : ∀ w' f h, zSame w w' 80 2 → w'.1 80 = some (.inr (false, 4, f)) → w'.1 81 = some (.inr (false, 4, h)) → K (some (zI (zTc N r (zwy N way)))) w') : zCall g d 0 0 mX8_turnedBy [zR g 72, zI way, zI r] w K := by
  have hh := hO.1
  unfold zTc at k
  have L3 : ∀ (w1 : zWd) (f h : Int → Int), zSame w w1 80 2 → w1.1 80 = some (.inr (false, 4, f)) → w1.1 81 = some (.inr (false, 4, h)) → zSk N (zwy N way) r 30 f h → ∀ (q m : Nat), (m : Int) + (q : Int) = N 2 → zRuns g d mX8_turnedBy 0 0 73 [some (zR g 72), some (zI way), some (zI r), some (zI (zsg (fun q => zb (zopn N (zhw N r) (zwy N way) q ≤ 0)) m 0)), some (zI (m : Int))] [] w1 K := by
    intro w1 f h hs h80 h81 hI q
    have h721 := (hs.2 72 (by omega)).trans h72
    have h731 := (hs.2 73 (by omega)).trans h73
    induction q with
    | zero =>
      intro m h1
      have e : m = (N 2).toNat := by omega
      refine q_iload (pc := 73) dX8_turnedBy_73 rfl ?_
      refine q_aload_n (pc := 75) dX8_turnedBy_75 rfl rfl ?_
      refine q_getfield (pc := 76) gf_X8_7 dX8_turnedBy_76 (by assumption) rfl ?_
      refine q_iconst (pc := 79) dX8_turnedBy_79 ?_
      refine q_iaload (pc := 80) dX8_turnedBy_80 (by assumption) (by omega) ?_
      refine q_icmp_ge (pc := 81) (by omega) (by omega) 118 dX8_turnedBy_81 rfl (fun c81 => ?_) (fun c81 => ?_)
      · refine q_iload_n (pc := 118) dX8_turnedBy_118 rfl ?_
        refine q_ireturn (pc := 119) dX8_turnedBy_119 rfl ?_
        rw [e]; exact k _ _ _ hs h80 h81
      exfalso; omega
    | succ q ih =>
      intro m h1
      have hih := ih (m + 1) (by omega)
      have he := zSk_e (k := (m : Int)) hO hr hI (by omega)
      have hb := hI (m : Int) (by omega) (by omega)
      have hsk := hO.2.2.2.2.1 (m : Int) (by omega) (by omega)
      rw [zsg, Int.zero_add] at hih
      refine q_iload (pc := 73) dX8_turnedBy_73 rfl ?_
      refine q_aload_n (pc := 75) dX8_turnedBy_75 rfl rfl ?_
      refine q_getfield (pc := 76) gf_X8_7 dX8_turnedBy_76 (by assumption) rfl ?_
      refine q_iconst (pc := 79) dX8_turnedBy_79 ?_
      refine q_iaload (pc := 80) dX8_turnedBy_80 (by assumption) (by omega) ?_
      refine q_icmp_ge (pc := 81) (by omega) (by omega) 118 dX8_turnedBy_81 rfl (fun c81 => ?_) (fun c81 => ?_)
      · exfalso; omega
      refine q_iload_n (pc := 84) dX8_turnedBy_84 rfl ?_
      refine q_aload_n (pc := 85) dX8_turnedBy_85 rfl rfl ?_
      refine q_getfield (pc := 86) gf_X8_38 dX8_turnedBy_86 (by assumption) rfl ?_
      refine q_iload (pc := 89) dX8_turnedBy_89 rfl ?_
      refine q_iaload (pc := 91) dX8_turnedBy_91 (by assumption) (by omega) ?_
      refine q_aload_n (pc := 92) dX8_turnedBy_92 rfl rfl ?_
      refine q_getfield (pc := 93) gf_X8_7 dX8_turnedBy_93 (by assumption) rfl ?_
      refine q_bipush (pc := 96) (by decide) dX8_turnedBy_96 ?_
      refine q_iload (pc := 98) dX8_turnedBy_98 rfl ?_
      refine q_iadd (pc := 100) dX8_turnedBy_100 ?_
      refine q_iaload (pc := 101) dX8_turnedBy_101 (by assumption) (by omega) ?_
      refine q_icmp_lt (pc := 102) (by omega) (by omega) 109 dX8_turnedBy_102 rfl (fun c102 => ?_) (fun c102 => ?_)
      · refine q_iconst (pc := 109) dX8_turnedBy_109 ?_
        refine q_iadd (pc := 110) dX8_turnedBy_110 ?_
        refine q_istore_n (pc := 111) [some _, some _, some _, some _, some _] dX8_turnedBy_111 rfl (Nat.le_of_ble_eq_true rfl) rfl ?_
        refine q_iinc (pc := 112) [some _, some _, some _, some _, some _] dX8_turnedBy_112 rfl rfl rfl ?_
        refine q_goto (pc := 115) 73 dX8_turnedBy_115 rfl ?_
        first | (rw [zb_t (he.mp (by omega))] at hih; exact hih) | (rw [zb_f (fun z => by have h9 := he.mpr z; omega)] at hih; exact hih)
      refine q_iconst (pc := 105) dX8_turnedBy_105 ?_
      refine q_goto (pc := 106) 110 dX8_turnedBy_106 rfl ?_
      refine q_iadd (pc := 110) dX8_turnedBy_110 ?_
      refine q_istore_n (pc := 111) [some _, some _, some _, some _, some _] dX8_turnedBy_111 rfl (Nat.le_of_ble_eq_true rfl) rfl ?_
      refine q_iinc (pc := 112) [some _, some _, some _, some _, some _] dX8_turnedBy_112 rfl rfl rfl ?_
      refine q_goto (pc := 115) 73 dX8_turnedBy_115 rfl ?_
      first | (rw [zb_t (he.mp (by omega))] at hih; exact hih) | (rw [zb_f (fun z => by have h9 := he.mpr z; omega)] at hih; exact hih)
  have L2 : ∀ (q n : Nat) (w1 : zWd) (f h : Int → Int), n + q = 30 → zSame w w1 80 2 → w1.1 80 = some (.inr (false, 4, f)) → w1.1 81 = some (.inr (false, 4, h)) → zSk N (zwy N way) r n f h → zRuns g d mX8_turnedBy 0 0 50 [some (zR g 72), some (zI way), some (zI r), some (zI (n : Int)), none] [] w1 K := by
    intro q
    induction q with
    | zero =>
      intro n w1 f h h1 hs h80 h81 hI
      obtain rfl : n = 30 := by omega
      refine q_iload_n (pc := 50) dX8_turnedBy_50 rfl ?_
      refine q_bipush (pc := 51) (by decide) dX8_turnedBy_51 ?_
      refine q_icmp_ge (pc := 53) (by omega) (by omega) 68 dX8_turnedBy_53 rfl (fun c53 => ?_) (fun c53 => ?_)
      · refine q_iconst (pc := 68) dX8_turnedBy_68 ?_
        refine q_istore_n (pc := 69) [some _, some _, some _, some _, none] dX8_turnedBy_69 rfl (Nat.le_of_ble_eq_true rfl) rfl ?_
        refine q_iconst (pc := 70) dX8_turnedBy_70 ?_
        refine q_istore (pc := 71) [some _, some _, some _, some _, some _] dX8_turnedBy_71 rfl (Nat.le_of_ble_eq_true rfl) rfl ?_
        exact L3 _ f h hs h80 h81 hI (N 2).toNat 0 (by omega)
      exfalso; omega
    | succ q ih =>
      intro n w1 f h h1 hs h80 h81 hI
      have h721 := (hs.2 72 (by omega)).trans h72
      have h731 := (hs.2 73 (by omega)).trans h73
      have hih := ih (n + 1)
      refine q_iload_n (pc := 50) dX8_turnedBy_50 rfl ?_
      refine q_bipush (pc := 51) (by decide) dX8_turnedBy_51 ?_
      refine q_icmp_ge (pc := 53) (by omega) (by omega) 68 dX8_turnedBy_53 rfl (fun c53 => ?_) (fun c53 => ?_)
      · exfalso; omega
      refine q_aload_n (pc := 56) dX8_turnedBy_56 rfl rfl ?_
      refine q_iload_n (pc := 57) dX8_turnedBy_57 rfl ?_
      refine q_iload_n (pc := 58) dX8_turnedBy_58 rfl ?_
      refine q_invokevirtual (pc := 59) (d' := d - 1) (mc' := 0) (ms' := 0) (As := [_, _]) (TX8, 26) cl_X8_261 dX8_turnedBy_59 rfl rfl (by assumption) rfl (by omega) rfl 0 0 (Nat.le_refl 0) (Nat.le_refl 0) ?_
      refine c_X8_anHour (B := 40 + 60 * (n : Int)) (by omega) h721 h731 h80 h81 hO hn2 hw hr (fun k a b => (hI k a b).1) (fun k a b => (hI k a b).2.1) (by omega) (fun w2 f2 h2 hs2 h802 h812 e2 => ?_)
      refine q_iinc (pc := 62) [some _, some _, some _, some _, none] dX8_turnedBy_62 rfl rfl rfl ?_
      refine q_goto (pc := 65) 50 dX8_turnedBy_65 rfl ?_
      exact hih _ f2 h2 (by omega) (hs.tr hs2) h802 h812 (zSk_s hO hr hI e2)
  have L1 : ∀ (q m : Nat) (w1 : zWd) (f h : Int → Int), (m : Int) + (q : Int) = N 2 → zSame w w1 80 2 → w1.1 80 = some (.inr (false, 4, f)) → w1.1 81 = some (.inr (false, 4, h)) → (∀ k, 0 ≤ k → k < (m : Int) → f k = N (80 + k) ∧ h k = N (88 + k)) → zRuns g d mX8_turnedBy 0 0 2 [some (zR g 72), some (zI way), some (zI r), some (zI (m : Int)), none] [] w1 K := by
    intro q
    induction q with
    | zero =>
      intro m w1 f h h1 hs h80 h81 e
      have h721 := (hs.2 72 (by omega)).trans h72
      have h731 := (hs.2 73 (by omega)).trans h73
      refine q_iload_n (pc := 2) dX8_turnedBy_2 rfl ?_
      refine q_aload_n (pc := 3) dX8_turnedBy_3 rfl rfl ?_
      refine q_getfield (pc := 4) gf_X8_7 dX8_turnedBy_4 (by assumption) rfl ?_
      refine q_iconst (pc := 7) dX8_turnedBy_7 ?_
      refine q_iaload (pc := 8) dX8_turnedBy_8 (by assumption) (by omega) ?_
      refine q_icmp_ge (pc := 9) (by omega) (by omega) 48 dX8_turnedBy_9 rfl (fun c9 => ?_) (fun c9 => ?_)
      · refine q_iconst (pc := 48) dX8_turnedBy_48 ?_
        refine q_istore_n (pc := 49) [some _, some _, some _, some _, none] dX8_turnedBy_49 rfl (Nat.le_of_ble_eq_true rfl) rfl ?_
        refine L2 30 0 _ f h (by omega) hs h80 h81 (fun k a b => ?_)
        have hsk := hO.2.2.2.2.1 k a b
        have hG := zGG_b (W := zwy N way) (k := k) (x := N (80 + k)) hO hr (by omega)
        obtain ⟨e1, e2⟩ := e k a (by omega)
        rw [e1, e2]
        exact ⟨by omega, by omega, by omega⟩
      exfalso; omega
    | succ q ih =>
      intro m w1 f h h1 hs h80 h81 e
      have h721 := (hs.2 72 (by omega)).trans h72
      have h731 := (hs.2 73 (by omega)).trans h73
      have hih := ih (m + 1)
      refine q_iload_n (pc := 2) dX8_turnedBy_2 rfl ?_
      refine q_aload_n (pc := 3) dX8_turnedBy_3 rfl rfl ?_
      refine q_getfield (pc := 4) gf_X8_7 dX8_turnedBy_4 (by first | assumption | exact zup_at | exact (zup_ne (by decide)).trans (zup_at) | exact (zup_ne (by decide)).trans (by assumption) | exact (zup_ne (by decide)).trans ((zup_ne (by decide)).trans (zup_at)) | exact (zup_ne (by decide)).trans ((zup_ne (by decide)).trans (by assumption)) | exact (zup_ne (by decide)).trans ((zup_ne (by decide)).trans ((zup_ne (by decide)).trans (zup_at))) | exact (zup_ne (by decide)).trans ((zup_ne (by decide)).trans ((zup_ne (by decide)).trans (by assumption))) | exact (zup_ne (by decide)).trans ((zup_ne (by decide)).trans ((zup_ne (by decide)).trans ((zup_ne (by decide)).trans (zup_at)))) | exact (zup_ne (by decide)).trans ((zup_ne (by decide)).trans ((zup_ne (by decide)).trans ((zup_ne (by decide)).trans (by assumption)))) | exact (zup_ne (by decide)).trans ((zup_ne (by decide)).trans ((zup_ne (by decide)).trans ((zup_ne (by decide)).trans ((zup_ne (by decide)).trans (zup_at))))) | exact (zup_ne (by decide)).trans ((zup_ne (by decide)).trans ((zup_ne (by decide)).trans ((zup_ne (by decide)).trans ((zup_ne (by decide)).trans (by assumption)))))) rfl ?_
      refine q_iconst (pc := 7) dX8_turnedBy_7 ?_
      refine q_iaload (pc := 8) dX8_turnedBy_8 (by first | assumption | exact zup_at | exact (zup_ne (by decide)).trans (zup_at) | exact (zup_ne (by decide)).trans (by assumption) | exact (zup_ne (by decide)).trans ((zup_ne (by decide)).trans (zup_at)) | exact (zup_ne (by decide)).trans ((zup_ne (by decide)).trans (by assumption)) | exact (zup_ne (by decide)).trans ((zup_ne (by decide)).trans ((zup_ne (by decide)).trans (zup_at))) | exact (zup_ne (by decide)).trans ((zup_ne (by decide)).trans ((zup_ne (by decide)).trans (by assumption))) | exact (zup_ne (by decide)).trans ((zup_ne (by decide)).trans ((zup_ne (by decide)).trans ((zup_ne (by decide)).trans (zup_at)))) | exact (zup_ne (by decide)).trans ((zup_ne (by decide)).trans ((zup_ne (by decide)).trans ((zup_ne (by decide)).trans (by assumption)))) | exact (zup_ne (by decide)).trans ((zup_ne (by decide)).trans ((zup_ne (by decide)).trans ((zup_ne (by decide)).trans ((zup_ne (by decide)).trans (zup_at))))) | exact (zup_ne (by decide)).trans ((zup_ne (by decide)).trans ((zup_ne (by decide)).trans ((zup_ne (by decide)).trans ((zup_ne (by decide)).trans (by assumption)))))) (by omega) ?_
      refine q_icmp_ge (pc := 9) (by omega) (by omega) 48 dX8_turnedBy_9 rfl (fun c9 => ?_) (fun c9 => ?_)
      · exfalso; omega
      refine q_aload_n (pc := 12) dX8_turnedBy_12 rfl rfl ?_
      refine q_getfield (pc := 13) gf_X8_35 dX8_turnedBy_13 (by first | assumption | exact zup_at | exact (zup_ne (by decide)).trans (zup_at) | exact (zup_ne (by decide)).trans (by assumption) | exact (zup_ne (by decide)).trans ((zup_ne (by decide)).trans (zup_at)) | exact (zup_ne (by decide)).trans ((zup_ne (by decide)).trans (by assumption)) | exact (zup_ne (by decide)).trans ((zup_ne (by decide)).trans ((zup_ne (by decide)).trans (zup_at))) | exact (zup_ne (by decide)).trans ((zup_ne (by decide)).trans ((zup_ne (by decide)).trans (by assumption))) | exact (zup_ne (by decide)).trans ((zup_ne (by decide)).trans ((zup_ne (by decide)).trans ((zup_ne (by decide)).trans (zup_at)))) | exact (zup_ne (by decide)).trans ((zup_ne (by decide)).trans ((zup_ne (by decide)).trans ((zup_ne (by decide)).trans (by assumption)))) | exact (zup_ne (by decide)).trans ((zup_ne (by decide)).trans ((zup_ne (by decide)).trans ((zup_ne (by decide)).trans ((zup_ne (by decide)).trans (zup_at))))) | exact (zup_ne (by decide)).trans ((zup_ne (by decide)).trans ((zup_ne (by decide)).trans ((zup_ne (by decide)).trans ((zup_ne (by decide)).trans (by assumption)))))) rfl ?_
      refine q_iload_n (pc := 16) dX8_turnedBy_16 rfl ?_
      refine q_aload_n (pc := 17) dX8_turnedBy_17 rfl rfl ?_
      refine q_getfield (pc := 18) gf_X8_7 dX8_turnedBy_18 (by first | assumption | exact zup_at | exact (zup_ne (by decide)).trans (zup_at) | exact (zup_ne (by decide)).trans (by assumption) | exact (zup_ne (by decide)).trans ((zup_ne (by decide)).trans (zup_at)) | exact (zup_ne (by decide)).trans ((zup_ne (by decide)).trans (by assumption)) | exact (zup_ne (by decide)).trans ((zup_ne (by decide)).trans ((zup_ne (by decide)).trans (zup_at))) | exact (zup_ne (by decide)).trans ((zup_ne (by decide)).trans ((zup_ne (by decide)).trans (by assumption))) | exact (zup_ne (by decide)).trans ((zup_ne (by decide)).trans ((zup_ne (by decide)).trans ((zup_ne (by decide)).trans (zup_at)))) | exact (zup_ne (by decide)).trans ((zup_ne (by decide)).trans ((zup_ne (by decide)).trans ((zup_ne (by decide)).trans (by assumption)))) | exact (zup_ne (by decide)).trans ((zup_ne (by decide)).trans ((zup_ne (by decide)).trans ((zup_ne (by decide)).trans ((zup_ne (by decide)).trans (zup_at))))) | exact (zup_ne (by decide)).trans ((zup_ne (by decide)).trans ((zup_ne (by decide)).trans ((zup_ne (by decide)).trans ((zup_ne (by decide)).trans (by assumption)))))) rfl ?_
      refine q_bipush (pc := 21) (by decide) dX8_turnedBy_21 ?_
      refine q_iload_n (pc := 23) dX8_turnedBy_23 rfl ?_
      refine q_iadd (pc := 24) dX8_turnedBy_24 ?_
      refine q_iaload (pc := 25) dX8_turnedBy_25 (by first | assumption | exact zup_at | exact (zup_ne (by decide)).trans (zup_at) | exact (zup_ne (by decide)).trans (by assumption) | exact (zup_ne (by decide)).trans ((zup_ne (by decide)).trans (zup_at)) | exact (zup_ne (by decide)).trans ((zup_ne (by decide)).trans (by assumption)) | exact (zup_ne (by decide)).trans ((zup_ne (by decide)).trans ((zup_ne (by decide)).trans (zup_at))) | exact (zup_ne (by decide)).trans ((zup_ne (by decide)).trans ((zup_ne (by decide)).trans (by assumption))) | exact (zup_ne (by decide)).trans ((zup_ne (by decide)).trans ((zup_ne (by decide)).trans ((zup_ne (by decide)).trans (zup_at)))) | exact (zup_ne (by decide)).trans ((zup_ne (by decide)).trans ((zup_ne (by decide)).trans ((zup_ne (by decide)).trans (by assumption)))) | exact (zup_ne (by decide)).trans ((zup_ne (by decide)).trans ((zup_ne (by decide)).trans ((zup_ne (by decide)).trans ((zup_ne (by decide)).trans (zup_at))))) | exact (zup_ne (by decide)).trans ((zup_ne (by decide)).trans ((zup_ne (by decide)).trans ((zup_ne (by decide)).trans ((zup_ne (by decide)).trans (by assumption)))))) (by omega) ?_
      refine q_iastore (pc := 26) dX8_turnedBy_26 (by first | assumption | exact zup_at | exact (zup_ne (by decide)).trans (zup_at) | exact (zup_ne (by decide)).trans (by assumption) | exact (zup_ne (by decide)).trans ((zup_ne (by decide)).trans (zup_at)) | exact (zup_ne (by decide)).trans ((zup_ne (by decide)).trans (by assumption)) | exact (zup_ne (by decide)).trans ((zup_ne (by decide)).trans ((zup_ne (by decide)).trans (zup_at))) | exact (zup_ne (by decide)).trans ((zup_ne (by decide)).trans ((zup_ne (by decide)).trans (by assumption))) | exact (zup_ne (by decide)).trans ((zup_ne (by decide)).trans ((zup_ne (by decide)).trans ((zup_ne (by decide)).trans (zup_at)))) | exact (zup_ne (by decide)).trans ((zup_ne (by decide)).trans ((zup_ne (by decide)).trans ((zup_ne (by decide)).trans (by assumption)))) | exact (zup_ne (by decide)).trans ((zup_ne (by decide)).trans ((zup_ne (by decide)).trans ((zup_ne (by decide)).trans ((zup_ne (by decide)).trans (zup_at))))) | exact (zup_ne (by decide)).trans ((zup_ne (by decide)).trans ((zup_ne (by decide)).trans ((zup_ne (by decide)).trans ((zup_ne (by decide)).trans (by assumption)))))) (by omega) ?_
      refine q_aload_n (pc := 27) dX8_turnedBy_27 rfl rfl ?_
      refine q_getfield (pc := 28) gf_X8_38 dX8_turnedBy_28 (by first | assumption | exact zup_at | exact (zup_ne (by decide)).trans (zup_at) | exact (zup_ne (by decide)).trans (by assumption) | exact (zup_ne (by decide)).trans ((zup_ne (by decide)).trans (zup_at)) | exact (zup_ne (by decide)).trans ((zup_ne (by decide)).trans (by assumption)) | exact (zup_ne (by decide)).trans ((zup_ne (by decide)).trans ((zup_ne (by decide)).trans (zup_at))) | exact (zup_ne (by decide)).trans ((zup_ne (by decide)).trans ((zup_ne (by decide)).trans (by assumption))) | exact (zup_ne (by decide)).trans ((zup_ne (by decide)).trans ((zup_ne (by decide)).trans ((zup_ne (by decide)).trans (zup_at)))) | exact (zup_ne (by decide)).trans ((zup_ne (by decide)).trans ((zup_ne (by decide)).trans ((zup_ne (by decide)).trans (by assumption)))) | exact (zup_ne (by decide)).trans ((zup_ne (by decide)).trans ((zup_ne (by decide)).trans ((zup_ne (by decide)).trans ((zup_ne (by decide)).trans (zup_at))))) | exact (zup_ne (by decide)).trans ((zup_ne (by decide)).trans ((zup_ne (by decide)).trans ((zup_ne (by decide)).trans ((zup_ne (by decide)).trans (by assumption)))))) rfl ?_
      refine q_iload_n (pc := 31) dX8_turnedBy_31 rfl ?_
      refine q_aload_n (pc := 32) dX8_turnedBy_32 rfl rfl ?_
      refine q_getfield (pc := 33) gf_X8_7 dX8_turnedBy_33 (by first | assumption | exact zup_at | exact (zup_ne (by decide)).trans (zup_at) | exact (zup_ne (by decide)).trans (by assumption) | exact (zup_ne (by decide)).trans ((zup_ne (by decide)).trans (zup_at)) | exact (zup_ne (by decide)).trans ((zup_ne (by decide)).trans (by assumption)) | exact (zup_ne (by decide)).trans ((zup_ne (by decide)).trans ((zup_ne (by decide)).trans (zup_at))) | exact (zup_ne (by decide)).trans ((zup_ne (by decide)).trans ((zup_ne (by decide)).trans (by assumption))) | exact (zup_ne (by decide)).trans ((zup_ne (by decide)).trans ((zup_ne (by decide)).trans ((zup_ne (by decide)).trans (zup_at)))) | exact (zup_ne (by decide)).trans ((zup_ne (by decide)).trans ((zup_ne (by decide)).trans ((zup_ne (by decide)).trans (by assumption)))) | exact (zup_ne (by decide)).trans ((zup_ne (by decide)).trans ((zup_ne (by decide)).trans ((zup_ne (by decide)).trans ((zup_ne (by decide)).trans (zup_at))))) | exact (zup_ne (by decide)).trans ((zup_ne (by decide)).trans ((zup_ne (by decide)).trans ((zup_ne (by decide)).trans ((zup_ne (by decide)).trans (by assumption)))))) rfl ?_
      refine q_bipush (pc := 36) (by decide) dX8_turnedBy_36 ?_
      refine q_iload_n (pc := 38) dX8_turnedBy_38 rfl ?_
      refine q_iadd (pc := 39) dX8_turnedBy_39 ?_
      refine q_iaload (pc := 40) dX8_turnedBy_40 (by first | assumption | exact zup_at | exact (zup_ne (by decide)).trans (zup_at) | exact (zup_ne (by decide)).trans (by assumption) | exact (zup_ne (by decide)).trans ((zup_ne (by decide)).trans (zup_at)) | exact (zup_ne (by decide)).trans ((zup_ne (by decide)).trans (by assumption)) | exact (zup_ne (by decide)).trans ((zup_ne (by decide)).trans ((zup_ne (by decide)).trans (zup_at))) | exact (zup_ne (by decide)).trans ((zup_ne (by decide)).trans ((zup_ne (by decide)).trans (by assumption))) | exact (zup_ne (by decide)).trans ((zup_ne (by decide)).trans ((zup_ne (by decide)).trans ((zup_ne (by decide)).trans (zup_at)))) | exact (zup_ne (by decide)).trans ((zup_ne (by decide)).trans ((zup_ne (by decide)).trans ((zup_ne (by decide)).trans (by assumption)))) | exact (zup_ne (by decide)).trans ((zup_ne (by decide)).trans ((zup_ne (by decide)).trans ((zup_ne (by decide)).trans ((zup_ne (by decide)).trans (zup_at))))) | exact (zup_ne (by decide)).trans ((zup_ne (by decide)).trans ((zup_ne (by decide)).trans ((zup_ne (by decide)).trans ((zup_ne (by decide)).trans (by assumption)))))) (by omega) ?_
      refine q_iastore (pc := 41) dX8_turnedBy_41 (by first | assumption | exact zup_at | exact (zup_ne (by decide)).trans (zup_at) | exact (zup_ne (by decide)).trans (by assumption) | exact (zup_ne (by decide)).trans ((zup_ne (by decide)).trans (zup_at)) | exact (zup_ne (by decide)).trans ((zup_ne (by decide)).trans (by assumption)) | exact (zup_ne (by decide)).trans ((zup_ne (by decide)).trans ((zup_ne (by decide)).trans (zup_at))) | exact (zup_ne (by decide)).trans ((zup_ne (by decide)).trans ((zup_ne (by decide)).trans (by assumption))) | exact (zup_ne (by decide)).trans ((zup_ne (by decide)).trans ((zup_ne (by decide)).trans ((zup_ne (by decide)).trans (zup_at)))) | exact (zup_ne (by decide)).trans ((zup_ne (by decide)).trans ((zup_ne (by decide)).trans ((zup_ne (by decide)).trans (by assumption)))) | exact (zup_ne (by decide)).trans ((zup_ne (by decide)).trans ((zup_ne (by decide)).trans ((zup_ne (by decide)).trans ((zup_ne (by decide)).trans (zup_at))))) | exact (zup_ne (by decide)).trans ((zup_ne (by decide)).trans ((zup_ne (by decide)).trans ((zup_ne (by decide)).trans ((zup_ne (by decide)).trans (by assumption)))))) (by omega) ?_
      refine q_iinc (pc := 42) [some _, some _, some _, some _, none] dX8_turnedBy_42 rfl rfl rfl ?_
      refine q_goto (pc := 45) 2 dX8_turnedBy_45 rfl ?_
      refine hih _ _ _ (by omega) (hs.tr ((zSame.up (by omega)).tr (zSame.up (by omega)))) ((zup_ne (by decide)).trans zup_at) zup_at (fun k a b => ?_)
      simp only [zfu]
      by_cases y : k = (m : Int)
      · subst y; rw [if_pos rfl, if_pos rfl]; exact ⟨rfl, rfl⟩
      · rw [if_neg y, if_neg y]; exact e k a (by omega)
  refine zenter [some _, some _, some _, none, none] pn_X8 rfl (Nat.le_of_ble_eq_true rfl) ?_
  refine q_iconst (pc := 0) dX8_turnedBy_0 ?_
  refine q_istore_n (pc := 1) [some _, some _, some _, some _, none] dX8_turnedBy_1 rfl (Nat.le_of_ble_eq_true rfl) rfl ?_
  exact L1 (N 2).toNat 0 _ f0 h0 (by omega) zSame.rf h80 h81 (fun k a b => by omega)
set_option maxRecDepth 100000 in
set_option maxHeartbeats 8000000 in
theorem c_X8_meet {r s : Int} (hd : 6 ≤ d) (hC : zMo g w S) (hO : zOKS S) (h_r : zR32 r) (h_s : zR32 s) (k : ∀ w', zSame w w' 72 16 → zMo g w' (o_meet S r s).2 → K (some (zI (o_meet S r s).1)) w') : zCall g d 0 0 mX8_meet [zR g 72, zI r, zI s] w K := by
  obtain ⟨⟨p0, p1, p2, p3, p4, it, sm, h72⟩, h73, h74, h75, h76, hScr, h84, h85, h86, h87⟩ := id hC
  have hO1 := hO.1
  have hO2 := hO1.1
  have hO3 := hO2.1
  by_cases hv : 1 ≤ r ∧ r ≤ 9
  · have L : 1 ≤ S.1.1 2 → (s = -1 ∨ (0 ≤ s ∧ s < S.1.1 1)) → ∀ (q m : Nat) (w1 : zWd) (f h : Int → Int) (x6 : Option Value), m + q = (zpw (S.1.1 2) (S.1.1 1).toNat).toNat → zSame w w1 80 2 → w1.1 80 = some (.inr (false, 4, f)) → w1.1 81 = some (.inr (false, 4, h)) → zRuns g d mX8_meet 0 0 60 [some (zR g 72), some (zI r), some (zI s), some (zI (zmw S.1.1 r m).2), some (zI (zmw S.1.1 r m).1), some (zI (m : Int)), x6] [] w1 K := by
      intro hn2 hs0 q
      have ht1 := zpw_p hn2 (S.1.1 1).toNat
      have ht2 := zpw_t (n := S.1.1 2) (by omega) (m := (S.1.1 1).toNat) (by omega)
      have hm0 : ∀ w1 f h, zSame w w1 80 2 → w1.1 80 = some (.inr (false, 4, f)) → w1.1 81 = some (.inr (false, 4, h)) → zMo g w1 S := fun w1 f h hs h80 h81 => hC.scr (hs.wide (by omega) (by omega)) (hScr.p80 hs h80 h81)
      induction q with
      | zero =>
        intro m w1 f h x6 h1 hs h80 h81
        have h721 := (hs.2 72 (by omega)).trans h72
        have h731 := (hs.2 73 (by omega)).trans h73
        have em : zmeet S.1.1 r = zmw S.1.1 r m := by unfold zmeet; rw [← h1]; rfl
        have hb2 := zmw2_b (N := S.1.1) (r := r) m
        have hz0 := hn2
        refine q_iload (pc := 60) dX8_meet_60 rfl ?_
        refine q_aload_n (pc := 62) dX8_meet_62 rfl rfl ?_
        refine q_invokevirtual (pc := 63) (d' := d - 1) (mc' := 0) (ms' := 0) (As := []) (TX8, 26) cl_X8_265 dX8_meet_63 rfl rfl (by assumption) rfl (by omega) rfl 0 0 (Nat.le_refl 0) (Nat.le_refl 0) ?_
        refine c_X8_ways h721 h731 hO2 ?_
        refine q_icmp_ge (pc := 66) (by omega) (by omega) 114 dX8_meet_66 rfl (fun c66 => ?_) (fun c66 => ?_)
        · refine q_iload_n (pc := 114) dX8_meet_114 rfl ?_
          refine q_iconst (pc := 115) dX8_meet_115 ?_
          refine q_icmp_ne (pc := 116) (by omega) (by omega) 124 dX8_meet_116 rfl (fun c116 => ?_) (fun c116 => ?_)
          · refine q_aload_n (pc := 124) dX8_meet_124 rfl rfl ?_
            refine q_iload_n (pc := 125) dX8_meet_125 rfl ?_
            refine q_iload_n (pc := 126) dX8_meet_126 rfl ?_
            refine q_invokevirtual (pc := 127) (d' := d - 1) (mc' := 0) (ms' := 0) (As := [_, _]) (TX8, 26) cl_X8_258 dX8_meet_127 rfl rfl (by assumption) rfl (by omega) rfl 0 0 (Nat.le_refl 0) (Nat.le_refl 0) ?_
            refine c_X8_cloudOf h721 h731 hO2 hn2 (by omega) (by omega) ?_
            refine q_ireturn (pc := 130) dX8_meet_130 rfl ?_
            first | exact zgm k (by unfold o_meet; rw [em]; exact (if_pos hv).trans ((if_neg (by omega)).trans ((if_neg (by omega)).trans (by rw [if_pos c116])))) (hs.wide (by omega) (by omega)) (hm0 _ _ _ hs h80 h81) | exact zgm k (by unfold o_meet; rw [em]; exact (if_pos hv).trans ((if_neg (by omega)).trans ((if_neg (by omega)).trans (by rw [if_neg c116])))) (hs.wide (by omega) (by omega)) (hm0 _ _ _ hs h80 h81)
          refine q_iload (pc := 119) dX8_meet_119 rfl ?_
          refine q_goto (pc := 121) 130 dX8_meet_121 rfl ?_
          refine q_ireturn (pc := 130) dX8_meet_130 rfl ?_
          first | exact zgm k (by unfold o_meet; rw [em]; exact (if_pos hv).trans ((if_neg (by omega)).trans ((if_neg (by omega)).trans (by rw [if_pos c116])))) (hs.wide (by omega) (by omega)) (hm0 _ _ _ hs h80 h81) | exact zgm k (by unfold o_meet; rw [em]; exact (if_pos hv).trans ((if_neg (by omega)).trans ((if_neg (by omega)).trans (by rw [if_neg c116])))) (hs.wide (by omega) (by omega)) (hm0 _ _ _ hs h80 h81)
        exfalso; omega
      | succ q ih =>
        intro m w1 f h x6 h1 hs h80 h81
        have h721 := (hs.2 72 (by omega)).trans h72
        have h731 := (hs.2 73 (by omega)).trans h73
        have hih := fun w1 f h x6 => ih (m + 1) w1 f h x6 (by omega)
        have hb1 := zmw_b (N := S.1.1) (r := r) m
        have htc := zsg_bd (f := fun q => zb (zopn S.1.1 (zhw S.1.1 r) (zwy S.1.1 (m : Int)) q ≤ 0)) (M := 1) (S.1.1 2).toNat 0 (fun _ _ _ => zb_b)
        have htd : zTc S.1.1 r (zwy S.1.1 (m : Int)) = zsg (fun q => zb (zopn S.1.1 (zhw S.1.1 r) (zwy S.1.1 (m : Int)) q ≤ 0)) (S.1.1 2).toNat 0 := rfl
        rw [← htd] at htc
        rw [zmw] at hih
        refine q_iload (pc := 60) dX8_meet_60 rfl ?_
        refine q_aload_n (pc := 62) dX8_meet_62 rfl rfl ?_
        refine q_invokevirtual (pc := 63) (d' := d - 1) (mc' := 0) (ms' := 0) (As := []) (TX8, 26) cl_X8_265 dX8_meet_63 rfl rfl (by assumption) rfl (by omega) rfl 0 0 (Nat.le_refl 0) (Nat.le_refl 0) ?_
        refine c_X8_ways h721 h731 hO2 ?_
        refine q_icmp_ge (pc := 66) (by omega) (by omega) 114 dX8_meet_66 rfl (fun c66 => ?_) (fun c66 => ?_)
        · exfalso; omega
        refine q_aload_n (pc := 69) dX8_meet_69 rfl rfl ?_
        refine q_iload (pc := 70) dX8_meet_70 rfl ?_
        refine q_iload_n (pc := 72) dX8_meet_72 rfl ?_
        refine q_invokevirtual (pc := 73) (d' := d - 1) (mc' := 0) (ms' := 0) (As := [_, _]) (TX8, 26) cl_X8_268 dX8_meet_73 rfl rfl (by assumption) rfl (by omega) rfl 0 0 (Nat.le_refl 0) (Nat.le_refl 0) ?_
        refine c_X8_turnedBy (by omega) h721 h731 h80 h81 hO2 hn2 (by omega) hv (fun w2 f2 h2 hs2 h802 h812 => ?_)
        refine q_istore (pc := 76) [some _, some _, some _, some _, some _, some _, some _] dX8_meet_76 rfl (Nat.le_of_ble_eq_true rfl) rfl ?_
        refine q_iload (pc := 78) dX8_meet_78 rfl ?_
        refine q_iload (pc := 80) dX8_meet_80 rfl ?_
        refine q_icmp_le (pc := 82) (by omega) (by omega) 90 dX8_meet_82 rfl (fun c82 => ?_) (fun c82 => ?_)
        · refine q_iload_n (pc := 90) dX8_meet_90 rfl ?_
          refine q_istore_n (pc := 91) [some _, some _, some _, some _, some _, some _, some _] dX8_meet_91 rfl (Nat.le_of_ble_eq_true rfl) rfl ?_
          refine q_iload (pc := 92) dX8_meet_92 rfl ?_
          refine q_iload (pc := 94) dX8_meet_94 rfl ?_
          refine q_icmp_le (pc := 96) (by omega) (by omega) 104 dX8_meet_96 rfl (fun c96 => ?_) (fun c96 => ?_)
          · refine q_iload (pc := 104) dX8_meet_104 rfl ?_
            refine q_istore (pc := 106) [some _, some _, some _, some _, some _, some _, some _] dX8_meet_106 rfl (Nat.le_of_ble_eq_true rfl) rfl ?_
            refine q_iinc (pc := 108) [some _, some _, some _, some _, some _, some _, some _] dX8_meet_108 rfl rfl rfl ?_
            refine q_goto (pc := 111) 60 dX8_meet_111 rfl ?_
            first | (exfalso; omega; done) | (rw [if_pos (by omega)] at hih; exact hih _ _ _ _ (hs.tr hs2) h802 h812) | (rw [if_neg (by omega)] at hih; exact hih _ _ _ _ (hs.tr hs2) h802 h812)
          refine q_iload (pc := 99) dX8_meet_99 rfl ?_
          refine q_goto (pc := 101) 106 dX8_meet_101 rfl ?_
          refine q_istore (pc := 106) [some _, some _, some _, some _, some _, some _, some _] dX8_meet_106 rfl (Nat.le_of_ble_eq_true rfl) rfl ?_
          refine q_iinc (pc := 108) [some _, some _, some _, some _, some _, some _, some _] dX8_meet_108 rfl rfl rfl ?_
          refine q_goto (pc := 111) 60 dX8_meet_111 rfl ?_
          first | (exfalso; omega; done) | (rw [if_pos (by omega)] at hih; exact hih _ _ _ _ (hs.tr hs2) h802 h812) | (rw [if_neg (by omega)] at hih; exact hih _ _ _ _ (hs.tr hs2) h802 h812)
        refine q_iload (pc := 85) dX8_meet_85 rfl ?_
        refine q_goto (pc := 87) 91 dX8_meet_87 rfl ?_
        refine q_istore_n (pc := 91) [some _, some _, some _, some _, some _, some _, some _] dX8_meet_91 rfl (Nat.le_of_ble_eq_true rfl) rfl ?_
        refine q_iload (pc := 92) dX8_meet_92 rfl ?_
        refine q_iload (pc := 94) dX8_meet_94 rfl ?_
        refine q_icmp_le (pc := 96) (by omega) (by omega) 104 dX8_meet_96 rfl (fun c96 => ?_) (fun c96 => ?_)
        · refine q_iload (pc := 104) dX8_meet_104 rfl ?_
          refine q_istore (pc := 106) [some _, some _, some _, some _, some _, some _, some _] dX8_meet_106 rfl (Nat.le_of_ble_eq_true rfl) rfl ?_
          refine q_iinc (pc := 108) [some _, some _, some _, some _, some _, some _, some _] dX8_meet_108 rfl rfl rfl ?_
          refine q_goto (pc := 111) 60 dX8_meet_111 rfl ?_
          first | (exfalso; omega; done) | (rw [if_pos (by omega)] at hih; exact hih _ _ _ _ (hs.tr hs2) h802 h812) | (rw [if_neg (by omega)] at hih; exact hih _ _ _ _ (hs.tr hs2) h802 h812)
        refine q_iload (pc := 99) dX8_meet_99 rfl ?_
        refine q_goto (pc := 101) 106 dX8_meet_101 rfl ?_
        refine q_istore (pc := 106) [some _, some _, some _, some _, some _, some _, some _] dX8_meet_106 rfl (Nat.le_of_ble_eq_true rfl) rfl ?_
        refine q_iinc (pc := 108) [some _, some _, some _, some _, some _, some _, some _] dX8_meet_108 rfl rfl rfl ?_
        refine q_goto (pc := 111) 60 dX8_meet_111 rfl ?_
        first | (exfalso; omega; done) | (rw [if_pos (by omega)] at hih; exact hih _ _ _ _ (hs.tr hs2) h802 h812) | (rw [if_neg (by omega)] at hih; exact hih _ _ _ _ (hs.tr hs2) h802 h812)
    obtain ⟨f0, h80⟩ := hScr.2.2.2.1
    obtain ⟨f1, h81⟩ := hScr.2.2.2.2.1
    refine zenter [some _, some _, some _, none, none, none, none] pn_X8 rfl (Nat.le_of_ble_eq_true rfl) ?_
    refine q_iload_n (pc := 0) dX8_meet_0 rfl ?_
    refine q_i2l (pc := 1) dX8_meet_1 (by omega) ?_
    refine q_lconst (pc := 2) (v := 1) dX8_meet_2 rfl ?_
    refine q_ldc2_w (pc := 3) tw_5_79 dX8_meet_3 ?_
    refine q_invokestatic (pc := 6) (d' := d - 1) (mc' := 0) (ms' := 0) (As := [_, _, _]) cl_X8_60 dX8_meet_6 rfl rfl (by omega) rfl 0 0 (Nat.le_refl 0) (Nat.le_refl 0) ?_
    refine c_X8_in (by omega) (by omega) (by omega) ?_
    refine q_ifb_ne (pc := 9) 20 dX8_meet_9 rfl (fun c9 => ?_) (fun c9 => ?_)
    · refine q_aload_n (pc := 20) dX8_meet_20 rfl rfl ?_
      refine q_getfield (pc := 21) gf_X8_7 dX8_meet_21 (by first | assumption | exact zup_at | exact (zup_ne (by decide)).trans (zup_at) | exact (zup_ne (by decide)).trans (by assumption) | exact (zup_ne (by decide)).trans ((zup_ne (by decide)).trans (zup_at)) | exact (zup_ne (by decide)).trans ((zup_ne (by decide)).trans (by assumption)) | exact (zup_ne (by decide)).trans ((zup_ne (by decide)).trans ((zup_ne (by decide)).trans (zup_at))) | exact (zup_ne (by decide)).trans ((zup_ne (by decide)).trans ((zup_ne (by decide)).trans (by assumption))) | exact (zup_ne (by decide)).trans ((zup_ne (by decide)).trans ((zup_ne (by decide)).trans ((zup_ne (by decide)).trans (zup_at)))) | exact (zup_ne (by decide)).trans ((zup_ne (by decide)).trans ((zup_ne (by decide)).trans ((zup_ne (by decide)).trans (by assumption)))) | exact (zup_ne (by decide)).trans ((zup_ne (by decide)).trans ((zup_ne (by decide)).trans ((zup_ne (by decide)).trans ((zup_ne (by decide)).trans (zup_at))))) | exact (zup_ne (by decide)).trans ((zup_ne (by decide)).trans ((zup_ne (by decide)).trans ((zup_ne (by decide)).trans ((zup_ne (by decide)).trans (by assumption)))))) rfl ?_
      refine q_iconst (pc := 24) dX8_meet_24 ?_
      refine q_iaload (pc := 25) dX8_meet_25 (by first | assumption | exact zup_at | exact (zup_ne (by decide)).trans (zup_at) | exact (zup_ne (by decide)).trans (by assumption) | exact (zup_ne (by decide)).trans ((zup_ne (by decide)).trans (zup_at)) | exact (zup_ne (by decide)).trans ((zup_ne (by decide)).trans (by assumption)) | exact (zup_ne (by decide)).trans ((zup_ne (by decide)).trans ((zup_ne (by decide)).trans (zup_at))) | exact (zup_ne (by decide)).trans ((zup_ne (by decide)).trans ((zup_ne (by decide)).trans (by assumption))) | exact (zup_ne (by decide)).trans ((zup_ne (by decide)).trans ((zup_ne (by decide)).trans ((zup_ne (by decide)).trans (zup_at)))) | exact (zup_ne (by decide)).trans ((zup_ne (by decide)).trans ((zup_ne (by decide)).trans ((zup_ne (by decide)).trans (by assumption)))) | exact (zup_ne (by decide)).trans ((zup_ne (by decide)).trans ((zup_ne (by decide)).trans ((zup_ne (by decide)).trans ((zup_ne (by decide)).trans (zup_at))))) | exact (zup_ne (by decide)).trans ((zup_ne (by decide)).trans ((zup_ne (by decide)).trans ((zup_ne (by decide)).trans ((zup_ne (by decide)).trans (by assumption)))))) (by omega) ?_
      refine q_if_ne (pc := 26) (by omega) 31 dX8_meet_26 rfl (fun c26 => ?_) (fun c26 => ?_)
      · refine q_iload_n (pc := 31) dX8_meet_31 rfl ?_
        refine q_iconst (pc := 32) dX8_meet_32 ?_
        refine q_icmp_eq (pc := 33) (by omega) (by omega) 52 dX8_meet_33 rfl (fun c33 => ?_) (fun c33 => ?_)
        · refine q_iconst (pc := 52) dX8_meet_52 ?_
          refine q_istore_n (pc := 53) [some _, some _, some _, some _, none, none, none] dX8_meet_53 rfl (Nat.le_of_ble_eq_true rfl) rfl ?_
          refine q_iconst (pc := 54) dX8_meet_54 ?_
          refine q_istore (pc := 55) [some _, some _, some _, some _, some _, none, none] dX8_meet_55 rfl (Nat.le_of_ble_eq_true rfl) rfl ?_
          refine q_iconst (pc := 57) dX8_meet_57 ?_
          refine q_istore (pc := 58) [some _, some _, some _, some _, some _, some _, none] dX8_meet_58 rfl (Nat.le_of_ble_eq_true rfl) rfl ?_
          exact L (by omega) (by omega) _ 0 _ f0 f1 _ (Nat.zero_add _) zSame.rf h80 h81
        refine q_aload_n (pc := 36) dX8_meet_36 rfl rfl ?_
        refine q_iload_n (pc := 37) dX8_meet_37 rfl ?_
        refine q_invokevirtual (pc := 38) (d' := d - 1) (mc' := 0) (ms' := 0) (As := [_]) (TX8, 26) cl_X8_223 dX8_meet_38 rfl rfl (by first | assumption | exact zup_at | exact (zup_ne (by decide)).trans (zup_at) | exact (zup_ne (by decide)).trans (by assumption) | exact (zup_ne (by decide)).trans ((zup_ne (by decide)).trans (zup_at)) | exact (zup_ne (by decide)).trans ((zup_ne (by decide)).trans (by assumption)) | exact (zup_ne (by decide)).trans ((zup_ne (by decide)).trans ((zup_ne (by decide)).trans (zup_at))) | exact (zup_ne (by decide)).trans ((zup_ne (by decide)).trans ((zup_ne (by decide)).trans (by assumption))) | exact (zup_ne (by decide)).trans ((zup_ne (by decide)).trans ((zup_ne (by decide)).trans ((zup_ne (by decide)).trans (zup_at)))) | exact (zup_ne (by decide)).trans ((zup_ne (by decide)).trans ((zup_ne (by decide)).trans ((zup_ne (by decide)).trans (by assumption)))) | exact (zup_ne (by decide)).trans ((zup_ne (by decide)).trans ((zup_ne (by decide)).trans ((zup_ne (by decide)).trans ((zup_ne (by decide)).trans (zup_at))))) | exact (zup_ne (by decide)).trans ((zup_ne (by decide)).trans ((zup_ne (by decide)).trans ((zup_ne (by decide)).trans ((zup_ne (by decide)).trans (by assumption)))))) rfl (by omega) rfl 0 0 (Nat.le_refl 0) (Nat.le_refl 0) ?_
        refine c_X8_isSlinger (by omega) h72 h73 hO3 (by omega) ?_
        refine q_ifb_ne (pc := 41) 52 dX8_meet_41 rfl (fun c41 => ?_) (fun c41 => ?_)
        · refine q_iconst (pc := 52) dX8_meet_52 ?_
          refine q_istore_n (pc := 53) [some _, some _, some _, some _, none, none, none] dX8_meet_53 rfl (Nat.le_of_ble_eq_true rfl) rfl ?_
          refine q_iconst (pc := 54) dX8_meet_54 ?_
          refine q_istore (pc := 55) [some _, some _, some _, some _, some _, none, none] dX8_meet_55 rfl (Nat.le_of_ble_eq_true rfl) rfl ?_
          refine q_iconst (pc := 57) dX8_meet_57 ?_
          refine q_istore (pc := 58) [some _, some _, some _, some _, some _, some _, none] dX8_meet_58 rfl (Nat.le_of_ble_eq_true rfl) rfl ?_
          exact L (by omega) (by omega) _ 0 _ f0 f1 _ (Nat.zero_add _) zSame.rf h80 h81
        refine q_aload_n (pc := 44) dX8_meet_44 rfl rfl ?_
        refine q_invokevirtual (pc := 45) (d' := d - 1) (mc' := 0) (ms' := 0) (As := []) (TX8, 26) cl_X8_103 dX8_meet_45 rfl rfl (by first | assumption | exact zup_at | exact (zup_ne (by decide)).trans (zup_at) | exact (zup_ne (by decide)).trans (by assumption) | exact (zup_ne (by decide)).trans ((zup_ne (by decide)).trans (zup_at)) | exact (zup_ne (by decide)).trans ((zup_ne (by decide)).trans (by assumption)) | exact (zup_ne (by decide)).trans ((zup_ne (by decide)).trans ((zup_ne (by decide)).trans (zup_at))) | exact (zup_ne (by decide)).trans ((zup_ne (by decide)).trans ((zup_ne (by decide)).trans (by assumption))) | exact (zup_ne (by decide)).trans ((zup_ne (by decide)).trans ((zup_ne (by decide)).trans ((zup_ne (by decide)).trans (zup_at)))) | exact (zup_ne (by decide)).trans ((zup_ne (by decide)).trans ((zup_ne (by decide)).trans ((zup_ne (by decide)).trans (by assumption)))) | exact (zup_ne (by decide)).trans ((zup_ne (by decide)).trans ((zup_ne (by decide)).trans ((zup_ne (by decide)).trans ((zup_ne (by decide)).trans (zup_at))))) | exact (zup_ne (by decide)).trans ((zup_ne (by decide)).trans ((zup_ne (by decide)).trans ((zup_ne (by decide)).trans ((zup_ne (by decide)).trans (by assumption)))))) rfl (by omega) rfl 0 0 (Nat.le_refl 0) (Nat.le_refl 0) ?_
        refine c_X8_bad hC (fun w9 hs9 hC9 => ?_)
        refine q_bipush (pc := 48) (by decide) dX8_meet_48 ?_
        refine q_isub (pc := 50) dX8_meet_50 ?_
        refine q_ireturn (pc := 51) dX8_meet_51 rfl ?_
        exact zgm k (by unfold o_meet; exact ((if_pos (by omega)).trans ((if_neg (by omega)).trans ((if_pos (by omega)).trans rfl)))) hs9 hC9
      refine q_iconst (pc := 29) dX8_meet_29 ?_
      refine q_ireturn (pc := 30) dX8_meet_30 rfl ?_
      exact zgm k (by unfold o_meet; exact ((if_pos (by omega)).trans ((if_pos (by omega)).trans rfl))) zSame.rf hC
    exfalso; omega
  · have hz0 := hv
    refine zenter [some _, some _, some _, none, none, none, none] pn_X8 rfl (Nat.le_of_ble_eq_true rfl) ?_
    refine q_iload_n (pc := 0) dX8_meet_0 rfl ?_
    refine q_i2l (pc := 1) dX8_meet_1 (by omega) ?_
    refine q_lconst (pc := 2) (v := 1) dX8_meet_2 rfl ?_
    refine q_ldc2_w (pc := 3) tw_5_79 dX8_meet_3 ?_
    refine q_invokestatic (pc := 6) (d' := d - 1) (mc' := 0) (ms' := 0) (As := [_, _, _]) cl_X8_60 dX8_meet_6 rfl rfl (by omega) rfl 0 0 (Nat.le_refl 0) (Nat.le_refl 0) ?_
    refine c_X8_in (by omega) (by omega) (by omega) ?_
    refine q_ifb_ne (pc := 9) 20 dX8_meet_9 rfl (fun c9 => ?_) (fun c9 => ?_)
    · exfalso; omega
    refine q_aload_n (pc := 12) dX8_meet_12 rfl rfl ?_
    refine q_invokevirtual (pc := 13) (d' := d - 1) (mc' := 0) (ms' := 0) (As := []) (TX8, 26) cl_X8_103 dX8_meet_13 rfl rfl (by first | assumption | exact zup_at | exact (zup_ne (by decide)).trans (zup_at) | exact (zup_ne (by decide)).trans (by assumption) | exact (zup_ne (by decide)).trans ((zup_ne (by decide)).trans (zup_at)) | exact (zup_ne (by decide)).trans ((zup_ne (by decide)).trans (by assumption)) | exact (zup_ne (by decide)).trans ((zup_ne (by decide)).trans ((zup_ne (by decide)).trans (zup_at))) | exact (zup_ne (by decide)).trans ((zup_ne (by decide)).trans ((zup_ne (by decide)).trans (by assumption))) | exact (zup_ne (by decide)).trans ((zup_ne (by decide)).trans ((zup_ne (by decide)).trans ((zup_ne (by decide)).trans (zup_at)))) | exact (zup_ne (by decide)).trans ((zup_ne (by decide)).trans ((zup_ne (by decide)).trans ((zup_ne (by decide)).trans (by assumption)))) | exact (zup_ne (by decide)).trans ((zup_ne (by decide)).trans ((zup_ne (by decide)).trans ((zup_ne (by decide)).trans ((zup_ne (by decide)).trans (zup_at))))) | exact (zup_ne (by decide)).trans ((zup_ne (by decide)).trans ((zup_ne (by decide)).trans ((zup_ne (by decide)).trans ((zup_ne (by decide)).trans (by assumption)))))) rfl (by omega) rfl 0 0 (Nat.le_refl 0) (Nat.le_refl 0) ?_
    refine c_X8_bad hC (fun w9 hs9 hC9 => ?_)
    refine q_bipush (pc := 16) (by decide) dX8_meet_16 ?_
    refine q_isub (pc := 18) dX8_meet_18 ?_
    refine q_ireturn (pc := 19) dX8_meet_19 rfl ?_
    exact zgm k (by unfold o_meet; exact ((if_neg (by omega)).trans rfl)) hs9 hC9
end X8M
