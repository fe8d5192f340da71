/-! the Battle: most turned -/
def zhw (N : Int → Int) (r : Int) : Int → Int := fun j => zuntil N (j / 4) (j % 4) r
def zTc (N : Int → Int) (r : Int) (W : Int → Int) : Int := zsg (fun q => zb (zopn N (zhw N r) W q ≤ 0)) (N 2).toNat 0
def zwy (N : Int → Int) (i : Int) : Int → Int := fun c => i / zpw (N 2) (N 1 - 1 - c).toNat % N 2
def zmw (N : Int → Int) (r : Int) : Nat → Int × Int
  | 0 => (-1, 0)
  | i + 1 => if (zmw N r i).1 < zTc N r (zwy N (i : Int)) then (zTc N r (zwy N (i : Int)), (i : Int)) else zmw N r i
theorem zpw_p {n : Int} (h : 1 ≤ n) : ∀ m : Nat, 1 ≤ zpw n m
  | 0 => by rw [zpw]; omega
  | m + 1 => by
    have h1 := zpw_p h m
    have h2 : 1 * 1 ≤ zpw n m * n := Int.mul_le_mul h1 h (by omega) (by omega)
    rw [zpw]; omega
theorem zpw_le {n : Int} (h : 1 ≤ n ∧ n ≤ 4) : ∀ m : Nat, zpw n m ≤ zpw 4 m
  | 0 => by rw [zpw, zpw]; omega
  | m + 1 => by
    have h1 := zpw_le h m
    have h2 := zpw_p h.1 m
    rw [zpw, zpw]
    exact Int.mul_le_mul h1 h.2 (by omega) (by omega)
theorem zpw_t {n : Int} (h : 1 ≤ n ∧ n ≤ 4) {m : Nat} (hm : m ≤ 6) : zpw n m ≤ 4096 := by
  have h1 := zpw_le h m
  have : m = 0 ∨ m = 1 ∨ m = 2 ∨ m = 3 ∨ m = 4 ∨ m = 5 ∨ m = 6 := by omega
  have e : zpw 4 m ≤ 4096 := by rcases this with e | e | e | e | e | e | e <;> subst e <;> decide
  omega
theorem zval_r {n : Int} {W : Int → Int} {m : Nat} (hn : 1 ≤ n) : ∀ j : Nat, (∀ c, (m : Int) ≤ c → c < (m : Int) + (j : Int) → 0 ≤ W c ∧ W c < n) → ∃ r, zval n W (m + j) = r + zval n W m * zpw n j ∧ 0 ≤ r ∧ r < zpw n j
  | 0, _ => ⟨0, by rw [Nat.add_zero, zpw]; omega, by rw [zpw]; omega⟩
  | j + 1, h => by
    obtain ⟨r, e, h0, h1⟩ := zval_r hn j (fun c a b => h c a (by omega))
    have h2 := h ((m + j : Nat) : Int) (by omega) (by omega)
    have a1 : 0 ≤ r * n := Int.mul_nonneg h0 (by omega)
    have a2 : (r + 1) * n ≤ zpw n j * n := Int.mul_le_mul_of_nonneg_right h1 (by omega)
    rw [Int.add_mul] at a2
    refine ⟨r * n + W ((m + j : Nat) : Int), ?_, by omega, by rw [zpw]; omega⟩
    rw [show m + (j + 1) = m + j + 1 by omega, zval, e, Int.add_mul, zpw, Int.mul_assoc]; omega
theorem zval_dig {n : Int} {W : Int → Int} {m S : Nat} (hn : 1 ≤ n) (hm : m < S) (h : ∀ c, 0 ≤ c → c < (S : Int) → 0 ≤ W c ∧ W c < n) : W (m : Int) = zval n W S / zpw n (S - (m + 1)) % n := by
  obtain ⟨r, e, h0, h1⟩ := zval_r (n := n) (W := W) (m := m + 1) hn (S - (m + 1)) (fun c a b => h c (by omega) (by omega))
  rw [show m + 1 + (S - (m + 1)) = S by omega] at e
  have hp := zpw_p hn (S - (m + 1))
  have hw := h (m : Int) (by omega) (by omega)
  rw [e, Int.add_mul_ediv_right _ _ (by omega), Int.ediv_eq_zero_of_lt h0 h1, Int.zero_add, zval, Int.add_comm, Int.add_mul_emod_self_right, Int.emod_eq_of_lt hw.1 hw.2]
theorem zval_0 {n : Int} {W : Int → Int} : ∀ m : Nat, (∀ c, 0 ≤ c → c < (m : Int) → W c = 0) → zval n W m = 0
  | 0, _ => rfl
  | m + 1, h => by rw [zval, zval_0 m (fun c a b => h c a (by omega)), h (m : Int) (by omega) (by omega)]; omega
theorem zval_wy {N W : Int → Int} {c : Int} (hn : 1 ≤ N 2) (hc : 0 ≤ c ∧ c < N 1) (h : ∀ c, 0 ≤ c → c < N 1 → 0 ≤ W c ∧ W c < N 2) : W c = zwy N (zval (N 2) W (N 1).toNat) c := by
  have e := zval_dig (n := N 2) (W := W) (m := c.toNat) (S := (N 1).toNat) hn (by omega) (fun c a b => h c a (by omega))
  rw [show ((c.toNat : Nat) : Int) = c by omega] at e
  rw [zwy, show (N 1 - 1 - c).toNat = (N 1).toNat - (c.toNat + 1) by omega]
  exact e
theorem zopn_c {N H W H2 W2 : Int → Int} {q : Int} (h : ∀ c, 0 ≤ c → c < N 1 → W c = W2 c ∧ H (c * 4 + q) = H2 (c * 4 + q)) : zopn N H W q = zopn N H2 W2 q := by
  unfold zopn
  congr 1
  exact zsg_congr (fun c a b => by rw [(h c a (by omega)).1, (h c a (by omega)).2])
theorem zhw_at {N : Int → Int} {r c q : Int} (hq : 0 ≤ q ∧ q < 4) : zhw N r (c * 4 + q) = zuntil N c q r := by
  unfold zhw
  rw [show (c * 4 + q) / 4 = c by omega, show (c * 4 + q) % 4 = q by omega]
theorem zsg_mono {f f2 : Int → Int} : ∀ {m : Nat} {a : Int}, (∀ i, a ≤ i → i < a + (m : Int) → f i ≤ f2 i) → zsg f m a ≤ zsg f2 m a
  | 0, _, _ => by simp [zsg]
  | m + 1, a, h => by
    have h1 := zsg_mono (m := m) (a := a) (fun i h1 h2 => h i h1 (by omega))
    have h2 := h (a + (m : Int)) (by omega) (by omega)
    rw [zsg, zsg]; omega
theorem zuntil_b {N : Int → Int} {c q r : Int} (h : zOK N) (hc : 0 ≤ c ∧ c < N 1) (hq : 0 ≤ q ∧ q < N 2) (hr : 1 ≤ r ∧ r ≤ 9) : 0 ≤ zuntil N c q r ∧ zuntil N c q r ≤ 310 := by
  have hh := h.1
  have hsl := h.2.2.2.1 c hc.1 hc.2
  have hcd := h.2.2.2.2.1 q hq.1 hq.2
  have hfb := zfar_b (kind := N (68 + c)) (a := N (74 + c)) (r := r) (v := N 4) hsl.2 (by omega) (by omega)
  have hhb := zhits_b (kind := N (68 + c)) (r := r) hr
  exact zmul_b (A := 10) (B := 31) ⟨by omega, hhb.2⟩ (by omega)
theorem zmw_b {N : Int → Int} {r : Int} : ∀ i : Nat, -1 ≤ (zmw N r i).1 ∧ (zmw N r i).1 ≤ (N 2).toNat
  | 0 => by rw [zmw]; show -1 ≤ (-1 : Int) ∧ (-1 : Int) ≤ _; omega
  | i + 1 => by
    have h := zmw_b (N := N) (r := r) i
    have h2 := zsg_b (f := fun q => zb (zopn N (zhw N r) (zwy N (i : Int)) q ≤ 0)) (B := 1) (m := (N 2).toNat) (a := 0) (fun _ _ _ => zb_b)
    rw [zmw]
    split
    · show -1 ≤ zsg _ _ _ ∧ zsg _ _ _ ≤ _; omega
    · exact h
theorem zmw_stop {N : Int → Int} {r B : Int} {i : Nat} (hT : ∀ W, zTc N r W ≤ B) (hi : B ≤ (zmw N r i).1) : ∀ j : Nat, zmw N r (i + j) = zmw N r i
  | 0 => rfl
  | j + 1 => by
    have h1 := zmw_stop hT hi j
    have h2 := hT (zwy N ((i + j : Nat) : Int))
    rw [show i + (j + 1) = i + j + 1 by omega, zmw, if_neg (by rw [h1]; omega), h1]
theorem zTc_le {N H : Int → Int} {r : Int} (h : zOK N) (hr : 1 ≤ r ∧ r ≤ 9) (hH : ∀ c q, 0 ≤ c → c < N 1 → 0 ≤ q → q < N 2 → H (c * 4 + q) = zuntil N c q r) (W : Int → Int) : zTc N r W ≤ zsg (fun q => zb (zallat N H q ≤ 0)) (N 2).toNat 0 := by
  have hh := h.1
  refine zsg_mono (fun q q1 q2 => ?_)
  have e : zallat N H q ≤ zopn N (zhw N r) W q := by
    have := zsg_mono (f := fun c => if W c = q then zhw N r (c * 4 + q) else 0) (f2 := fun c => H (c * 4 + q)) (m := (N 1).toNat) (a := 0) (fun c c1 c2 => by
      have hb := zuntil_b (c := c) (q := q) (r := r) h (by omega) (by omega) hr
      show (if W c = q then zhw N r (c * 4 + q) else 0) ≤ H (c * 4 + q)
      rw [hH c q c1 (by omega) q1 (by omega), zhw_at (by omega)]
      split <;> omega)
    unfold zallat zopn
    omega
  by_cases p : zopn N (zhw N r) W q ≤ 0
  · rw [zb_t p, zb_t (by omega)]; omega
  · rw [zb_f p]; exact zb_b.1
section X0F
variable {g : zG} {d : Nat} {w : zWd} {K : Option Value → zWd → Prop} {b sb : Nat} {N P : Int → Int} {u : Int}
set_option maxRecDepth 100000 in
set_option maxHeartbeats 4000000 in
theorem c_X0_mostTurned {r : Int} {H0 O0 W0 B0 : Int → Int} (hd : 5 ≤ d) (hF : w.1 sb = some (.inl (0, [zR g b, zR g (sb + 1), zR g (sb + 2), zR g (sb + 3), zR g (sb + 4), zR g (sb + 5)]))) (hG2 : w.1 (sb + 2) = some (.inr (false, 24, H0))) (hG3 : w.1 (sb + 3) = some (.inr (false, 4, O0))) (hG4 : w.1 (sb + 4) = some (.inr (false, 6, W0))) (hG5 : w.1 (sb + 5) = some (.inr (false, 6, B0))) (hS : zSto g w b N u P) (hO : zOK N) (hn2 : 1 ≤ N 2) (hr : 1 ≤ r ∧ r ≤ 9) (hb : b + 15 ≤ sb ∨ sb + 6 ≤ b) (k : ∀ w1 H O W B, zSame w w1 (sb + 2) 4 → w1.1 (sb + 2) = some (.inr (false, 24, H)) → w1.1 (sb + 3) = some (.inr (false, 4, O)) → w1.1 (sb + 4) = some (.inr (false, 6, W)) → w1.1 (sb + 5) = some (.inr (false, 6, B)) → (∀ c, 0 ≤ c → c < N 1 → B c = zwy N (zmw N r (zpw (N 2) (N 1).toNat).toNat).2 c) → K (some (zI (zmw N r (zpw (N 2) (N 1).toNat).toNat).1)) w1) : zCall g d 0 0 mX0_mostTurned [zR g sb, zI r] w K := by
  have hh := hO.1
  have ht1 := zpw_p hn2 (N 1).toNat
  have ht2 := zpw_t (n := N 2) (by omega) (m := (N 1).toNat) (by omega)
  have L : ∀ (p i : Nat) (w1 : zWd) (H O W B : Int → Int) (mo mt : Int) (x6 : Option Value), i + p = (zpw (N 2) (N 1).toNat).toNat → zSame w w1 (sb + 2) 4 → w1.1 (sb + 2) = some (.inr (false, 24, H)) → w1.1 (sb + 3) = some (.inr (false, 4, O)) → w1.1 (sb + 4) = some (.inr (false, 6, W)) → w1.1 (sb + 5) = some (.inr (false, 6, B)) → (∀ c q, 0 ≤ c → c < N 1 → 0 ≤ q → q < N 2 → H (c * 4 + q) = zuntil N c q r) → mt = zsg (fun q => zb (zallat N H q ≤ 0)) (N 2).toNat 0 → (0 < p → mo = 1 ∧ zval (N 2) W (N 1).toNat = (i : Int) ∧ (∀ c, 0 ≤ c → c < N 1 → 0 ≤ W c ∧ W c < N 2) ∧ (∀ q, 0 ≤ q → q < N 2 → O q = zopn N H W q)) → (p = 0 → mo = 0) → (0 < i → ∀ c, 0 ≤ c → c < N 1 → B c = zwy N (zmw N r i).2 c) → zRuns g d mX0_mostTurned 0 0 18 [some (zR g sb), some (zI r), some (zI mt), some (zI (zmw N r i).1), some (zI mo), some (zI (i : Int)), x6] [] w1 K := by
    intro p
    induction p with
    | zero =>
      intro i w1 H O W B mo mt x6 hi hs hG2 hG3 hG4 hG5 iH hmt hp h0 iB
      have hm0 := h0 rfl
      have hmb := zmw_b (N := N) (r := r) i
      subst hm0
      refine q_iload (pc := 18) dX0_mostTurned_18 rfl ?_
      refine q_ldc (pc := 20) tw_3_224 dX0_mostTurned_20 ?_
      refine q_icmp_ge (pc := 22) (by omega) (by omega) 88 dX0_mostTurned_22 rfl (fun c22 => ?_) (fun c22 => ?_)
      · refine q_iload_n (pc := 88) dX0_mostTurned_88 rfl ?_
        refine q_ireturn (pc := 89) dX0_mostTurned_89 rfl ?_
        rw [show i = (zpw (N 2) (N 1).toNat).toNat by omega] at iB ⊢; exact k _ H O W B hs hG2 hG3 hG4 hG5 (iB (by omega))
      refine q_iload (pc := 25) dX0_mostTurned_25 rfl ?_
      refine q_if_eq (pc := 27) (by omega) 88 dX0_mostTurned_27 rfl (fun c27 => ?_) (fun c27 => ?_)
      · refine q_iload_n (pc := 88) dX0_mostTurned_88 rfl ?_
        refine q_ireturn (pc := 89) dX0_mostTurned_89 rfl ?_
        rw [show i = (zpw (N 2) (N 1).toNat).toNat by omega] at iB ⊢; exact k _ H O W B hs hG2 hG3 hG4 hG5 (iB (by omega))
      exfalso; omega
    | succ p ih =>
      intro i w1 H O W B mo mt x6 hi hs hG2 hG3 hG4 hG5 iH hmt hp h0 iB
      obtain ⟨hmo, hv, hW, hZ⟩ := hp (by omega)
      subst hmo
      have hF := (hs.2 sb (by omega)).trans hF
      have hS := hS.keep hs (by omega)
      have hmb := zmw_b (N := N) (r := r) i
      have hle := zTc_le hO hr iH
      rw [← hmt] at hle
      have htb := zsg_b (f := fun q => zb (zallat N H q ≤ 0)) (B := 1) (m := (N 2).toNat) (a := 0) (fun _ _ _ => zb_b)
      rw [← hmt] at htb
      have hWy : ∀ c, 0 ≤ c → c < N 1 → W c = zwy N (i : Int) c := fun c c1 c2 => by
        rw [← hv]; exact zval_wy hn2 ⟨c1, c2⟩ hW
      have hzb : ∀ q, 0 ≤ q → q < N 2 → zR32 (O q) := fun q q1 q2 => by
        have hcd := hO.2.2.2.2.1 q q1 q2
        have hb := zsg_b (f := fun c => if W c = q then H (c * 4 + q) else 0) (B := 310) (m := (N 1).toNat) (a := 0) (fun c c1 c2 => by
          have := zuntil_b (c := c) (q := q) (r := r) hO (by omega) (by omega) hr
          show 0 ≤ (if W c = q then H (c * 4 + q) else 0) ∧ (if W c = q then H (c * 4 + q) else 0) ≤ 310
          rw [iH c q c1 (by omega) q1 q2]
          split <;> omega)
        rw [hZ q q1 q2]
        unfold zopn
        omega
      have eT : zsg (fun q => zb (O q ≤ 0)) (N 2).toNat 0 = zTc N r (zwy N (i : Int)) := zsg_congr (fun q q1 q2 => by
        show zb (O q ≤ 0) = zb (zopn N (zhw N r) (zwy N (i : Int)) q ≤ 0)
        rw [hZ q q1 (by omega), zopn_c (H2 := zhw N r) (W2 := zwy N (i : Int)) (fun c c1 c2 => ⟨hWy c c1 c2, by rw [iH c q c1 c2 q1 (by omega), zhw_at (by omega)]⟩)])
      have tb := zsg_b (f := fun q => zb (O q ≤ 0)) (B := 1) (m := (N 2).toNat) (a := 0) (fun _ _ _ => zb_b)
      rw [eT] at tb
      have hm1 : zmw N r (i + 1) = if (zmw N r i).1 < zTc N r (zwy N (i : Int)) then (zTc N r (zwy N (i : Int)), (i : Int)) else zmw N r i := rfl
      have J : ∀ (w1 : zWd) (B : Int → Int) (be : Int) (x6 : Option Value), be = (zmw N r (i + 1)).1 → zSame w w1 (sb + 2) 4 → w1.1 (sb + 2) = some (.inr (false, 24, H)) → w1.1 (sb + 3) = some (.inr (false, 4, O)) → w1.1 (sb + 4) = some (.inr (false, 6, W)) → w1.1 (sb + 5) = some (.inr (false, 6, B)) → (∀ c, 0 ≤ c → c < N 1 → B c = zwy N (zmw N r (i + 1)).2 c) → zRuns g d mX0_mostTurned 0 0 76 [some (zR g sb), some (zI r), some (zI mt), some (zI be), some (zI 1), some (zI (i : Int)), x6] [] w1 K := by
        intro w1 B be x6 hbe hs hG2 hG3 hG4 hG5 iB
        subst hbe
        have hF := (hs.2 sb (by omega)).trans ‹w.1 sb = _›
        have hS := ‹zSto g w b N u P›.keep hs (by omega)
        refine q_aload_n (pc := 76) dX0_mostTurned_76 rfl rfl ?_
        refine q_invokevirtual (pc := 77) (d' := d - 1) (mc' := 0) (ms' := 0) (As := []) (TX0, 6) cl_X0_83 dX0_mostTurned_77 rfl rfl (by first | assumption | exact hS.o | exact hS.s0 | exact hS.s1 | exact hS.s2 | exact hS.s3 | exact hS.s4 | exact hS.s5 | exact hS.s6) rfl (by omega) rfl 0 0 (Nat.le_refl 0) (Nat.le_refl 0) ?_
        refine c_X0_nextWay (by omega) hF hG2 hG3 hG4 hS hO hn2 hb hW hZ (fun w2 O2 W2 hs2 h3 h4 i4 i5 i6 => ?_)
        refine q_istore (pc := 80) [some _, some _, some _, some _, some _, some _, _] dX0_mostTurned_80 rfl (Nat.le_of_ble_eq_true rfl) rfl ?_
        refine q_iinc (pc := 82) [some _, some _, some _, some _, some _, some _, _] dX0_mostTurned_82 rfl rfl rfl ?_
        refine q_goto (pc := 85) 18 dX0_mostTurned_85 rfl ?_
        refine ih (i + 1) w2 H O2 W2 B _ mt _ (by omega) (hs.tr (hs2.wide (by omega) (by omega))) ((hs2.2 _ (by omega)).trans hG2) h3 h4 ((hs2.2 _ (by omega)).trans hG5) iH hmt (fun z => ?_) (fun z => zb_f (by omega)) (fun _ => iB)
        have zn : zval (N 2) W (N 1).toNat + 1 ≠ zpw (N 2) (N 1).toNat := (by omega)
        exact ⟨zb_t zn, by rw [i6 zn, hv]; omega, i4, i5⟩
      have hi0 : 0 ≤ (zmw N r i).1 → 0 < i := fun z => by
        rcases Nat.eq_zero_or_pos i with e | e
        · subst e; have z2 : (zmw N r 0).1 = -1 := rfl; omega
        · exact e
      refine q_iload (pc := 18) dX0_mostTurned_18 rfl ?_
      refine q_ldc (pc := 20) tw_3_224 dX0_mostTurned_20 ?_
      refine q_icmp_ge (pc := 22) (by omega) (by omega) 88 dX0_mostTurned_22 rfl (fun c22 => ?_) (fun c22 => ?_)
      · refine q_iload_n (pc := 88) dX0_mostTurned_88 rfl ?_
        refine q_ireturn (pc := 89) dX0_mostTurned_89 rfl ?_
        first | (exfalso; omega; done) | (have es := zmw_stop hle (by omega) (p + 1); rw [show i + (p + 1) = (zpw (N 2) (N 1).toNat).toNat by omega] at es; rw [← es]; exact k _ H O W B hs hG2 hG3 hG4 hG5 (by rw [es]; exact iB (hi0 (by omega))))
      refine q_iload (pc := 25) dX0_mostTurned_25 rfl ?_
      refine q_if_eq (pc := 27) (by omega) 88 dX0_mostTurned_27 rfl (fun c27 => ?_) (fun c27 => ?_)
      · refine q_iload_n (pc := 88) dX0_mostTurned_88 rfl ?_
        refine q_ireturn (pc := 89) dX0_mostTurned_89 rfl ?_
        first | (exfalso; omega; done) | (have es := zmw_stop hle (by omega) (p + 1); rw [show i + (p + 1) = (zpw (N 2) (N 1).toNat).toNat by omega] at es; rw [← es]; exact k _ H O W B hs hG2 hG3 hG4 hG5 (by rw [es]; exact iB (hi0 (by omega))))
      refine q_iload_n (pc := 30) dX0_mostTurned_30 rfl ?_
      refine q_iload_n (pc := 31) dX0_mostTurned_31 rfl ?_
      refine q_icmp_ge (pc := 32) (by omega) (by omega) 88 dX0_mostTurned_32 rfl (fun c32 => ?_) (fun c32 => ?_)
      · refine q_iload_n (pc := 88) dX0_mostTurned_88 rfl ?_
        refine q_ireturn (pc := 89) dX0_mostTurned_89 rfl ?_
        first | (exfalso; omega; done) | (have es := zmw_stop hle (by omega) (p + 1); rw [show i + (p + 1) = (zpw (N 2) (N 1).toNat).toNat by omega] at es; rw [← es]; exact k _ H O W B hs hG2 hG3 hG4 hG5 (by rw [es]; exact iB (hi0 (by omega))))
      refine q_aload_n (pc := 35) dX0_mostTurned_35 rfl rfl ?_
      refine q_invokevirtual (pc := 36) (d' := d - 1) (mc' := 0) (ms' := 0) (As := []) (TX0, 6) cl_X0_74 dX0_mostTurned_36 rfl rfl (by first | assumption | exact hS.o | exact hS.s0 | exact hS.s1 | exact hS.s2 | exact hS.s3 | exact hS.s4 | exact hS.s5 | exact hS.s6) rfl (by omega) rfl 0 0 (Nat.le_refl 0) (Nat.le_refl 0) ?_
      refine c_X0_turnedNow (by omega) hF hS hO hG3 hzb ?_
      rw [eT]
      refine q_istore (pc := 39) [some _, some _, some _, some _, some _, some _, some _] dX0_mostTurned_39 rfl (Nat.le_of_ble_eq_true rfl) rfl ?_
      refine q_iload (pc := 41) dX0_mostTurned_41 rfl ?_
      refine q_iload_n (pc := 43) dX0_mostTurned_43 rfl ?_
      refine q_icmp_le (pc := 44) (by omega) (by omega) 76 dX0_mostTurned_44 rfl (fun c44 => ?_) (fun c44 => ?_)
      · first | (exact J _ B _ _ (by rw [hm1, if_neg (by omega)]) hs hG2 hG3 hG4 hG5 (fun c c1 c2 => by rw [hm1, if_neg (by omega)]; exact iB (hi0 (by omega)) c c1 c2)) | (refine J _ _ _ _ (by rw [hm1, if_pos (by omega)]) (hs.tr (zSame.up (by omega))) (by simp only [zup]; rw [if_neg (by omega)]; exact hG2) (by simp only [zup]; rw [if_neg (by omega)]; exact hG3) (by simp only [zup]; rw [if_neg (by omega)]; exact hG4) (by simp only [zup]; rw [if_pos trivial]) (fun c c1 c2 => ?_); rw [zcpy_in (by omega), hm1, if_pos (by omega)]; exact hWy c c1 c2)
      refine q_iload (pc := 47) dX0_mostTurned_47 rfl ?_
      refine q_istore_n (pc := 49) [some _, some _, some _, some _, some _, some _, some _] dX0_mostTurned_49 rfl (Nat.le_of_ble_eq_true rfl) rfl ?_
      refine q_aload_n (pc := 50) dX0_mostTurned_50 rfl rfl ?_
      refine q_getfield (pc := 51) gf_X0_21 dX0_mostTurned_51 (by first | assumption | exact hS.o | exact hS.s0 | exact hS.s1 | exact hS.s2 | exact hS.s3 | exact hS.s4 | exact hS.s5 | exact hS.s6) rfl ?_
      refine q_iconst (pc := 54) dX0_mostTurned_54 ?_
      refine q_aload_n (pc := 55) dX0_mostTurned_55 rfl rfl ?_
      refine q_getfield (pc := 56) gf_X0_24 dX0_mostTurned_56 (by first | assumption | exact hS.o | exact hS.s0 | exact hS.s1 | exact hS.s2 | exact hS.s3 | exact hS.s4 | exact hS.s5 | exact hS.s6) rfl ?_
      refine q_iconst (pc := 59) dX0_mostTurned_59 ?_
      refine q_aload_n (pc := 60) dX0_mostTurned_60 rfl rfl ?_
      refine q_getfield (pc := 61) gf_X0_21 dX0_mostTurned_61 (by first | assumption | exact hS.o | exact hS.s0 | exact hS.s1 | exact hS.s2 | exact hS.s3 | exact hS.s4 | exact hS.s5 | exact hS.s6) rfl ?_
      refine q_arraylength (pc := 64) dX0_mostTurned_64 (by first | assumption | exact hS.o | exact hS.s0 | exact hS.s1 | exact hS.s2 | exact hS.s3 | exact hS.s4 | exact hS.s5 | exact hS.s6) ?_
      refine q_aload_n (pc := 65) dX0_mostTurned_65 rfl rfl ?_
      refine q_getfield (pc := 66) gf_X0_24 dX0_mostTurned_66 (by first | assumption | exact hS.o | exact hS.s0 | exact hS.s1 | exact hS.s2 | exact hS.s3 | exact hS.s4 | exact hS.s5 | exact hS.s6) rfl ?_
      refine q_arraylength (pc := 69) dX0_mostTurned_69 (by first | assumption | exact hS.o | exact hS.s0 | exact hS.s1 | exact hS.s2 | exact hS.s3 | exact hS.s4 | exact hS.s5 | exact hS.s6) ?_
      refine q_min (pc := 70) tw_3_223 tw_2_67 tw_1_4 tw_2_68 dX0_mostTurned_70 (by omega) rfl (by omega) (by omega) ?_
      refine q_arraycopy (pc := 73) tw_4_31 dX0_mostTurned_73 (by first | assumption | exact hS.o | exact hS.s0 | exact hS.s1 | exact hS.s2 | exact hS.s3 | exact hS.s4 | exact hS.s5 | exact hS.s6) (by first | assumption | exact hS.o | exact hS.s0 | exact hS.s1 | exact hS.s2 | exact hS.s3 | exact hS.s4 | exact hS.s5 | exact hS.s6) (by omega) (by omega) (by omega) (by omega) rfl ?_
      first | (exact J _ B _ _ (by rw [hm1, if_neg (by omega)]) hs hG2 hG3 hG4 hG5 (fun c c1 c2 => by rw [hm1, if_neg (by omega)]; exact iB (hi0 (by omega)) c c1 c2)) | (refine J _ _ _ _ (by rw [hm1, if_pos (by omega)]) (hs.tr (zSame.up (by omega))) (by simp only [zup]; rw [if_neg (by omega)]; exact hG2) (by simp only [zup]; rw [if_neg (by omega)]; exact hG3) (by simp only [zup]; rw [if_neg (by omega)]; exact hG4) (by simp only [zup]; rw [if_pos trivial]) (fun c c1 c2 => ?_); rw [zcpy_in (by omega), hm1, if_pos (by omega)]; exact hWy c c1 c2)
  refine zenter [some _, some _, none, none, none, none, none] pn_X0 rfl (Nat.le_of_ble_eq_true rfl) ?_
  refine q_aload_n (pc := 0) dX0_mostTurned_0 rfl rfl ?_
  refine q_iload_n (pc := 1) dX0_mostTurned_1 rfl ?_
  refine q_invokevirtual (pc := 2) (d' := d - 1) (mc' := 0) (ms' := 0) (As := [_]) (TX0, 6) cl_X0_66 dX0_mostTurned_2 rfl rfl (by first | assumption | exact hS.o | exact hS.s0 | exact hS.s1 | exact hS.s2 | exact hS.s3 | exact hS.s4 | exact hS.s5 | exact hS.s6) rfl (by omega) rfl 0 0 (Nat.le_refl 0) (Nat.le_refl 0) ?_
  refine c_X0_startWays (by omega) hF hG2 hG3 hG4 hS hO hn2 hr hb (fun w1 H O W hs h2 h3 h4 iH iW iO => ?_)
  have hF := (hs.2 sb (by omega)).trans hF
  have hG5 := (hs.2 (sb + 5) (by omega)).trans hG5
  have hS := hS.keep hs (by omega)
  refine q_aload_n (pc := 5) dX0_mostTurned_5 rfl rfl ?_
  refine q_invokevirtual (pc := 6) (d' := d - 1) (mc' := 0) (ms' := 0) (As := []) (TX0, 6) cl_X0_70 dX0_mostTurned_6 rfl rfl (by first | assumption | exact hS.o | exact hS.s0 | exact hS.s1 | exact hS.s2 | exact hS.s3 | exact hS.s4 | exact hS.s5 | exact hS.s6) rfl (by omega) rfl 0 0 (Nat.le_refl 0) (Nat.le_refl 0) ?_
  refine c_X0_turnedByAllAtEach (by omega) hF hS hO h2 (fun c q c1 c2 q1 q2 => by rw [iH c q c1 c2 q1 q2]; exact zuntil_b hO ⟨c1, c2⟩ ⟨q1, q2⟩ hr) ?_
  refine q_istore_n (pc := 9) [some _, some _, some _, none, none, none, none] dX0_mostTurned_9 rfl (Nat.le_of_ble_eq_true rfl) rfl ?_
  refine q_iconst (pc := 10) dX0_mostTurned_10 ?_
  refine q_istore_n (pc := 11) [some _, some _, some _, some _, none, none, none] dX0_mostTurned_11 rfl (Nat.le_of_ble_eq_true rfl) rfl ?_
  refine q_iconst (pc := 12) dX0_mostTurned_12 ?_
  refine q_istore (pc := 13) [some _, some _, some _, some _, some _, none, none] dX0_mostTurned_13 rfl (Nat.le_of_ble_eq_true rfl) rfl ?_
  refine q_iconst (pc := 15) dX0_mostTurned_15 ?_
  refine q_istore (pc := 16) [some _, some _, some _, some _, some _, some _, none] dX0_mostTurned_16 rfl (Nat.le_of_ble_eq_true rfl) rfl ?_
  exact L (zpw (N 2) (N 1).toNat).toNat 0 _ H O W B0 _ _ _ (by omega) (hs.wide (by omega) (by omega)) h2 h3 h4 hG5 iH rfl (fun _ => ⟨rfl, zval_0 _ (fun c c1 c2 => iW c c1 (by omega)), fun c c1 c2 => by rw [iW c c1 c2]; omega, iO⟩) (fun z => by omega) (fun z => absurd z (by omega))
end X0F
