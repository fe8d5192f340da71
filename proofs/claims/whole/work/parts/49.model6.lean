/-! the reference: the jar -/
theorem zsg_fr {f : Int → Int} : ∀ (m : Nat) (a : Int), zsg f (m + 1) a = f a + zsg f m (a + 1)
  | 0, a => by rw [zsg, zsg, zsg]; simp
  | m + 1, a => by
    rw [zsg, zsg_fr m a, zsg, show a + ((m + 1 : Nat) : Int) = a + 1 + (m : Int) by omega]; omega
theorem zfrom_rec {N : Int → Int} {c r : Int} (h : 1 ≤ r ∧ r ≤ 9) : zfrom N c r = N (18 + 10 * c + r) + zfrom N c (r + 1) := by
  unfold zfrom
  rw [show max 1 r = r by omega, show max 1 (r + 1) = r + 1 by omega, show (10 - r).toNat = (10 - (r + 1)).toNat + 1 by omega, zsg_fr]
theorem zfrom_end {N : Int → Int} {c r : Int} (h : 10 ≤ r) : zfrom N c r = 0 := by
  unfold zfrom
  rw [show (10 - max 1 r).toNat = 0 by omega]; rfl
/-- the jar after L rings are lost -/
def zJr (N : Int → Int) (c L : Int) (f : Int → Int) : Prop := ∀ r, 1 ≤ r → r ≤ 9 → f r = if r + L ≤ 9 then N (18 + 10 * c + (r + L)) else 0
theorem zJr.ml {N : Int → Int} {c L n : Int} {f : Int → Int} (h : zJr N c L f) (hn : 0 ≤ n) (hL : 0 ≤ L) : zJr N c (L + n) (zml f 0 n) := fun r h1 h2 => by
  simp only [zml]
  rw [if_pos (by omega)]
  by_cases h3 : r - 0 + n ≤ 9
  · rw [if_pos h3, h (r + n) (by omega) (by omega)]
    by_cases h4 : r + n + L ≤ 9
    · rw [if_pos h4, if_pos (by omega)]; congr 1; omega
    · rw [if_neg h4, if_neg (by omega)]
  · rw [if_neg h3]
    by_cases h4 : r + (L + n) ≤ 9
    · rw [if_pos h4]; exfalso; omega
    · rw [if_neg h4]
theorem zJr.df {N : Int → Int} {c L r : Int} {f : Int → Int} (h : zJr N c L f) (hL : 0 ≤ L) (hr : 1 ≤ r ∧ r ≤ 9) : f r = zfrom N c (r + L) - zfrom N c (r + 1 + L) := by
  rw [h r hr.1 hr.2]
  by_cases h3 : r + L ≤ 9
  · rw [if_pos h3, zfrom_rec (r := r + L) (by omega), show r + L + 1 = r + 1 + L by omega]; omega
  · rw [if_neg h3, zfrom_end (by omega), zfrom_end (by omega)]; omega
theorem zJr.sg {N : Int → Int} {c L : Int} {f : Int → Int} (h : zJr N c L f) (hL : 0 ≤ L) : ∀ (m : Nat) (a : Int), 1 ≤ a → a + (m : Int) ≤ 10 → zsg f m a = zfrom N c (a + L) - zfrom N c (a + (m : Int) + L)
  | 0, a, _, _ => by rw [zsg, show a + ((0 : Nat) : Int) + L = a + L by omega]; omega
  | m + 1, a, h1, h2 => by
    rw [zsg, h.sg hL m a h1 (by omega), h.df hL (r := a + (m : Int)) (by omega), show a + ((m + 1 : Nat) : Int) + L = a + (m : Int) + 1 + L by omega]; omega
theorem zgr_sp {f : Int → Int} : ∀ m : Nat, (zgr f m = 0 ∨ (1 ≤ zgr f m ∧ zgr f m ≤ (m : Int) ∧ 0 < f (zgr f m))) ∧ ∀ r, zgr f m < r → r ≤ (m : Int) → ¬ 0 < f r
  | 0 => ⟨Or.inl rfl, fun r h1 h2 => by rw [zgr] at h1; omega⟩
  | m + 1 => by
    have ih := zgr_sp (f := f) m
    rw [zgr]
    by_cases h : 0 < f ((m : Int) + 1)
    · rw [if_pos h]; exact ⟨Or.inr ⟨by omega, by omega, h⟩, fun r h1 h2 => by omega⟩
    · rw [if_neg h]
      refine ⟨?_, fun r h1 h2 => ?_⟩
      · rcases ih.1 with h2 | h2
        · exact Or.inl h2
        · exact Or.inr ⟨h2.1, by omega, h2.2.2⟩
      · by_cases h3 : r = (m : Int) + 1
        · rw [h3]; exact h
        · exact ih.2 r h1 (by omega)
theorem zJr.gr {N : Int → Int} {c L : Int} {f : Int → Int} (h : zJr N c L f) (hL : 0 ≤ L) : zgr f 9 = max 0 (zgreat N c - L) := by
  have h1 := zgr_sp (f := f) 9
  have h2 := zgr_sp (f := fun r => N (18 + 10 * c + r)) 9
  have hG : zgr (fun r => N (18 + 10 * c + r)) 9 = zgreat N c := rfl
  rw [hG] at h2
  by_cases h3 : 1 ≤ zgreat N c - L
  · have h4 : 0 < f (zgreat N c - L) := by
      rw [h _ h3 (by omega), if_pos (by omega), show zgreat N c - L + L = zgreat N c by omega]
      rcases h2.1 with h5 | h5
      · omega
      · exact h5.2.2
    have h5 : ¬ zgr f 9 < zgreat N c - L := fun z => h1.2 _ z (by omega) h4
    have h6 : ¬ zgreat N c - L < zgr f 9 := fun z => by
      rcases h1.1 with h7 | h7
      · omega
      · have h8 := h7.2.2
        rw [h _ h7.1 h7.2.1] at h8
        split at h8
        · exact h2.2 _ (by omega) (by omega) h8
        · omega
    omega
  · rcases h1.1 with h7 | h7
    · omega
    · have h8 := h7.2.2
      rw [h _ h7.1 h7.2.1] at h8
      split at h8
      · exact absurd h8 (h2.2 _ (by omega) (by omega))
      · omega
theorem zsg9 {f : Int → Int} : zsg f 9 1 = 0 + f 1 + f 2 + f 3 + f 4 + f 5 + f 6 + f 7 + f 8 + f 9 := rfl
def zpk (x : Int) (f : Int → Int) : Int → Int := fun r => if x = 0 ∨ (r + 2) / 3 = x then f r else 0
theorem zJr.pk {N : Int → Int} {c L x : Int} {f : Int → Int} (h : zJr N c L f) (hL : 0 ≤ L) (hx : 0 ≤ x ∧ x ≤ 3) : zsg (zpk x f) 9 1 = if x = 0 then zfrom N c (L + 1) else zfrom N c (L + 3 * x - 2) - zfrom N c (L + 3 * x + 1) := by
  have d1 := h.df hL (r := 1) (by omega)
  have d2 := h.df hL (r := 2) (by omega)
  have d3 := h.df hL (r := 3) (by omega)
  have d4 := h.df hL (r := 4) (by omega)
  have d5 := h.df hL (r := 5) (by omega)
  have d6 := h.df hL (r := 6) (by omega)
  have d7 := h.df hL (r := 7) (by omega)
  have d8 := h.df hL (r := 8) (by omega)
  have d9 := h.df hL (r := 9) (by omega)
  have d10 := zfrom_end (N := N) (c := c) (r := 10 + L) (by omega)
  rw [show (1 : Int) + 1 + L = 2 + L by omega] at d1
  rw [show (2 : Int) + 1 + L = 3 + L by omega] at d2
  rw [show (3 : Int) + 1 + L = 4 + L by omega] at d3
  rw [show (4 : Int) + 1 + L = 5 + L by omega] at d4
  rw [show (5 : Int) + 1 + L = 6 + L by omega] at d5
  rw [show (6 : Int) + 1 + L = 7 + L by omega] at d6
  rw [show (7 : Int) + 1 + L = 8 + L by omega] at d7
  rw [show (8 : Int) + 1 + L = 9 + L by omega] at d8
  rw [show (9 : Int) + 1 + L = 10 + L by omega] at d9
  rw [zsg9]
  by_cases x0 : x = 0
  · subst x0
    rw [if_pos rfl, show L + 1 = 1 + L by omega]
    have e : ∀ r, zpk 0 f r = f r := fun r => if_pos (Or.inl rfl)
    rw [e, e, e, e, e, e, e, e, e]; omega
  · rw [if_neg x0]
    have e : ∀ r, (r + 2) / 3 = x → zpk x f r = f r := fun r hr => if_pos (Or.inr hr)
    have n : ∀ r, (r + 2) / 3 ≠ x → zpk x f r = 0 := fun r hr => if_neg (fun z => z.elim x0 hr)
    by_cases x1 : x = 1
    · subst x1
      rw [e 1 (by omega), e 2 (by omega), e 3 (by omega), n 4 (by omega), n 5 (by omega), n 6 (by omega), n 7 (by omega), n 8 (by omega), n 9 (by omega), show L + 3 * 1 - 2 = 1 + L by omega, show L + 3 * 1 + 1 = 4 + L by omega]; omega
    · by_cases x2 : x = 2
      · subst x2
        rw [n 1 (by omega), n 2 (by omega), n 3 (by omega), e 4 (by omega), e 5 (by omega), e 6 (by omega), n 7 (by omega), n 8 (by omega), n 9 (by omega), show L + 3 * 2 - 2 = 4 + L by omega, show L + 3 * 2 + 1 = 7 + L by omega]; omega
      · obtain rfl : x = 3 := by omega
        rw [n 1 (by omega), n 2 (by omega), n 3 (by omega), n 4 (by omega), n 5 (by omega), n 6 (by omega), e 7 (by omega), e 8 (by omega), e 9 (by omega), show L + 3 * 3 - 2 = 7 + L by omega, show L + 3 * 3 + 1 = 10 + L by omega]; omega
theorem zor_0 {a : Int} (h : zR32 a) : zor a 0 = a := by
  unfold zor
  rw [show Int32.ofInt 0 = 0 from rfl, Int32.or_zero, zi_t h]
theorem zand_1 {a : Int} (h : zR32 a) : zand a (-1) = a := by
  unfold zand
  rw [show Int32.ofInt (-1) = -1 from rfl, Int32.and_neg_one, zi_t h]
section X8F
variable {g : zG} {d : Nat} {w : zWd} {K : Option Value → zWd → Prop} {N : Int → Int} {ab be u len p0 p1 p2 p3 p4 it sm : Int}
set_option maxRecDepth 100000 in
set_option maxHeartbeats 4000000 in
theorem c_X8_takeJar {c : Int} {f0 : Int → Int} (h72 : w.1 72 = some (zMO g ab be u len p0 p1 p2 p3 p4 it sm)) (h73 : w.1 73 = some (.inr (false, 168, N))) (h78 : w.1 78 = some (.inr (false, 10, f0))) (hc : 0 ≤ c ∧ c < 5) (k : ∀ w' f, zSame w w' 78 1 → w'.1 78 = some (.inr (false, 10, f)) → zJr N c 0 f → K none w') : zCall g d 0 0 mX8_takeJar [zR g 72, zI c] w K := by
  have L : ∀ (q m : Nat) (w1 : zWd) (f : Int → Int), m + q = 10 → zSame w w1 78 1 → w1.1 78 = some (.inr (false, 10, f)) → (∀ r, 0 ≤ r → r < (m : Int) → f r = N (18 + 10 * c + r)) → zRuns g d mX8_takeJar 0 0 2 [some (zR g 72), some (zI c), some (zI (m : Int))] [] w1 K := by
    intro q
    induction q with
    | zero =>
      intro m w1 f h1 hs hF hf
      obtain rfl : m = 10 := by omega
      refine q_iload_n (pc := 2) dX8_takeJar_2 rfl ?_
      refine q_bipush (pc := 3) (by decide) dX8_takeJar_3 ?_
      refine q_icmp_ge (pc := 5) (by omega) (by omega) 34 dX8_takeJar_5 rfl (fun c5 => ?_) (fun c5 => ?_)
      · refine q_return (pc := 34) dX8_takeJar_34 rfl ?_
        exact k _ f hs hF (fun r a b => by rw [if_pos (by omega), Int.add_zero]; exact hf r (by omega) (by omega))
      exfalso; omega
    | succ q ih =>
      intro m w1 f h1 hs hF hf
      have hih := ih (m + 1)
      have h72 := (hs.2 72 (by omega)).trans h72
      have h73 := (hs.2 73 (by omega)).trans h73
      refine q_iload_n (pc := 2) dX8_takeJar_2 rfl ?_
      refine q_bipush (pc := 3) (by decide) dX8_takeJar_3 ?_
      refine q_icmp_ge (pc := 5) (by omega) (by omega) 34 dX8_takeJar_5 rfl (fun c5 => ?_) (fun c5 => ?_)
      · exfalso; omega
      refine q_aload_n (pc := 8) dX8_takeJar_8 rfl rfl ?_
      refine q_getfield (pc := 9) gf_X8_29 dX8_takeJar_9 (by assumption) rfl ?_
      refine q_iload_n (pc := 12) dX8_takeJar_12 rfl ?_
      refine q_aload_n (pc := 13) dX8_takeJar_13 rfl rfl ?_
      refine q_getfield (pc := 14) gf_X8_7 dX8_takeJar_14 (by assumption) rfl ?_
      refine q_bipush (pc := 17) (by decide) dX8_takeJar_17 ?_
      refine q_bipush (pc := 19) (by decide) dX8_takeJar_19 ?_
      refine q_iload_n (pc := 21) dX8_takeJar_21 rfl ?_
      refine q_imul (pc := 22) dX8_takeJar_22 ?_
      refine q_iadd (pc := 23) dX8_takeJar_23 ?_
      refine q_iload_n (pc := 24) dX8_takeJar_24 rfl ?_
      refine q_iadd (pc := 25) dX8_takeJar_25 ?_
      refine q_iaload (pc := 26) dX8_takeJar_26 (by assumption) (by omega) ?_
      refine q_iastore (pc := 27) dX8_takeJar_27 (by assumption) (by omega) ?_
      refine q_iinc (pc := 28) [some _, some _, some _] dX8_takeJar_28 rfl rfl rfl ?_
      refine q_goto (pc := 31) 2 dX8_takeJar_31 rfl ?_
      refine hih _ _ (by omega) (hs.tr (zSame.up (by omega))) zup_at (fun r a b => ?_)
      simp only [zfu]
      by_cases e : r = (m : Int)
      · rw [if_pos e, e]
      · rw [if_neg e]; exact hf r a (by omega)
  refine zenter [some _, some _, none] pn_X8 rfl (Nat.le_of_ble_eq_true rfl) ?_
  refine q_iconst (pc := 0) dX8_takeJar_0 ?_
  refine q_istore_n (pc := 1) [some _, some _, some _] dX8_takeJar_1 rfl (Nat.le_of_ble_eq_true rfl) rfl ?_
  exact L 10 0 _ f0 (by omega) zSame.rf h78 (fun r a b => by omega)
set_option maxRecDepth 100000 in
set_option maxHeartbeats 4000000 in
theorem c_X8_greatestIn {c L : Int} {f : Int → Int} (h72 : w.1 72 = some (zMO g ab be u len p0 p1 p2 p3 p4 it sm)) (h78 : w.1 78 = some (.inr (false, 10, f))) (hJ : zJr N c L f) (hL : 0 ≤ L) (hf : ∀ r, 1 ≤ r → r ≤ 9 → zR32 (f r)) (k : K (some (zI (max 0 (zgreat N c - L)))) w) : zCall g d 0 0 mX8_greatestIn [zR g 72] w K := by
  have L1 : ∀ (q m : Nat), m + q = 9 → zRuns g d mX8_greatestIn 0 0 4 [some (zR g 72), some (zI (zgr f m)), some (zI ((m : Int) + 1))] [] w K := by
    intro q
    induction q with
    | zero =>
      intro m h1
      obtain rfl : m = 9 := by omega
      refine q_iload_n (pc := 4) dX8_greatestIn_4 rfl ?_
      refine q_bipush (pc := 5) (by decide) dX8_greatestIn_5 ?_
      refine q_icmp_ge (pc := 7) (by omega) (by omega) 31 dX8_greatestIn_7 rfl (fun c7 => ?_) (fun c7 => ?_)
      · refine q_iload_n (pc := 31) dX8_greatestIn_31 rfl ?_
        refine q_ireturn (pc := 32) dX8_greatestIn_32 rfl ?_
        rw [hJ.gr hL]; exact k
      exfalso; omega
    | succ q ih =>
      intro m h1
      have hih := ih (m + 1) (by omega)
      have hb := hf ((m : Int) + 1) (by omega) (by omega)
      rw [zgr, show (((m + 1 : Nat) : Int)) + 1 = (m : Int) + 1 + 1 by omega] at hih
      refine q_iload_n (pc := 4) dX8_greatestIn_4 rfl ?_
      refine q_bipush (pc := 5) (by decide) dX8_greatestIn_5 ?_
      refine q_icmp_ge (pc := 7) (by omega) (by omega) 31 dX8_greatestIn_7 rfl (fun c7 => ?_) (fun c7 => ?_)
      · exfalso; omega
      refine q_aload_n (pc := 10) dX8_greatestIn_10 rfl rfl ?_
      refine q_getfield (pc := 11) gf_X8_29 dX8_greatestIn_11 (by assumption) rfl ?_
      refine q_iload_n (pc := 14) dX8_greatestIn_14 rfl ?_
      refine q_iaload (pc := 15) dX8_greatestIn_15 (by assumption) (by omega) ?_
      refine q_if_le (pc := 16) (by omega) 23 dX8_greatestIn_16 rfl (fun c16 => ?_) (fun c16 => ?_)
      · refine q_iload_n (pc := 23) dX8_greatestIn_23 rfl ?_
        refine q_istore_n (pc := 24) [some _, some _, some _] dX8_greatestIn_24 rfl (Nat.le_of_ble_eq_true rfl) rfl ?_
        refine q_iinc (pc := 25) [some _, some _, some _] dX8_greatestIn_25 rfl rfl rfl ?_
        refine q_goto (pc := 28) 4 dX8_greatestIn_28 rfl ?_
        first | (rw [if_pos c16] at hih; exact hih) | (rw [if_neg (by omega)] at hih; exact hih)
      refine q_iload_n (pc := 19) dX8_greatestIn_19 rfl ?_
      refine q_goto (pc := 20) 24 dX8_greatestIn_20 rfl ?_
      refine q_istore_n (pc := 24) [some _, some _, some _] dX8_greatestIn_24 rfl (Nat.le_of_ble_eq_true rfl) rfl ?_
      refine q_iinc (pc := 25) [some _, some _, some _] dX8_greatestIn_25 rfl rfl rfl ?_
      refine q_goto (pc := 28) 4 dX8_greatestIn_28 rfl ?_
      first | (rw [if_pos c16] at hih; exact hih) | (rw [if_neg (by omega)] at hih; exact hih)
  refine zenter [some _, none, none] pn_X8 rfl (Nat.le_of_ble_eq_true rfl) ?_
  refine q_iconst (pc := 0) dX8_greatestIn_0 ?_
  refine q_istore_n (pc := 1) [some _, some _, none] dX8_greatestIn_1 rfl (Nat.le_of_ble_eq_true rfl) rfl ?_
  refine q_iconst (pc := 2) dX8_greatestIn_2 ?_
  refine q_istore_n (pc := 3) [some _, some _, some _] dX8_greatestIn_3 rfl (Nat.le_of_ble_eq_true rfl) rfl ?_
  exact L1 9 0 (by omega)
set_option maxRecDepth 100000 in
set_option maxHeartbeats 4000000 in
theorem c_X8_manyFrom {c L r : Int} {f : Int → Int} (h72 : w.1 72 = some (zMO g ab be u len p0 p1 p2 p3 p4 it sm)) (h78 : w.1 78 = some (.inr (false, 10, f))) (hJ : zJr N c L f) (hL : 0 ≤ L) (hr : 1 ≤ r ∧ r ≤ 9) (k : K (some (zI (zfrom N c (r + L)))) w) : zCall g d 0 0 mX8_manyFrom [zR g 72, zI r] w K := by
  have L1 : ∀ (q m : Nat), (m : Int) + (q : Int) = 10 - r → zRuns g d mX8_manyFrom 0 0 4 [some (zR g 72), some (zI r), some (zI (zsg f m r)), some (zI (r + (m : Int)))] [] w K := by
    intro q
    induction q with
    | zero =>
      intro m h1
      have e := hJ.sg hL m r hr.1 (by omega)
      rw [zfrom_end (r := r + (m : Int) + L) (by omega), Int.sub_zero] at e
      refine q_iload_n (pc := 4) dX8_manyFrom_4 rfl ?_
      refine q_bipush (pc := 5) (by decide) dX8_manyFrom_5 ?_
      refine q_icmp_ge (pc := 7) (by omega) (by omega) 25 dX8_manyFrom_7 rfl (fun c7 => ?_) (fun c7 => ?_)
      · refine q_iload_n (pc := 25) dX8_manyFrom_25 rfl ?_
        refine q_ireturn (pc := 26) dX8_manyFrom_26 rfl ?_
        rw [e]; exact k
      exfalso; omega
    | succ q ih =>
      intro m h1
      have hih := ih (m + 1) (by omega)
      rw [zsg, show r + ((m + 1 : Nat) : Int) = r + (m : Int) + 1 by omega] at hih
      refine q_iload_n (pc := 4) dX8_manyFrom_4 rfl ?_
      refine q_bipush (pc := 5) (by decide) dX8_manyFrom_5 ?_
      refine q_icmp_ge (pc := 7) (by omega) (by omega) 25 dX8_manyFrom_7 rfl (fun c7 => ?_) (fun c7 => ?_)
      · exfalso; omega
      refine q_iload_n (pc := 10) dX8_manyFrom_10 rfl ?_
      refine q_aload_n (pc := 11) dX8_manyFrom_11 rfl rfl ?_
      refine q_getfield (pc := 12) gf_X8_29 dX8_manyFrom_12 (by assumption) rfl ?_
      refine q_iload_n (pc := 15) dX8_manyFrom_15 rfl ?_
      refine q_iaload (pc := 16) dX8_manyFrom_16 (by assumption) (by omega) ?_
      refine q_iadd (pc := 17) dX8_manyFrom_17 ?_
      refine q_istore_n (pc := 18) [some _, some _, some _, some _] dX8_manyFrom_18 rfl (Nat.le_of_ble_eq_true rfl) rfl ?_
      refine q_iinc (pc := 19) [some _, some _, some _, some _] dX8_manyFrom_19 rfl rfl rfl ?_
      refine q_goto (pc := 22) 4 dX8_manyFrom_22 rfl ?_
      exact hih
  refine zenter [some _, some _, none, none] pn_X8 rfl (Nat.le_of_ble_eq_true rfl) ?_
  refine q_iconst (pc := 0) dX8_manyFrom_0 ?_
  refine q_istore_n (pc := 1) [some _, some _, some _, none] dX8_manyFrom_1 rfl (Nat.le_of_ble_eq_true rfl) rfl ?_
  refine q_iload_n (pc := 2) dX8_manyFrom_2 rfl ?_
  refine q_istore_n (pc := 3) [some _, some _, some _, some _] dX8_manyFrom_3 rfl (Nat.le_of_ble_eq_true rfl) rfl ?_
  exact cast (by rw [show r + ((0 : Nat) : Int) = r by omega]; rfl) (L1 (10 - r).toNat 0 (by omega))
end X8F
