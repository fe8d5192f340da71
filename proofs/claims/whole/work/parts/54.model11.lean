theorem zweekTo_row {N : Int → Int} : ∀ (m : Nat), (m : Int) ≤ 5 → ∀ c r, 0 ≤ c → c < 5 → 1 ≤ r → r ≤ 9 → zweekTo N m (18 + 10 * c + r) = if c < (m : Int) then (if r + zmelt (N (8 + c)) (N 3) (N (13 + c)) ≤ 9 then N (18 + 10 * c + (r + zmelt (N (8 + c)) (N 3) (N (13 + c)))) else 0) else N (18 + 10 * c + r)
  | 0, _, c, r, h0, _, _, _ => by rw [if_neg (by omega)]; rfl
  | m + 1, hm, c, r, h0, h1, h2, h3 => by
    have ih := zweekTo_row (N := N) m (by omega) c
    have hz := zmelt_b (N (8 + c)) (N 3) (N (13 + c))
    rw [zweekTo]
    simp only [zlose]
    by_cases hc : c = (m : Int)
    · subst hc
      rw [if_pos (by omega), if_pos (show (m : Int) < ((m + 1 : Nat) : Int) by omega)]
      by_cases h4 : r + zmelt (N (8 + (m : Int))) (N 3) (N (13 + (m : Int))) ≤ 9
      · rw [if_pos (by omega), if_pos h4, show 18 + 10 * (m : Int) + r + zmelt (N (8 + (m : Int))) (N 3) (N (13 + (m : Int))) = 18 + 10 * (m : Int) + (r + zmelt (N (8 + (m : Int))) (N 3) (N (13 + (m : Int)))) by omega, ih _ h0 h1 (by omega) h4, if_neg (by omega)]
      · rw [if_neg (by omega), if_neg h4]
    · rw [if_neg (by omega), ih r h0 h1 h2 h3]
      by_cases h4 : c < (m : Int)
      · rw [if_pos h4, if_pos (show c < ((m + 1 : Nat) : Int) by omega)]
      · rw [if_neg h4, if_neg (show ¬ c < ((m + 1 : Nat) : Int) by omega)]
theorem zone {N : Int → Int} {fr : Int} (h : zR32 (N fr)) : ∀ i, 0 ≤ i → i < 1 → zR32 (N (fr + i)) := fun i a b => by
  rw [show fr + i = fr by omega]; exact h
theorem zstR {N : Int → Int} {m i : Int} (hO : zOK N) (hm : 0 ≤ m ∧ m < 5) (hi : 0 ≤ i ∧ i < 9) : zR32 (N (18 + 10 * m + 1 + i)) := by
  have h9 := (hO.2.2.1 m (1 + i) (by omega) (by omega) (by omega) (by omega)).1
  rw [show 18 + 10 * m + 1 + i = 18 + 10 * m + (1 + i) by omega]; omega
/-- what the row tried holds after i weeks of the seed -/
def zTr (N : Int → Int) (seed : Int) (i : Nat) (T : Int → Int) : Prop := T 0 = N 0 ∧ T 3 = N 3 + (i : Int) ∧ ∀ c, 0 ≤ c → c < N 0 → T (8 + c) = N (8 + c) ∧ T (13 + c) = N (13 + c) ∧ zJr N c (zlsd N c seed i) (fun r => T (18 + 10 * c + r))
theorem zJr.ex {N : Int → Int} {c L L2 : Int} {f f2 : Int → Int} (h : zJr N c L f) (hL : L2 = L) (e : ∀ r, 1 ≤ r → r ≤ 9 → f2 r = f r) : zJr N c L2 f2 := fun r a b => by rw [e r a b, hL]; exact h r a b
theorem zTr_step {N T : Int → Int} {seed x : Int} {i : Nat} (hh : 0 ≤ N 0 ∧ N 0 ≤ 5) (h : zTr N seed i T) (hx : x = zlcg seed (i + 1) / 65536 % 5) (T1 : Int → Int) (h1 : (x < N 0 ∧ 0 ≤ x ∧ T1 = zlose T x (zcost (T (8 + x)))) ∨ (¬ x < N 0 ∧ T1 = T)) : zTr N seed (i + 1) (zweek T1) := by
  obtain ⟨t0, t3, tc⟩ := h
  have o : ∀ j, j < 18 ∨ 68 ≤ j → T1 j = T j := fun j hj => by
    rcases h1 with ⟨a, b, e⟩ | ⟨a, e⟩
    · rw [e]; exact zlose_out (by omega) (by omega)
    · rw [e]
  have e0 := o 0 (by omega)
  have e3 := o 3 (by omega)
  have wo : ∀ j, (j < 19 ∨ 68 ≤ j) → j ≠ 3 → zweek T1 j = T1 j := fun j hj hn => by
    unfold zweek
    simp only [zfu]
    rw [if_neg hn, zweekTo_out (by omega) hj]
  refine ⟨by rw [wo 0 (by omega) (by omega), e0]; exact t0, ?_, fun c a b => ?_⟩
  · unfold zweek
    simp only [zfu]
    rw [if_pos trivial, e3, t3]; omega
  · obtain ⟨u8, u13, uj⟩ := tc c a b
    have o8 := o (8 + c) (by omega)
    have o13 := o (13 + c) (by omega)
    have hcb := zcost_b (N (8 + c))
    have hmb := zmelt_b (N (8 + c)) (N 3 + (i : Int)) (N (13 + c))
    have hLb := zlsd_b (N := N) (c := c) (seed := seed) i
    refine ⟨by rw [wo _ (by omega) (by omega), o8]; exact u8, by rw [wo _ (by omega) (by omega), o13]; exact u13, ?_⟩
    have hj1 : zJr N c (zlsd N c seed i + (if x = c then zcost (N (8 + c)) else 0)) (fun r => T1 (18 + 10 * c + r)) := by
      rcases h1 with ⟨p, q, e⟩ | ⟨p, e⟩
      · by_cases hc : x = c
        · subst hc
          rw [if_pos rfl]
          refine (uj.ml hcb.1 hLb.1).ex rfl (fun r r1 r2 => ?_)
          rw [e, u8]
          simp only [zlose, zml]
          rw [if_pos (by omega), if_pos (show 0 + 1 ≤ r ∧ r ≤ 0 + 9 by omega)]
          by_cases h4 : r - 0 + zcost (N (8 + x)) ≤ 9
          · rw [if_pos (by omega), if_pos h4]; congr 1; omega
          · rw [if_neg (by omega), if_neg h4]
        · rw [if_neg hc]
          refine uj.ex (by omega) (fun r r1 r2 => ?_)
          rw [e]; simp only [zlose]; rw [if_neg (by omega)]
      · rw [if_neg (by omega)]
        exact uj.ex (by omega) (fun r r1 r2 => by rw [e])
    have hl2 : 0 ≤ zlsd N c seed i + (if x = c then zcost (N (8 + c)) else 0) := by split <;> omega
    refine (hj1.ml hmb.1 hl2).ex (by rw [zlsd, hx]) (fun r r1 r2 => ?_)
    have hz := zweekTo_row (N := T1) (T1 0).toNat (by omega) c r a (by omega) r1 r2
    unfold zweek
    simp only [zfu, zml]
    rw [if_neg (by omega), hz, if_pos (by omega), o8, o13, e3, t3, u8, u13, if_pos (show 0 + 1 ≤ r ∧ r ≤ 0 + 9 by omega)]
    by_cases h4 : r + zmelt (N (8 + c)) (N 3 + (i : Int)) (N (13 + c)) ≤ 9
    · rw [if_pos h4, if_pos (by omega)]
    · rw [if_neg h4, if_neg (by omega)]
theorem zmix_add {f : Int → Int} {h : Int} (a : Nat) : ∀ b : Nat, zmix f (a + b) h = zmix (fun i => f ((a : Int) + i)) b (zmix f a h)
  | 0 => rfl
  | b + 1 => by
    show 31 * zmix f (a + b) h + f ((a + b : Nat) : Int) = 31 * zmix (fun i => f ((a : Int) + i)) b (zmix f a h) + f ((a : Int) + (b : Int))
    rw [zmix_add a b]; congr 2
theorem zmix_fC {N : Int → Int} {h : Int} (m : Nat) : zmix (zfC N) (11 * (m + 1)) h = zmix (fun i => N (18 + 10 * (m : Int) + 1 + i)) 9 (zmix (fun i => N (13 + (m : Int) + i)) 1 (zmix (fun i => N (8 + (m : Int) + i)) 1 (zmix (zfC N) (11 * m) h))) := by
  rw [show 11 * (m + 1) = (11 * m + 1) + 1 + 9 by omega, zmix_add ((11 * m + 1) + 1) 9, zmix_add (11 * m + 1) 1, zmix_add (11 * m) 1]
  rw [zmix_c 9 (fun i a b => show zfC N (((11 * m + 1 + 1 : Nat) : Int) + i) = N (18 + 10 * (m : Int) + 1 + i) by unfold zfC; rw [if_neg (by omega), if_neg (by omega)]; congr 1; omega),
    zmix_c 1 (fun i a b => show zfC N (((11 * m + 1 : Nat) : Int) + i) = N (13 + (m : Int) + i) by unfold zfC; rw [if_neg (by omega), if_pos (by omega)]; congr 1; omega),
    zmix_c 1 (fun i a b => show zfC N (((11 * m : Nat) : Int) + i) = N (8 + (m : Int) + i) by unfold zfC; rw [if_pos (by omega)]; congr 1; omega)]
theorem zmix_fS {N : Int → Int} {h : Int} (m : Nat) : zmix (zfS N) (2 * (m + 1)) h = zmix (fun i => N (74 + (m : Int) + i)) 1 (zmix (fun i => N (68 + (m : Int) + i)) 1 (zmix (zfS N) (2 * m) h)) := by
  rw [show 2 * (m + 1) = (2 * m + 1) + 1 by omega, zmix_add (2 * m + 1) 1, zmix_add (2 * m) 1]
  rw [zmix_c 1 (fun i a b => show zfS N (((2 * m + 1 : Nat) : Int) + i) = N (74 + (m : Int) + i) by unfold zfS; rw [if_neg (by omega)]; congr 1; omega),
    zmix_c 1 (fun i a b => show zfS N (((2 * m : Nat) : Int) + i) = N (68 + (m : Int) + i) by unfold zfS; rw [if_pos (by omega)]; congr 1; omega)]
theorem zmix_fK {N : Int → Int} {h : Int} (m : Nat) : zmix (zfK N) (3 * (m + 1)) h = zmix (fun i => N (88 + (m : Int) + i)) 1 (zmix (fun i => N (84 + (m : Int) + i)) 1 (zmix (fun i => N (80 + (m : Int) + i)) 1 (zmix (zfK N) (3 * m) h))) := by
  rw [show 3 * (m + 1) = (3 * m + 1) + 1 + 1 by omega, zmix_add (3 * m + 1 + 1) 1, zmix_add (3 * m + 1) 1, zmix_add (3 * m) 1]
  rw [zmix_c 1 (fun i a b => show zfK N (((3 * m + 1 + 1 : Nat) : Int) + i) = N (88 + (m : Int) + i) by unfold zfK; rw [if_neg (by omega), if_neg (by omega)]; congr 1; omega),
    zmix_c 1 (fun i a b => show zfK N (((3 * m + 1 : Nat) : Int) + i) = N (84 + (m : Int) + i) by unfold zfK; rw [if_neg (by omega), if_pos (by omega)]; congr 1; omega),
    zmix_c 1 (fun i a b => show zfK N (((3 * m : Nat) : Int) + i) = N (80 + (m : Int) + i) by unfold zfK; rw [if_pos (by omega)]; congr 1; omega)]
theorem zbd3 {N : Int → Int} {i : Int} (hO : zOK N) (h : 0 ≤ i ∧ i < 4 * N 5) : zR32 (N (92 + i)) := by
  have hh := hO.1
  have h1 := hO.2.2.2.2.2.1 (i / 4) (by omega) (by omega)
  obtain ⟨g0, g1, g2, g3⟩ := h1
  have hi : i % 4 = 0 ∨ i % 4 = 1 ∨ i % 4 = 2 ∨ i % 4 = 3 := by omega
  rcases hi with hi | hi | hi | hi
  · rw [show 92 + i = 92 + 4 * (i / 4) by omega]; omega
  · rw [show 92 + i = 93 + 4 * (i / 4) by omega]; omega
  · rw [show 92 + i = 94 + 4 * (i / 4) by omega]; omega
  · rw [show 92 + i = 95 + 4 * (i / 4) by omega]; omega
theorem zbd4 {N : Int → Int} {i : Int} (hO : zOK N) (h : 0 ≤ i ∧ i < 5 * N 6) : zR32 (N (108 + i)) := by
  have hh := hO.1
  have h1 := hO.2.2.2.2.2.2.1 (i / 5) (by omega) (by omega)
  obtain ⟨g0, g1, g2, g3, g4⟩ := h1
  have hi : i % 5 = 0 ∨ i % 5 = 1 ∨ i % 5 = 2 ∨ i % 5 = 3 ∨ i % 5 = 4 := by omega
  rcases hi with hi | hi | hi | hi | hi
  · rw [show 108 + i = 108 + 5 * (i / 5) by omega]; omega
  · rw [show 108 + i = 109 + 5 * (i / 5) by omega]; omega
  · rw [show 108 + i = 110 + 5 * (i / 5) by omega]; omega
  · rw [show 108 + i = 111 + 5 * (i / 5) by omega]; omega
  · rw [show 108 + i = 112 + 5 * (i / 5) by omega]; omega
theorem zbd5 {N : Int → Int} {i : Int} (hO : zOK N) (h : 0 ≤ i ∧ i < 5 * N 7) : zR32 (N (138 + i)) := by
  have hh := hO.1
  have h1 := hO.2.2.2.2.2.2.2 (i / 5) (by omega) (by omega)
  obtain ⟨g0, g1, g2, g3, g4⟩ := h1
  have hi : i % 5 = 0 ∨ i % 5 = 1 ∨ i % 5 = 2 ∨ i % 5 = 3 ∨ i % 5 = 4 := by omega
  rcases hi with hi | hi | hi | hi | hi
  · rw [show 138 + i = 138 + 5 * (i / 5) by omega]; omega
  · rw [show 138 + i = 139 + 5 * (i / 5) by omega]; omega
  · rw [show 138 + i = 140 + 5 * (i / 5) by omega]; omega
  · rw [show 138 + i = 141 + 5 * (i / 5) by omega]; omega
  · rw [show 138 + i = 142 + 5 * (i / 5) by omega]; omega
/-! the reference's own calls, summers and the digest -/
section X8K
variable {g : zG} {d : Nat} {w : zWd} {K : Option Value → zWd → Prop} {S : zSt}
set_option maxRecDepth 100000 in
set_option maxHeartbeats 8000000 in
theorem c_X8_passWeekW {ad : Nat} {N : Int → Int} (hd : 1 ≤ d) (hA : w.1 ad = some (.inr (false, 168, N))) (hh : (0 ≤ N 0 ∧ N 0 ≤ 5) ∧ 0 ≤ N 3 ∧ N 3 ≤ 2000) (hK : zKd N) (k : ∀ w', zSame w w' ad 1 → w'.1 ad = some (.inr (false, 168, zweek N)) → K none w') : zCall g d 0 0 mX8_passWeek [zR g ad] w K := by
  have L : ∀ (q m : Nat) (w1 : zWd), (m : Int) + (q : Int) = N 0 → zSame w w1 ad 1 → w1.1 ad = some (.inr (false, 168, zweekTo N m)) → zRuns g d mX8_passWeek 0 0 2 [some (zR g ad), some (zI (m : Int))] [] w1 K := by
    intro q
    induction q with
    | zero =>
      intro m w1 h1 hs hA
      have e : m = (N 0).toNat := by omega
      have e0 := zweekTo_out (N := N) (m := m) (j := 0) (by omega) (by omega)
      have e3 := zweekTo_out (N := N) (m := m) (j := 3) (by omega) (by omega)
      refine q_iload_n (pc := 2) dX8_passWeek_2 rfl ?_
      refine q_aload_n (pc := 3) dX8_passWeek_3 rfl rfl ?_
      refine q_iconst (pc := 4) dX8_passWeek_4 ?_
      refine q_iaload (pc := 5) dX8_passWeek_5 (by assumption) (by omega) ?_
      refine q_icmp_ge (pc := 6) (by omega) (by omega) 44 dX8_passWeek_6 rfl (fun c6 => ?_) (fun c6 => ?_)
      · refine q_aload_n (pc := 44) dX8_passWeek_44 rfl rfl ?_
        refine q_iconst (pc := 45) dX8_passWeek_45 ?_
        refine q_dup2 (pc := 46) rfl rfl dX8_passWeek_46 ?_
        refine q_iaload (pc := 47) dX8_passWeek_47 (by assumption) (by omega) ?_
        refine q_iconst (pc := 48) dX8_passWeek_48 ?_
        refine q_iadd (pc := 49) dX8_passWeek_49 ?_
        refine q_iastore (pc := 50) dX8_passWeek_50 (by assumption) (by omega) ?_
        refine q_return (pc := 51) dX8_passWeek_51 rfl ?_
        refine k _ (hs.tr (zSame.up (by omega))) ?_
        rw [zup_at, e3, e]; rfl
      exfalso; omega
    | succ q ih =>
      intro m w1 h1 hs hA
      have hih := ih (m + 1)
      have e0 := zweekTo_out (N := N) (m := m) (j := 0) (by omega) (by omega)
      have e3 := zweekTo_out (N := N) (m := m) (j := 3) (by omega) (by omega)
      have e8 := zweekTo_out (N := N) (m := m) (j := 8 + (m : Int)) (by omega) (by omega)
      have e13 := zweekTo_out (N := N) (m := m) (j := 13 + (m : Int)) (by omega) (by omega)
      have hkd := hK (m : Int) (by omega) (by omega)
      have hmb := zmelt_b (N (8 + (m : Int))) (N 3) (N (13 + (m : Int)))
      refine q_iload_n (pc := 2) dX8_passWeek_2 rfl ?_
      refine q_aload_n (pc := 3) dX8_passWeek_3 rfl rfl ?_
      refine q_iconst (pc := 4) dX8_passWeek_4 ?_
      refine q_iaload (pc := 5) dX8_passWeek_5 (by assumption) (by omega) ?_
      refine q_icmp_ge (pc := 6) (by omega) (by omega) 44 dX8_passWeek_6 rfl (fun c6 => ?_) (fun c6 => ?_)
      · exfalso; omega
      refine q_aload_n (pc := 9) dX8_passWeek_9 rfl rfl ?_
      refine q_bipush (pc := 10) (by decide) dX8_passWeek_10 ?_
      refine q_bipush (pc := 12) (by decide) dX8_passWeek_12 ?_
      refine q_iload_n (pc := 14) dX8_passWeek_14 rfl ?_
      refine q_imul (pc := 15) dX8_passWeek_15 ?_
      refine q_iadd (pc := 16) dX8_passWeek_16 ?_
      refine q_aload_n (pc := 17) dX8_passWeek_17 rfl rfl ?_
      refine q_bipush (pc := 18) (by decide) dX8_passWeek_18 ?_
      refine q_iload_n (pc := 20) dX8_passWeek_20 rfl ?_
      refine q_iadd (pc := 21) dX8_passWeek_21 ?_
      refine q_iaload (pc := 22) dX8_passWeek_22 (by assumption) (by omega) ?_
      refine q_aload_n (pc := 23) dX8_passWeek_23 rfl rfl ?_
      refine q_iconst (pc := 24) dX8_passWeek_24 ?_
      refine q_iaload (pc := 25) dX8_passWeek_25 (by assumption) (by omega) ?_
      refine q_aload_n (pc := 26) dX8_passWeek_26 rfl rfl ?_
      refine q_bipush (pc := 27) (by decide) dX8_passWeek_27 ?_
      refine q_iload_n (pc := 29) dX8_passWeek_29 rfl ?_
      refine q_iadd (pc := 30) dX8_passWeek_30 ?_
      refine q_iaload (pc := 31) dX8_passWeek_31 (by assumption) (by omega) ?_
      refine q_invokestatic (pc := 32) (d' := d - 1) (mc' := 0) (ms' := 0) (As := [_, _, _]) cl_X8_87 dX8_passWeek_32 rfl rfl (by omega) rfl 0 0 (Nat.le_refl 0) (Nat.le_refl 0) ?_
      refine c_X8_meltsBy (by omega) (by omega) (by omega) ?_
      rw [e8, e3, e13]
      refine q_invokestatic (pc := 35) (d' := d - 1) (mc' := 0) (ms' := 0) (As := [_, _, _]) cl_X8_90 dX8_passWeek_35 rfl rfl (by omega) rfl 0 0 (Nat.le_refl 0) (Nat.le_refl 0) ?_
      refine c_X8_melt hA (by omega) (by omega) (fun w2 hs2 hA2 => ?_)
      rw [zml_lose] at hA2
      refine q_iinc (pc := 38) [some _, some _] dX8_passWeek_38 rfl rfl rfl ?_
      refine q_goto (pc := 41) 2 dX8_passWeek_41 rfl ?_
      exact hih _ (by omega) (hs.tr hs2) hA2
  refine zenter [some _, none] pn_X8 rfl (Nat.le_of_ble_eq_true rfl) ?_
  refine q_iconst (pc := 0) dX8_passWeek_0 ?_
  refine q_istore_n (pc := 1) [some _, some _] dX8_passWeek_1 rfl (Nat.le_of_ble_eq_true rfl) rfl ?_
  exact L (N 0).toNat 0 _ (by omega) zSame.rf hA
set_option maxRecDepth 100000 in
set_option maxHeartbeats 8000000 in
theorem c_X8_summers {seed n : Int} (hd : 6 ≤ d) (hC : zMo g w S) (hO : zOKS S) (h_seed : zR32 seed) (h_n : zR32 n) (k : ∀ w', zSame w w' 72 16 → zMo g w' (o_summers S seed n).2 → K (some (zI (o_summers S seed n).1)) w') : zCall g d 0 0 mX8_summers [zR g 72, zI seed, zI n] w K := by
  obtain ⟨⟨p0, p1, p2, p3, p4, it, sm, h72⟩, h73, h74, h75, h76, hScr, h84, h85, h86, h87⟩ := id hC
  have hO1 := hO.1
  have hO2 := hO1.1
  have hO3 := hO2.1
  by_cases hv : (0 ≤ seed ∧ seed ≤ 999999) ∧ (0 ≤ n ∧ n ≤ 60)
  · obtain ⟨f0, h83⟩ := hScr.2.2.2.2.2.2
    have fin : ∀ (w1 : zWd) (f : Int → Int), zSame w w1 83 1 → w1.1 83 = some (.inr (false, 168, f)) → zMo g w1 S := fun w1 f hs h => hC.scr (hs.wide (by omega) (by omega)) (hScr.p83 hs h)
    have L3 : ∀ (w1 : zWd) (T : Int → Int) (x3 : Option Value), zSame w w1 83 1 → w1.1 83 = some (.inr (false, 168, T)) → zTr S.1.1 seed n.toNat T → ∀ (q m : Nat), (m : Int) + (q : Int) = S.1.1 0 → zRuns g d mX8_summers 0 0 152 [some (zR g 72), some (zI seed), some (zI n), x3, none, some (zI (zsg (fun c => zfrom S.1.1 c (1 + zlsd S.1.1 c seed n.toNat)) m 0)), some (zI (m : Int))] [] w1 K := by
      intro w1 T x3 hs h83 hT q
      have h721 := (hs.2 72 (by omega)).trans h72
      have t0 := hT.1
      induction q with
      | zero =>
        intro m h1
        have e : m = (S.1.1 0).toNat := by omega
        refine q_iload (pc := 152) dX8_summers_152 rfl ?_
        refine q_aload_n (pc := 154) dX8_summers_154 rfl rfl ?_
        refine q_getfield (pc := 155) gf_X8_44 dX8_summers_155 (by assumption) rfl ?_
        refine q_iconst (pc := 158) dX8_summers_158 ?_
        refine q_iaload (pc := 159) dX8_summers_159 (by assumption) (by omega) ?_
        refine q_icmp_ge (pc := 160) (by omega) (by omega) 189 dX8_summers_160 rfl (fun c160 => ?_) (fun c160 => ?_)
        · refine q_iload (pc := 189) dX8_summers_189 rfl ?_
          refine q_ireturn (pc := 191) dX8_summers_191 rfl ?_
          rw [e]; exact zgm k (by unfold o_summers zsummers; exact (if_pos hv).trans rfl) (hs.wide (by omega) (by omega)) (fin _ _ hs h83)
        exfalso; omega
      | succ q ih =>
        intro m h1
        have hih := ih (m + 1) (by omega)
        have hj := (hT.2.2 (m : Int) (by omega) (by omega)).2.2
        have hLb := zlsd_b (N := S.1.1) (c := (m : Int)) (seed := seed) n.toNat
        have hsg := hj.sg hLb.1 9 1 (by omega) (by omega)
        rw [zfrom_end (r := 1 + ((9 : Nat) : Int) + zlsd S.1.1 (m : Int) seed n.toNat) (by omega), Int.sub_zero] at hsg
        rw [zsg, Int.zero_add] at hih
        refine q_iload (pc := 152) dX8_summers_152 rfl ?_
        refine q_aload_n (pc := 154) dX8_summers_154 rfl rfl ?_
        refine q_getfield (pc := 155) gf_X8_44 dX8_summers_155 (by assumption) rfl ?_
        refine q_iconst (pc := 158) dX8_summers_158 ?_
        refine q_iaload (pc := 159) dX8_summers_159 (by assumption) (by omega) ?_
        refine q_icmp_ge (pc := 160) (by omega) (by omega) 189 dX8_summers_160 rfl (fun c160 => ?_) (fun c160 => ?_)
        · exfalso; omega
        refine q_iload (pc := 163) dX8_summers_163 rfl ?_
        refine q_aload_n (pc := 165) dX8_summers_165 rfl rfl ?_
        refine q_getfield (pc := 166) gf_X8_44 dX8_summers_166 (by assumption) rfl ?_
        refine q_bipush (pc := 169) (by decide) dX8_summers_169 ?_
        refine q_bipush (pc := 171) (by decide) dX8_summers_171 ?_
        refine q_iload (pc := 173) dX8_summers_173 rfl ?_
        refine q_imul (pc := 175) dX8_summers_175 ?_
        refine q_iadd (pc := 176) dX8_summers_176 ?_
        refine q_invokestatic (pc := 177) (d' := d - 1) (mc' := 0) (ms' := 0) (As := [_, _]) cl_X8_83 dX8_summers_177 rfl rfl (by omega) rfl 0 0 (Nat.le_refl 0) (Nat.le_refl 0) ?_
        refine c_X8_stonesIn h83 (by omega) ?_
        rw [hsg]
        refine q_iadd (pc := 180) dX8_summers_180 ?_
        refine q_istore (pc := 181) [some _, some _, some _, _, none, some _, some _] dX8_summers_181 rfl (Nat.le_of_ble_eq_true rfl) rfl ?_
        refine q_iinc (pc := 183) [some _, some _, some _, _, none, some _, some _] dX8_summers_183 rfl rfl rfl ?_
        refine q_goto (pc := 186) 152 dX8_summers_186 rfl ?_
        exact hih
    have L2 : ∀ (q m : Nat) (w1 : zWd) (T : Int → Int) (x6 : Option Value), (m : Int) + (q : Int) = n → zSame w w1 83 1 → w1.1 83 = some (.inr (false, 168, T)) → zTr S.1.1 seed m T → zRuns g d mX8_summers 0 0 62 [some (zR g 72), some (zI seed), some (zI n), some (zJ (zlcg seed m)), none, some (zI (m : Int)), x6] [] w1 K := by
      intro q
      induction q with
      | zero =>
        intro m w1 T x6 h1 hs h83 hT
        have e : m = n.toNat := by omega
        subst e
        refine q_iload (pc := 62) dX8_summers_62 rfl ?_
        refine q_iload_n (pc := 64) dX8_summers_64 rfl ?_
        refine q_icmp_ge (pc := 65) (by omega) (by omega) 146 dX8_summers_65 rfl (fun c65 => ?_) (fun c65 => ?_)
        · refine q_iconst (pc := 146) dX8_summers_146 ?_
          refine q_istore (pc := 147) [some _, some _, some _, some _, none, some _, _] dX8_summers_147 rfl (Nat.le_of_ble_eq_true rfl) rfl ?_
          refine q_iconst (pc := 149) dX8_summers_149 ?_
          refine q_istore (pc := 150) [some _, some _, some _, some _, none, some _, some _] dX8_summers_150 rfl (Nat.le_of_ble_eq_true rfl) rfl ?_
          exact L3 w1 T _ hs h83 hT (S.1.1 0).toNat 0 (by omega)
        exfalso; omega
      | succ q ih =>
        intro m w1 T x6 h1 hs h83 hT
        have h721 := (hs.2 72 (by omega)).trans h72
        have hih := fun w1 T x6 => ih (m + 1) w1 T x6 (by omega)
        have hlb := zlcg_b (seed := seed) (by omega) m
        have hlc := zlcg_b (seed := seed) (by omega) (m + 1)
        have elc : (zlcg seed m * 1103515245 + 12345) % 2147483648 = zlcg seed (m + 1) := rfl
        have t0 := hT.1
        have t3 := hT.2.1
        have hcb : ∀ c, 0 ≤ c → c < S.1.1 0 → (0 ≤ T (8 + c) ∧ T (8 + c) ≤ 5) ∧ (0 ≤ T (13 + c) ∧ T (13 + c) ≤ 9) := fun c a b => by
          have h2 := hT.2.2 c a b
          have h3 := hO2.2.1 c a b
          rw [h2.1, h2.2.1]; exact h3
        have J133 : ∀ (w2 : zWd) (T1 : Int → Int), zSame w w2 83 1 → w2.1 83 = some (.inr (false, 168, T1)) → ((zlcg seed (m + 1) / 65536 % 5 < S.1.1 0 ∧ 0 ≤ zlcg seed (m + 1) / 65536 % 5 ∧ T1 = zlose T (zlcg seed (m + 1) / 65536 % 5) (zcost (T (8 + zlcg seed (m + 1) / 65536 % 5)))) ∨ (¬ zlcg seed (m + 1) / 65536 % 5 < S.1.1 0 ∧ T1 = T)) → zRuns g d mX8_summers 0 0 133 [some (zR g 72), some (zI seed), some (zI n), some (zJ (zlcg seed (m + 1))), none, some (zI (m : Int)), some (zI (zlcg seed (m + 1) / 65536 % 5))] [] w2 K := by
          intro w2 T1 hs2 h83 hT1
          have h722 := (hs2.2 72 (by omega)).trans h72
          have o : ∀ j, j < 18 ∨ 68 ≤ j → T1 j = T j := fun j hj => by
            rcases hT1 with ⟨a, b, e⟩ | ⟨a, e⟩
            · rw [e]; exact zlose_out (by omega) (by omega)
            · rw [e]
          have o0 := o 0 (by omega)
          have o3 := o 3 (by omega)
          refine q_aload_n (pc := 133) dX8_summers_133 rfl rfl ?_
          refine q_getfield (pc := 134) gf_X8_44 dX8_summers_134 (by assumption) rfl ?_
          refine q_invokestatic (pc := 137) (d' := d - 1) (mc' := 0) (ms' := 0) (As := [_]) cl_X8_172 dX8_summers_137 rfl rfl (by omega) rfl 0 0 (Nat.le_refl 0) (Nat.le_refl 0) ?_
          refine c_X8_passWeekW (by omega) h83 (by omega) (fun c a b => by rw [o (8 + c) (by omega), o (13 + c) (by omega)]; exact hcb c a (by omega)) (fun w3 hs3 h833 => ?_)
          refine q_iinc (pc := 140) [some _, some _, some _, some _, none, some _, some _] dX8_summers_140 rfl rfl rfl ?_
          refine q_goto (pc := 143) 62 dX8_summers_143 rfl ?_
          exact hih _ _ _ (hs2.tr hs3) h833 (zTr_step (by omega) hT rfl T1 hT1)
        refine q_iload (pc := 62) dX8_summers_62 rfl ?_
        refine q_iload_n (pc := 64) dX8_summers_64 rfl ?_
        refine q_icmp_ge (pc := 65) (by omega) (by omega) 146 dX8_summers_65 rfl (fun c65 => ?_) (fun c65 => ?_)
        · exfalso; omega
        refine q_lload_n (pc := 68) dX8_summers_68 rfl ?_
        refine q_ldc2_w (pc := 69) tw_6_212 dX8_summers_69 ?_
        refine q_lmul (pc := 72) dX8_summers_72 ?_
        refine q_ldc2_w (pc := 73) tw_6_213 dX8_summers_73 ?_
        refine q_ladd (pc := 76) dX8_summers_76 ?_
        refine q_ldc2_w (pc := 77) tw_6_214 dX8_summers_77 ?_
        refine q_lrem (pc := 80) dX8_summers_80 (by omega) (by omega) (by omega) ?_
        rw [elc]
        refine q_lstore_n (pc := 81) [some _, some _, some _, some _, none, some _, _] dX8_summers_81 rfl (Nat.le_of_ble_eq_true rfl) rfl ?_
        refine q_lload_n (pc := 82) dX8_summers_82 rfl ?_
        refine q_ldc2_w (pc := 83) tw_6_215 dX8_summers_83 ?_
        refine q_ldiv (pc := 86) dX8_summers_86 (by omega) (by omega) (by omega) ?_
        refine q_ldc2_w (pc := 87) tw_5_95 dX8_summers_87 ?_
        refine q_lrem (pc := 90) dX8_summers_90 (by omega) (by omega) (by omega) ?_
        refine q_l2i (pc := 91) dX8_summers_91 ?_
        refine q_istore (pc := 92) [some _, some _, some _, some _, none, some _, some _] dX8_summers_92 rfl (Nat.le_of_ble_eq_true rfl) rfl ?_
        refine q_iload (pc := 94) dX8_summers_94 rfl ?_
        refine q_aload_n (pc := 96) dX8_summers_96 rfl rfl ?_
        refine q_getfield (pc := 97) gf_X8_44 dX8_summers_97 (by assumption) rfl ?_
        refine q_iconst (pc := 100) dX8_summers_100 ?_
        refine q_iaload (pc := 101) dX8_summers_101 (by assumption) (by omega) ?_
        refine q_icmp_ge (pc := 102) (by omega) (by omega) 133 dX8_summers_102 rfl (fun c102 => ?_) (fun c102 => ?_)
        · first | exact J133 _ _ (hs.tr hs2) h832 (Or.inl ⟨by omega, by omega, rfl⟩) | exact J133 _ _ hs h83 (Or.inr ⟨by omega, rfl⟩)
        refine q_aload_n (pc := 105) dX8_summers_105 rfl rfl ?_
        refine q_getfield (pc := 106) gf_X8_44 dX8_summers_106 (by assumption) rfl ?_
        refine q_bipush (pc := 109) (by decide) dX8_summers_109 ?_
        refine q_bipush (pc := 111) (by decide) dX8_summers_111 ?_
        refine q_iload (pc := 113) dX8_summers_113 rfl ?_
        refine q_imul (pc := 115) dX8_summers_115 ?_
        refine q_iadd (pc := 116) dX8_summers_116 ?_
        refine q_aload_n (pc := 117) dX8_summers_117 rfl rfl ?_
        refine q_getfield (pc := 118) gf_X8_44 dX8_summers_118 (by assumption) rfl ?_
        refine q_bipush (pc := 121) (by decide) dX8_summers_121 ?_
        refine q_iload (pc := 123) dX8_summers_123 rfl ?_
        refine q_iadd (pc := 125) dX8_summers_125 ?_
        refine q_iaload (pc := 126) dX8_summers_126 (by assumption) (by omega) ?_
        refine q_invokestatic (pc := 127) (d' := d - 1) (mc' := 0) (ms' := 0) (As := [_]) cl_X8_217 dX8_summers_127 rfl rfl (by omega) rfl 0 0 (Nat.le_refl 0) (Nat.le_refl 0) ?_
        refine c_X8_costBy (hcb _ (by omega) (by omega)).1 ?_
        refine q_invokestatic (pc := 130) (d' := d - 1) (mc' := 0) (ms' := 0) (As := [_, _, _]) cl_X8_90 dX8_summers_130 rfl rfl (by omega) rfl 0 0 (Nat.le_refl 0) (Nat.le_refl 0) ?_
        have hcc := zcost_b (T (8 + zlcg seed (m + 1) / 65536 % 5))
        refine c_X8_melt h83 (by omega) (by omega) (fun w2 hs2 h832 => ?_)
        rw [zml_lose] at h832
        first | exact J133 _ _ (hs.tr hs2) h832 (Or.inl ⟨by omega, by omega, rfl⟩) | exact J133 _ _ hs h83 (Or.inr ⟨by omega, rfl⟩)
    have L1 : ∀ (q m : Nat) (w1 : zWd) (f : Int → Int), m + q = 168 → zSame w w1 83 1 → w1.1 83 = some (.inr (false, 168, f)) → (∀ j, 0 ≤ j → j < (m : Int) → f j = S.1.1 j) → zRuns g d mX8_summers 0 0 31 [some (zR g 72), some (zI seed), some (zI n), some (zI (m : Int)), none, none, none] [] w1 K := by
      intro q
      induction q with
      | zero =>
        intro m w1 f h1 hs h83 hf
        obtain rfl : m = 168 := by omega
        have h721 := (hs.2 72 (by omega)).trans h72
        refine q_iload_n (pc := 31) dX8_summers_31 rfl ?_
        refine q_sipush (pc := 32) (by decide) dX8_summers_32 ?_
        refine q_icmp_ge (pc := 35) (by omega) (by omega) 56 dX8_summers_35 rfl (fun c35 => ?_) (fun c35 => ?_)
        · refine q_iload_n (pc := 56) dX8_summers_56 rfl ?_
          refine q_i2l (pc := 57) dX8_summers_57 (by omega) ?_
          refine q_lstore_n (pc := 58) [some _, some _, some _, some _, none, none, none] dX8_summers_58 rfl (Nat.le_of_ble_eq_true rfl) rfl ?_
          refine q_iconst (pc := 59) dX8_summers_59 ?_
          refine q_istore (pc := 60) [some _, some _, some _, some _, none, some _, none] dX8_summers_60 rfl (Nat.le_of_ble_eq_true rfl) rfl ?_
          exact L2 n.toNat 0 _ f _ (by omega) hs h83 ⟨hf 0 (by omega) (by omega), by rw [hf 3 (by omega) (by omega)]; omega, fun c a b => ⟨hf _ (by omega) (by omega), hf _ (by omega) (by omega), fun r r1 r2 => by show f (18 + 10 * c + r) = _; rw [zlsd, if_pos (by omega), Int.add_zero]; exact hf _ (by omega) (by omega)⟩⟩
        exfalso; omega
      | succ q ih =>
        intro m w1 f h1 hs h83 hf
        have hih := ih (m + 1)
        have h721 := (hs.2 72 (by omega)).trans h72
        have h731 := (hs.2 73 (by omega)).trans h73
        refine q_iload_n (pc := 31) dX8_summers_31 rfl ?_
        refine q_sipush (pc := 32) (by decide) dX8_summers_32 ?_
        refine q_icmp_ge (pc := 35) (by omega) (by omega) 56 dX8_summers_35 rfl (fun c35 => ?_) (fun c35 => ?_)
        · exfalso; omega
        refine q_aload_n (pc := 38) dX8_summers_38 rfl rfl ?_
        refine q_getfield (pc := 39) gf_X8_44 dX8_summers_39 (by assumption) rfl ?_
        refine q_iload_n (pc := 42) dX8_summers_42 rfl ?_
        refine q_aload_n (pc := 43) dX8_summers_43 rfl rfl ?_
        refine q_getfield (pc := 44) gf_X8_7 dX8_summers_44 (by assumption) rfl ?_
        refine q_iload_n (pc := 47) dX8_summers_47 rfl ?_
        refine q_iaload (pc := 48) dX8_summers_48 (by assumption) (by omega) ?_
        refine q_iastore (pc := 49) dX8_summers_49 (by assumption) (by omega) ?_
        refine q_iinc (pc := 50) [some _, some _, some _, some _, none, none, none] dX8_summers_50 rfl rfl rfl ?_
        refine q_goto (pc := 53) 31 dX8_summers_53 rfl ?_
        refine hih _ _ (by omega) (hs.tr (zSame.up (by omega))) zup_at (fun r a b => ?_)
        simp only [zfu]
        by_cases e : r = (m : Int)
        · rw [if_pos e, e]
        · rw [if_neg e]; exact hf r a (by omega)
    refine zenter [some _, some _, some _, none, none, none, none] pn_X8 rfl (Nat.le_of_ble_eq_true rfl) ?_
    refine q_iload_n (pc := 0) dX8_summers_0 rfl ?_
    refine q_i2l (pc := 1) dX8_summers_1 (by omega) ?_
    refine q_lconst (pc := 2) (v := 0) dX8_summers_2 rfl ?_
    refine q_ldc2_w (pc := 3) tw_6_211 dX8_summers_3 ?_
    refine q_invokestatic (pc := 6) (d' := d - 1) (mc' := 0) (ms' := 0) (As := [_, _, _]) cl_X8_60 dX8_summers_6 rfl rfl (by omega) rfl 0 0 (Nat.le_refl 0) (Nat.le_refl 0) ?_
    refine c_X8_in (by omega) (by omega) (by omega) ?_
    refine q_ifb_eq (pc := 9) 24 dX8_summers_9 rfl (fun c9 => ?_) (fun c9 => ?_)
    · exfalso; omega
    refine q_iload_n (pc := 12) dX8_summers_12 rfl ?_
    refine q_i2l (pc := 13) dX8_summers_13 (by omega) ?_
    refine q_lconst (pc := 14) (v := 0) dX8_summers_14 rfl ?_
    refine q_ldc2_w (pc := 15) tw_5_201 dX8_summers_15 ?_
    refine q_invokestatic (pc := 18) (d' := d - 1) (mc' := 0) (ms' := 0) (As := [_, _, _]) cl_X8_60 dX8_summers_18 rfl rfl (by omega) rfl 0 0 (Nat.le_refl 0) (Nat.le_refl 0) ?_
    refine c_X8_in (by omega) (by omega) (by omega) ?_
    refine q_ifb_ne (pc := 21) 29 dX8_summers_21 rfl (fun c21 => ?_) (fun c21 => ?_)
    · refine q_iconst (pc := 29) dX8_summers_29 ?_
      refine q_istore_n (pc := 30) [some _, some _, some _, some _, none, none, none] dX8_summers_30 rfl (Nat.le_of_ble_eq_true rfl) rfl ?_
      exact L1 168 0 _ f0 (by omega) zSame.rf h83 (fun j a b => by omega)
    exfalso; omega
  · have hz0 := hv
    refine zenter [some _, some _, some _, none, none, none, none] pn_X8 rfl (Nat.le_of_ble_eq_true rfl) ?_
    refine q_iload_n (pc := 0) dX8_summers_0 rfl ?_
    refine q_i2l (pc := 1) dX8_summers_1 (by omega) ?_
    refine q_lconst (pc := 2) (v := 0) dX8_summers_2 rfl ?_
    refine q_ldc2_w (pc := 3) tw_6_211 dX8_summers_3 ?_
    refine q_invokestatic (pc := 6) (d' := d - 1) (mc' := 0) (ms' := 0) (As := [_, _, _]) cl_X8_60 dX8_summers_6 rfl rfl (by omega) rfl 0 0 (Nat.le_refl 0) (Nat.le_refl 0) ?_
    refine c_X8_in (by omega) (by omega) (by omega) ?_
    refine q_ifb_eq (pc := 9) 24 dX8_summers_9 rfl (fun c9 => ?_) (fun c9 => ?_)
    · refine q_aload_n (pc := 24) dX8_summers_24 rfl rfl ?_
      refine q_invokevirtual (pc := 25) (d' := d - 1) (mc' := 0) (ms' := 0) (As := []) (TX8, 26) cl_X8_103 dX8_summers_25 rfl rfl (by first | assumption | exact zup_at | exact (zup_ne (by decide)).trans (zup_at) | exact (zup_ne (by decide)).trans (by assumption) | exact (zup_ne (by decide)).trans ((zup_ne (by decide)).trans (zup_at)) | exact (zup_ne (by decide)).trans ((zup_ne (by decide)).trans (by assumption)) | exact (zup_ne (by decide)).trans ((zup_ne (by decide)).trans ((zup_ne (by decide)).trans (zup_at))) | exact (zup_ne (by decide)).trans ((zup_ne (by decide)).trans ((zup_ne (by decide)).trans (by assumption))) | exact (zup_ne (by decide)).trans ((zup_ne (by decide)).trans ((zup_ne (by decide)).trans ((zup_ne (by decide)).trans (zup_at)))) | exact (zup_ne (by decide)).trans ((zup_ne (by decide)).trans ((zup_ne (by decide)).trans ((zup_ne (by decide)).trans (by assumption)))) | exact (zup_ne (by decide)).trans ((zup_ne (by decide)).trans ((zup_ne (by decide)).trans ((zup_ne (by decide)).trans ((zup_ne (by decide)).trans (zup_at))))) | exact (zup_ne (by decide)).trans ((zup_ne (by decide)).trans ((zup_ne (by decide)).trans ((zup_ne (by decide)).trans ((zup_ne (by decide)).trans (by assumption)))))) rfl (by omega) rfl 0 0 (Nat.le_refl 0) (Nat.le_refl 0) ?_
      refine c_X8_bad hC (fun w9 hs9 hC9 => ?_)
      refine q_ireturn (pc := 28) dX8_summers_28 rfl ?_
      exact zgm k (by unfold o_summers; exact ((if_neg (by omega)).trans rfl)) hs9 hC9
    refine q_iload_n (pc := 12) dX8_summers_12 rfl ?_
    refine q_i2l (pc := 13) dX8_summers_13 (by omega) ?_
    refine q_lconst (pc := 14) (v := 0) dX8_summers_14 rfl ?_
    refine q_ldc2_w (pc := 15) tw_5_201 dX8_summers_15 ?_
    refine q_invokestatic (pc := 18) (d' := d - 1) (mc' := 0) (ms' := 0) (As := [_, _, _]) cl_X8_60 dX8_summers_18 rfl rfl (by omega) rfl 0 0 (Nat.le_refl 0) (Nat.le_refl 0) ?_
    refine c_X8_in (by omega) (by omega) (by omega) ?_
    refine q_ifb_ne (pc := 21) 29 dX8_summers_21 rfl (fun c21 => ?_) (fun c21 => ?_)
    · exfalso; omega
    refine q_aload_n (pc := 24) dX8_summers_24 rfl rfl ?_
    refine q_invokevirtual (pc := 25) (d' := d - 1) (mc' := 0) (ms' := 0) (As := []) (TX8, 26) cl_X8_103 dX8_summers_25 rfl rfl (by first | assumption | exact zup_at | exact (zup_ne (by decide)).trans (zup_at) | exact (zup_ne (by decide)).trans (by assumption) | exact (zup_ne (by decide)).trans ((zup_ne (by decide)).trans (zup_at)) | exact (zup_ne (by decide)).trans ((zup_ne (by decide)).trans (by assumption)) | exact (zup_ne (by decide)).trans ((zup_ne (by decide)).trans ((zup_ne (by decide)).trans (zup_at))) | exact (zup_ne (by decide)).trans ((zup_ne (by decide)).trans ((zup_ne (by decide)).trans (by assumption))) | exact (zup_ne (by decide)).trans ((zup_ne (by decide)).trans ((zup_ne (by decide)).trans ((zup_ne (by decide)).trans (zup_at)))) | exact (zup_ne (by decide)).trans ((zup_ne (by decide)).trans ((zup_ne (by decide)).trans ((zup_ne (by decide)).trans (by assumption)))) | exact (zup_ne (by decide)).trans ((zup_ne (by decide)).trans ((zup_ne (by decide)).trans ((zup_ne (by decide)).trans ((zup_ne (by decide)).trans (zup_at))))) | exact (zup_ne (by decide)).trans ((zup_ne (by decide)).trans ((zup_ne (by decide)).trans ((zup_ne (by decide)).trans ((zup_ne (by decide)).trans (by assumption)))))) rfl (by omega) rfl 0 0 (Nat.le_refl 0) (Nat.le_refl 0) ?_
    refine c_X8_bad hC (fun w9 hs9 hC9 => ?_)
    refine q_ireturn (pc := 28) dX8_summers_28 rfl ?_
    exact zgm k (by unfold o_summers; exact ((if_neg (by omega)).trans rfl)) hs9 hC9
set_option maxRecDepth 100000 in
set_option maxHeartbeats 8000000 in
theorem c_X8_add {fr many : Int} {N : Int → Int} {ab be u len p0 p1 p2 p3 p4 it sm : Int} (h72 : w.1 72 = some (zMO g ab be u len p0 p1 p2 p3 p4 it sm)) (h73 : w.1 73 = some (.inr (false, 168, N))) (hf : 0 ≤ fr ∧ 0 ≤ many ∧ fr + many ≤ 168) (hb : ∀ i, 0 ≤ i → i < many → zR32 (N (fr + i))) (k : ∀ w', zSame w w' 72 1 → w'.1 72 = some (zMO g ab be u len p0 p1 p2 p3 p4 it (zmix (fun i => N (fr + i)) many.toNat sm)) → K none w') : zCall g d 0 0 mX8_add [zR g 72, zI fr, zI many] w K := by
  have L : ∀ (q m : Nat) (w1 : zWd), (m : Int) + (q : Int) = many → zSame w w1 72 1 → w1.1 72 = some (zMO g ab be u len p0 p1 p2 p3 p4 it (zmix (fun i => N (fr + i)) m sm)) → zRuns g d mX8_add 0 0 2 [some (zR g 72), some (zI fr), some (zI many), some (zI (m : Int))] [] w1 K := by
    intro q
    induction q with
    | zero =>
      intro m w1 h1 hs h72
      have e : m = many.toNat := by omega
      refine q_iload_n (pc := 2) dX8_add_2 rfl ?_
      refine q_iload_n (pc := 3) dX8_add_3 rfl ?_
      refine q_icmp_ge (pc := 4) (by omega) (by omega) 35 dX8_add_4 rfl (fun c4 => ?_) (fun c4 => ?_)
      · refine q_return (pc := 35) dX8_add_35 rfl ?_
        rw [e] at h72; exact k _ hs h72
      exfalso; omega
    | succ q ih =>
      intro m w1 h1 hs h72
      have hih := ih (m + 1)
      have h73 := (hs.2 73 (by omega)).trans h73
      have hbm := hb (m : Int) (by omega) (by omega)
      refine q_iload_n (pc := 2) dX8_add_2 rfl ?_
      refine q_iload_n (pc := 3) dX8_add_3 rfl ?_
      refine q_icmp_ge (pc := 4) (by omega) (by omega) 35 dX8_add_4 rfl (fun c4 => ?_) (fun c4 => ?_)
      · exfalso; omega
      refine q_aload_n (pc := 7) dX8_add_7 rfl rfl ?_
      refine q_ldc2_w (pc := 8) tw_7_14 dX8_add_8 ?_
      refine q_aload_n (pc := 11) dX8_add_11 rfl rfl ?_
      refine q_getfield (pc := 12) gf_X8_329 dX8_add_12 (by assumption) rfl ?_
      refine q_lmul (pc := 15) dX8_add_15 ?_
      refine q_aload_n (pc := 16) dX8_add_16 rfl rfl ?_
      refine q_getfield (pc := 17) gf_X8_7 dX8_add_17 (by assumption) rfl ?_
      refine q_iload_n (pc := 20) dX8_add_20 rfl ?_
      refine q_iload_n (pc := 21) dX8_add_21 rfl ?_
      refine q_iadd (pc := 22) dX8_add_22 ?_
      refine q_iaload (pc := 23) dX8_add_23 (by assumption) (by omega) ?_
      refine q_i2l (pc := 24) dX8_add_24 (by omega) ?_
      refine q_ladd (pc := 25) dX8_add_25 ?_
      refine q_putfield2 (pc := 26) [_, _, _, _, _, _, _, _, _, _, _, _, _, _, _, _, _, _, _, _, _, _, _, _, _, _] pf_X8_329 dX8_add_26 (by assumption) rfl rfl (Nat.le_of_ble_eq_true rfl) rfl ?_
      refine q_iinc (pc := 29) [some _, some _, some _, some _] dX8_add_29 rfl rfl rfl ?_
      refine q_goto (pc := 32) 2 dX8_add_32 rfl ?_
      exact hih _ (by omega) (hs.tr (zSame.up (by omega))) zup_at
  refine zenter [some _, some _, some _, none] pn_X8 rfl (Nat.le_of_ble_eq_true rfl) ?_
  refine q_iconst (pc := 0) dX8_add_0 ?_
  refine q_istore_n (pc := 1) [some _, some _, some _, some _] dX8_add_1 rfl (Nat.le_of_ble_eq_true rfl) rfl ?_
  exact L many.toNat 0 _ (by omega) zSame.rf h72
set_option maxRecDepth 100000 in
set_option maxHeartbeats 8000000 in
theorem c_X8_digest (hd : 6 ≤ d) (hC : zMo g w S) (hO : zOKS S) (k : ∀ w', zSame w w' 72 16 → zMo g w' (o_digest S).2 → K (some (zJ (o_digest S).1)) w') : zCall g d 0 0 mX8_digest [zR g 72] w K := by
  obtain ⟨⟨p0, p1, p2, p3, p4, it, sm, h72⟩, h73, h74, h75, h76, hScr, h84, h85, h86, h87⟩ := id hC
  have hO2 := hO.1.1
  have hO3 := hO2.1
  have k : ∀ w' sm', zSame w w' 72 1 → w'.1 72 = some (zMO g S.2.2.2.1.1 S.2.2.2.1.2 S.1.2.1 S.2.1.2 p0 p1 p2 p3 p4 it sm') → K (some (zJ (zdig S))) w' := fun w' sm' hs h => k w' (hs.wide (by omega) (by omega)) (hC.o72 hs h)
  unfold zdig at k
  generalize h12 : zcmx S 12 = H12 at k
  generalize hA : zmix (zfC S.1.1) (S.1.1 0 * 11).toNat H12 = HA at k
  generalize hB : zmix (zfS S.1.1) (S.1.1 1 * 2).toNat HA = HB at k
  generalize hE : zmix (zfK S.1.1) (S.1.1 2 * 3).toNat HB = HE at k
  have N73 : ∀ (w1 : zWd), zSame w w1 72 1 → w1.1 73 = some (.inr (false, 168, S.1.1)) := fun w1 hs => (hs.2 73 (by omega)).trans h73
  have L4 : ∀ (q m : Nat) (w1 : zWd), (m : Int) + (q : Int) = S.1.1 2 → zSame w w1 72 1 → w1.1 72 = some (zMO g S.2.2.2.1.1 S.2.2.2.1.2 S.1.2.1 S.2.1.2 p0 p1 p2 p3 p4 it (zmix (zfK S.1.1) (3 * m) HB)) → zRuns g d mX8_digest 0 0 129 [some (zR g 72), some (zI (m : Int))] [] w1 K := by
    intro q
    induction q with
    | zero =>
      intro m w1 h1 hs h72
      have h73 := N73 w1 hs
      rw [show 3 * m = (S.1.1 2 * 3).toNat by omega, hE] at h72
      rw [Int.mul_comm (S.1.1 7) 5, Int.mul_comm (S.1.1 6) 5, Int.mul_comm (S.1.1 5) 4] at k
      refine q_iload_n (pc := 129) dX8_digest_129 rfl ?_
      refine q_aload_n (pc := 130) dX8_digest_130 rfl rfl ?_
      refine q_getfield (pc := 131) gf_X8_7 dX8_digest_131 (by assumption) rfl ?_
      refine q_iconst (pc := 134) dX8_digest_134 ?_
      refine q_iaload (pc := 135) dX8_digest_135 (by assumption) (by omega) ?_
      refine q_icmp_ge (pc := 136) (by omega) (by omega) 172 dX8_digest_136 rfl (fun c136 => ?_) (fun c136 => ?_)
      · refine q_aload_n (pc := 172) dX8_digest_172 rfl rfl ?_
        refine q_bipush (pc := 173) (by decide) dX8_digest_173 ?_
        refine q_iconst (pc := 175) dX8_digest_175 ?_
        refine q_aload_n (pc := 176) dX8_digest_176 rfl rfl ?_
        refine q_getfield (pc := 177) gf_X8_7 dX8_digest_177 (by assumption) rfl ?_
        refine q_iconst (pc := 180) dX8_digest_180 ?_
        refine q_iaload (pc := 181) dX8_digest_181 (by assumption) (by omega) ?_
        refine q_imul (pc := 182) dX8_digest_182 ?_
        refine q_invokevirtual (pc := 183) (d' := d - 1) (mc' := 0) (ms' := 0) (As := [_, _]) (TX8, 26) cl_X8_334 dX8_digest_183 rfl rfl (by assumption) rfl (by omega) rfl 0 0 (Nat.le_refl 0) (Nat.le_refl 0) ?_
        refine c_X8_add h72 h73 (by omega) (fun i a b => zbd3 hO2 (by omega)) (fun w2 hs2 h722 => ?_)
        have hs2 := hs.tr hs2
        have h732 := N73 w2 hs2
        refine q_aload_n (pc := 186) dX8_digest_186 rfl rfl ?_
        refine q_bipush (pc := 187) (by decide) dX8_digest_187 ?_
        refine q_iconst (pc := 189) dX8_digest_189 ?_
        refine q_aload_n (pc := 190) dX8_digest_190 rfl rfl ?_
        refine q_getfield (pc := 191) gf_X8_7 dX8_digest_191 (by assumption) rfl ?_
        refine q_bipush (pc := 194) (by decide) dX8_digest_194 ?_
        refine q_iaload (pc := 196) dX8_digest_196 (by assumption) (by omega) ?_
        refine q_imul (pc := 197) dX8_digest_197 ?_
        refine q_invokevirtual (pc := 198) (d' := d - 1) (mc' := 0) (ms' := 0) (As := [_, _]) (TX8, 26) cl_X8_334 dX8_digest_198 rfl rfl (by assumption) rfl (by omega) rfl 0 0 (Nat.le_refl 0) (Nat.le_refl 0) ?_
        refine c_X8_add h722 h732 (by omega) (fun i a b => zbd4 hO2 (by omega)) (fun w3 hs3 h723 => ?_)
        have hs3 := hs2.tr hs3
        have h733 := N73 w3 hs3
        refine q_aload_n (pc := 201) dX8_digest_201 rfl rfl ?_
        refine q_sipush (pc := 202) (by decide) dX8_digest_202 ?_
        refine q_iconst (pc := 205) dX8_digest_205 ?_
        refine q_aload_n (pc := 206) dX8_digest_206 rfl rfl ?_
        refine q_getfield (pc := 207) gf_X8_7 dX8_digest_207 (by assumption) rfl ?_
        refine q_bipush (pc := 210) (by decide) dX8_digest_210 ?_
        refine q_iaload (pc := 212) dX8_digest_212 (by assumption) (by omega) ?_
        refine q_imul (pc := 213) dX8_digest_213 ?_
        refine q_invokevirtual (pc := 214) (d' := d - 1) (mc' := 0) (ms' := 0) (As := [_, _]) (TX8, 26) cl_X8_334 dX8_digest_214 rfl rfl (by assumption) rfl (by omega) rfl 0 0 (Nat.le_refl 0) (Nat.le_refl 0) ?_
        refine c_X8_add h723 h733 (by omega) (fun i a b => zbd5 hO2 (by omega)) (fun w4 hs4 h724 => ?_)
        have hs4 := hs3.tr hs4
        refine q_ldc2_w (pc := 217) tw_7_14 dX8_digest_217 ?_
        refine q_ldc2_w (pc := 220) tw_7_14 dX8_digest_220 ?_
        refine q_aload_n (pc := 223) dX8_digest_223 rfl rfl ?_
        refine q_getfield (pc := 224) gf_X8_329 dX8_digest_224 (by assumption) rfl ?_
        refine q_lmul (pc := 227) dX8_digest_227 ?_
        refine q_aload_n (pc := 228) dX8_digest_228 rfl rfl ?_
        refine q_getfield (pc := 229) gf_X8_303 dX8_digest_229 (by assumption) rfl ?_
        refine q_ladd (pc := 232) dX8_digest_232 ?_
        refine q_lmul (pc := 233) dX8_digest_233 ?_
        refine q_aload_n (pc := 234) dX8_digest_234 rfl rfl ?_
        refine q_getfield (pc := 235) gf_X8_16 dX8_digest_235 (by assumption) rfl ?_
        refine q_ladd (pc := 238) dX8_digest_238 ?_
        refine q_lreturn (pc := 239) dX8_digest_239 rfl ?_
        exact k _ _ hs4 h724
      exfalso; omega
    | succ q ih =>
      intro m w1 h1 hs h72
      have h73 := N73 w1 hs
      have hih := ih (m + 1)
      have hbd := hO2.2.2.2.2.1 (m : Int) (by omega) (by omega)
      rw [zmix_fK] at hih
      refine q_iload_n (pc := 129) dX8_digest_129 rfl ?_
      refine q_aload_n (pc := 130) dX8_digest_130 rfl rfl ?_
      refine q_getfield (pc := 131) gf_X8_7 dX8_digest_131 (by assumption) rfl ?_
      refine q_iconst (pc := 134) dX8_digest_134 ?_
      refine q_iaload (pc := 135) dX8_digest_135 (by assumption) (by omega) ?_
      refine q_icmp_ge (pc := 136) (by omega) (by omega) 172 dX8_digest_136 rfl (fun c136 => ?_) (fun c136 => ?_)
      · exfalso; omega
      refine q_aload_n (pc := 139) dX8_digest_139 rfl rfl ?_
      refine q_bipush (pc := 140) (by decide) dX8_digest_140 ?_
      refine q_iload_n (pc := 142) dX8_digest_142 rfl ?_
      refine q_iadd (pc := 143) dX8_digest_143 ?_
      refine q_iconst (pc := 144) dX8_digest_144 ?_
      refine q_invokevirtual (pc := 145) (d' := d - 1) (mc' := 0) (ms' := 0) (As := [_, _]) (TX8, 26) cl_X8_334 dX8_digest_145 rfl rfl (by assumption) rfl (by omega) rfl 0 0 (Nat.le_refl 0) (Nat.le_refl 0) ?_
      refine c_X8_add h72 h73 (by omega) (zone (by omega)) (fun w2 hs2 h722 => ?_)
      have hs2 := hs.tr hs2
      have h732 := N73 w2 hs2
      refine q_aload_n (pc := 148) dX8_digest_148 rfl rfl ?_
      refine q_bipush (pc := 149) (by decide) dX8_digest_149 ?_
      refine q_iload_n (pc := 151) dX8_digest_151 rfl ?_
      refine q_iadd (pc := 152) dX8_digest_152 ?_
      refine q_iconst (pc := 153) dX8_digest_153 ?_
      refine q_invokevirtual (pc := 154) (d' := d - 1) (mc' := 0) (ms' := 0) (As := [_, _]) (TX8, 26) cl_X8_334 dX8_digest_154 rfl rfl (by assumption) rfl (by omega) rfl 0 0 (Nat.le_refl 0) (Nat.le_refl 0) ?_
      refine c_X8_add h722 h732 (by omega) (zone (by omega)) (fun w3 hs3 h723 => ?_)
      have hs3 := hs2.tr hs3
      have h733 := N73 w3 hs3
      refine q_aload_n (pc := 157) dX8_digest_157 rfl rfl ?_
      refine q_bipush (pc := 158) (by decide) dX8_digest_158 ?_
      refine q_iload_n (pc := 160) dX8_digest_160 rfl ?_
      refine q_iadd (pc := 161) dX8_digest_161 ?_
      refine q_iconst (pc := 162) dX8_digest_162 ?_
      refine q_invokevirtual (pc := 163) (d' := d - 1) (mc' := 0) (ms' := 0) (As := [_, _]) (TX8, 26) cl_X8_334 dX8_digest_163 rfl rfl (by assumption) rfl (by omega) rfl 0 0 (Nat.le_refl 0) (Nat.le_refl 0) ?_
      refine c_X8_add h723 h733 (by omega) (zone (by omega)) (fun w4 hs4 h724 => ?_)
      have hs4 := hs3.tr hs4
      refine q_iinc (pc := 166) [some _, some _] dX8_digest_166 rfl rfl rfl ?_
      refine q_goto (pc := 169) 129 dX8_digest_169 rfl ?_
      exact hih _ (by omega) hs4 h724
  have L3 : ∀ (q m : Nat) (w1 : zWd), (m : Int) + (q : Int) = S.1.1 1 → zSame w w1 72 1 → w1.1 72 = some (zMO g S.2.2.2.1.1 S.2.2.2.1.2 S.1.2.1 S.2.1.2 p0 p1 p2 p3 p4 it (zmix (zfS S.1.1) (2 * m) HA)) → zRuns g d mX8_digest 0 0 93 [some (zR g 72), some (zI (m : Int))] [] w1 K := by
    intro q
    induction q with
    | zero =>
      intro m w1 h1 hs h72
      have h73 := N73 w1 hs
      rw [show 2 * m = (S.1.1 1 * 2).toNat by omega, hB] at h72
      refine q_iload_n (pc := 93) dX8_digest_93 rfl ?_
      refine q_aload_n (pc := 94) dX8_digest_94 rfl rfl ?_
      refine q_getfield (pc := 95) gf_X8_7 dX8_digest_95 (by assumption) rfl ?_
      refine q_iconst (pc := 98) dX8_digest_98 ?_
      refine q_iaload (pc := 99) dX8_digest_99 (by assumption) (by omega) ?_
      refine q_icmp_ge (pc := 100) (by omega) (by omega) 127 dX8_digest_100 rfl (fun c100 => ?_) (fun c100 => ?_)
      · refine q_iconst (pc := 127) dX8_digest_127 ?_
        refine q_istore_n (pc := 128) [some _, some _] dX8_digest_128 rfl (Nat.le_of_ble_eq_true rfl) rfl ?_
        exact L4 (S.1.1 2).toNat 0 _ (by omega) hs h72
      exfalso; omega
    | succ q ih =>
      intro m w1 h1 hs h72
      have h73 := N73 w1 hs
      have hih := ih (m + 1)
      have hbd := hO2.2.2.2.1 (m : Int) (by omega) (by omega)
      rw [zmix_fS] at hih
      refine q_iload_n (pc := 93) dX8_digest_93 rfl ?_
      refine q_aload_n (pc := 94) dX8_digest_94 rfl rfl ?_
      refine q_getfield (pc := 95) gf_X8_7 dX8_digest_95 (by assumption) rfl ?_
      refine q_iconst (pc := 98) dX8_digest_98 ?_
      refine q_iaload (pc := 99) dX8_digest_99 (by assumption) (by omega) ?_
      refine q_icmp_ge (pc := 100) (by omega) (by omega) 127 dX8_digest_100 rfl (fun c100 => ?_) (fun c100 => ?_)
      · exfalso; omega
      refine q_aload_n (pc := 103) dX8_digest_103 rfl rfl ?_
      refine q_bipush (pc := 104) (by decide) dX8_digest_104 ?_
      refine q_iload_n (pc := 106) dX8_digest_106 rfl ?_
      refine q_iadd (pc := 107) dX8_digest_107 ?_
      refine q_iconst (pc := 108) dX8_digest_108 ?_
      refine q_invokevirtual (pc := 109) (d' := d - 1) (mc' := 0) (ms' := 0) (As := [_, _]) (TX8, 26) cl_X8_334 dX8_digest_109 rfl rfl (by assumption) rfl (by omega) rfl 0 0 (Nat.le_refl 0) (Nat.le_refl 0) ?_
      refine c_X8_add h72 h73 (by omega) (zone (by omega)) (fun w2 hs2 h722 => ?_)
      have hs2 := hs.tr hs2
      have h732 := N73 w2 hs2
      refine q_aload_n (pc := 112) dX8_digest_112 rfl rfl ?_
      refine q_bipush (pc := 113) (by decide) dX8_digest_113 ?_
      refine q_iload_n (pc := 115) dX8_digest_115 rfl ?_
      refine q_iadd (pc := 116) dX8_digest_116 ?_
      refine q_iconst (pc := 117) dX8_digest_117 ?_
      refine q_invokevirtual (pc := 118) (d' := d - 1) (mc' := 0) (ms' := 0) (As := [_, _]) (TX8, 26) cl_X8_334 dX8_digest_118 rfl rfl (by assumption) rfl (by omega) rfl 0 0 (Nat.le_refl 0) (Nat.le_refl 0) ?_
      refine c_X8_add h722 h732 (by omega) (zone (by omega)) (fun w3 hs3 h723 => ?_)
      have hs3 := hs2.tr hs3
      refine q_iinc (pc := 121) [some _, some _] dX8_digest_121 rfl rfl rfl ?_
      refine q_goto (pc := 124) 93 dX8_digest_124 rfl ?_
      exact hih _ (by omega) hs3 h723
  have L2 : ∀ (q m : Nat) (w1 : zWd), (m : Int) + (q : Int) = S.1.1 0 → zSame w w1 72 1 → w1.1 72 = some (zMO g S.2.2.2.1.1 S.2.2.2.1.2 S.1.2.1 S.2.1.2 p0 p1 p2 p3 p4 it (zmix (zfC S.1.1) (11 * m) H12)) → zRuns g d mX8_digest 0 0 42 [some (zR g 72), some (zI (m : Int))] [] w1 K := by
    intro q
    induction q with
    | zero =>
      intro m w1 h1 hs h72
      have h73 := N73 w1 hs
      rw [show 11 * m = (S.1.1 0 * 11).toNat by omega, hA] at h72
      refine q_iload_n (pc := 42) dX8_digest_42 rfl ?_
      refine q_aload_n (pc := 43) dX8_digest_43 rfl rfl ?_
      refine q_getfield (pc := 44) gf_X8_7 dX8_digest_44 (by assumption) rfl ?_
      refine q_iconst (pc := 47) dX8_digest_47 ?_
      refine q_iaload (pc := 48) dX8_digest_48 (by assumption) (by omega) ?_
      refine q_icmp_ge (pc := 49) (by omega) (by omega) 91 dX8_digest_49 rfl (fun c49 => ?_) (fun c49 => ?_)
      · refine q_iconst (pc := 91) dX8_digest_91 ?_
        refine q_istore_n (pc := 92) [some _, some _] dX8_digest_92 rfl (Nat.le_of_ble_eq_true rfl) rfl ?_
        exact L3 (S.1.1 1).toNat 0 _ (by omega) hs h72
      exfalso; omega
    | succ q ih =>
      intro m w1 h1 hs h72
      have h73 := N73 w1 hs
      have hih := ih (m + 1)
      have hbd := hO2.2.1 (m : Int) (by omega) (by omega)
      rw [zmix_fC] at hih
      refine q_iload_n (pc := 42) dX8_digest_42 rfl ?_
      refine q_aload_n (pc := 43) dX8_digest_43 rfl rfl ?_
      refine q_getfield (pc := 44) gf_X8_7 dX8_digest_44 (by assumption) rfl ?_
      refine q_iconst (pc := 47) dX8_digest_47 ?_
      refine q_iaload (pc := 48) dX8_digest_48 (by assumption) (by omega) ?_
      refine q_icmp_ge (pc := 49) (by omega) (by omega) 91 dX8_digest_49 rfl (fun c49 => ?_) (fun c49 => ?_)
      · exfalso; omega
      refine q_aload_n (pc := 52) dX8_digest_52 rfl rfl ?_
      refine q_bipush (pc := 53) (by decide) dX8_digest_53 ?_
      refine q_iload_n (pc := 55) dX8_digest_55 rfl ?_
      refine q_iadd (pc := 56) dX8_digest_56 ?_
      refine q_iconst (pc := 57) dX8_digest_57 ?_
      refine q_invokevirtual (pc := 58) (d' := d - 1) (mc' := 0) (ms' := 0) (As := [_, _]) (TX8, 26) cl_X8_334 dX8_digest_58 rfl rfl (by assumption) rfl (by omega) rfl 0 0 (Nat.le_refl 0) (Nat.le_refl 0) ?_
      refine c_X8_add h72 h73 (by omega) (zone (by omega)) (fun w2 hs2 h722 => ?_)
      have hs2 := hs.tr hs2
      have h732 := N73 w2 hs2
      refine q_aload_n (pc := 61) dX8_digest_61 rfl rfl ?_
      refine q_bipush (pc := 62) (by decide) dX8_digest_62 ?_
      refine q_iload_n (pc := 64) dX8_digest_64 rfl ?_
      refine q_iadd (pc := 65) dX8_digest_65 ?_
      refine q_iconst (pc := 66) dX8_digest_66 ?_
      refine q_invokevirtual (pc := 67) (d' := d - 1) (mc' := 0) (ms' := 0) (As := [_, _]) (TX8, 26) cl_X8_334 dX8_digest_67 rfl rfl (by assumption) rfl (by omega) rfl 0 0 (Nat.le_refl 0) (Nat.le_refl 0) ?_
      refine c_X8_add h722 h732 (by omega) (zone (by omega)) (fun w3 hs3 h723 => ?_)
      have hs3 := hs2.tr hs3
      have h733 := N73 w3 hs3
      refine q_aload_n (pc := 70) dX8_digest_70 rfl rfl ?_
      refine q_bipush (pc := 71) (by decide) dX8_digest_71 ?_
      refine q_bipush (pc := 73) (by decide) dX8_digest_73 ?_
      refine q_iload_n (pc := 75) dX8_digest_75 rfl ?_
      refine q_imul (pc := 76) dX8_digest_76 ?_
      refine q_iadd (pc := 77) dX8_digest_77 ?_
      refine q_iconst (pc := 78) dX8_digest_78 ?_
      refine q_iadd (pc := 79) dX8_digest_79 ?_
      refine q_bipush (pc := 80) (by decide) dX8_digest_80 ?_
      refine q_invokevirtual (pc := 82) (d' := d - 1) (mc' := 0) (ms' := 0) (As := [_, _]) (TX8, 26) cl_X8_334 dX8_digest_82 rfl rfl (by assumption) rfl (by omega) rfl 0 0 (Nat.le_refl 0) (Nat.le_refl 0) ?_
      refine c_X8_add h723 h733 (by omega) (fun i a b => zstR hO2 (by omega) (by omega)) (fun w4 hs4 h724 => ?_)
      have hs4 := hs3.tr hs4
      refine q_iinc (pc := 85) [some _, some _] dX8_digest_85 rfl rfl rfl ?_
      refine q_goto (pc := 88) 42 dX8_digest_88 rfl ?_
      exact hih _ (by omega) hs4 h724
  have L1 : ∀ (q m : Nat) (w1 : zWd), m + q = 12 → zSame w w1 72 1 → w1.1 72 = some (zMO g S.2.2.2.1.1 S.2.2.2.1.2 S.1.2.1 S.2.1.2 p0 p1 p2 p3 p4 it (zcmx S m)) → zRuns g d mX8_digest 0 0 9 [some (zR g 72), some (zI (m : Int))] [] w1 K := by
    intro q
    induction q with
    | zero =>
      intro m w1 h1 hs h72
      have h73 := N73 w1 hs
      obtain rfl : m = 12 := by omega
      rw [h12] at h72
      refine q_iload_n (pc := 9) dX8_digest_9 rfl ?_
      refine q_bipush (pc := 10) (by decide) dX8_digest_10 ?_
      refine q_icmp_ge (pc := 12) (by omega) (by omega) 40 dX8_digest_12 rfl (fun c12 => ?_) (fun c12 => ?_)
      · refine q_iconst (pc := 40) dX8_digest_40 ?_
        refine q_istore_n (pc := 41) [some _, some _] dX8_digest_41 rfl (Nat.le_of_ble_eq_true rfl) rfl ?_
        exact L2 (S.1.1 0).toNat 0 _ (by omega) hs h72
      exfalso; omega
    | succ q ih =>
      intro m w1 h1 hs h72
      have hM : zMo g w1 S := hC.o72 hs h72
      have hih := ih (m + 1)
      have hcb := zcnt_b hO (x := (m : Int))
      refine q_iload_n (pc := 9) dX8_digest_9 rfl ?_
      refine q_bipush (pc := 10) (by decide) dX8_digest_10 ?_
      refine q_icmp_ge (pc := 12) (by omega) (by omega) 40 dX8_digest_12 rfl (fun c12 => ?_) (fun c12 => ?_)
      · exfalso; omega
      refine q_aload_n (pc := 15) dX8_digest_15 rfl rfl ?_
      refine q_ldc2_w (pc := 16) tw_7_14 dX8_digest_16 ?_
      refine q_aload_n (pc := 19) dX8_digest_19 rfl rfl ?_
      refine q_getfield (pc := 20) gf_X8_329 dX8_digest_20 (by assumption) rfl ?_
      refine q_lmul (pc := 23) dX8_digest_23 ?_
      refine q_aload_n (pc := 24) dX8_digest_24 rfl rfl ?_
      refine q_iload_n (pc := 25) dX8_digest_25 rfl ?_
      refine q_invokevirtual (pc := 26) (d' := d - 1) (mc' := 0) (ms' := 0) (As := [_]) (TX8, 26) cl_X8_324 dX8_digest_26 rfl rfl (by assumption) rfl (by omega) rfl 0 0 (Nat.le_refl 0) (Nat.le_refl 0) ?_
      refine c_X8_countOf (by omega) hM hO (by omega) ?_
      refine q_i2l (pc := 29) dX8_digest_29 (by omega) ?_
      refine q_ladd (pc := 30) dX8_digest_30 ?_
      refine q_putfield2 (pc := 31) [_, _, _, _, _, _, _, _, _, _, _, _, _, _, _, _, _, _, _, _, _, _, _, _, _, _] pf_X8_329 dX8_digest_31 (by assumption) rfl rfl (Nat.le_of_ble_eq_true rfl) rfl ?_
      refine q_iinc (pc := 34) [some _, some _] dX8_digest_34 rfl rfl rfl ?_
      refine q_goto (pc := 37) 9 dX8_digest_37 rfl ?_
      exact hih _ (by omega) (hs.tr (zSame.up (by omega))) zup_at
  refine zenter [some _, none] pn_X8 rfl (Nat.le_of_ble_eq_true rfl) ?_
  refine q_aload_n (pc := 0) dX8_digest_0 rfl rfl ?_
  refine q_ldc2_w (pc := 1) tw_7_13 dX8_digest_1 ?_
  refine q_putfield2 (pc := 4) [_, _, _, _, _, _, _, _, _, _, _, _, _, _, _, _, _, _, _, _, _, _, _, _, _, _] pf_X8_329 dX8_digest_4 (by assumption) rfl rfl (Nat.le_of_ble_eq_true rfl) rfl ?_
  refine q_iconst (pc := 7) dX8_digest_7 ?_
  refine q_istore_n (pc := 8) [some _, some _] dX8_digest_8 rfl (Nat.le_of_ble_eq_true rfl) rfl ?_
  exact L1 12 0 _ (by omega) (zSame.up (by omega)) zup_at
end X8K
