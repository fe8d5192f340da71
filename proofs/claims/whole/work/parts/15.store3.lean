/-! the Store's methods that change it: stones, weeks, throws, hours -/
def zlto (N : Int → Int) (c n r : Int) : Int → Int := fun j => if 18 + 10 * c + 1 ≤ j ∧ j < 18 + 10 * c + r then (if j - (18 + 10 * c) + n ≤ 9 then N (j + n) else 0) else N j
theorem zlto_1 {N : Int → Int} {c n : Int} : zlto N c n 1 = N := by funext j; simp only [zlto]; rw [if_neg (by omega)]
theorem zlto_10 {N : Int → Int} {c n : Int} : zlto N c n 10 = zlose N c n := by
  funext j
  simp only [zlto, zlose]
  by_cases h : 18 + 10 * c + 1 ≤ j ∧ j ≤ 18 + 10 * c + 9
  · rw [if_pos h, if_pos (by omega)]
  · rw [if_neg h, if_neg (by omega)]
theorem zlto_at {N : Int → Int} {c n r j : Int} (h : j < 18 + 10 * c + 1 ∨ 18 + 10 * c + r ≤ j) : zlto N c n r j = N j := by simp only [zlto]; rw [if_neg (by omega)]
theorem zlto_s {N : Int → Int} {c n r v : Int} (hr : 1 ≤ r ∧ r ≤ 9) (hn : 0 ≤ n) (hv : v = if r + n ≤ 9 then N (18 + 10 * c + (r + n)) else 0) : zfu (zlto N c n r) (18 + 10 * c + r) v = zlto N c n (r + 1) := by
  funext j
  simp only [zfu, zlto]
  by_cases h : j = 18 + 10 * c + r
  · rw [if_pos h, if_pos (by omega), hv]
    by_cases h2 : r + n ≤ 9
    · rw [if_pos h2, if_pos (by omega)]; congr 1; omega
    · rw [if_neg h2, if_neg (by omega)]
  · rw [if_neg h]
    by_cases h2 : 18 + 10 * c + 1 ≤ j ∧ j < 18 + 10 * c + r
    · rw [if_pos h2, if_pos (show 18 + 10 * c + 1 ≤ j ∧ j < 18 + 10 * c + (r + 1) by omega)]
    · rw [if_neg h2, if_neg (by omega)]
theorem zlose_out {N : Int → Int} {c n j : Int} (hc : 0 ≤ c ∧ c < 5) (h : j < 19 ∨ 68 ≤ j) : zlose N c n j = N j := by simp only [zlose]; rw [if_neg (by omega)]
theorem zOK_stones {N N' : Int → Int} (h : zOK N) (e : ∀ j, j < 18 ∨ 68 ≤ j → N' j = N j) (hs : zSn N') : zOK N' := by
  obtain ⟨h1, h2, -, h4, h5, h6, h7, h8⟩ := h
  refine ⟨?_, fun c a b => ?_, hs, fun s a b => ?_, fun s a b => ?_, fun s a b => ?_, fun s a b => ?_, fun s a b => ?_⟩
  · rw [zHd, e 0 (by omega), e 1 (by omega), e 2 (by omega), e 3 (by omega), e 4 (by omega), e 5 (by omega), e 6 (by omega), e 7 (by omega)]; exact h1
  · rw [e 0 (by omega)] at b; rw [e (8 + c) (by omega), e (13 + c) (by omega)]; exact h2 c a b
  · rw [e 1 (by omega)] at b; rw [e (68 + s) (by omega), e (74 + s) (by omega)]; exact h4 s a b
  · rw [e 2 (by omega)] at b; rw [e (80 + s) (by omega), e (84 + s) (by omega), e (88 + s) (by omega)]; exact h5 s a b
  · rw [e 5 (by omega)] at b; rw [e 0 (by omega), e (92 + 4 * s) (by omega), e (93 + 4 * s) (by omega), e (94 + 4 * s) (by omega), e (95 + 4 * s) (by omega)]; exact h6 s a b
  · rw [e 6 (by omega)] at b; rw [e 0 (by omega), e (108 + 5 * s) (by omega), e (109 + 5 * s) (by omega), e (110 + 5 * s) (by omega), e (111 + 5 * s) (by omega), e (112 + 5 * s) (by omega)]; exact h7 s a b
  · rw [e 7 (by omega)] at b; rw [e 1 (by omega), e (138 + 5 * s) (by omega), e (139 + 5 * s) (by omega), e (140 + 5 * s) (by omega), e (141 + 5 * s) (by omega), e (142 + 5 * s) (by omega)]; exact h8 s a b
theorem zlose_Sn {N : Int → Int} {c n : Int} (h : zOK N) (hc : 0 ≤ c ∧ c < N 0) (hn : 0 ≤ n) : zSn (zlose N c n) := by
  have hh := h.1
  intro c2 r h1 h2 h3 h4
  have q := h.2.2.1
  rw [zlose_out (j := 0) (by omega) (by omega)]
  simp only [zlose]
  by_cases e : c2 = c
  · subst e
    rw [if_pos (by omega)]
    by_cases h5 : r + n ≤ 9
    · rw [if_pos (by omega)]
      have := q c2 (r + n) h1 h2 (by omega) h5
      rw [show 18 + 10 * c2 + r + n = 18 + 10 * c2 + (r + n) by omega]
      exact this
    · rw [if_neg (by omega)]; omega
  · rw [if_neg (by omega)]; exact q c2 r h1 h2 h3 h4
theorem zlose_ok {N : Int → Int} {c n : Int} (h : zOK N) (hc : 0 ≤ c ∧ c < N 0) (hn : 0 ≤ n) : zOK (zlose N c n) := zOK_stones h (fun j hj => zlose_out (by have := h.1; omega) (by omega)) (zlose_Sn h hc hn)
theorem zweekTo_out {N : Int → Int} : ∀ {m : Nat} {j : Int}, (m : Int) ≤ 5 → (j < 19 ∨ 68 ≤ j) → zweekTo N m j = N j
  | 0, _, _, _ => rfl
  | m + 1, j, h, hj => by
    rw [zweekTo, zlose_out (by omega) hj]
    exact zweekTo_out (by omega) hj
theorem zweekTo_ok {N : Int → Int} (h : zOK N) : ∀ {m : Nat}, (m : Int) ≤ N 0 → zOK (zweekTo N m)
  | 0, _ => h
  | m + 1, hm => by
    have hh := h.1
    rw [zweekTo]
    exact zlose_ok (zweekTo_ok h (by omega)) (by rw [zweekTo_out (by omega) (by omega)]; omega) (zmelt_b _ _ _).1
theorem zfu3_ok {N : Int → Int} {v : Int} (h : zOK N) (hv : 0 ≤ v ∧ v ≤ 999) : zOK (zfu N 3 v) := by
  obtain ⟨h1, h2, h3, h4, h5, h6, h7, h8⟩ := h
  have e : ∀ j, j ≠ 3 → zfu N 3 v j = N j := fun j hj => if_neg hj
  refine ⟨?_, fun c a b => ?_, fun c r a b a2 b2 => ?_, fun s a b => ?_, fun s a b => ?_, fun s a b => ?_, fun s a b => ?_, fun s a b => ?_⟩
  · rw [zHd, e 0 (by omega), e 1 (by omega), e 2 (by omega), e 4 (by omega), e 5 (by omega), e 6 (by omega), e 7 (by omega)]
    have : zfu N 3 v 3 = v := if_pos rfl
    rw [this]; omega
  · rw [e 0 (by omega)] at b; rw [e (8 + c) (by omega), e (13 + c) (by omega)]; exact h2 c a b
  · rw [e 0 (by omega), e _ (by omega)]; exact h3 c r a b a2 b2
  · rw [e 1 (by omega)] at b; rw [e (68 + s) (by omega), e (74 + s) (by omega)]; exact h4 s a b
  · rw [e 2 (by omega)] at b; rw [e (80 + s) (by omega), e (84 + s) (by omega), e (88 + s) (by omega)]; exact h5 s a b
  · rw [e 5 (by omega)] at b; rw [e 0 (by omega), e (92 + 4 * s) (by omega), e (93 + 4 * s) (by omega), e (94 + 4 * s) (by omega), e (95 + 4 * s) (by omega)]; exact h6 s a b
  · rw [e 6 (by omega)] at b; rw [e 0 (by omega), e (108 + 5 * s) (by omega), e (109 + 5 * s) (by omega), e (110 + 5 * s) (by omega), e (111 + 5 * s) (by omega), e (112 + 5 * s) (by omega)]; exact h7 s a b
  · rw [e 7 (by omega)] at b; rw [e 1 (by omega), e (138 + 5 * s) (by omega), e (139 + 5 * s) (by omega), e (140 + 5 * s) (by omega), e (141 + 5 * s) (by omega), e (142 + 5 * s) (by omega)]; exact h8 s a b
theorem zweek_ok {N : Int → Int} (h : zOK N) (hw : N 3 < 999) : zOK (zweek N) := by
  have hh := h.1
  exact zfu3_ok (zweekTo_ok h (by omega)) (by omega)
theorem zweek_out {N : Int → Int} {j : Int} (h : zOK N) (hj : j < 19 ∨ 68 ≤ j) (h3 : j ≠ 3) : zweek N j = N j := by
  have hh := h.1
  show zfu _ _ _ _ = _
  simp only [zfu]
  rw [if_neg h3]
  exact zweekTo_out (by omega) hj
theorem zweeks_ok {N : Int → Int} (h : zOK N) : ∀ m : Nat, zOK (zweeks N m)
  | 0 => h
  | m + 1 => by
    rw [zweeks]
    split
    · exact zweek_ok (zweeks_ok h m) (by assumption)
    · exact zweeks_ok h m
theorem zweeks_out {N : Int → Int} {j : Int} (h : zOK N) (hj : j < 19 ∨ 68 ≤ j) (h3 : j ≠ 3) : ∀ m : Nat, zweeks N m j = N j
  | 0 => rfl
  | m + 1 => by
    rw [zweeks]
    split
    · rw [zweek_out (zweeks_ok h m) hj h3]; exact zweeks_out h hj h3 m
    · exact zweeks_out h hj h3 m
theorem zweeks_stop {N : Int → Int} {m : Nat} (h : ¬ zweeks N m 3 < 999) : ∀ q : Nat, zweeks N (m + q) = zweeks N m
  | 0 => rfl
  | q + 1 => by
    show (if zweeks N (m + q) 3 < 999 then zweek (zweeks N (m + q)) else zweeks N (m + q)) = _
    rw [zweeks_stop h q, if_neg h]
section X6C
variable {g : zG} {d : Nat} {w : zWd} {K : Option Value → zWd → Prop} {b : Nat} {N P : Int → Int} {u : Int}
theorem zSto.week {v : Int} (h : zSto g w b N u P) : zSto g (zup w b (.inl (5, [zI v, zI (N 4), zR g (b + 1), zR g (b + 3), zR g (b + 5), zR g (b + 7), zR g (b + 9), zR g (b + 11), zR g (b + 13)]))) b (zfu N 3 v) u P := by
  obtain ⟨C0, C1, C2, C3, C4, C5, C6, hO, h0, h1, h2, h3, h4, h5, h6, r0, r1, r2, r3, r4, r5, r6⟩ := h
  have e : ∀ j, j ≠ 3 → zfu N 3 v j = N j := fun j hj => if_neg hj
  have hs : zSame w (zup w b (.inl (5, [zI v, zI (N 4), zR g (b + 1), zR g (b + 3), zR g (b + 5), zR g (b + 7), zR g (b + 9), zR g (b + 11), zR g (b + 13)]))) b 1 := zSame.up (by omega)
  refine ⟨C0, C1, C2, C3, C4, C5, C6, ?_, ?_, ?_, ?_, ?_, ?_, ?_, h6.keep hs (by omega), fun c a b => ?_, fun s a b => ?_, fun s a b => ?_, fun i j a b a2 b2 => ?_, fun i j a b a2 b2 => ?_, fun i j a b a2 b2 => ?_, fun i a b => ?_⟩
  · rw [zSobj, e 4 (by omega)]; simp only [zup, zfu, if_pos]
  · rw [e 0 (by omega)]; exact h0.keep hs (by omega)
  · rw [e 1 (by omega)]; exact h1.keep hs (by omega)
  · rw [e 2 (by omega)]; exact h2.keep hs (by omega)
  · rw [e 5 (by omega)]; exact h3.keep hs (by omega)
  · rw [e 6 (by omega)]; exact h4.keep hs (by omega)
  · rw [e 7 (by omega)]; exact h5.keep hs (by omega)
  · rw [e 0 (by omega)] at b
    obtain ⟨q1, q2, q3⟩ := r0 c a b
    exact ⟨by rw [e _ (by omega)]; exact q1, by rw [e _ (by omega)]; exact q2, fun r3 a3 b3 => by rw [e _ (by omega)]; exact q3 r3 a3 b3⟩
  · rw [e 1 (by omega)] at b
    rw [e _ (by omega), e _ (by omega)]; exact r1 s a b
  · rw [e 2 (by omega)] at b
    rw [e _ (by omega), e _ (by omega), e _ (by omega)]; exact r2 s a b
  · rw [e 5 (by omega)] at b
    rw [e _ (by omega)]; exact r3 i j a b a2 b2
  · rw [e 6 (by omega)] at b
    rw [e _ (by omega)]; exact r4 i j a b a2 b2
  · rw [e 7 (by omega)] at b
    rw [e _ (by omega)]; exact r5 i j a b a2 b2
  · obtain ⟨q1, q2, q3, q4⟩ := r6 i a b
    refine ⟨q1, q2, fun c2 a3 b3 => ?_, fun k2 a3 b3 => ?_⟩
    · rw [e 0 (by omega)] at b3
      rw [e _ (by omega), e _ (by omega)]; exact q3 c2 a3 b3
    · rw [e 2 (by omega)] at b3
      rw [e _ (by omega)]; exact q4 k2 a3 b3
set_option maxRecDepth 100000 in
set_option maxHeartbeats 4000000 in
theorem c_X6_putStones {c r v : Int} (hd : 2 ≤ d) (hS : zSto g w b N u P) (hH : zHd N) (hc : 0 ≤ c ∧ c < N 0) (hr : 1 ≤ r ∧ r ≤ 9) (k : ∀ w', zSame w w' b 15 → zSto g w' b (zfu N (18 + 10 * c + r) v) u P → K none w') : zCall g d 0 0 mX6_putStones [zR g b, zI c, zI r, zI v] w K := by
  refine zenter [some _, some _, some _, some _] pn_X6 rfl (Nat.le_of_ble_eq_true rfl) ?_
  refine q_iload_n (pc := 0) dX6_putStones_0 rfl ?_
  refine q_invokestnest (pc := 1) (d' := d - 1) (mc' := 0) (ms' := 0) (As := [_]) cl_X6_85 dX6_putStones_1 rfl rfl (by omega) rfl 0 0 (Nat.le_refl 0) (Nat.le_refl 0) ?_
  refine c_X7_isRings (by omega) (by omega) ?_
  refine q_ifb_eq (pc := 4) 19 dX6_putStones_4 rfl (fun c4 => ?_) (fun c4 => ?_)
  · refine q_return (pc := 19) dX6_putStones_19 rfl ?_
    first | exact k _ hs2 hS2 | (exfalso; omega)
  refine q_aload_n (pc := 7) dX6_putStones_7 rfl rfl ?_
  refine q_getfield (pc := 8) gf_X6_16 dX6_putStones_8 (by first | assumption | exact hS.o | exact hS.s0 | exact hS.s1 | exact hS.s2 | exact hS.s3 | exact hS.s4 | exact hS.s5 | exact hS.s6) rfl ?_
  refine q_iload_n (pc := 11) dX6_putStones_11 rfl ?_
  refine q_iconst (pc := 12) dX6_putStones_12 ?_
  refine q_iload_n (pc := 13) dX6_putStones_13 rfl ?_
  refine q_iadd (pc := 14) dX6_putStones_14 ?_
  refine q_iload_n (pc := 15) dX6_putStones_15 rfl ?_
  refine q_invokevirtual (pc := 16) (d' := d - 1) (mc' := 0) (ms' := 0) (As := [_, _, _]) (TX4, 4) cl_X6_63 dX6_putStones_16 rfl rfl (by first | assumption | exact hS.o | exact hS.s0 | exact hS.s1 | exact hS.s2 | exact hS.s3 | exact hS.s4 | exact hS.s5 | exact hS.s6) rfl (by omega) rfl 0 0 (Nat.le_refl 0) (Nat.le_refl 0) ?_
  refine s_put_stone (by omega) hS hH hc hr (fun w2 hs2 hS2 => ?_)
  refine q_return (pc := 19) dX6_putStones_19 rfl ?_
  first | exact k _ hs2 hS2 | (exfalso; omega)
set_option maxRecDepth 100000 in
set_option maxHeartbeats 4000000 in
theorem c_X6_loseRings {c n : Int} (hd : 2 ≤ d) (hS : zSto g w b N u P) (hH : zHd N) (hc : 0 ≤ c ∧ c < N 0) (hn : 0 ≤ n ∧ n ≤ 100) (k : ∀ w', zSame w w' b 15 → zSto g w' b (zlose N c n) u P → K none w') : zCall g d 0 0 mX6_loseRings [zR g b, zI c, zI n] w K := by
  have L : ∀ (q : Nat) (r : Int) (w' : zWd), r + q = 10 → 1 ≤ r → zSame w w' b 15 → zSto g w' b (zlto N c n r) u P → zRuns g d mX6_loseRings 0 0 2 [some (zR g b), some (zI c), some (zI n), some (zI r)] [] w' K := by
    intro q
    induction q with
    | zero =>
      intro r w' hr h1 hs hS
      refine q_iload_n (pc := 2) dX6_loseRings_2 rfl ?_
      refine q_bipush (pc := 3) (by decide) dX6_loseRings_3 ?_
      refine q_icmp_gt (pc := 5) (by omega) (by omega) 50 dX6_loseRings_5 rfl (fun c5 => ?_) (fun c5 => ?_)
      · refine q_return (pc := 50) dX6_loseRings_50 rfl ?_
        rw [show r = 10 by omega, zlto_10] at hS; exact k _ hs hS
      exfalso; omega
    | succ q ih =>
      intro r w' hr h1 hs hS
      have hH2 : zHd (zlto N c n r) := by
        rw [zHd, zlto_at (by omega), zlto_at (by omega), zlto_at (by omega), zlto_at (by omega), zlto_at (by omega), zlto_at (by omega), zlto_at (by omega), zlto_at (by omega)]; exact hH
      have h0 : zlto N c n r 0 = N 0 := zlto_at (by omega)
      refine q_iload_n (pc := 2) dX6_loseRings_2 rfl ?_
      refine q_bipush (pc := 3) (by decide) dX6_loseRings_3 ?_
      refine q_icmp_gt (pc := 5) (by omega) (by omega) 50 dX6_loseRings_5 rfl (fun c5 => ?_) (fun c5 => ?_)
      · exfalso; omega
      refine q_aload_n (pc := 8) dX6_loseRings_8 rfl rfl ?_
      refine q_getfield (pc := 9) gf_X6_16 dX6_loseRings_9 (by first | assumption | exact hS.o | exact hS.s0 | exact hS.s1 | exact hS.s2 | exact hS.s3 | exact hS.s4 | exact hS.s5 | exact hS.s6) rfl ?_
      refine q_iload_n (pc := 12) dX6_loseRings_12 rfl ?_
      refine q_iconst (pc := 13) dX6_loseRings_13 ?_
      refine q_iload_n (pc := 14) dX6_loseRings_14 rfl ?_
      refine q_iadd (pc := 15) dX6_loseRings_15 ?_
      refine q_iload_n (pc := 16) dX6_loseRings_16 rfl ?_
      refine q_iload_n (pc := 17) dX6_loseRings_17 rfl ?_
      refine q_iadd (pc := 18) dX6_loseRings_18 ?_
      refine q_bipush (pc := 19) (by decide) dX6_loseRings_19 ?_
      refine q_icmp_gt (pc := 21) (by omega) (by omega) 40 dX6_loseRings_21 rfl (fun c21 => ?_) (fun c21 => ?_)
      · refine q_iconst (pc := 40) dX6_loseRings_40 ?_
        refine q_invokevirtual (pc := 41) (d' := d - 1) (mc' := 0) (ms' := 0) (As := [_, _, _]) (TX4, 4) cl_X6_63 dX6_loseRings_41 rfl rfl (by first | assumption | exact hS.o | exact hS.s0 | exact hS.s1 | exact hS.s2 | exact hS.s3 | exact hS.s4 | exact hS.s5 | exact hS.s6) rfl (by omega) rfl 0 0 (Nat.le_refl 0) (Nat.le_refl 0) ?_
        refine s_put_stone (by omega) hS hH2 (by omega) (by omega) (fun w2 hs2 hS2 => ?_)
        rw [zlto_s (by omega) hn.1 (by first | (rw [if_pos (by omega)]; done) | rw [if_neg (by omega)])] at hS2
        refine q_iinc (pc := 44) [some _, some _, some _, some _] dX6_loseRings_44 rfl rfl rfl ?_
        refine q_goto (pc := 47) 2 dX6_loseRings_47 rfl ?_
        exact ih _ _ (by omega) (by omega) (hs.tr hs2) hS2
      refine q_aload_n (pc := 24) dX6_loseRings_24 rfl rfl ?_
      refine q_getfield (pc := 25) gf_X6_16 dX6_loseRings_25 (by first | assumption | exact hS.o | exact hS.s0 | exact hS.s1 | exact hS.s2 | exact hS.s3 | exact hS.s4 | exact hS.s5 | exact hS.s6) rfl ?_
      refine q_iload_n (pc := 28) dX6_loseRings_28 rfl ?_
      refine q_iconst (pc := 29) dX6_loseRings_29 ?_
      refine q_iload_n (pc := 30) dX6_loseRings_30 rfl ?_
      refine q_iadd (pc := 31) dX6_loseRings_31 ?_
      refine q_iload_n (pc := 32) dX6_loseRings_32 rfl ?_
      refine q_iadd (pc := 33) dX6_loseRings_33 ?_
      rw [show (1 : Int) + r + n = 1 + (r + n) by omega]
      refine q_invokevirtual (pc := 34) (d' := d - 1) (mc' := 0) (ms' := 0) (As := [_, _]) (TX4, 4) cl_X6_78 dX6_loseRings_34 rfl rfl (by first | assumption | exact hS.o | exact hS.s0 | exact hS.s1 | exact hS.s2 | exact hS.s3 | exact hS.s4 | exact hS.s5 | exact hS.s6) rfl (by omega) rfl 0 0 (Nat.le_refl 0) (Nat.le_refl 0) ?_
      refine s_get_stone (by omega) hS hH2 (by omega) (by omega) ?_
      rw [zlto_at (by omega)]
      refine q_goto (pc := 37) 41 dX6_loseRings_37 rfl ?_
      refine q_invokevirtual (pc := 41) (d' := d - 1) (mc' := 0) (ms' := 0) (As := [_, _, _]) (TX4, 4) cl_X6_63 dX6_loseRings_41 rfl rfl (by first | assumption | exact hS.o | exact hS.s0 | exact hS.s1 | exact hS.s2 | exact hS.s3 | exact hS.s4 | exact hS.s5 | exact hS.s6) rfl (by omega) rfl 0 0 (Nat.le_refl 0) (Nat.le_refl 0) ?_
      refine s_put_stone (by omega) hS hH2 (by omega) (by omega) (fun w2 hs2 hS2 => ?_)
      rw [zlto_s (by omega) hn.1 (by first | (rw [if_pos (by omega)]; done) | rw [if_neg (by omega)])] at hS2
      refine q_iinc (pc := 44) [some _, some _, some _, some _] dX6_loseRings_44 rfl rfl rfl ?_
      refine q_goto (pc := 47) 2 dX6_loseRings_47 rfl ?_
      exact ih _ _ (by omega) (by omega) (hs.tr hs2) hS2
  refine zenter [some _, some _, some _, none] pn_X6 rfl (Nat.le_of_ble_eq_true rfl) ?_
  refine q_iconst (pc := 0) dX6_loseRings_0 ?_
  refine q_istore_n (pc := 1) [some _, some _, some _, some _] dX6_loseRings_1 rfl (Nat.le_of_ble_eq_true rfl) rfl ?_
  exact L 9 1 _ (by omega) (by omega) zSame.rf (by rw [zlto_1]; exact hS)
set_option maxRecDepth 100000 in
set_option maxHeartbeats 4000000 in
theorem c_X6_openDoor {c : Int} (hd : 3 ≤ d) (hS : zSto g w b N u P) (hO : zOK N) (hc : 0 ≤ c ∧ c < N 0) (k : ∀ w', zSame w w' b 15 → zSto g w' b (zlose N c (zcost (N (8 + c)))) u P → K none w') : zCall g d 0 0 mX6_openDoor [zR g b, zI c] w K := by
  have hb := zcost_b (N (8 + c))
  refine zenter [some _, some _] pn_X6 rfl (Nat.le_of_ble_eq_true rfl) ?_
  refine q_aload_n (pc := 0) dX6_openDoor_0 rfl rfl ?_
  refine q_iload_n (pc := 1) dX6_openDoor_1 rfl ?_
  refine q_aload_n (pc := 2) dX6_openDoor_2 rfl rfl ?_
  refine q_iload_n (pc := 3) dX6_openDoor_3 rfl ?_
  refine q_invokevirtual (pc := 4) (d' := d - 1) (mc' := 0) (ms' := 0) (As := [_]) (TX6, 9) cl_X6_109 dX6_openDoor_4 rfl rfl (by first | assumption | exact hS.o | exact hS.s0 | exact hS.s1 | exact hS.s2 | exact hS.s3 | exact hS.s4 | exact hS.s5 | exact hS.s6) rfl (by omega) rfl 0 0 (Nat.le_refl 0) (Nat.le_refl 0) ?_
  refine c_X6_doorCost (by omega) hS hO hc ?_
  refine q_invokevirtual (pc := 7) (d' := d - 1) (mc' := 0) (ms' := 0) (As := [_, _]) (TX6, 9) cl_X6_112 dX6_openDoor_7 rfl rfl (by first | assumption | exact hS.o | exact hS.s0 | exact hS.s1 | exact hS.s2 | exact hS.s3 | exact hS.s4 | exact hS.s5 | exact hS.s6) rfl (by omega) rfl 0 0 (Nat.le_refl 0) (Nat.le_refl 0) ?_
  refine c_X6_loseRings (by omega) hS hO.1 hc (by omega) (fun w2 hs2 hS2 => ?_)
  refine q_return (pc := 10) dX6_openDoor_10 rfl ?_
  exact k _ hs2 hS2
set_option maxRecDepth 100000 in
set_option maxHeartbeats 4000000 in
theorem c_X6_passWeeks {n : Int} (hd : 3 ≤ d) (hS : zSto g w b N u P) (hO : zOK N) (hn : 0 ≤ n ∧ n ≤ 1000) (k : ∀ w', zSame w w' b 15 → zSto g w' b (zweeks N n.toNat) u P → K none w') : zCall g d 0 0 mX6_passWeeks [zR g b, zI n] w K := by
  have L : ∀ (Q M : Nat) (w1 : zWd) (x : Option Value), M + Q = n.toNat → zSame w w1 b 15 → zSto g w1 b (zweeks N M) u P → zRuns g d mX6_passWeeks 0 0 2 [some (zR g b), some (zI n), some (zI (M : Int)), x] [] w1 K := by
    intro Q
    induction Q with
    | zero =>
      intro M w1 x hM hs hS
      refine q_iload_n (pc := 2) dX6_passWeeks_2 rfl ?_
      refine q_iload_n (pc := 3) dX6_passWeeks_3 rfl ?_
      refine q_icmp_ge (pc := 4) (by omega) (by omega) 66 dX6_passWeeks_4 rfl (fun c4 => ?_) (fun c4 => ?_)
      · refine q_return (pc := 66) dX6_passWeeks_66 rfl ?_
        rw [show n.toNat = M by omega] at k; exact k _ hs hS
      exfalso; omega
    | succ Q ih =>
      intro M w1 x hM hs hS
      have hO1 := zweeks_ok hO M
      have e0 : zweeks N M 0 = N 0 := zweeks_out hO (by omega) (by omega) M
      have hh := hO1.1
      have L2 : ∀ (q m : Nat) (w' : zWd), m + q = (N 0).toNat → zSame w w' b 15 → zweeks N M 3 < 999 → zSto g w' b (zweekTo (zweeks N M) m) u P → zRuns g d mX6_passWeeks 0 0 19 [some (zR g b), some (zI n), some (zI (M : Int)), some (zI (m : Int))] [] w' K := by
        intro q
        induction q with
        | zero =>
          intro m w' hm hs h9 hS
          have ea : zweekTo (zweeks N M) m 0 = zweeks N M 0 := zweekTo_out (by omega) (by omega)
          have eb : zweekTo (zweeks N M) m 3 = zweeks N M 3 := zweekTo_out (by omega) (by omega)
          refine q_iload_n (pc := 19) dX6_passWeeks_19 rfl ?_
          refine q_aload_n (pc := 20) dX6_passWeeks_20 rfl rfl ?_
          refine q_getfield (pc := 21) gf_X6_16 dX6_passWeeks_21 (by first | assumption | exact hS.o | exact hS.s0 | exact hS.s1 | exact hS.s2 | exact hS.s3 | exact hS.s4 | exact hS.s5 | exact hS.s6) rfl ?_
          refine q_getfield (pc := 24) gf_X6_71 dX6_passWeeks_24 (by first | assumption | exact hS.o | exact hS.s0 | exact hS.s1 | exact hS.s2 | exact hS.s3 | exact hS.s4 | exact hS.s5 | exact hS.s6) rfl ?_
          refine q_icmp_ge (pc := 27) (by omega) (by omega) 50 dX6_passWeeks_27 rfl (fun c27 => ?_) (fun c27 => ?_)
          · refine q_aload_n (pc := 50) dX6_passWeeks_50 rfl rfl ?_
            refine q_dup (pc := 51) rfl dX6_passWeeks_51 ?_
            refine q_getfield (pc := 52) gf_X6_38 dX6_passWeeks_52 (by first | assumption | exact hS.o | exact hS.s0 | exact hS.s1 | exact hS.s2 | exact hS.s3 | exact hS.s4 | exact hS.s5 | exact hS.s6) rfl ?_
            refine q_iconst (pc := 55) dX6_passWeeks_55 ?_
            refine q_iadd (pc := 56) dX6_passWeeks_56 ?_
            refine q_putfield2 (pc := 57) [_, _, _, _, _, _, _, _, _] pf_X6_38 dX6_passWeeks_57 (by first | assumption | exact hS.o | exact hS.s0 | exact hS.s1 | exact hS.s2 | exact hS.s3 | exact hS.s4 | exact hS.s5 | exact hS.s6) rfl rfl (Nat.le_of_ble_eq_true rfl) rfl ?_
            refine q_iinc (pc := 60) [some _, some _, some _, some _] dX6_passWeeks_60 rfl rfl rfl ?_
            refine q_goto (pc := 63) 2 dX6_passWeeks_63 rfl ?_
            refine ih (M + 1) _ _ (by omega) (hs.tr (zSame.up (by omega))) ?_
            have h8 := hS.week (v := zweekTo (zweeks N M) m 3 + 1)
            rw [eb] at h8
            rw [zweeks, if_pos h9, zweek, show (zweeks N M 0).toNat = m by omega]
            rw [eb]
            exact h8
          exfalso; omega
        | succ q ih2 =>
          intro m w' hm hs h9 hS
          have ea : zweekTo (zweeks N M) m 0 = zweeks N M 0 := zweekTo_out (by omega) (by omega)
          have eb : zweekTo (zweeks N M) m 3 = zweeks N M 3 := zweekTo_out (by omega) (by omega)
          have hO2 := zweekTo_ok hO1 (m := m) (by omega)
          have hmb := zmelt_b (zweekTo (zweeks N M) m (8 + (m : Int))) (zweekTo (zweeks N M) m 3) (zweekTo (zweeks N M) m (13 + (m : Int)))
          refine q_iload_n (pc := 19) dX6_passWeeks_19 rfl ?_
          refine q_aload_n (pc := 20) dX6_passWeeks_20 rfl rfl ?_
          refine q_getfield (pc := 21) gf_X6_16 dX6_passWeeks_21 (by first | assumption | exact hS.o | exact hS.s0 | exact hS.s1 | exact hS.s2 | exact hS.s3 | exact hS.s4 | exact hS.s5 | exact hS.s6) rfl ?_
          refine q_getfield (pc := 24) gf_X6_71 dX6_passWeeks_24 (by first | assumption | exact hS.o | exact hS.s0 | exact hS.s1 | exact hS.s2 | exact hS.s3 | exact hS.s4 | exact hS.s5 | exact hS.s6) rfl ?_
          refine q_icmp_ge (pc := 27) (by omega) (by omega) 50 dX6_passWeeks_27 rfl (fun c27 => ?_) (fun c27 => ?_)
          · exfalso; omega
          refine q_aload_n (pc := 30) dX6_passWeeks_30 rfl rfl ?_
          refine q_iload_n (pc := 31) dX6_passWeeks_31 rfl ?_
          refine q_aload_n (pc := 32) dX6_passWeeks_32 rfl rfl ?_
          refine q_iload_n (pc := 33) dX6_passWeeks_33 rfl ?_
          refine q_aload_n (pc := 34) dX6_passWeeks_34 rfl rfl ?_
          refine q_getfield (pc := 35) gf_X6_38 dX6_passWeeks_35 (by first | assumption | exact hS.o | exact hS.s0 | exact hS.s1 | exact hS.s2 | exact hS.s3 | exact hS.s4 | exact hS.s5 | exact hS.s6) rfl ?_
          refine q_invokevirtual (pc := 38) (d' := d - 1) (mc' := 0) (ms' := 0) (As := [_, _]) (TX6, 9) cl_X6_115 dX6_passWeeks_38 rfl rfl (by first | assumption | exact hS.o | exact hS.s0 | exact hS.s1 | exact hS.s2 | exact hS.s3 | exact hS.s4 | exact hS.s5 | exact hS.s6) rfl (by omega) rfl 0 0 (Nat.le_refl 0) (Nat.le_refl 0) ?_
          refine c_X6_meltIn (by omega) hS hO2 (by omega) (by omega) ?_
          refine q_invokevirtual (pc := 41) (d' := d - 1) (mc' := 0) (ms' := 0) (As := [_, _]) (TX6, 9) cl_X6_112 dX6_passWeeks_41 rfl rfl (by first | assumption | exact hS.o | exact hS.s0 | exact hS.s1 | exact hS.s2 | exact hS.s3 | exact hS.s4 | exact hS.s5 | exact hS.s6) rfl (by omega) rfl 0 0 (Nat.le_refl 0) (Nat.le_refl 0) ?_
          refine c_X6_loseRings (by omega) hS hO2.1 (by omega) (by omega) (fun w2 hs2 hS2 => ?_)
          refine q_iinc (pc := 44) [some _, some _, some _, some _] dX6_passWeeks_44 rfl rfl rfl ?_
          refine q_goto (pc := 47) 19 dX6_passWeeks_47 rfl ?_
          refine ih2 (m + 1) _ (by omega) (hs.tr hs2) h9 ?_
          rw [zweekTo_out (by omega) (by omega), eb, zweekTo_out (by omega) (by omega)] at hS2
          exact hS2
      refine q_iload_n (pc := 2) dX6_passWeeks_2 rfl ?_
      refine q_iload_n (pc := 3) dX6_passWeeks_3 rfl ?_
      refine q_icmp_ge (pc := 4) (by omega) (by omega) 66 dX6_passWeeks_4 rfl (fun c4 => ?_) (fun c4 => ?_)
      · first | (exfalso; omega; done) | (refine q_return (pc := 66) dX6_passWeeks_66 rfl ?_; rw [show n.toNat = M + (Q + 1) by omega, zweeks_stop (by omega)] at k; exact k _ hs hS)
      refine q_aload_n (pc := 7) dX6_passWeeks_7 rfl rfl ?_
      refine q_getfield (pc := 8) gf_X6_38 dX6_passWeeks_8 (by first | assumption | exact hS.o | exact hS.s0 | exact hS.s1 | exact hS.s2 | exact hS.s3 | exact hS.s4 | exact hS.s5 | exact hS.s6) rfl ?_
      refine q_sipush (pc := 11) (by decide) dX6_passWeeks_11 ?_
      refine q_icmp_ge (pc := 14) (by omega) (by omega) 66 dX6_passWeeks_14 rfl (fun c14 => ?_) (fun c14 => ?_)
      · first | (exfalso; omega; done) | (refine q_return (pc := 66) dX6_passWeeks_66 rfl ?_; rw [show n.toNat = M + (Q + 1) by omega, zweeks_stop (by omega)] at k; exact k _ hs hS)
      refine q_iconst (pc := 17) dX6_passWeeks_17 ?_
      refine q_istore_n (pc := 18) [some _, some _, some _, some _] dX6_passWeeks_18 rfl (Nat.le_of_ble_eq_true rfl) rfl ?_
      exact L2 (N 0).toNat 0 _ (by omega) hs (by omega) hS
  refine zenter [some _, some _, none, none] pn_X6 rfl (Nat.le_of_ble_eq_true rfl) ?_
  refine q_iconst (pc := 0) dX6_passWeeks_0 ?_
  refine q_istore_n (pc := 1) [some _, some _, some _, none] dX6_passWeeks_1 rfl (Nat.le_of_ble_eq_true rfl) rfl ?_
  exact L n.toNat 0 _ _ (by omega) zSame.rf hS
end X6C
