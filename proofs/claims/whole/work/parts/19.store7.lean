/-! what comes anew, what is emptied -/
def znewc (N : Int → Int) (kd st : Int) : Int → Int := zfu (zfu (zfu N (8 + N 0) kd) (13 + N 0) st) 0 (N 0 + 1)
def znews (N : Int → Int) (kd a : Int) : Int → Int := zfu (zfu (zfu N (68 + N 1) kd) (74 + N 1) a) 1 (N 1 + 1)
def znewk (N : Int → Int) (far need : Int) : Int → Int := zfu (zfu (zfu (zfu N (80 + N 2) far) (84 + N 2) need) (88 + N 2) 0) 2 (N 2 + 1)
def znewr (N : Int → Int) (c wk x y : Int) : Int → Int := zfu (zfu (zfu (zfu (zfu N (92 + 4 * N 5) c) (92 + 4 * N 5 + 1) wk) (92 + 4 * N 5 + 2) x) (92 + 4 * N 5 + 3) y) 5 (N 5 + 1)
def znewn (N : Int → Int) (q z x0 x1 x2 x3 x4 : Int) : Int → Int := zfu (zfu (zfu (zfu (zfu (zfu N (z + 5 * N q) x0) (z + 5 * N q + 1) x1) (z + 5 * N q + 2) x2) (z + 5 * N q + 3) x3) (z + 5 * N q + 4) x4) q (N q + 1)
section X6G
variable {g : zG} {d : Nat} {w : zWd} {K : Option Value → zWd → Prop} {b : Nat} {N P : Int → Int} {u : Int}
theorem znewc_e {kd st j : Int} (h : ¬ (j = 0 ∨ j = 8 + N 0 ∨ j = 13 + N 0)) : znewc N kd st j = N j := by simp only [znewc, zfu]; rw [if_neg (by omega), if_neg (by omega), if_neg (by omega)]
theorem znewc_0 {kd st : Int} : znewc N kd st 0 = N 0 + 1 := by simp only [znewc, zfu]; rw [if_pos trivial]
theorem znewc_8 {kd st : Int} (h : 0 ≤ N 0 ∧ N 0 < 5) : znewc N kd st (8 + N 0) = kd := by simp only [znewc, zfu]; rw [if_neg (by omega), if_neg (by omega), if_pos trivial]
theorem znewc_13 {kd st : Int} (h : 0 ≤ N 0 ∧ N 0 < 5) : znewc N kd st (13 + N 0) = st := by simp only [znewc, zfu]; rw [if_neg (by omega), if_pos trivial]
theorem znews_e {kd a j : Int} (h : ¬ (j = 1 ∨ j = 68 + N 1 ∨ j = 74 + N 1)) : znews N kd a j = N j := by simp only [znews, zfu]; rw [if_neg (by omega), if_neg (by omega), if_neg (by omega)]
theorem znews_0 {kd a : Int} : znews N kd a 1 = N 1 + 1 := by simp only [znews, zfu]; rw [if_pos trivial]
theorem znews_68 {kd a : Int} (h : 0 ≤ N 1 ∧ N 1 < 6) : znews N kd a (68 + N 1) = kd := by simp only [znews, zfu]; rw [if_neg (by omega), if_neg (by omega), if_pos trivial]
theorem znews_74 {kd a : Int} (h : 0 ≤ N 1 ∧ N 1 < 6) : znews N kd a (74 + N 1) = a := by simp only [znews, zfu]; rw [if_neg (by omega), if_pos trivial]
theorem znewk_e {f n j : Int} (h : ¬ (j = 2 ∨ j = 80 + N 2 ∨ j = 84 + N 2 ∨ j = 88 + N 2)) : znewk N f n j = N j := by simp only [znewk, zfu]; rw [if_neg (by omega), if_neg (by omega), if_neg (by omega), if_neg (by omega)]
theorem znewk_0 {f n : Int} : znewk N f n 2 = N 2 + 1 := by simp only [znewk, zfu]; rw [if_pos trivial]
theorem znewk_80 {f n : Int} (h : 0 ≤ N 2 ∧ N 2 < 4) : znewk N f n (80 + N 2) = f := by simp only [znewk, zfu]; rw [if_neg (by omega), if_neg (by omega), if_neg (by omega), if_pos trivial]
theorem znewk_84 {f n : Int} (h : 0 ≤ N 2 ∧ N 2 < 4) : znewk N f n (84 + N 2) = n := by simp only [znewk, zfu]; rw [if_neg (by omega), if_neg (by omega), if_pos trivial]
theorem znewk_88 {f n : Int} (h : 0 ≤ N 2 ∧ N 2 < 4) : znewk N f n (88 + N 2) = 0 := by simp only [znewk, zfu]; rw [if_neg (by omega), if_pos trivial]
theorem znewc_ok {kd st : Int} (h : zOK N) (hf : N 0 < 5) (hk : 0 ≤ kd ∧ kd ≤ 5) (hs : 0 ≤ st ∧ st ≤ 9) : zOK (znewc N kd st) := by
  obtain ⟨h1, h2, h3, h4, h5, h6, h7, h8⟩ := h
  have e : ∀ j, ¬ (j = 0 ∨ j = 8 + N 0 ∨ j = 13 + N 0) → znewc N kd st j = N j := fun j hj => znewc_e hj
  refine ⟨?_, ?_, ?_, ?_, ?_, ?_, ?_, ?_⟩
  · rw [zHd, znewc_0, e 1 (by omega), e 2 (by omega), e 3 (by omega), e 4 (by omega), e 5 (by omega), e 6 (by omega), e 7 (by omega)]; omega
  · intro c a b
    rw [znewc_0] at b
    by_cases hc : c = N 0
    · subst hc; rw [znewc_8 (by omega), znewc_13 (by omega)]; omega
    · rw [e (8 + c) (by omega), e (13 + c) (by omega)]; exact h2 c a (by omega)
  · intro c r a b a2 b2
    rw [znewc_0, e _ (by omega)]; exact ⟨(h3 c r a b a2 b2).1, fun q => (h3 c r a b a2 b2).2 (by omega)⟩
  · intro s a b
    rw [e 1 (by omega)] at b; rw [e (68 + s) (by omega), e (74 + s) (by omega)]; exact h4 s a b
  · intro s a b
    rw [e 2 (by omega)] at b; rw [e (80 + s) (by omega), e (84 + s) (by omega), e (88 + s) (by omega)]; exact h5 s a b
  · intro s a b
    rw [e 5 (by omega)] at b; have q := h6 s a b; rw [e (92 + 4 * s) (by omega), e (93 + 4 * s) (by omega), e (94 + 4 * s) (by omega), e (95 + 4 * s) (by omega)]; rw [znewc_0]; omega
  · intro s a b
    rw [e 6 (by omega)] at b; have q := h7 s a b; rw [e (108 + 5 * s) (by omega), e (109 + 5 * s) (by omega), e (110 + 5 * s) (by omega), e (111 + 5 * s) (by omega), e (112 + 5 * s) (by omega)]; rw [znewc_0]; omega
  · intro s a b
    rw [e 7 (by omega)] at b; have q := h8 s a b; rw [e (138 + 5 * s) (by omega), e (139 + 5 * s) (by omega), e (140 + 5 * s) (by omega), e (141 + 5 * s) (by omega), e (142 + 5 * s) (by omega)]; rw [e 1 (by omega)]; exact q
theorem znews_ok {kd st : Int} (h : zOK N) (hf : N 1 < 6) (hk : 0 ≤ kd ∧ kd ≤ 5) (hs : 0 ≤ st ∧ st ≤ 9) : zOK (znews N kd st) := by
  obtain ⟨h1, h2, h3, h4, h5, h6, h7, h8⟩ := h
  have e : ∀ j, ¬ (j = 1 ∨ j = 68 + N 1 ∨ j = 74 + N 1) → znews N kd st j = N j := fun j hj => znews_e hj
  refine ⟨?_, ?_, ?_, ?_, ?_, ?_, ?_, ?_⟩
  · rw [zHd, e 0 (by omega), znews_0, e 2 (by omega), e 3 (by omega), e 4 (by omega), e 5 (by omega), e 6 (by omega), e 7 (by omega)]; omega
  · intro c a b
    rw [e 0 (by omega)] at b; rw [e (8 + c) (by omega), e (13 + c) (by omega)]; exact h2 c a b
  · intro c r a b a2 b2
    rw [e 0 (by omega), e _ (by omega)]; exact h3 c r a b a2 b2
  · intro c a b
    rw [znews_0] at b
    by_cases hc : c = N 1
    · subst hc; rw [znews_68 (by omega), znews_74 (by omega)]; omega
    · rw [e (68 + c) (by omega), e (74 + c) (by omega)]; exact h4 c a (by omega)
  · intro s a b
    rw [e 2 (by omega)] at b; rw [e (80 + s) (by omega), e (84 + s) (by omega), e (88 + s) (by omega)]; exact h5 s a b
  · intro s a b
    rw [e 5 (by omega)] at b; have q := h6 s a b; rw [e (92 + 4 * s) (by omega), e (93 + 4 * s) (by omega), e (94 + 4 * s) (by omega), e (95 + 4 * s) (by omega)]; rw [e 0 (by omega)]; exact q
  · intro s a b
    rw [e 6 (by omega)] at b; have q := h7 s a b; rw [e (108 + 5 * s) (by omega), e (109 + 5 * s) (by omega), e (110 + 5 * s) (by omega), e (111 + 5 * s) (by omega), e (112 + 5 * s) (by omega)]; rw [e 0 (by omega)]; exact q
  · intro s a b
    rw [e 7 (by omega)] at b; have q := h8 s a b; rw [e (138 + 5 * s) (by omega), e (139 + 5 * s) (by omega), e (140 + 5 * s) (by omega), e (141 + 5 * s) (by omega), e (142 + 5 * s) (by omega)]; rw [znews_0]; omega
theorem znewk_ok {kd st : Int} (h : zOK N) (hf : N 2 < 4) (hk : 1 ≤ kd ∧ kd ≤ 30) (hs : 1 ≤ st ∧ st ≤ 40) : zOK (znewk N kd st) := by
  obtain ⟨h1, h2, h3, h4, h5, h6, h7, h8⟩ := h
  have e : ∀ j, ¬ (j = 2 ∨ j = 80 + N 2 ∨ j = 84 + N 2 ∨ j = 88 + N 2) → znewk N kd st j = N j := fun j hj => znewk_e hj
  refine ⟨?_, ?_, ?_, ?_, ?_, ?_, ?_, ?_⟩
  · rw [zHd, e 0 (by omega), e 1 (by omega), znewk_0, e 3 (by omega), e 4 (by omega), e 5 (by omega), e 6 (by omega), e 7 (by omega)]; omega
  · intro c a b
    rw [e 0 (by omega)] at b; rw [e (8 + c) (by omega), e (13 + c) (by omega)]; exact h2 c a b
  · intro c r a b a2 b2
    rw [e 0 (by omega), e _ (by omega)]; exact h3 c r a b a2 b2
  · intro s a b
    rw [e 1 (by omega)] at b; rw [e (68 + s) (by omega), e (74 + s) (by omega)]; exact h4 s a b
  · intro c a b
    rw [znewk_0] at b
    by_cases hc : c = N 2
    · subst hc; rw [znewk_80 (by omega), znewk_84 (by omega), znewk_88 (by omega)]; omega
    · rw [e (80 + c) (by omega), e (84 + c) (by omega), e (88 + c) (by omega)]; exact h5 c a (by omega)
  · intro s a b
    rw [e 5 (by omega)] at b; have q := h6 s a b; rw [e (92 + 4 * s) (by omega), e (93 + 4 * s) (by omega), e (94 + 4 * s) (by omega), e (95 + 4 * s) (by omega)]; rw [e 0 (by omega)]; exact q
  · intro s a b
    rw [e 6 (by omega)] at b; have q := h7 s a b; rw [e (108 + 5 * s) (by omega), e (109 + 5 * s) (by omega), e (110 + 5 * s) (by omega), e (111 + 5 * s) (by omega), e (112 + 5 * s) (by omega)]; rw [e 0 (by omega)]; exact q
  · intro s a b
    rw [e 7 (by omega)] at b; have q := h8 s a b; rw [e (138 + 5 * s) (by omega), e (139 + 5 * s) (by omega), e (140 + 5 * s) (by omega), e (141 + 5 * s) (by omega), e (142 + 5 * s) (by omega)]; rw [e 1 (by omega)]; exact q
set_option maxRecDepth 100000 in
set_option maxHeartbeats 4000000 in
theorem c_X6_addCellar {x0 x1 : Int} (hd : 3 ≤ d) (hS : zSto g w b N 0 P) (hO : zOK N) (hf : N 0 < 5) (k : ∀ w', zSame w w' b 15 → zSto g w' b (znewc N x0 x1) 0 P → K (some (zI (N 0))) w') : zCall g d 0 0 mX6_addCellar [zR g b, zI x0, zI x1] w K := by
  have hO0 := hO
  obtain ⟨hh, h2, h3, -⟩ := hO
  obtain ⟨C0, C1, C2, C3, C4, C5, C6, hS, r0, r1, r2, r3, r4, r5, r6⟩ := hS.s7
  have e : ∀ j, ¬ (j = 0 ∨ j = 8 + N 0 ∨ j = 13 + N 0) → znewc N x0 x1 j = N j := fun j hj => znewc_e hj
  refine zenter [some _, some _, some _, none] pn_X6 rfl (Nat.le_of_ble_eq_true rfl) ?_
  refine q_aload_n (pc := 0) dX6_addCellar_0 rfl rfl ?_
  refine q_getfield (pc := 1) gf_X6_16 dX6_addCellar_1 (by first | assumption | exact hS.o | exact hS.s0 | exact hS.s1 | exact hS.s2 | exact hS.s3 | exact hS.s4 | exact hS.s5 | exact hS.s6) rfl ?_
  refine q_invokevirtual (pc := 4) (d' := d - 1) (mc' := 0) (ms' := 0) (As := []) (TX4, 4) cl_X6_60 dX6_addCellar_4 rfl rfl (by first | assumption | exact hS.o | exact hS.s0 | exact hS.s1 | exact hS.s2 | exact hS.s3 | exact hS.s4 | exact hS.s5 | exact hS.s6) rfl (by omega) rfl 0 0 (Nat.le_refl 0) (Nat.le_refl 0) ?_
  refine c_X4_openRow (by omega) hS.h0 (by omega) (by omega) (fun w2 hs2 hT2 => ?_)
  have hS := hS.set0 hs2 hT2
  refine q_istore_n (pc := 7) [some _, some _, some _, some _] dX6_addCellar_7 rfl (Nat.le_of_ble_eq_true rfl) rfl ?_
  refine q_aload_n (pc := 8) dX6_addCellar_8 rfl rfl ?_
  refine q_getfield (pc := 9) gf_X6_16 dX6_addCellar_9 (by first | assumption | exact hS.o | exact hS.s0 | exact hS.s1 | exact hS.s2 | exact hS.s3 | exact hS.s4 | exact hS.s5 | exact hS.s6) rfl ?_
  refine q_iload_n (pc := 12) dX6_addCellar_12 rfl ?_
  refine q_iconst (pc := 13) dX6_addCellar_13 ?_
  refine q_iload_n (pc := 14) dX6_addCellar_14 rfl ?_
  refine q_invokevirtual (pc := 15) (d' := d - 1) (mc' := 0) (ms' := 0) (As := [_, _, _]) (TX4, 4) cl_X6_63 dX6_addCellar_15 rfl rfl (by first | assumption | exact hS.o | exact hS.s0 | exact hS.s1 | exact hS.s2 | exact hS.s3 | exact hS.s4 | exact hS.s5 | exact hS.s6) rfl (by omega) rfl 0 0 (Nat.le_refl 0) (Nat.le_refl 0) ?_
  refine c_X4_put_in (by omega) hS.h0 (by omega) (by omega) (by omega) (fun w3 hs3 hT3 => ?_)
  have hS := hS.set0 hs3 hT3
  refine q_aload_n (pc := 18) dX6_addCellar_18 rfl rfl ?_
  refine q_getfield (pc := 19) gf_X6_16 dX6_addCellar_19 (by first | assumption | exact hS.o | exact hS.s0 | exact hS.s1 | exact hS.s2 | exact hS.s3 | exact hS.s4 | exact hS.s5 | exact hS.s6) rfl ?_
  refine q_iload_n (pc := 22) dX6_addCellar_22 rfl ?_
  refine q_iconst (pc := 23) dX6_addCellar_23 ?_
  refine q_iload_n (pc := 24) dX6_addCellar_24 rfl ?_
  refine q_invokevirtual (pc := 25) (d' := d - 1) (mc' := 0) (ms' := 0) (As := [_, _, _]) (TX4, 4) cl_X6_63 dX6_addCellar_25 rfl rfl (by first | assumption | exact hS.o | exact hS.s0 | exact hS.s1 | exact hS.s2 | exact hS.s3 | exact hS.s4 | exact hS.s5 | exact hS.s6) rfl (by omega) rfl 0 0 (Nat.le_refl 0) (Nat.le_refl 0) ?_
  refine c_X4_put_in (by omega) hS.h0 (by omega) (by omega) (by omega) (fun w4 hs4 hT4 => ?_)
  have hS := hS.set0 hs4 hT4
  refine q_iload_n (pc := 28) dX6_addCellar_28 rfl ?_
  refine q_ireturn (pc := 29) dX6_addCellar_29 rfl ?_
  refine k _ (((hs2.tr hs3).tr hs4).wide (by omega) (by omega)) (zS7.sto (N := znewc N x0 x1) (by rw [e 3 (by omega), e 4 (by omega), znewc_0, e 1 (by omega), e 2 (by omega), e 5 (by omega), e 6 (by omega), e 7 (by omega)]; exact hS) ?_ ?_ ?_ ?_ ?_ ?_ ?_)
  · intro c a b
    rw [znewc_0] at b
    by_cases hc : c = N 0
    · subst hc
      refine ⟨?_, ?_, fun r a2 b2 => ?_⟩
      · rw [znewc_8 (by omega)]; simp only [zfu]; rw [if_neg (by omega), if_pos trivial]
      · rw [znewc_13 (by omega)]; simp only [zfu]; rw [if_pos trivial]
      · rw [e _ (by omega), (h3 (N 0) r a (by omega) a2 b2).2 (by omega)]; simp only [zfu, zblank]; rw [if_neg (by omega), if_neg (by omega), if_pos (by omega)]
    · obtain ⟨q1, q2, q3⟩ := r0 c a (by omega)
      refine ⟨?_, ?_, fun r a2 b2 => ?_⟩
      · rw [e _ (by omega), ← q1]; simp only [zfu, zblank]; rw [if_neg (by omega), if_neg (by omega), if_neg (by omega)]
      · rw [e _ (by omega), ← q2]; simp only [zfu, zblank]; rw [if_neg (by omega), if_neg (by omega), if_neg (by omega)]
      · rw [e _ (by omega), ← q3 r a2 b2]; simp only [zfu, zblank]; rw [if_neg (by omega), if_neg (by omega), if_neg (by omega)]
  · intro s a b
    rw [e 1 (by omega)] at b
    rw [e _ (by omega), e _ (by omega)]; exact r1 s a b
  · intro s a b
    rw [e 2 (by omega)] at b
    rw [e _ (by omega), e _ (by omega), e _ (by omega)]; exact r2 s a b
  · intro i j a b a2 b2
    rw [e 5 (by omega)] at b
    rw [e _ (by omega)]; exact r3 i j a b a2 b2
  · intro i j a b a2 b2
    rw [e 6 (by omega)] at b
    rw [e _ (by omega)]; exact r4 i j a b a2 b2
  · intro i j a b a2 b2
    rw [e 7 (by omega)] at b
    rw [e _ (by omega)]; exact r5 i j a b a2 b2
  · intro i a b
    omega
set_option maxRecDepth 100000 in
set_option maxHeartbeats 4000000 in
theorem c_X6_addSlinger {x0 x1 : Int} (hd : 3 ≤ d) (hS : zSto g w b N 0 P) (hO : zOK N) (hf : N 1 < 6) (k : ∀ w', zSame w w' b 15 → zSto g w' b (znews N x0 x1) 0 P → K (some (zI (N 1))) w') : zCall g d 0 0 mX6_addSlinger [zR g b, zI x0, zI x1] w K := by
  have hO0 := hO
  obtain ⟨hh, h2, h3, -⟩ := hO
  obtain ⟨C0, C1, C2, C3, C4, C5, C6, hS, r0, r1, r2, r3, r4, r5, r6⟩ := hS.s7
  have e : ∀ j, ¬ (j = 1 ∨ j = 68 + N 1 ∨ j = 74 + N 1) → znews N x0 x1 j = N j := fun j hj => znews_e hj
  refine zenter [some _, some _, some _, none] pn_X6 rfl (Nat.le_of_ble_eq_true rfl) ?_
  refine q_aload_n (pc := 0) dX6_addSlinger_0 rfl rfl ?_
  refine q_getfield (pc := 1) gf_X6_20 dX6_addSlinger_1 (by first | assumption | exact hS.o | exact hS.s0 | exact hS.s1 | exact hS.s2 | exact hS.s3 | exact hS.s4 | exact hS.s5 | exact hS.s6) rfl ?_
  refine q_invokevirtual (pc := 4) (d' := d - 1) (mc' := 0) (ms' := 0) (As := []) (TX4, 4) cl_X6_60 dX6_addSlinger_4 rfl rfl (by first | assumption | exact hS.o | exact hS.s0 | exact hS.s1 | exact hS.s2 | exact hS.s3 | exact hS.s4 | exact hS.s5 | exact hS.s6) rfl (by omega) rfl 0 0 (Nat.le_refl 0) (Nat.le_refl 0) ?_
  refine c_X4_openRow (by omega) hS.h1 (by omega) (by omega) (fun w2 hs2 hT2 => ?_)
  have hS := hS.set1 hs2 hT2
  refine q_istore_n (pc := 7) [some _, some _, some _, some _] dX6_addSlinger_7 rfl (Nat.le_of_ble_eq_true rfl) rfl ?_
  refine q_aload_n (pc := 8) dX6_addSlinger_8 rfl rfl ?_
  refine q_getfield (pc := 9) gf_X6_20 dX6_addSlinger_9 (by first | assumption | exact hS.o | exact hS.s0 | exact hS.s1 | exact hS.s2 | exact hS.s3 | exact hS.s4 | exact hS.s5 | exact hS.s6) rfl ?_
  refine q_iload_n (pc := 12) dX6_addSlinger_12 rfl ?_
  refine q_iconst (pc := 13) dX6_addSlinger_13 ?_
  refine q_iload_n (pc := 14) dX6_addSlinger_14 rfl ?_
  refine q_invokevirtual (pc := 15) (d' := d - 1) (mc' := 0) (ms' := 0) (As := [_, _, _]) (TX4, 4) cl_X6_63 dX6_addSlinger_15 rfl rfl (by first | assumption | exact hS.o | exact hS.s0 | exact hS.s1 | exact hS.s2 | exact hS.s3 | exact hS.s4 | exact hS.s5 | exact hS.s6) rfl (by omega) rfl 0 0 (Nat.le_refl 0) (Nat.le_refl 0) ?_
  refine c_X4_put_in (by omega) hS.h1 (by omega) (by omega) (by omega) (fun w3 hs3 hT3 => ?_)
  have hS := hS.set1 hs3 hT3
  refine q_aload_n (pc := 18) dX6_addSlinger_18 rfl rfl ?_
  refine q_getfield (pc := 19) gf_X6_20 dX6_addSlinger_19 (by first | assumption | exact hS.o | exact hS.s0 | exact hS.s1 | exact hS.s2 | exact hS.s3 | exact hS.s4 | exact hS.s5 | exact hS.s6) rfl ?_
  refine q_iload_n (pc := 22) dX6_addSlinger_22 rfl ?_
  refine q_iconst (pc := 23) dX6_addSlinger_23 ?_
  refine q_iload_n (pc := 24) dX6_addSlinger_24 rfl ?_
  refine q_invokevirtual (pc := 25) (d' := d - 1) (mc' := 0) (ms' := 0) (As := [_, _, _]) (TX4, 4) cl_X6_63 dX6_addSlinger_25 rfl rfl (by first | assumption | exact hS.o | exact hS.s0 | exact hS.s1 | exact hS.s2 | exact hS.s3 | exact hS.s4 | exact hS.s5 | exact hS.s6) rfl (by omega) rfl 0 0 (Nat.le_refl 0) (Nat.le_refl 0) ?_
  refine c_X4_put_in (by omega) hS.h1 (by omega) (by omega) (by omega) (fun w4 hs4 hT4 => ?_)
  have hS := hS.set1 hs4 hT4
  refine q_iload_n (pc := 28) dX6_addSlinger_28 rfl ?_
  refine q_ireturn (pc := 29) dX6_addSlinger_29 rfl ?_
  refine k _ (((hs2.tr hs3).tr hs4).wide (by omega) (by omega)) (zS7.sto (N := znews N x0 x1) (by rw [e 3 (by omega), e 4 (by omega), e 0 (by omega), znews_0, e 2 (by omega), e 5 (by omega), e 6 (by omega), e 7 (by omega)]; exact hS) ?_ ?_ ?_ ?_ ?_ ?_ ?_)
  · intro c a b
    rw [e 0 (by omega)] at b
    obtain ⟨q1, q2, q3⟩ := r0 c a b
    exact ⟨by rw [e _ (by omega)]; exact q1, by rw [e _ (by omega)]; exact q2, fun r a2 b2 => by rw [e _ (by omega)]; exact q3 r a2 b2⟩
  · intro c a b
    rw [znews_0] at b
    by_cases hc : c = N 1
    · subst hc
      refine ⟨?_, ?_⟩
      · rw [znews_68 (by omega)]; simp only [zfu]; rw [if_neg (by omega), if_pos trivial]
      · rw [znews_74 (by omega)]; simp only [zfu]; rw [if_pos trivial]
    · obtain ⟨q1, q2⟩ := r1 c a (by omega)
      refine ⟨?_, ?_⟩
      · rw [e _ (by omega), ← q1]; simp only [zfu, zblank]; rw [if_neg (by omega), if_neg (by omega), if_neg (by omega)]
      · rw [e _ (by omega), ← q2]; simp only [zfu, zblank]; rw [if_neg (by omega), if_neg (by omega), if_neg (by omega)]
  · intro s a b
    rw [e 2 (by omega)] at b
    rw [e _ (by omega), e _ (by omega), e _ (by omega)]; exact r2 s a b
  · intro i j a b a2 b2
    rw [e 5 (by omega)] at b
    rw [e _ (by omega)]; exact r3 i j a b a2 b2
  · intro i j a b a2 b2
    rw [e 6 (by omega)] at b
    rw [e _ (by omega)]; exact r4 i j a b a2 b2
  · intro i j a b a2 b2
    rw [e 7 (by omega)] at b
    rw [e _ (by omega)]; exact r5 i j a b a2 b2
  · intro i a b
    omega
set_option maxRecDepth 100000 in
set_option maxHeartbeats 4000000 in
theorem c_X6_addCloud {x0 x1 : Int} (hd : 3 ≤ d) (hS : zSto g w b N 0 P) (hO : zOK N) (hf : N 2 < 4) (k : ∀ w', zSame w w' b 15 → zSto g w' b (znewk N x0 x1) 0 P → K (some (zI (N 2))) w') : zCall g d 0 0 mX6_addCloud [zR g b, zI x0, zI x1] w K := by
  have hO0 := hO
  obtain ⟨hh, h2, h3, -⟩ := hO
  obtain ⟨C0, C1, C2, C3, C4, C5, C6, hS, r0, r1, r2, r3, r4, r5, r6⟩ := hS.s7
  have e : ∀ j, ¬ (j = 2 ∨ j = 80 + N 2 ∨ j = 84 + N 2 ∨ j = 88 + N 2) → znewk N x0 x1 j = N j := fun j hj => znewk_e hj
  refine zenter [some _, some _, some _, none] pn_X6 rfl (Nat.le_of_ble_eq_true rfl) ?_
  refine q_aload_n (pc := 0) dX6_addCloud_0 rfl rfl ?_
  refine q_getfield (pc := 1) gf_X6_23 dX6_addCloud_1 (by first | assumption | exact hS.o | exact hS.s0 | exact hS.s1 | exact hS.s2 | exact hS.s3 | exact hS.s4 | exact hS.s5 | exact hS.s6) rfl ?_
  refine q_invokevirtual (pc := 4) (d' := d - 1) (mc' := 0) (ms' := 0) (As := []) (TX4, 4) cl_X6_60 dX6_addCloud_4 rfl rfl (by first | assumption | exact hS.o | exact hS.s0 | exact hS.s1 | exact hS.s2 | exact hS.s3 | exact hS.s4 | exact hS.s5 | exact hS.s6) rfl (by omega) rfl 0 0 (Nat.le_refl 0) (Nat.le_refl 0) ?_
  refine c_X4_openRow (by omega) hS.h2 (by omega) (by omega) (fun w2 hs2 hT2 => ?_)
  have hS := hS.set2 hs2 hT2
  refine q_istore_n (pc := 7) [some _, some _, some _, some _] dX6_addCloud_7 rfl (Nat.le_of_ble_eq_true rfl) rfl ?_
  refine q_aload_n (pc := 8) dX6_addCloud_8 rfl rfl ?_
  refine q_getfield (pc := 9) gf_X6_23 dX6_addCloud_9 (by first | assumption | exact hS.o | exact hS.s0 | exact hS.s1 | exact hS.s2 | exact hS.s3 | exact hS.s4 | exact hS.s5 | exact hS.s6) rfl ?_
  refine q_iload_n (pc := 12) dX6_addCloud_12 rfl ?_
  refine q_iconst (pc := 13) dX6_addCloud_13 ?_
  refine q_iload_n (pc := 14) dX6_addCloud_14 rfl ?_
  refine q_invokevirtual (pc := 15) (d' := d - 1) (mc' := 0) (ms' := 0) (As := [_, _, _]) (TX4, 4) cl_X6_63 dX6_addCloud_15 rfl rfl (by first | assumption | exact hS.o | exact hS.s0 | exact hS.s1 | exact hS.s2 | exact hS.s3 | exact hS.s4 | exact hS.s5 | exact hS.s6) rfl (by omega) rfl 0 0 (Nat.le_refl 0) (Nat.le_refl 0) ?_
  refine c_X4_put_in (by omega) hS.h2 (by omega) (by omega) (by omega) (fun w3 hs3 hT3 => ?_)
  have hS := hS.set2 hs3 hT3
  refine q_aload_n (pc := 18) dX6_addCloud_18 rfl rfl ?_
  refine q_getfield (pc := 19) gf_X6_23 dX6_addCloud_19 (by first | assumption | exact hS.o | exact hS.s0 | exact hS.s1 | exact hS.s2 | exact hS.s3 | exact hS.s4 | exact hS.s5 | exact hS.s6) rfl ?_
  refine q_iload_n (pc := 22) dX6_addCloud_22 rfl ?_
  refine q_iconst (pc := 23) dX6_addCloud_23 ?_
  refine q_iload_n (pc := 24) dX6_addCloud_24 rfl ?_
  refine q_invokevirtual (pc := 25) (d' := d - 1) (mc' := 0) (ms' := 0) (As := [_, _, _]) (TX4, 4) cl_X6_63 dX6_addCloud_25 rfl rfl (by first | assumption | exact hS.o | exact hS.s0 | exact hS.s1 | exact hS.s2 | exact hS.s3 | exact hS.s4 | exact hS.s5 | exact hS.s6) rfl (by omega) rfl 0 0 (Nat.le_refl 0) (Nat.le_refl 0) ?_
  refine c_X4_put_in (by omega) hS.h2 (by omega) (by omega) (by omega) (fun w4 hs4 hT4 => ?_)
  have hS := hS.set2 hs4 hT4
  refine q_iload_n (pc := 28) dX6_addCloud_28 rfl ?_
  refine q_ireturn (pc := 29) dX6_addCloud_29 rfl ?_
  refine k _ (((hs2.tr hs3).tr hs4).wide (by omega) (by omega)) (zS7.sto (N := znewk N x0 x1) (by rw [e 3 (by omega), e 4 (by omega), e 0 (by omega), e 1 (by omega), znewk_0, e 5 (by omega), e 6 (by omega), e 7 (by omega)]; exact hS) ?_ ?_ ?_ ?_ ?_ ?_ ?_)
  · intro c a b
    rw [e 0 (by omega)] at b
    obtain ⟨q1, q2, q3⟩ := r0 c a b
    exact ⟨by rw [e _ (by omega)]; exact q1, by rw [e _ (by omega)]; exact q2, fun r a2 b2 => by rw [e _ (by omega)]; exact q3 r a2 b2⟩
  · intro s a b
    rw [e 1 (by omega)] at b
    rw [e _ (by omega), e _ (by omega)]; exact r1 s a b
  · intro c a b
    rw [znewk_0] at b
    by_cases hc : c = N 2
    · subst hc
      refine ⟨?_, ?_, ?_⟩
      · rw [znewk_80 (by omega)]; simp only [zfu]; rw [if_neg (by omega), if_pos trivial]
      · rw [znewk_84 (by omega)]; simp only [zfu]; rw [if_pos trivial]
      · rw [znewk_88 (by omega)]; simp only [zfu, zblank]; rw [if_neg (by omega), if_neg (by omega), if_pos (by omega)]
    · obtain ⟨q1, q2, q3⟩ := r2 c a (by omega)
      refine ⟨?_, ?_, ?_⟩
      · rw [e _ (by omega), ← q1]; simp only [zfu, zblank]; rw [if_neg (by omega), if_neg (by omega), if_neg (by omega)]
      · rw [e _ (by omega), ← q2]; simp only [zfu, zblank]; rw [if_neg (by omega), if_neg (by omega), if_neg (by omega)]
      · rw [e _ (by omega), ← q3]; simp only [zfu, zblank]; rw [if_neg (by omega), if_neg (by omega), if_neg (by omega)]
  · intro i j a b a2 b2
    rw [e 5 (by omega)] at b
    rw [e _ (by omega)]; exact r3 i j a b a2 b2
  · intro i j a b a2 b2
    rw [e 6 (by omega)] at b
    rw [e _ (by omega)]; exact r4 i j a b a2 b2
  · intro i j a b a2 b2
    rw [e 7 (by omega)] at b
    rw [e _ (by omega)]; exact r5 i j a b a2 b2
  · intro i a b
    omega
theorem s_empty_past (hS : zSto g w b N u P) (k : ∀ w', zSame w w' b 15 → zSto g w' b N 0 P → K (some (zI u)) w') : zCall g d 0 0 mX4_empty [zR g (b + 13)] w K := by
  obtain ⟨C0, C1, C2, C3, C4, C5, C6, hS, r0, r1, r2, r3, r4, r5, r6⟩ := hS.s7
  exact c_X4_empty hS.h6 (fun w2 hs2 hT2 => k _ (hs2.wide (by omega) (by omega)) (zS7.sto (hS.set6 hs2 hT2) r0 r1 r2 r3 r4 r5 (fun i a b => by omega)))
theorem s_empty_rings (hS : zSto g w b N u P) (hO : zOK N) (k : ∀ w', zSame w w' b 15 → zSto g w' b (zfu N 5 0) u P → K (some (zI (N 5))) w') : zCall g d 0 0 mX4_empty [zR g (b + 7)] w K := by
  have hh := hO.1
  obtain ⟨C0, C1, C2, C3, C4, C5, C6, hS, r0, r1, r2, r3, r4, r5, r6⟩ := hS.s7
  have e : ∀ j, j ≠ 5 → zfu N 5 0 j = N j := fun j hj => if_neg hj
  have e5 : zfu N 5 0 5 = 0 := if_pos rfl
  refine c_X4_empty hS.h3 (fun w2 hs2 hT2 => k _ (hs2.wide (by omega) (by omega)) (zS7.sto (N := zfu N 5 0) (by rw [e 3 (by omega), e 4 (by omega), e 0 (by omega), e 1 (by omega), e 2 (by omega), e5, e 6 (by omega), e 7 (by omega)]; exact hS.set3 hs2 hT2) ?_ ?_ ?_ ?_ ?_ ?_ ?_))
  · intro c a b
    rw [e 0 (by omega)] at b
    obtain ⟨q1, q2, q3⟩ := r0 c a b
    exact ⟨by rw [e _ (by omega)]; exact q1, by rw [e _ (by omega)]; exact q2, fun r a2 b2 => by rw [e _ (by omega)]; exact q3 r a2 b2⟩
  · intro s a b
    rw [e 1 (by omega)] at b
    rw [e _ (by omega), e _ (by omega)]; exact r1 s a b
  · intro s a b
    rw [e 2 (by omega)] at b
    rw [e _ (by omega), e _ (by omega), e _ (by omega)]; exact r2 s a b
  · intro i j a b a2 b2
    rw [e5] at b
    omega
  · intro i j a b a2 b2
    rw [e 6 (by omega)] at b
    rw [e _ (by omega)]; exact r4 i j a b a2 b2
  · intro i j a b a2 b2
    rw [e 7 (by omega)] at b
    rw [e _ (by omega)]; exact r5 i j a b a2 b2
  · intro i a b
    obtain ⟨q1, q2, q3, q4⟩ := r6 i a b
    refine ⟨q1, q2, fun c a3 b3 => ?_, fun k2 a3 b3 => ?_⟩
    · rw [e 0 (by omega)] at b3
      rw [e _ (by omega), e _ (by omega)]; exact q3 c a3 b3
    · rw [e 2 (by omega)] at b3
      rw [e _ (by omega)]; exact q4 k2 a3 b3
theorem zforget5_ok (h : zOK N) : zOK (zfu N 5 0) := by
  obtain ⟨h1, h2, h3, h4, h5, h6, h7, h8⟩ := h
  have e : ∀ j, j ≠ 5 → zfu N 5 0 j = N j := fun j hj => if_neg hj
  have e5 : zfu N 5 0 5 = 0 := if_pos rfl
  refine ⟨?_, ?_, ?_, ?_, ?_, ?_, ?_, ?_⟩
  · rw [zHd, e 0 (by omega), e 1 (by omega), e 2 (by omega), e 3 (by omega), e 4 (by omega), e5, e 6 (by omega), e 7 (by omega)]; omega
  · intro c a b
    rw [e 0 (by omega)] at b; rw [e (8 + c) (by omega), e (13 + c) (by omega)]; exact h2 c a b
  · intro c r a b a2 b2
    rw [e 0 (by omega), e _ (by omega)]; exact h3 c r a b a2 b2
  · intro s a b
    rw [e 1 (by omega)] at b; rw [e (68 + s) (by omega), e (74 + s) (by omega)]; exact h4 s a b
  · intro s a b
    rw [e 2 (by omega)] at b; rw [e (80 + s) (by omega), e (84 + s) (by omega), e (88 + s) (by omega)]; exact h5 s a b
  · intro s a b
    rw [e5] at b
    omega
  · intro s a b
    rw [e 6 (by omega)] at b; have q := h7 s a b; rw [e (108 + 5 * s) (by omega), e (109 + 5 * s) (by omega), e (110 + 5 * s) (by omega), e (111 + 5 * s) (by omega), e (112 + 5 * s) (by omega)]; rw [e 0 (by omega)]; exact q
  · intro s a b
    rw [e 7 (by omega)] at b; have q := h8 s a b; rw [e (138 + 5 * s) (by omega), e (139 + 5 * s) (by omega), e (140 + 5 * s) (by omega), e (141 + 5 * s) (by omega), e (142 + 5 * s) (by omega)]; rw [e 1 (by omega)]; exact q
theorem s_empty_notes (hS : zSto g w b N u P) (hO : zOK N) (k : ∀ w', zSame w w' b 15 → zSto g w' b (zfu N 6 0) u P → K (some (zI (N 6))) w') : zCall g d 0 0 mX4_empty [zR g (b + 9)] w K := by
  have hh := hO.1
  obtain ⟨C0, C1, C2, C3, C4, C5, C6, hS, r0, r1, r2, r3, r4, r5, r6⟩ := hS.s7
  have e : ∀ j, j ≠ 6 → zfu N 6 0 j = N j := fun j hj => if_neg hj
  have e6 : zfu N 6 0 6 = 0 := if_pos rfl
  refine c_X4_empty hS.h4 (fun w2 hs2 hT2 => k _ (hs2.wide (by omega) (by omega)) (zS7.sto (N := zfu N 6 0) (by rw [e 3 (by omega), e 4 (by omega), e 0 (by omega), e 1 (by omega), e 2 (by omega), e 5 (by omega), e6, e 7 (by omega)]; exact hS.set4 hs2 hT2) ?_ ?_ ?_ ?_ ?_ ?_ ?_))
  · intro c a b
    rw [e 0 (by omega)] at b
    obtain ⟨q1, q2, q3⟩ := r0 c a b
    exact ⟨by rw [e _ (by omega)]; exact q1, by rw [e _ (by omega)]; exact q2, fun r a2 b2 => by rw [e _ (by omega)]; exact q3 r a2 b2⟩
  · intro s a b
    rw [e 1 (by omega)] at b
    rw [e _ (by omega), e _ (by omega)]; exact r1 s a b
  · intro s a b
    rw [e 2 (by omega)] at b
    rw [e _ (by omega), e _ (by omega), e _ (by omega)]; exact r2 s a b
  · intro i j a b a2 b2
    rw [e 5 (by omega)] at b
    rw [e _ (by omega)]; exact r3 i j a b a2 b2
  · intro i j a b a2 b2
    rw [e6] at b
    omega
  · intro i j a b a2 b2
    rw [e 7 (by omega)] at b
    rw [e _ (by omega)]; exact r5 i j a b a2 b2
  · intro i a b
    obtain ⟨q1, q2, q3, q4⟩ := r6 i a b
    refine ⟨q1, q2, fun c a3 b3 => ?_, fun k2 a3 b3 => ?_⟩
    · rw [e 0 (by omega)] at b3
      rw [e _ (by omega), e _ (by omega)]; exact q3 c a3 b3
    · rw [e 2 (by omega)] at b3
      rw [e _ (by omega)]; exact q4 k2 a3 b3
theorem zforget6_ok (h : zOK N) : zOK (zfu N 6 0) := by
  obtain ⟨h1, h2, h3, h4, h5, h6, h7, h8⟩ := h
  have e : ∀ j, j ≠ 6 → zfu N 6 0 j = N j := fun j hj => if_neg hj
  have e6 : zfu N 6 0 6 = 0 := if_pos rfl
  refine ⟨?_, ?_, ?_, ?_, ?_, ?_, ?_, ?_⟩
  · rw [zHd, e 0 (by omega), e 1 (by omega), e 2 (by omega), e 3 (by omega), e 4 (by omega), e 5 (by omega), e6, e 7 (by omega)]; omega
  · intro c a b
    rw [e 0 (by omega)] at b; rw [e (8 + c) (by omega), e (13 + c) (by omega)]; exact h2 c a b
  · intro c r a b a2 b2
    rw [e 0 (by omega), e _ (by omega)]; exact h3 c r a b a2 b2
  · intro s a b
    rw [e 1 (by omega)] at b; rw [e (68 + s) (by omega), e (74 + s) (by omega)]; exact h4 s a b
  · intro s a b
    rw [e 2 (by omega)] at b; rw [e (80 + s) (by omega), e (84 + s) (by omega), e (88 + s) (by omega)]; exact h5 s a b
  · intro s a b
    rw [e 5 (by omega)] at b; have q := h6 s a b; rw [e (92 + 4 * s) (by omega), e (93 + 4 * s) (by omega), e (94 + 4 * s) (by omega), e (95 + 4 * s) (by omega)]; rw [e 0 (by omega)]; exact q
  · intro s a b
    rw [e6] at b
    omega
  · intro s a b
    rw [e 7 (by omega)] at b; have q := h8 s a b; rw [e (138 + 5 * s) (by omega), e (139 + 5 * s) (by omega), e (140 + 5 * s) (by omega), e (141 + 5 * s) (by omega), e (142 + 5 * s) (by omega)]; rw [e 1 (by omega)]; exact q
theorem s_empty_thrown (hS : zSto g w b N u P) (hO : zOK N) (k : ∀ w', zSame w w' b 15 → zSto g w' b (zfu N 7 0) u P → K (some (zI (N 7))) w') : zCall g d 0 0 mX4_empty [zR g (b + 11)] w K := by
  have hh := hO.1
  obtain ⟨C0, C1, C2, C3, C4, C5, C6, hS, r0, r1, r2, r3, r4, r5, r6⟩ := hS.s7
  have e : ∀ j, j ≠ 7 → zfu N 7 0 j = N j := fun j hj => if_neg hj
  have e7 : zfu N 7 0 7 = 0 := if_pos rfl
  refine c_X4_empty hS.h5 (fun w2 hs2 hT2 => k _ (hs2.wide (by omega) (by omega)) (zS7.sto (N := zfu N 7 0) (by rw [e 3 (by omega), e 4 (by omega), e 0 (by omega), e 1 (by omega), e 2 (by omega), e 5 (by omega), e 6 (by omega), e7]; exact hS.set5 hs2 hT2) ?_ ?_ ?_ ?_ ?_ ?_ ?_))
  · intro c a b
    rw [e 0 (by omega)] at b
    obtain ⟨q1, q2, q3⟩ := r0 c a b
    exact ⟨by rw [e _ (by omega)]; exact q1, by rw [e _ (by omega)]; exact q2, fun r a2 b2 => by rw [e _ (by omega)]; exact q3 r a2 b2⟩
  · intro s a b
    rw [e 1 (by omega)] at b
    rw [e _ (by omega), e _ (by omega)]; exact r1 s a b
  · intro s a b
    rw [e 2 (by omega)] at b
    rw [e _ (by omega), e _ (by omega), e _ (by omega)]; exact r2 s a b
  · intro i j a b a2 b2
    rw [e 5 (by omega)] at b
    rw [e _ (by omega)]; exact r3 i j a b a2 b2
  · intro i j a b a2 b2
    rw [e 6 (by omega)] at b
    rw [e _ (by omega)]; exact r4 i j a b a2 b2
  · intro i j a b a2 b2
    rw [e7] at b
    omega
  · intro i a b
    obtain ⟨q1, q2, q3, q4⟩ := r6 i a b
    refine ⟨q1, q2, fun c a3 b3 => ?_, fun k2 a3 b3 => ?_⟩
    · rw [e 0 (by omega)] at b3
      rw [e _ (by omega), e _ (by omega)]; exact q3 c a3 b3
    · rw [e 2 (by omega)] at b3
      rw [e _ (by omega)]; exact q4 k2 a3 b3
theorem zforget7_ok (h : zOK N) : zOK (zfu N 7 0) := by
  obtain ⟨h1, h2, h3, h4, h5, h6, h7, h8⟩ := h
  have e : ∀ j, j ≠ 7 → zfu N 7 0 j = N j := fun j hj => if_neg hj
  have e7 : zfu N 7 0 7 = 0 := if_pos rfl
  refine ⟨?_, ?_, ?_, ?_, ?_, ?_, ?_, ?_⟩
  · rw [zHd, e 0 (by omega), e 1 (by omega), e 2 (by omega), e 3 (by omega), e 4 (by omega), e 5 (by omega), e 6 (by omega), e7]; omega
  · intro c a b
    rw [e 0 (by omega)] at b; rw [e (8 + c) (by omega), e (13 + c) (by omega)]; exact h2 c a b
  · intro c r a b a2 b2
    rw [e 0 (by omega), e _ (by omega)]; exact h3 c r a b a2 b2
  · intro s a b
    rw [e 1 (by omega)] at b; rw [e (68 + s) (by omega), e (74 + s) (by omega)]; exact h4 s a b
  · intro s a b
    rw [e 2 (by omega)] at b; rw [e (80 + s) (by omega), e (84 + s) (by omega), e (88 + s) (by omega)]; exact h5 s a b
  · intro s a b
    rw [e 5 (by omega)] at b; have q := h6 s a b; rw [e (92 + 4 * s) (by omega), e (93 + 4 * s) (by omega), e (94 + 4 * s) (by omega), e (95 + 4 * s) (by omega)]; rw [e 0 (by omega)]; exact q
  · intro s a b
    rw [e 6 (by omega)] at b; have q := h7 s a b; rw [e (108 + 5 * s) (by omega), e (109 + 5 * s) (by omega), e (110 + 5 * s) (by omega), e (111 + 5 * s) (by omega), e (112 + 5 * s) (by omega)]; rw [e 0 (by omega)]; exact q
  · intro s a b
    rw [e7] at b
    omega
end X6G
