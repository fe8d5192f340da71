/-! what the class's changing calls stand on -/
section HLP
variable {g : zG} {d : Nat} {w w' : zWd} {K : Option Value → zWd → Prop} {b : Nat} {N P : Int → Int} {u : Int}
theorem zSto.cong {N' P' : Int → Int} (h : zSto g w b N u P) (hH : zHd N) (hu : u ≤ 8) (e : ∀ j, 0 ≤ j → j < 168 → N' j = N j) (eP : ∀ j, 0 ≤ j → j < 480 → P' j = P j) : zSto g w b N' u P' := by
  obtain ⟨C0, C1, C2, C3, C4, C5, C6, hS, r0, r1, r2, r3, r4, r5, r6⟩ := h.s7
  have hh := hH
  have e0 := e 0 (by omega) (by omega)
  have e1 := e 1 (by omega) (by omega)
  have e2 := e 2 (by omega) (by omega)
  have e5 := e 5 (by omega) (by omega)
  have e6 := e 6 (by omega) (by omega)
  have e7 := e 7 (by omega) (by omega)
  refine zS7.sto (N := N') (by rw [e 3 (by omega) (by omega), e 4 (by omega) (by omega), e0, e1, e2, e5, e6, e7]; exact hS) (fun c a b => ?_) (fun s a b => ?_) (fun s a b => ?_) (fun i j a b a2 b2 => ?_) (fun i j a b a2 b2 => ?_) (fun i j a b a2 b2 => ?_) (fun i a b => ?_)
  · rw [e0] at b
    rw [e _ (by omega) (by omega), e _ (by omega) (by omega)]; exact ⟨(r0 c a b).1, (r0 c a b).2.1, fun r a2 b2 => by rw [e _ (by omega) (by omega)]; exact (r0 c a b).2.2 r a2 b2⟩
  · rw [e1] at b
    rw [e _ (by omega) (by omega), e _ (by omega) (by omega)]; exact r1 s a b
  · rw [e2] at b
    rw [e _ (by omega) (by omega), e _ (by omega) (by omega), e _ (by omega) (by omega)]; exact r2 s a b
  · rw [e5] at b
    rw [e _ (by omega) (by omega)]; exact r3 i j a b a2 b2
  · rw [e6] at b
    rw [e _ (by omega) (by omega)]; exact r4 i j a b a2 b2
  · rw [e7] at b
    rw [e _ (by omega) (by omega)]; exact r5 i j a b a2 b2
  · obtain ⟨q1, q2, q3, q4⟩ := r6 i a b
    rw [eP _ (by omega) (by omega), eP _ (by omega) (by omega)]
    refine ⟨q1, q2, fun c2 a3 b3 => ?_, fun k2 a3 b3 => ?_⟩
    · rw [e0] at b3
      rw [e _ (by omega) (by omega), e _ (by omega) (by omega)]; exact ⟨(q3 c2 a3 b3).1, (q3 c2 a3 b3).2.1, fun r a4 b4 => by rw [eP _ (by omega) (by omega)]; exact (q3 c2 a3 b3).2.2 r a4 b4⟩
    · rw [e2] at b3
      rw [e _ (by omega) (by omega), eP _ (by omega) (by omega), eP _ (by omega) (by omega)]; exact q4 k2 a3 b3
theorem s_add_ring {c wk x y : Int} (hd : 3 ≤ d) (hS : zSto g w b N u P) (hO : zOK N) (hf : N 5 < 4) (k : ∀ w', zSame w w' b 15 → zSto g w' b (znewr N c wk x y) u P → K (some (zI (N 5 + 1))) w') : zCall g d 0 0 mX4_addRow [zR g (b + 7), zI c, zI wk, zI x, zI y, zI 0] w K := by
  obtain ⟨C0, C1, C2, C3, C4, C5, C6, hS, r0, r1, r2, r3, r4, r5, r6⟩ := hS.s7
  have hh := hO.1
  refine c_X4_addRow (by omega) hS.h3 ⟨by omega, by omega, by omega, by omega, by omega, by omega⟩ hf (by omega) (fun w2 hs2 hT2 => k _ (hs2.wide (by omega) (by omega)) ?_)
  have e : ∀ j, ¬ (j = 5 ∨ (92 + 4 * N 5 ≤ j ∧ j ≤ 95 + 4 * N 5)) → (znewr N c wk x y) j = N j := fun j hj => by simp only [znewr, zfu]; rw [if_neg (by omega), if_neg (by omega), if_neg (by omega), if_neg (by omega), if_neg (by omega)]
  have eq : (znewr N c wk x y) 5 = N 5 + 1 := by simp only [znewr, zfu]; rw [if_pos trivial]
  have e_0 : (znewr N c wk x y) (92 + 4 * N 5 + 0) = c := by simp only [znewr, zfu]; rw [if_neg (by omega), if_neg (by omega), if_neg (by omega), if_neg (by omega), if_pos (by omega)]
  have e_1 : (znewr N c wk x y) (92 + 4 * N 5 + 1) = wk := by simp only [znewr, zfu]; rw [if_neg (by omega), if_neg (by omega), if_neg (by omega), if_pos trivial]
  have e_2 : (znewr N c wk x y) (92 + 4 * N 5 + 2) = x := by simp only [znewr, zfu]; rw [if_neg (by omega), if_neg (by omega), if_pos trivial]
  have e_3 : (znewr N c wk x y) (92 + 4 * N 5 + 3) = y := by simp only [znewr, zfu]; rw [if_neg (by omega), if_pos trivial]
  refine zS7.sto (N := znewr N c wk x y) (by rw [e 3 (by omega), e 4 (by omega), e 0 (by omega), e 1 (by omega), e 2 (by omega), eq, e 6 (by omega), e 7 (by omega)]; exact hS.set3 hs2 hT2) (fun c a b => ?_) (fun s a b => ?_) (fun s a b => ?_) (fun i j a b a2 b2 => ?_) (fun i j a b a2 b2 => ?_) (fun i j a b a2 b2 => ?_) (fun i a b => ?_)
  · rw [e 0 (by omega)] at b
    rw [e _ (by omega), e _ (by omega)]; exact ⟨(r0 c a b).1, (r0 c a b).2.1, fun r a2 b2 => by rw [e _ (by omega)]; exact (r0 c a b).2.2 r a2 b2⟩
  · rw [e 1 (by omega)] at b
    rw [e _ (by omega), e _ (by omega)]; exact r1 s a b
  · rw [e 2 (by omega)] at b
    rw [e _ (by omega), e _ (by omega), e _ (by omega)]; exact r2 s a b
  · rw [eq] at b
    unfold zrow5
    by_cases hi : i < N 5
    · rw [if_neg (by omega), e _ (by omega)]; exact r3 i j a hi a2 b2
    · obtain rfl : i = N 5 := by omega
      rw [if_pos (by omega)]
      by_cases h0 : j = 0
      · subst h0; rw [if_pos (by omega), e_0]
      by_cases h1 : j = 1
      · subst h1; rw [if_neg (by omega), if_pos (by omega), e_1]
      by_cases h2 : j = 2
      · subst h2; rw [if_neg (by omega), if_neg (by omega), if_pos (by omega), e_2]
      obtain rfl : j = 3 := by omega
      rw [if_neg (by omega), if_neg (by omega), if_neg (by omega), if_pos (by omega), e_3]
  · rw [e 6 (by omega)] at b
    rw [e _ (by omega)]; exact r4 i j a b a2 b2
  · rw [e 7 (by omega)] at b
    rw [e _ (by omega)]; exact r5 i j a b a2 b2
  · obtain ⟨q1, q2, q3, q4⟩ := r6 i a b
    refine ⟨q1, q2, fun c2 a3 b3 => ?_, fun k2 a3 b3 => ?_⟩
    · rw [e 0 (by omega)] at b3
      rw [e _ (by omega), e _ (by omega)]; exact q3 c2 a3 b3
    · rw [e 2 (by omega)] at b3
      rw [e _ (by omega)]; exact q4 k2 a3 b3
theorem s_add_note {x0 x1 x2 x3 x4 : Int} (hd : 3 ≤ d) (hS : zSto g w b N u P) (hO : zOK N) (hf : N 6 < 6) (k : ∀ w', zSame w w' b 15 → zSto g w' b (znewn N 6 108 x0 x1 x2 x3 x4) u P → K (some (zI (N 6 + 1))) w') : zCall g d 0 0 mX4_addRow [zR g (b + 9), zI x0, zI x1, zI x2, zI x3, zI x4] w K := by
  obtain ⟨C0, C1, C2, C3, C4, C5, C6, hS, r0, r1, r2, r3, r4, r5, r6⟩ := hS.s7
  have hh := hO.1
  refine c_X4_addRow (by omega) hS.h4 ⟨by omega, by omega, by omega, by omega, by omega, by omega⟩ hf (by omega) (fun w2 hs2 hT2 => k _ (hs2.wide (by omega) (by omega)) ?_)
  have e : ∀ j, ¬ (j = 6 ∨ (108 + 5 * N 6 ≤ j ∧ j ≤ 112 + 5 * N 6)) → (znewn N 6 108 x0 x1 x2 x3 x4) j = N j := fun j hj => by simp only [znewn, zfu]; rw [if_neg (by omega), if_neg (by omega), if_neg (by omega), if_neg (by omega), if_neg (by omega), if_neg (by omega)]
  have eq : (znewn N 6 108 x0 x1 x2 x3 x4) 6 = N 6 + 1 := by simp only [znewn, zfu]; rw [if_pos trivial]
  have e_0 : (znewn N 6 108 x0 x1 x2 x3 x4) (108 + 5 * N 6 + 0) = x0 := by simp only [znewn, zfu]; rw [if_neg (by omega), if_neg (by omega), if_neg (by omega), if_neg (by omega), if_neg (by omega), if_pos (by omega)]
  have e_1 : (znewn N 6 108 x0 x1 x2 x3 x4) (108 + 5 * N 6 + 1) = x1 := by simp only [znewn, zfu]; rw [if_neg (by omega), if_neg (by omega), if_neg (by omega), if_neg (by omega), if_pos trivial]
  have e_2 : (znewn N 6 108 x0 x1 x2 x3 x4) (108 + 5 * N 6 + 2) = x2 := by simp only [znewn, zfu]; rw [if_neg (by omega), if_neg (by omega), if_neg (by omega), if_pos trivial]
  have e_3 : (znewn N 6 108 x0 x1 x2 x3 x4) (108 + 5 * N 6 + 3) = x3 := by simp only [znewn, zfu]; rw [if_neg (by omega), if_neg (by omega), if_pos trivial]
  have e_4 : (znewn N 6 108 x0 x1 x2 x3 x4) (108 + 5 * N 6 + 4) = x4 := by simp only [znewn, zfu]; rw [if_neg (by omega), if_pos trivial]
  refine zS7.sto (N := znewn N 6 108 x0 x1 x2 x3 x4) (by rw [e 3 (by omega), e 4 (by omega), e 0 (by omega), e 1 (by omega), e 2 (by omega), e 5 (by omega), eq, e 7 (by omega)]; exact hS.set4 hs2 hT2) (fun c a b => ?_) (fun s a b => ?_) (fun s a b => ?_) (fun i j a b a2 b2 => ?_) (fun i j a b a2 b2 => ?_) (fun i j a b a2 b2 => ?_) (fun i a b => ?_)
  · rw [e 0 (by omega)] at b
    rw [e _ (by omega), e _ (by omega)]; exact ⟨(r0 c a b).1, (r0 c a b).2.1, fun r a2 b2 => by rw [e _ (by omega)]; exact (r0 c a b).2.2 r a2 b2⟩
  · rw [e 1 (by omega)] at b
    rw [e _ (by omega), e _ (by omega)]; exact r1 s a b
  · rw [e 2 (by omega)] at b
    rw [e _ (by omega), e _ (by omega), e _ (by omega)]; exact r2 s a b
  · rw [e 5 (by omega)] at b
    rw [e _ (by omega)]; exact r3 i j a b a2 b2
  · rw [eq] at b
    unfold zrow5
    by_cases hi : i < N 6
    · rw [if_neg (by omega), e _ (by omega)]; exact r4 i j a hi a2 b2
    · obtain rfl : i = N 6 := by omega
      rw [if_pos (by omega)]
      by_cases h0 : j = 0
      · subst h0; rw [if_pos (by omega), e_0]
      by_cases h1 : j = 1
      · subst h1; rw [if_neg (by omega), if_pos (by omega), e_1]
      by_cases h2 : j = 2
      · subst h2; rw [if_neg (by omega), if_neg (by omega), if_pos (by omega), e_2]
      by_cases h3 : j = 3
      · subst h3; rw [if_neg (by omega), if_neg (by omega), if_neg (by omega), if_pos (by omega), e_3]
      obtain rfl : j = 4 := by omega
      rw [if_neg (by omega), if_neg (by omega), if_neg (by omega), if_neg (by omega), if_pos (by omega), e_4]
  · rw [e 7 (by omega)] at b
    rw [e _ (by omega)]; exact r5 i j a b a2 b2
  · obtain ⟨q1, q2, q3, q4⟩ := r6 i a b
    refine ⟨q1, q2, fun c2 a3 b3 => ?_, fun k2 a3 b3 => ?_⟩
    · rw [e 0 (by omega)] at b3
      rw [e _ (by omega), e _ (by omega)]; exact q3 c2 a3 b3
    · rw [e 2 (by omega)] at b3
      rw [e _ (by omega)]; exact q4 k2 a3 b3
theorem s_add_flight {x0 x1 x2 x3 x4 : Int} (hd : 3 ≤ d) (hS : zSto g w b N u P) (hO : zOK N) (hf : N 7 < 6) (k : ∀ w', zSame w w' b 15 → zSto g w' b (znewn N 7 138 x0 x1 x2 x3 x4) u P → K (some (zI (N 7 + 1))) w') : zCall g d 0 0 mX4_addRow [zR g (b + 11), zI x0, zI x1, zI x2, zI x3, zI x4] w K := by
  obtain ⟨C0, C1, C2, C3, C4, C5, C6, hS, r0, r1, r2, r3, r4, r5, r6⟩ := hS.s7
  have hh := hO.1
  refine c_X4_addRow (by omega) hS.h5 ⟨by omega, by omega, by omega, by omega, by omega, by omega⟩ hf (by omega) (fun w2 hs2 hT2 => k _ (hs2.wide (by omega) (by omega)) ?_)
  have e : ∀ j, ¬ (j = 7 ∨ (138 + 5 * N 7 ≤ j ∧ j ≤ 142 + 5 * N 7)) → (znewn N 7 138 x0 x1 x2 x3 x4) j = N j := fun j hj => by simp only [znewn, zfu]; rw [if_neg (by omega), if_neg (by omega), if_neg (by omega), if_neg (by omega), if_neg (by omega), if_neg (by omega)]
  have eq : (znewn N 7 138 x0 x1 x2 x3 x4) 7 = N 7 + 1 := by simp only [znewn, zfu]; rw [if_pos trivial]
  have e_0 : (znewn N 7 138 x0 x1 x2 x3 x4) (138 + 5 * N 7 + 0) = x0 := by simp only [znewn, zfu]; rw [if_neg (by omega), if_neg (by omega), if_neg (by omega), if_neg (by omega), if_neg (by omega), if_pos (by omega)]
  have e_1 : (znewn N 7 138 x0 x1 x2 x3 x4) (138 + 5 * N 7 + 1) = x1 := by simp only [znewn, zfu]; rw [if_neg (by omega), if_neg (by omega), if_neg (by omega), if_neg (by omega), if_pos trivial]
  have e_2 : (znewn N 7 138 x0 x1 x2 x3 x4) (138 + 5 * N 7 + 2) = x2 := by simp only [znewn, zfu]; rw [if_neg (by omega), if_neg (by omega), if_neg (by omega), if_pos trivial]
  have e_3 : (znewn N 7 138 x0 x1 x2 x3 x4) (138 + 5 * N 7 + 3) = x3 := by simp only [znewn, zfu]; rw [if_neg (by omega), if_neg (by omega), if_pos trivial]
  have e_4 : (znewn N 7 138 x0 x1 x2 x3 x4) (138 + 5 * N 7 + 4) = x4 := by simp only [znewn, zfu]; rw [if_neg (by omega), if_pos trivial]
  refine zS7.sto (N := znewn N 7 138 x0 x1 x2 x3 x4) (by rw [e 3 (by omega), e 4 (by omega), e 0 (by omega), e 1 (by omega), e 2 (by omega), e 5 (by omega), e 6 (by omega), eq]; exact hS.set5 hs2 hT2) (fun c a b => ?_) (fun s a b => ?_) (fun s a b => ?_) (fun i j a b a2 b2 => ?_) (fun i j a b a2 b2 => ?_) (fun i j a b a2 b2 => ?_) (fun i a b => ?_)
  · rw [e 0 (by omega)] at b
    rw [e _ (by omega), e _ (by omega)]; exact ⟨(r0 c a b).1, (r0 c a b).2.1, fun r a2 b2 => by rw [e _ (by omega)]; exact (r0 c a b).2.2 r a2 b2⟩
  · rw [e 1 (by omega)] at b
    rw [e _ (by omega), e _ (by omega)]; exact r1 s a b
  · rw [e 2 (by omega)] at b
    rw [e _ (by omega), e _ (by omega), e _ (by omega)]; exact r2 s a b
  · rw [e 5 (by omega)] at b
    rw [e _ (by omega)]; exact r3 i j a b a2 b2
  · rw [e 6 (by omega)] at b
    rw [e _ (by omega)]; exact r4 i j a b a2 b2
  · rw [eq] at b
    unfold zrow5
    by_cases hi : i < N 7
    · rw [if_neg (by omega), e _ (by omega)]; exact r5 i j a hi a2 b2
    · obtain rfl : i = N 7 := by omega
      rw [if_pos (by omega)]
      by_cases h0 : j = 0
      · subst h0; rw [if_pos (by omega), e_0]
      by_cases h1 : j = 1
      · subst h1; rw [if_neg (by omega), if_pos (by omega), e_1]
      by_cases h2 : j = 2
      · subst h2; rw [if_neg (by omega), if_neg (by omega), if_pos (by omega), e_2]
      by_cases h3 : j = 3
      · subst h3; rw [if_neg (by omega), if_neg (by omega), if_neg (by omega), if_pos (by omega), e_3]
      obtain rfl : j = 4 := by omega
      rw [if_neg (by omega), if_neg (by omega), if_neg (by omega), if_neg (by omega), if_pos (by omega), e_4]
  · obtain ⟨q1, q2, q3, q4⟩ := r6 i a b
    refine ⟨q1, q2, fun c2 a3 b3 => ?_, fun k2 a3 b3 => ?_⟩
    · rw [e 0 (by omega)] at b3
      rw [e _ (by omega), e _ (by omega)]; exact q3 c2 a3 b3
    · rw [e 2 (by omega)] at b3
      rw [e _ (by omega)]; exact q4 k2 a3 b3
theorem zHlp.p65 (h : zHlp g w) {f : Int → Int} (hs : zSame w w' 65 1) (hf : w'.1 65 = some (.inr (false, 41, f))) : zHlp g w' := by
  obtain ⟨h1, h2, h3, ⟨f4, h4⟩, ⟨f5, h5⟩, ⟨f6, h6⟩, ⟨f7, h7⟩, h8, f9, h9⟩ := h
  exact ⟨by rw [hs.2 _ (by omega)]; exact h1, by rw [hs.2 _ (by omega)]; exact h2, ⟨f, hf⟩, ⟨f4, by rw [hs.2 _ (by omega)]; exact h4⟩, ⟨f5, by rw [hs.2 _ (by omega)]; exact h5⟩, ⟨f6, by rw [hs.2 _ (by omega)]; exact h6⟩, ⟨f7, by rw [hs.2 _ (by omega)]; exact h7⟩, by rw [hs.2 _ (by omega)]; exact h8, f9, by rw [hs.2 _ (by omega)]; exact h9⟩
theorem zHlp.p66 (h : zHlp g w) {f4 f5 f6 f7 : Int → Int} (hs : zSame w w' 66 4) (g4 : w'.1 66 = some (.inr (false, 24, f4))) (g5 : w'.1 67 = some (.inr (false, 4, f5))) (g6 : w'.1 68 = some (.inr (false, 6, f6))) (g7 : w'.1 69 = some (.inr (false, 6, f7))) : zHlp g w' := by
  obtain ⟨h1, h2, ⟨f3, h3⟩, -, -, -, -, h8, f9, h9⟩ := h
  exact ⟨by rw [hs.2 _ (by omega)]; exact h1, by rw [hs.2 _ (by omega)]; exact h2, ⟨f3, by rw [hs.2 _ (by omega)]; exact h3⟩, ⟨f4, g4⟩, ⟨f5, g5⟩, ⟨f6, g6⟩, ⟨f7, g7⟩, by rw [hs.2 _ (by omega)]; exact h8, f9, by rw [hs.2 _ (by omega)]; exact h9⟩
theorem zHlp.p71 (h : zHlp g w) {f : Int → Int} (hs : zSame w w' 71 1) (hf : w'.1 71 = some (.inr (false, 6, f))) : zHlp g w' := by
  obtain ⟨h1, h2, ⟨f3, h3⟩, ⟨f4, h4⟩, ⟨f5, h5⟩, ⟨f6, h6⟩, ⟨f7, h7⟩, h8, -⟩ := h
  exact ⟨by rw [hs.2 _ (by omega)]; exact h1, by rw [hs.2 _ (by omega)]; exact h2, ⟨f3, by rw [hs.2 _ (by omega)]; exact h3⟩, ⟨f4, by rw [hs.2 _ (by omega)]; exact h4⟩, ⟨f5, by rw [hs.2 _ (by omega)]; exact h5⟩, ⟨f6, by rw [hs.2 _ (by omega)]; exact h6⟩, ⟨f7, by rw [hs.2 _ (by omega)]; exact h7⟩, by rw [hs.2 _ (by omega)]; exact h8, f, hf⟩
theorem zCl.drf {S : zSt} (h : zCl g w S) (hs : zSame w w' 46 16) (hD : zShp g w' 46) (hR : zRdx g w' S.2.1.2) : zCl g w' S := by
  obtain ⟨h1, h2, h3, h4, h5, h6, h7, h8, h9, h10⟩ := h
  exact ⟨by rw [hs.2 _ (by omega)]; exact h1, h2.keep hs (by omega), h3.keep hs (by omega), h4.keep hs (by omega), hD, fun z => (h6 z).keep hs (by omega), fun z => (h7 z).keep hs (by omega), hR, by rw [hs.2 _ (by omega)]; exact h9, h10.keep hs (by omega)⟩
theorem zprice_b {N : Int → Int} {q c cc : Int} : -1 ≤ zprice N q c cc ∧ zprice N q c cc ≤ 1000000 := by
  unfold zprice
  have h0 : zin zpr0 := fun i a b => by unfold zpr0; split <;> omega
  split
  · omega
  · split
    · have := zprc_b (N := N) (c := c) (q := q) (cc := cc) (need := min 40 (N (84 + q) - N (88 + q))) h0 9 (by omega) (min 40 (N (84 + q) - N (88 + q))) (by omega) (by omega)
      omega
    · omega
theorem zstraw_ok {c v : Int} (h : zOK N) (hc : 0 ≤ c ∧ c < N 0) (hv : 0 ≤ v ∧ v ≤ 9) : zOK (zfu N (13 + c) v) := by
  have hh := h.1
  have e : ∀ j, j ≠ 13 + c → zfu N (13 + c) v j = N j := fun j hj => if_neg hj
  have ec : zfu N (13 + c) v (13 + c) = v := if_pos rfl
  obtain ⟨h0, h1, h2, h3, h4, h5, h6, h7⟩ := h
  refine ⟨?_, fun c2 a b => ?_, fun c r a b a2 b2 => ?_, fun s a b => ?_, fun s a b => ?_, fun i a b => ?_, fun i a b => ?_, fun i a b => ?_⟩
  · rw [zHd, e 0 (by omega), e 1 (by omega), e 2 (by omega), e 3 (by omega), e 4 (by omega), e 5 (by omega), e 6 (by omega), e 7 (by omega)]
    exact h0
  · rw [e 0 (by omega)] at b
    rw [e _ (by omega)]
    refine ⟨(h1 c2 a b).1, ?_⟩
    by_cases q : c2 = c
    · rw [q, ec]; exact hv
    · rw [e _ (by omega)]; exact (h1 c2 a b).2
  · rw [e 0 (by omega), e _ (by omega)]; exact h2 _ r a b a2 b2
  · rw [e 1 (by omega)] at b; rw [e _ (by omega), e _ (by omega)]; exact h3 s a b
  · rw [e 2 (by omega)] at b; rw [e _ (by omega), e _ (by omega), e _ (by omega)]; exact h4 s a b
  · rw [e 5 (by omega)] at b; rw [e 0 (by omega), e _ (by omega), e _ (by omega), e _ (by omega), e _ (by omega)]; exact h5 i a b
  · rw [e 6 (by omega)] at b; rw [e 0 (by omega), e _ (by omega), e _ (by omega), e _ (by omega), e _ (by omega), e _ (by omega)]; exact h6 i a b
  · rw [e 7 (by omega)] at b; rw [e 1 (by omega), e _ (by omega), e _ (by omega), e _ (by omega), e _ (by omega), e _ (by omega)]; exact h7 i a b
def zeu : Nat → Int → Int → Int
  | 0, a, _ => a
  | q + 1, a, b => if b = 0 then a else zeu q b (a % b)
theorem zeu_gcd : ∀ (q : Nat) (a b : Nat), b < q → zeu q (a : Int) (b : Int) = ((Nat.gcd a b : Nat) : Int)
  | 0, a, b, h => absurd h (Nat.not_lt_zero _)
  | q + 1, a, b, h => by
    rw [zeu]
    by_cases hb : b = 0
    · subst hb; rw [if_pos (by omega), Nat.gcd_zero_right]
    · rw [if_neg (by omega), ← Int.natCast_emod]
      have hl : a % b < b := Nat.mod_lt _ (Nat.pos_of_ne_zero hb)
      rw [zeu_gcd q b (a % b) (by omega), Nat.gcd_comm a b, Nat.gcd_comm b (a % b), ← Nat.gcd_rec]
theorem zgcd_b {v : Int} : 1 ≤ zgcd v ∧ zgcd v ≤ 10 := by
  unfold zgcd
  have h1 := Nat.gcd_pos_of_pos_right v.toNat (show 0 < 10 by omega)
  have h2 := Nat.gcd_le_right v.toNat (show 0 < 10 by omega)
  omega
theorem zgust_b {N : Int → Int} {s q r n c : Int} (hr : 1 ≤ r ∧ r ≤ 9) (hn : 0 ≤ n ∧ n ≤ 9) (hc : 0 ≤ c ∧ c ≤ 10) : (0 ≤ c * zhat N s q r (min 9 (N 4 + 4)) ∧ c * zhat N s q r (min 9 (N 4 + 4)) ≤ 100) ∧ (0 ≤ (10 - c) * zhat N s q r (N 4) ∧ (10 - c) * zhat N s q r (N 4) ≤ 100) ∧ 0 ≤ zgust N s q r n c ∧ zgust N s q r n c ≤ 1800 := by
  have h1 := zmul_b hc (zhat_b (N := N) (s := s) (k := q) (v := min 9 (N 4 + 4)) hr)
  have h2 := zmul_b (a := 10 - c) (A := 10) ⟨by omega, by omega⟩ (zhat_b (N := N) (s := s) (k := q) (v := N 4) hr)
  have h3 := zmul_b (b := c * zhat N s q r (min 9 (N 4 + 4)) + (10 - c) * zhat N s q r (N 4)) (B := 200) hn ⟨by omega, by omega⟩
  unfold zgust
  omega
end HLP
