/-! a Store as its object and seven sheets -/
abbrev zO5 (g : zG) (b : Nat) (a3 a4 : Int) : zE := .inl (5, [zI a3, zI a4, zR g (b + 1), zR g (b + 3), zR g (b + 5), zR g (b + 7), zR g (b + 9), zR g (b + 11), zR g (b + 13)])
def zS7 (g : zG) (w : zWd) (b : Nat) (a3 a4 n0 n1 n2 n3 n4 n5 n6 : Int) (C0 C1 C2 C3 C4 C5 C6 : Int → Int) : Prop := w.1 b = some (zO5 g b a3 a4) ∧ zSheet g w (b + 1) 55 5 11 n0 C0 ∧ zSheet g w (b + 3) 12 6 2 n1 C1 ∧ zSheet g w (b + 5) 12 4 3 n2 C2 ∧ zSheet g w (b + 7) 16 4 4 n3 C3 ∧ zSheet g w (b + 9) 30 6 5 n4 C4 ∧ zSheet g w (b + 11) 30 6 5 n5 C5 ∧ zSheet g w (b + 13) 552 8 69 n6 C6
section S7
variable {g : zG} {w w' : zWd} {b : Nat} {a3 a4 n0 n1 n2 n3 n4 n5 n6 : Int} {C0 C1 C2 C3 C4 C5 C6 : Int → Int}
theorem zS7.o (h : zS7 g w b a3 a4 n0 n1 n2 n3 n4 n5 n6 C0 C1 C2 C3 C4 C5 C6) : w.1 b = some (zO5 g b a3 a4) := h.1
theorem zS7.h0 (h : zS7 g w b a3 a4 n0 n1 n2 n3 n4 n5 n6 C0 C1 C2 C3 C4 C5 C6) : zSheet g w (b + 1) 55 5 11 n0 C0 := h.2.1
theorem zS7.s0 (h : zS7 g w b a3 a4 n0 n1 n2 n3 n4 n5 n6 C0 C1 C2 C3 C4 C5 C6) : w.1 (b + 1) = some (.inl (3, [zI 5, zI 11, zR g (b + 1 + 1), zI n0])) := (h.h0).1
theorem zS7.h1 (h : zS7 g w b a3 a4 n0 n1 n2 n3 n4 n5 n6 C0 C1 C2 C3 C4 C5 C6) : zSheet g w (b + 3) 12 6 2 n1 C1 := h.2.2.1
theorem zS7.s1 (h : zS7 g w b a3 a4 n0 n1 n2 n3 n4 n5 n6 C0 C1 C2 C3 C4 C5 C6) : w.1 (b + 3) = some (.inl (3, [zI 6, zI 2, zR g (b + 3 + 1), zI n1])) := (h.h1).1
theorem zS7.h2 (h : zS7 g w b a3 a4 n0 n1 n2 n3 n4 n5 n6 C0 C1 C2 C3 C4 C5 C6) : zSheet g w (b + 5) 12 4 3 n2 C2 := h.2.2.2.1
theorem zS7.s2 (h : zS7 g w b a3 a4 n0 n1 n2 n3 n4 n5 n6 C0 C1 C2 C3 C4 C5 C6) : w.1 (b + 5) = some (.inl (3, [zI 4, zI 3, zR g (b + 5 + 1), zI n2])) := (h.h2).1
theorem zS7.h3 (h : zS7 g w b a3 a4 n0 n1 n2 n3 n4 n5 n6 C0 C1 C2 C3 C4 C5 C6) : zSheet g w (b + 7) 16 4 4 n3 C3 := h.2.2.2.2.1
theorem zS7.s3 (h : zS7 g w b a3 a4 n0 n1 n2 n3 n4 n5 n6 C0 C1 C2 C3 C4 C5 C6) : w.1 (b + 7) = some (.inl (3, [zI 4, zI 4, zR g (b + 7 + 1), zI n3])) := (h.h3).1
theorem zS7.h4 (h : zS7 g w b a3 a4 n0 n1 n2 n3 n4 n5 n6 C0 C1 C2 C3 C4 C5 C6) : zSheet g w (b + 9) 30 6 5 n4 C4 := h.2.2.2.2.2.1
theorem zS7.s4 (h : zS7 g w b a3 a4 n0 n1 n2 n3 n4 n5 n6 C0 C1 C2 C3 C4 C5 C6) : w.1 (b + 9) = some (.inl (3, [zI 6, zI 5, zR g (b + 9 + 1), zI n4])) := (h.h4).1
theorem zS7.h5 (h : zS7 g w b a3 a4 n0 n1 n2 n3 n4 n5 n6 C0 C1 C2 C3 C4 C5 C6) : zSheet g w (b + 11) 30 6 5 n5 C5 := h.2.2.2.2.2.2.1
theorem zS7.s5 (h : zS7 g w b a3 a4 n0 n1 n2 n3 n4 n5 n6 C0 C1 C2 C3 C4 C5 C6) : w.1 (b + 11) = some (.inl (3, [zI 6, zI 5, zR g (b + 11 + 1), zI n5])) := (h.h5).1
theorem zS7.h6 (h : zS7 g w b a3 a4 n0 n1 n2 n3 n4 n5 n6 C0 C1 C2 C3 C4 C5 C6) : zSheet g w (b + 13) 552 8 69 n6 C6 := h.2.2.2.2.2.2.2
theorem zS7.s6 (h : zS7 g w b a3 a4 n0 n1 n2 n3 n4 n5 n6 C0 C1 C2 C3 C4 C5 C6) : w.1 (b + 13) = some (.inl (3, [zI 8, zI 69, zR g (b + 13 + 1), zI n6])) := (h.h6).1
theorem zS7.set0 {m : Int} {D : Int → Int} (h : zS7 g w b a3 a4 n0 n1 n2 n3 n4 n5 n6 C0 C1 C2 C3 C4 C5 C6) (hs : zSame w w' (b + 1) 2) (hT : zSheet g w' (b + 1) 55 5 11 m D) : zS7 g w' b a3 a4 m n1 n2 n3 n4 n5 n6 D C1 C2 C3 C4 C5 C6 := ⟨(hs.2 b (by omega)).trans h.o, hT, h.h1.keep hs (by omega), h.h2.keep hs (by omega), h.h3.keep hs (by omega), h.h4.keep hs (by omega), h.h5.keep hs (by omega), h.h6.keep hs (by omega)⟩
theorem zS7.row0 {m : Int} (h : zS7 g w b a3 a4 n0 n1 n2 n3 n4 n5 n6 C0 C1 C2 C3 C4 C5 C6) : zS7 g (zup w (b + 1) (.inl (3, [zI 5, zI 11, zR g (b + 1 + 1), zI m]))) b a3 a4 m n1 n2 n3 n4 n5 n6 C0 C1 C2 C3 C4 C5 C6 := h.set0 (zSame.up (by omega)) (zsh_up2 h.h0)
theorem zS7.set1 {m : Int} {D : Int → Int} (h : zS7 g w b a3 a4 n0 n1 n2 n3 n4 n5 n6 C0 C1 C2 C3 C4 C5 C6) (hs : zSame w w' (b + 3) 2) (hT : zSheet g w' (b + 3) 12 6 2 m D) : zS7 g w' b a3 a4 n0 m n2 n3 n4 n5 n6 C0 D C2 C3 C4 C5 C6 := ⟨(hs.2 b (by omega)).trans h.o, h.h0.keep hs (by omega), hT, h.h2.keep hs (by omega), h.h3.keep hs (by omega), h.h4.keep hs (by omega), h.h5.keep hs (by omega), h.h6.keep hs (by omega)⟩
theorem zS7.row1 {m : Int} (h : zS7 g w b a3 a4 n0 n1 n2 n3 n4 n5 n6 C0 C1 C2 C3 C4 C5 C6) : zS7 g (zup w (b + 3) (.inl (3, [zI 6, zI 2, zR g (b + 3 + 1), zI m]))) b a3 a4 n0 m n2 n3 n4 n5 n6 C0 C1 C2 C3 C4 C5 C6 := h.set1 (zSame.up (by omega)) (zsh_up2 h.h1)
theorem zS7.set2 {m : Int} {D : Int → Int} (h : zS7 g w b a3 a4 n0 n1 n2 n3 n4 n5 n6 C0 C1 C2 C3 C4 C5 C6) (hs : zSame w w' (b + 5) 2) (hT : zSheet g w' (b + 5) 12 4 3 m D) : zS7 g w' b a3 a4 n0 n1 m n3 n4 n5 n6 C0 C1 D C3 C4 C5 C6 := ⟨(hs.2 b (by omega)).trans h.o, h.h0.keep hs (by omega), h.h1.keep hs (by omega), hT, h.h3.keep hs (by omega), h.h4.keep hs (by omega), h.h5.keep hs (by omega), h.h6.keep hs (by omega)⟩
theorem zS7.row2 {m : Int} (h : zS7 g w b a3 a4 n0 n1 n2 n3 n4 n5 n6 C0 C1 C2 C3 C4 C5 C6) : zS7 g (zup w (b + 5) (.inl (3, [zI 4, zI 3, zR g (b + 5 + 1), zI m]))) b a3 a4 n0 n1 m n3 n4 n5 n6 C0 C1 C2 C3 C4 C5 C6 := h.set2 (zSame.up (by omega)) (zsh_up2 h.h2)
theorem zS7.set3 {m : Int} {D : Int → Int} (h : zS7 g w b a3 a4 n0 n1 n2 n3 n4 n5 n6 C0 C1 C2 C3 C4 C5 C6) (hs : zSame w w' (b + 7) 2) (hT : zSheet g w' (b + 7) 16 4 4 m D) : zS7 g w' b a3 a4 n0 n1 n2 m n4 n5 n6 C0 C1 C2 D C4 C5 C6 := ⟨(hs.2 b (by omega)).trans h.o, h.h0.keep hs (by omega), h.h1.keep hs (by omega), h.h2.keep hs (by omega), hT, h.h4.keep hs (by omega), h.h5.keep hs (by omega), h.h6.keep hs (by omega)⟩
theorem zS7.row3 {m : Int} (h : zS7 g w b a3 a4 n0 n1 n2 n3 n4 n5 n6 C0 C1 C2 C3 C4 C5 C6) : zS7 g (zup w (b + 7) (.inl (3, [zI 4, zI 4, zR g (b + 7 + 1), zI m]))) b a3 a4 n0 n1 n2 m n4 n5 n6 C0 C1 C2 C3 C4 C5 C6 := h.set3 (zSame.up (by omega)) (zsh_up2 h.h3)
theorem zS7.set4 {m : Int} {D : Int → Int} (h : zS7 g w b a3 a4 n0 n1 n2 n3 n4 n5 n6 C0 C1 C2 C3 C4 C5 C6) (hs : zSame w w' (b + 9) 2) (hT : zSheet g w' (b + 9) 30 6 5 m D) : zS7 g w' b a3 a4 n0 n1 n2 n3 m n5 n6 C0 C1 C2 C3 D C5 C6 := ⟨(hs.2 b (by omega)).trans h.o, h.h0.keep hs (by omega), h.h1.keep hs (by omega), h.h2.keep hs (by omega), h.h3.keep hs (by omega), hT, h.h5.keep hs (by omega), h.h6.keep hs (by omega)⟩
theorem zS7.row4 {m : Int} (h : zS7 g w b a3 a4 n0 n1 n2 n3 n4 n5 n6 C0 C1 C2 C3 C4 C5 C6) : zS7 g (zup w (b + 9) (.inl (3, [zI 6, zI 5, zR g (b + 9 + 1), zI m]))) b a3 a4 n0 n1 n2 n3 m n5 n6 C0 C1 C2 C3 C4 C5 C6 := h.set4 (zSame.up (by omega)) (zsh_up2 h.h4)
theorem zS7.set5 {m : Int} {D : Int → Int} (h : zS7 g w b a3 a4 n0 n1 n2 n3 n4 n5 n6 C0 C1 C2 C3 C4 C5 C6) (hs : zSame w w' (b + 11) 2) (hT : zSheet g w' (b + 11) 30 6 5 m D) : zS7 g w' b a3 a4 n0 n1 n2 n3 n4 m n6 C0 C1 C2 C3 C4 D C6 := ⟨(hs.2 b (by omega)).trans h.o, h.h0.keep hs (by omega), h.h1.keep hs (by omega), h.h2.keep hs (by omega), h.h3.keep hs (by omega), h.h4.keep hs (by omega), hT, h.h6.keep hs (by omega)⟩
theorem zS7.row5 {m : Int} (h : zS7 g w b a3 a4 n0 n1 n2 n3 n4 n5 n6 C0 C1 C2 C3 C4 C5 C6) : zS7 g (zup w (b + 11) (.inl (3, [zI 6, zI 5, zR g (b + 11 + 1), zI m]))) b a3 a4 n0 n1 n2 n3 n4 m n6 C0 C1 C2 C3 C4 C5 C6 := h.set5 (zSame.up (by omega)) (zsh_up2 h.h5)
theorem zS7.set6 {m : Int} {D : Int → Int} (h : zS7 g w b a3 a4 n0 n1 n2 n3 n4 n5 n6 C0 C1 C2 C3 C4 C5 C6) (hs : zSame w w' (b + 13) 2) (hT : zSheet g w' (b + 13) 552 8 69 m D) : zS7 g w' b a3 a4 n0 n1 n2 n3 n4 n5 m C0 C1 C2 C3 C4 C5 D := ⟨(hs.2 b (by omega)).trans h.o, h.h0.keep hs (by omega), h.h1.keep hs (by omega), h.h2.keep hs (by omega), h.h3.keep hs (by omega), h.h4.keep hs (by omega), h.h5.keep hs (by omega), hT⟩
theorem zS7.row6 {m : Int} (h : zS7 g w b a3 a4 n0 n1 n2 n3 n4 n5 n6 C0 C1 C2 C3 C4 C5 C6) : zS7 g (zup w (b + 13) (.inl (3, [zI 8, zI 69, zR g (b + 13 + 1), zI m]))) b a3 a4 n0 n1 n2 n3 n4 n5 m C0 C1 C2 C3 C4 C5 C6 := h.set6 (zSame.up (by omega)) (zsh_up2 h.h6)
theorem zS7.wa3 {m : Int} (h : zS7 g w b a3 a4 n0 n1 n2 n3 n4 n5 n6 C0 C1 C2 C3 C4 C5 C6) : zS7 g (zup w b (zO5 g b m a4)) b m a4 n0 n1 n2 n3 n4 n5 n6 C0 C1 C2 C3 C4 C5 C6 := ⟨by simp [zup], h.h0.keep (zSame.up (b := b) (len := 1) (by omega)) (by omega), h.h1.keep (zSame.up (b := b) (len := 1) (by omega)) (by omega), h.h2.keep (zSame.up (b := b) (len := 1) (by omega)) (by omega), h.h3.keep (zSame.up (b := b) (len := 1) (by omega)) (by omega), h.h4.keep (zSame.up (b := b) (len := 1) (by omega)) (by omega), h.h5.keep (zSame.up (b := b) (len := 1) (by omega)) (by omega), h.h6.keep (zSame.up (b := b) (len := 1) (by omega)) (by omega)⟩
theorem zS7.wa4 {m : Int} (h : zS7 g w b a3 a4 n0 n1 n2 n3 n4 n5 n6 C0 C1 C2 C3 C4 C5 C6) : zS7 g (zup w b (zO5 g b a3 m)) b a3 m n0 n1 n2 n3 n4 n5 n6 C0 C1 C2 C3 C4 C5 C6 := ⟨by simp [zup], h.h0.keep (zSame.up (b := b) (len := 1) (by omega)) (by omega), h.h1.keep (zSame.up (b := b) (len := 1) (by omega)) (by omega), h.h2.keep (zSame.up (b := b) (len := 1) (by omega)) (by omega), h.h3.keep (zSame.up (b := b) (len := 1) (by omega)) (by omega), h.h4.keep (zSame.up (b := b) (len := 1) (by omega)) (by omega), h.h5.keep (zSame.up (b := b) (len := 1) (by omega)) (by omega), h.h6.keep (zSame.up (b := b) (len := 1) (by omega)) (by omega)⟩
theorem zS7.keep {b' len : Nat} (h : zS7 g w b a3 a4 n0 n1 n2 n3 n4 n5 n6 C0 C1 C2 C3 C4 C5 C6) (hs : zSame w w' b' len) (ho : b + 15 ≤ b' ∨ b' + len ≤ b) : zS7 g w' b a3 a4 n0 n1 n2 n3 n4 n5 n6 C0 C1 C2 C3 C4 C5 C6 := ⟨(hs.2 b (by omega)).trans h.o, h.h0.keep hs (by omega), h.h1.keep hs (by omega), h.h2.keep hs (by omega), h.h3.keep hs (by omega), h.h4.keep hs (by omega), h.h5.keep hs (by omega), h.h6.keep hs (by omega)⟩
theorem zSto.s7 {N P : Int → Int} {u : Int} (h : zSto g w b N u P) : ∃ C0 C1 C2 C3 C4 C5 C6, zS7 g w b (N 3) (N 4) (N 0) (N 1) (N 2) (N 5) (N 6) (N 7) u C0 C1 C2 C3 C4 C5 C6 ∧ zr0 N C0 ∧ zr1 N C1 ∧ zr2 N C2 ∧ zr3 N C3 ∧ zr4 N C4 ∧ zr5 N C5 ∧ zr6 N u P C6 := by
  obtain ⟨C0, C1, C2, C3, C4, C5, C6, hO, h0, h1, h2, h3, h4, h5, h6, r0, r1, r2, r3, r4, r5, r6⟩ := h
  exact ⟨C0, C1, C2, C3, C4, C5, C6, ⟨hO, h0, h1, h2, h3, h4, h5, h6⟩, r0, r1, r2, r3, r4, r5, r6⟩
theorem zS7.sto {N P : Int → Int} {u : Int} (h : zS7 g w b (N 3) (N 4) (N 0) (N 1) (N 2) (N 5) (N 6) (N 7) u C0 C1 C2 C3 C4 C5 C6) (r0 : zr0 N C0) (r1 : zr1 N C1) (r2 : zr2 N C2) (r3 : zr3 N C3) (r4 : zr4 N C4) (r5 : zr5 N C5) (r6 : zr6 N u P C6) : zSto g w b N u P := ⟨C0, C1, C2, C3, C4, C5, C6, h.o, h.h0, h.h1, h.h2, h.h3, h.h4, h.h5, h.h6, r0, r1, r2, r3, r4, r5, r6⟩
theorem zShp.s7 (h : zShp g w b) : ∃ a3 a4 n0 n1 n2 n3 n4 n5 n6 C0 C1 C2 C3 C4 C5 C6, zS7 g w b a3 a4 n0 n1 n2 n3 n4 n5 n6 C0 C1 C2 C3 C4 C5 C6 := by
  obtain ⟨N, C0, C1, C2, C3, C4, C5, C6, u, hO, h0, h1, h2, h3, h4, h5, h6⟩ := h
  exact ⟨_, _, _, _, _, _, _, _, _, C0, C1, C2, C3, C4, C5, C6, hO, h0, h1, h2, h3, h4, h5, h6⟩
theorem zS7.shp (h : zS7 g w b a3 a4 n0 n1 n2 n3 n4 n5 n6 C0 C1 C2 C3 C4 C5 C6) : zShp g w b := ⟨fun j => if j = 0 then n0 else if j = 1 then n1 else if j = 2 then n2 else if j = 3 then a3 else if j = 4 then a4 else if j = 5 then n3 else if j = 6 then n4 else n5, C0, C1, C2, C3, C4, C5, C6, n6, h.o, h.h0, h.h1, h.h2, h.h3, h.h4, h.h5, h.h6⟩
end S7
def zempty (v : Int) : Int → Int := fun j => if j = 4 then v else 0
section X6E
variable {g : zG} {d : Nat} {w : zWd} {K : Option Value → zWd → Prop} {b : Nat} {N P : Int → Int} {u : Int}
set_option maxRecDepth 100000 in
set_option maxHeartbeats 4000000 in
theorem c_X6_reset {v : Int} (hd : 1 ≤ d) (hS : zShp g w b) (k : ∀ w', zSame w w' b 15 → (∀ P, zSto g w' b (zempty v) 0 P) → K none w') : zCall g d 0 0 mX6_reset [zR g b, zI v] w K := by
  obtain ⟨a3, a4, n0, n1, n2, n3, n4, n5, n6, C0, C1, C2, C3, C4, C5, C6, hS⟩ := hS.s7
  refine zenter [some _, some _] pn_X6 rfl (Nat.le_of_ble_eq_true rfl) ?_
  refine q_aload_n (pc := 0) dX6_reset_0 rfl rfl ?_
  refine q_iconst (pc := 1) dX6_reset_1 ?_
  refine q_putfield2 (pc := 2) [_, _, _, _, _, _, _, _, _] pf_X6_38 dX6_reset_2 (by first | assumption | exact hS.o | exact hS.s0 | exact hS.s1 | exact hS.s2 | exact hS.s3 | exact hS.s4 | exact hS.s5 | exact hS.s6) rfl rfl (Nat.le_of_ble_eq_true rfl) rfl ?_
  have hS := hS.wa3 (m := 0)
  refine q_aload_n (pc := 5) dX6_reset_5 rfl rfl ?_
  refine q_iload_n (pc := 6) dX6_reset_6 rfl ?_
  refine q_putfield2 (pc := 7) [_, _, _, _, _, _, _, _, _] pf_X6_42 dX6_reset_7 (by first | assumption | exact hS.o | exact hS.s0 | exact hS.s1 | exact hS.s2 | exact hS.s3 | exact hS.s4 | exact hS.s5 | exact hS.s6) rfl rfl (Nat.le_of_ble_eq_true rfl) rfl ?_
  have hS := hS.wa4 (m := v)
  refine q_aload_n (pc := 10) dX6_reset_10 rfl rfl ?_
  refine q_getfield (pc := 11) gf_X6_16 dX6_reset_11 (by first | assumption | exact hS.o | exact hS.s0 | exact hS.s1 | exact hS.s2 | exact hS.s3 | exact hS.s4 | exact hS.s5 | exact hS.s6) rfl ?_
  refine q_invokevirtual (pc := 14) (d' := d - 1) (mc' := 0) (ms' := 0) (As := []) (TX4, 4) cl_X6_45 dX6_reset_14 rfl rfl (by first | assumption | exact hS.o | exact hS.s0 | exact hS.s1 | exact hS.s2 | exact hS.s3 | exact hS.s4 | exact hS.s5 | exact hS.s6) rfl (by omega) rfl 0 0 (Nat.le_refl 0) (Nat.le_refl 0) ?_
  refine c_X4_empty hS.h0 (fun w2 hs2 hT2 => ?_)
  have hS := hS.set0 hs2 hT2
  refine q_pop (pc := 17) rfl dX6_reset_17 ?_
  refine q_aload_n (pc := 18) dX6_reset_18 rfl rfl ?_
  refine q_getfield (pc := 19) gf_X6_20 dX6_reset_19 (by first | assumption | exact hS.o | exact hS.s0 | exact hS.s1 | exact hS.s2 | exact hS.s3 | exact hS.s4 | exact hS.s5 | exact hS.s6) rfl ?_
  refine q_invokevirtual (pc := 22) (d' := d - 1) (mc' := 0) (ms' := 0) (As := []) (TX4, 4) cl_X6_45 dX6_reset_22 rfl rfl (by first | assumption | exact hS.o | exact hS.s0 | exact hS.s1 | exact hS.s2 | exact hS.s3 | exact hS.s4 | exact hS.s5 | exact hS.s6) rfl (by omega) rfl 0 0 (Nat.le_refl 0) (Nat.le_refl 0) ?_
  refine c_X4_empty hS.h1 (fun w3 hs3 hT3 => ?_)
  have hS := hS.set1 hs3 hT3
  refine q_pop (pc := 25) rfl dX6_reset_25 ?_
  refine q_aload_n (pc := 26) dX6_reset_26 rfl rfl ?_
  refine q_getfield (pc := 27) gf_X6_23 dX6_reset_27 (by first | assumption | exact hS.o | exact hS.s0 | exact hS.s1 | exact hS.s2 | exact hS.s3 | exact hS.s4 | exact hS.s5 | exact hS.s6) rfl ?_
  refine q_invokevirtual (pc := 30) (d' := d - 1) (mc' := 0) (ms' := 0) (As := []) (TX4, 4) cl_X6_45 dX6_reset_30 rfl rfl (by first | assumption | exact hS.o | exact hS.s0 | exact hS.s1 | exact hS.s2 | exact hS.s3 | exact hS.s4 | exact hS.s5 | exact hS.s6) rfl (by omega) rfl 0 0 (Nat.le_refl 0) (Nat.le_refl 0) ?_
  refine c_X4_empty hS.h2 (fun w4 hs4 hT4 => ?_)
  have hS := hS.set2 hs4 hT4
  refine q_pop (pc := 33) rfl dX6_reset_33 ?_
  refine q_aload_n (pc := 34) dX6_reset_34 rfl rfl ?_
  refine q_getfield (pc := 35) gf_X6_26 dX6_reset_35 (by first | assumption | exact hS.o | exact hS.s0 | exact hS.s1 | exact hS.s2 | exact hS.s3 | exact hS.s4 | exact hS.s5 | exact hS.s6) rfl ?_
  refine q_invokevirtual (pc := 38) (d' := d - 1) (mc' := 0) (ms' := 0) (As := []) (TX4, 4) cl_X6_45 dX6_reset_38 rfl rfl (by first | assumption | exact hS.o | exact hS.s0 | exact hS.s1 | exact hS.s2 | exact hS.s3 | exact hS.s4 | exact hS.s5 | exact hS.s6) rfl (by omega) rfl 0 0 (Nat.le_refl 0) (Nat.le_refl 0) ?_
  refine c_X4_empty hS.h3 (fun w5 hs5 hT5 => ?_)
  have hS := hS.set3 hs5 hT5
  refine q_pop (pc := 41) rfl dX6_reset_41 ?_
  refine q_aload_n (pc := 42) dX6_reset_42 rfl rfl ?_
  refine q_getfield (pc := 43) gf_X6_29 dX6_reset_43 (by first | assumption | exact hS.o | exact hS.s0 | exact hS.s1 | exact hS.s2 | exact hS.s3 | exact hS.s4 | exact hS.s5 | exact hS.s6) rfl ?_
  refine q_invokevirtual (pc := 46) (d' := d - 1) (mc' := 0) (ms' := 0) (As := []) (TX4, 4) cl_X6_45 dX6_reset_46 rfl rfl (by first | assumption | exact hS.o | exact hS.s0 | exact hS.s1 | exact hS.s2 | exact hS.s3 | exact hS.s4 | exact hS.s5 | exact hS.s6) rfl (by omega) rfl 0 0 (Nat.le_refl 0) (Nat.le_refl 0) ?_
  refine c_X4_empty hS.h4 (fun w6 hs6 hT6 => ?_)
  have hS := hS.set4 hs6 hT6
  refine q_pop (pc := 49) rfl dX6_reset_49 ?_
  refine q_aload_n (pc := 50) dX6_reset_50 rfl rfl ?_
  refine q_getfield (pc := 51) gf_X6_32 dX6_reset_51 (by first | assumption | exact hS.o | exact hS.s0 | exact hS.s1 | exact hS.s2 | exact hS.s3 | exact hS.s4 | exact hS.s5 | exact hS.s6) rfl ?_
  refine q_invokevirtual (pc := 54) (d' := d - 1) (mc' := 0) (ms' := 0) (As := []) (TX4, 4) cl_X6_45 dX6_reset_54 rfl rfl (by first | assumption | exact hS.o | exact hS.s0 | exact hS.s1 | exact hS.s2 | exact hS.s3 | exact hS.s4 | exact hS.s5 | exact hS.s6) rfl (by omega) rfl 0 0 (Nat.le_refl 0) (Nat.le_refl 0) ?_
  refine c_X4_empty hS.h5 (fun w7 hs7 hT7 => ?_)
  have hS := hS.set5 hs7 hT7
  refine q_pop (pc := 57) rfl dX6_reset_57 ?_
  refine q_aload_n (pc := 58) dX6_reset_58 rfl rfl ?_
  refine q_getfield (pc := 59) gf_X6_35 dX6_reset_59 (by first | assumption | exact hS.o | exact hS.s0 | exact hS.s1 | exact hS.s2 | exact hS.s3 | exact hS.s4 | exact hS.s5 | exact hS.s6) rfl ?_
  refine q_invokevirtual (pc := 62) (d' := d - 1) (mc' := 0) (ms' := 0) (As := []) (TX4, 4) cl_X6_45 dX6_reset_62 rfl rfl (by first | assumption | exact hS.o | exact hS.s0 | exact hS.s1 | exact hS.s2 | exact hS.s3 | exact hS.s4 | exact hS.s5 | exact hS.s6) rfl (by omega) rfl 0 0 (Nat.le_refl 0) (Nat.le_refl 0) ?_
  refine c_X4_empty hS.h6 (fun w8 hs8 hT8 => ?_)
  have hS := hS.set6 hs8 hT8
  refine q_pop (pc := 65) rfl dX6_reset_65 ?_
  refine q_return (pc := 66) dX6_reset_66 rfl ?_
  exact k _ (((((((((zSame.up (by omega)).tr (zSame.up (by omega))).tr (hs2.wide (by omega) (by omega))).tr (hs3.wide (by omega) (by omega))).tr (hs4.wide (by omega) (by omega))).tr (hs5.wide (by omega) (by omega))).tr (hs6.wide (by omega) (by omega))).tr (hs7.wide (by omega) (by omega))).tr (hs8.wide (by omega) (by omega))) (fun P => zS7.sto (N := zempty v) hS (fun c a b => by simp [zempty] at b; omega) (fun s a b => by simp [zempty] at b; omega) (fun s a b => by simp [zempty] at b; omega) (fun i j a b => by simp [zempty] at b; omega) (fun i j a b => by simp [zempty] at b; omega) (fun i j a b => by simp [zempty] at b; omega) (fun i a b => by omega))
theorem zcpy_in {f0 f1 : Int → Int} {n j : Int} (h : 0 ≤ j ∧ j < n) : zcpy f0 f1 0 0 n j = f0 j := by simp only [zcpy]; rw [if_pos (by omega)]; congr 1; omega
set_option maxRecDepth 100000 in
set_option maxHeartbeats 4000000 in
theorem c_X6_copyFrom {b2 : Nat} (hd : 2 ≤ d) (hS : zShp g w b) (hT : zSto g w b2 N u P) (hO : zOK N) (hu : 0 ≤ u ∧ u ≤ 8) (hb : b + 15 ≤ b2 ∨ b2 + 15 ≤ b) (k : ∀ w', zSame w w' b 15 → zSto g w' b N u P → K none w') : zCall g d 0 0 mX6_copyFrom [zR g b, zR g b2] w K := by
  obtain ⟨a3, a4, n0, n1, n2, n3, n4, n5, n6, C0, C1, C2, C3, C4, C5, C6, hS⟩ := hS.s7
  obtain ⟨D0, D1, D2, D3, D4, D5, D6, hT, r0, r1, r2, r3, r4, r5, r6⟩ := hT.s7
  obtain ⟨hh, -⟩ := hO
  refine zenter [some _, some _] pn_X6 rfl (Nat.le_of_ble_eq_true rfl) ?_
  refine q_aload_n (pc := 0) dX6_copyFrom_0 rfl rfl ?_
  refine q_ifnonnull (pc := 1) 5 dX6_copyFrom_1 rfl ?_
  refine q_aload_n (pc := 5) dX6_copyFrom_5 rfl rfl ?_
  refine q_aload_n (pc := 6) dX6_copyFrom_6 rfl rfl ?_
  refine q_getfield (pc := 7) gf_X6_38 dX6_copyFrom_7 (by first | assumption | exact hS.o | exact hS.s0 | exact hS.s1 | exact hS.s2 | exact hS.s3 | exact hS.s4 | exact hS.s5 | exact hS.s6 | exact hT.o | exact hT.s0 | exact hT.s1 | exact hT.s2 | exact hT.s3 | exact hT.s4 | exact hT.s5 | exact hT.s6) rfl ?_
  refine q_putfield2 (pc := 10) [_, _, _, _, _, _, _, _, _] pf_X6_38 dX6_copyFrom_10 (by first | assumption | exact hS.o | exact hS.s0 | exact hS.s1 | exact hS.s2 | exact hS.s3 | exact hS.s4 | exact hS.s5 | exact hS.s6 | exact hT.o | exact hT.s0 | exact hT.s1 | exact hT.s2 | exact hT.s3 | exact hT.s4 | exact hT.s5 | exact hT.s6) rfl rfl (Nat.le_of_ble_eq_true rfl) rfl ?_
  have hS := hS.wa3 (m := N 3)
  have hT := hT.keep (zSame.up (k := b) (e := zO5 g b (N 3) a4) (b := b) (len := 1) (by omega)) (by omega)
  refine q_aload_n (pc := 13) dX6_copyFrom_13 rfl rfl ?_
  refine q_aload_n (pc := 14) dX6_copyFrom_14 rfl rfl ?_
  refine q_getfield (pc := 15) gf_X6_42 dX6_copyFrom_15 (by first | assumption | exact hS.o | exact hS.s0 | exact hS.s1 | exact hS.s2 | exact hS.s3 | exact hS.s4 | exact hS.s5 | exact hS.s6 | exact hT.o | exact hT.s0 | exact hT.s1 | exact hT.s2 | exact hT.s3 | exact hT.s4 | exact hT.s5 | exact hT.s6) rfl ?_
  refine q_putfield2 (pc := 18) [_, _, _, _, _, _, _, _, _] pf_X6_42 dX6_copyFrom_18 (by first | assumption | exact hS.o | exact hS.s0 | exact hS.s1 | exact hS.s2 | exact hS.s3 | exact hS.s4 | exact hS.s5 | exact hS.s6 | exact hT.o | exact hT.s0 | exact hT.s1 | exact hT.s2 | exact hT.s3 | exact hT.s4 | exact hT.s5 | exact hT.s6) rfl rfl (Nat.le_of_ble_eq_true rfl) rfl ?_
  have hS := hS.wa4 (m := N 4)
  have hT := hT.keep (zSame.up (k := b) (e := zO5 g b (N 3) (N 4)) (b := b) (len := 1) (by omega)) (by omega)
  refine q_aload_n (pc := 21) dX6_copyFrom_21 rfl rfl ?_
  refine q_getfield (pc := 22) gf_X6_16 dX6_copyFrom_22 (by first | assumption | exact hS.o | exact hS.s0 | exact hS.s1 | exact hS.s2 | exact hS.s3 | exact hS.s4 | exact hS.s5 | exact hS.s6 | exact hT.o | exact hT.s0 | exact hT.s1 | exact hT.s2 | exact hT.s3 | exact hT.s4 | exact hT.s5 | exact hT.s6) rfl ?_
  refine q_aload_n (pc := 25) dX6_copyFrom_25 rfl rfl ?_
  refine q_getfield (pc := 26) gf_X6_16 dX6_copyFrom_26 (by first | assumption | exact hS.o | exact hS.s0 | exact hS.s1 | exact hS.s2 | exact hS.s3 | exact hS.s4 | exact hS.s5 | exact hS.s6 | exact hT.o | exact hT.s0 | exact hT.s1 | exact hT.s2 | exact hT.s3 | exact hT.s4 | exact hT.s5 | exact hT.s6) rfl ?_
  refine q_invokevirtual (pc := 29) (d' := d - 1) (mc' := 0) (ms' := 0) (As := [_]) (TX4, 4) cl_X6_49 dX6_copyFrom_29 rfl rfl (by first | assumption | exact hS.o | exact hS.s0 | exact hS.s1 | exact hS.s2 | exact hS.s3 | exact hS.s4 | exact hS.s5 | exact hS.s6 | exact hT.o | exact hT.s0 | exact hT.s1 | exact hT.s2 | exact hT.s3 | exact hT.s4 | exact hT.s5 | exact hT.s6) rfl (by omega) rfl 0 0 (Nat.le_refl 0) (Nat.le_refl 0) ?_
  refine c_X4_copyFrom (by omega) hS.h0 (by omega) hT.h0 (by omega) (fun w2 hs2 hU2 => ?_)
  have hS := hS.set0 hs2 hU2
  have hT := hT.keep hs2 (by omega)
  refine q_aload_n (pc := 32) dX6_copyFrom_32 rfl rfl ?_
  refine q_getfield (pc := 33) gf_X6_20 dX6_copyFrom_33 (by first | assumption | exact hS.o | exact hS.s0 | exact hS.s1 | exact hS.s2 | exact hS.s3 | exact hS.s4 | exact hS.s5 | exact hS.s6 | exact hT.o | exact hT.s0 | exact hT.s1 | exact hT.s2 | exact hT.s3 | exact hT.s4 | exact hT.s5 | exact hT.s6) rfl ?_
  refine q_aload_n (pc := 36) dX6_copyFrom_36 rfl rfl ?_
  refine q_getfield (pc := 37) gf_X6_20 dX6_copyFrom_37 (by first | assumption | exact hS.o | exact hS.s0 | exact hS.s1 | exact hS.s2 | exact hS.s3 | exact hS.s4 | exact hS.s5 | exact hS.s6 | exact hT.o | exact hT.s0 | exact hT.s1 | exact hT.s2 | exact hT.s3 | exact hT.s4 | exact hT.s5 | exact hT.s6) rfl ?_
  refine q_invokevirtual (pc := 40) (d' := d - 1) (mc' := 0) (ms' := 0) (As := [_]) (TX4, 4) cl_X6_49 dX6_copyFrom_40 rfl rfl (by first | assumption | exact hS.o | exact hS.s0 | exact hS.s1 | exact hS.s2 | exact hS.s3 | exact hS.s4 | exact hS.s5 | exact hS.s6 | exact hT.o | exact hT.s0 | exact hT.s1 | exact hT.s2 | exact hT.s3 | exact hT.s4 | exact hT.s5 | exact hT.s6) rfl (by omega) rfl 0 0 (Nat.le_refl 0) (Nat.le_refl 0) ?_
  refine c_X4_copyFrom (by omega) hS.h1 (by omega) hT.h1 (by omega) (fun w3 hs3 hU3 => ?_)
  have hS := hS.set1 hs3 hU3
  have hT := hT.keep hs3 (by omega)
  refine q_aload_n (pc := 43) dX6_copyFrom_43 rfl rfl ?_
  refine q_getfield (pc := 44) gf_X6_23 dX6_copyFrom_44 (by first | assumption | exact hS.o | exact hS.s0 | exact hS.s1 | exact hS.s2 | exact hS.s3 | exact hS.s4 | exact hS.s5 | exact hS.s6 | exact hT.o | exact hT.s0 | exact hT.s1 | exact hT.s2 | exact hT.s3 | exact hT.s4 | exact hT.s5 | exact hT.s6) rfl ?_
  refine q_aload_n (pc := 47) dX6_copyFrom_47 rfl rfl ?_
  refine q_getfield (pc := 48) gf_X6_23 dX6_copyFrom_48 (by first | assumption | exact hS.o | exact hS.s0 | exact hS.s1 | exact hS.s2 | exact hS.s3 | exact hS.s4 | exact hS.s5 | exact hS.s6 | exact hT.o | exact hT.s0 | exact hT.s1 | exact hT.s2 | exact hT.s3 | exact hT.s4 | exact hT.s5 | exact hT.s6) rfl ?_
  refine q_invokevirtual (pc := 51) (d' := d - 1) (mc' := 0) (ms' := 0) (As := [_]) (TX4, 4) cl_X6_49 dX6_copyFrom_51 rfl rfl (by first | assumption | exact hS.o | exact hS.s0 | exact hS.s1 | exact hS.s2 | exact hS.s3 | exact hS.s4 | exact hS.s5 | exact hS.s6 | exact hT.o | exact hT.s0 | exact hT.s1 | exact hT.s2 | exact hT.s3 | exact hT.s4 | exact hT.s5 | exact hT.s6) rfl (by omega) rfl 0 0 (Nat.le_refl 0) (Nat.le_refl 0) ?_
  refine c_X4_copyFrom (by omega) hS.h2 (by omega) hT.h2 (by omega) (fun w4 hs4 hU4 => ?_)
  have hS := hS.set2 hs4 hU4
  have hT := hT.keep hs4 (by omega)
  refine q_aload_n (pc := 54) dX6_copyFrom_54 rfl rfl ?_
  refine q_getfield (pc := 55) gf_X6_26 dX6_copyFrom_55 (by first | assumption | exact hS.o | exact hS.s0 | exact hS.s1 | exact hS.s2 | exact hS.s3 | exact hS.s4 | exact hS.s5 | exact hS.s6 | exact hT.o | exact hT.s0 | exact hT.s1 | exact hT.s2 | exact hT.s3 | exact hT.s4 | exact hT.s5 | exact hT.s6) rfl ?_
  refine q_aload_n (pc := 58) dX6_copyFrom_58 rfl rfl ?_
  refine q_getfield (pc := 59) gf_X6_26 dX6_copyFrom_59 (by first | assumption | exact hS.o | exact hS.s0 | exact hS.s1 | exact hS.s2 | exact hS.s3 | exact hS.s4 | exact hS.s5 | exact hS.s6 | exact hT.o | exact hT.s0 | exact hT.s1 | exact hT.s2 | exact hT.s3 | exact hT.s4 | exact hT.s5 | exact hT.s6) rfl ?_
  refine q_invokevirtual (pc := 62) (d' := d - 1) (mc' := 0) (ms' := 0) (As := [_]) (TX4, 4) cl_X6_49 dX6_copyFrom_62 rfl rfl (by first | assumption | exact hS.o | exact hS.s0 | exact hS.s1 | exact hS.s2 | exact hS.s3 | exact hS.s4 | exact hS.s5 | exact hS.s6 | exact hT.o | exact hT.s0 | exact hT.s1 | exact hT.s2 | exact hT.s3 | exact hT.s4 | exact hT.s5 | exact hT.s6) rfl (by omega) rfl 0 0 (Nat.le_refl 0) (Nat.le_refl 0) ?_
  refine c_X4_copyFrom (by omega) hS.h3 (by omega) hT.h3 (by omega) (fun w5 hs5 hU5 => ?_)
  have hS := hS.set3 hs5 hU5
  have hT := hT.keep hs5 (by omega)
  refine q_aload_n (pc := 65) dX6_copyFrom_65 rfl rfl ?_
  refine q_getfield (pc := 66) gf_X6_29 dX6_copyFrom_66 (by first | assumption | exact hS.o | exact hS.s0 | exact hS.s1 | exact hS.s2 | exact hS.s3 | exact hS.s4 | exact hS.s5 | exact hS.s6 | exact hT.o | exact hT.s0 | exact hT.s1 | exact hT.s2 | exact hT.s3 | exact hT.s4 | exact hT.s5 | exact hT.s6) rfl ?_
  refine q_aload_n (pc := 69) dX6_copyFrom_69 rfl rfl ?_
  refine q_getfield (pc := 70) gf_X6_29 dX6_copyFrom_70 (by first | assumption | exact hS.o | exact hS.s0 | exact hS.s1 | exact hS.s2 | exact hS.s3 | exact hS.s4 | exact hS.s5 | exact hS.s6 | exact hT.o | exact hT.s0 | exact hT.s1 | exact hT.s2 | exact hT.s3 | exact hT.s4 | exact hT.s5 | exact hT.s6) rfl ?_
  refine q_invokevirtual (pc := 73) (d' := d - 1) (mc' := 0) (ms' := 0) (As := [_]) (TX4, 4) cl_X6_49 dX6_copyFrom_73 rfl rfl (by first | assumption | exact hS.o | exact hS.s0 | exact hS.s1 | exact hS.s2 | exact hS.s3 | exact hS.s4 | exact hS.s5 | exact hS.s6 | exact hT.o | exact hT.s0 | exact hT.s1 | exact hT.s2 | exact hT.s3 | exact hT.s4 | exact hT.s5 | exact hT.s6) rfl (by omega) rfl 0 0 (Nat.le_refl 0) (Nat.le_refl 0) ?_
  refine c_X4_copyFrom (by omega) hS.h4 (by omega) hT.h4 (by omega) (fun w6 hs6 hU6 => ?_)
  have hS := hS.set4 hs6 hU6
  have hT := hT.keep hs6 (by omega)
  refine q_aload_n (pc := 76) dX6_copyFrom_76 rfl rfl ?_
  refine q_getfield (pc := 77) gf_X6_32 dX6_copyFrom_77 (by first | assumption | exact hS.o | exact hS.s0 | exact hS.s1 | exact hS.s2 | exact hS.s3 | exact hS.s4 | exact hS.s5 | exact hS.s6 | exact hT.o | exact hT.s0 | exact hT.s1 | exact hT.s2 | exact hT.s3 | exact hT.s4 | exact hT.s5 | exact hT.s6) rfl ?_
  refine q_aload_n (pc := 80) dX6_copyFrom_80 rfl rfl ?_
  refine q_getfield (pc := 81) gf_X6_32 dX6_copyFrom_81 (by first | assumption | exact hS.o | exact hS.s0 | exact hS.s1 | exact hS.s2 | exact hS.s3 | exact hS.s4 | exact hS.s5 | exact hS.s6 | exact hT.o | exact hT.s0 | exact hT.s1 | exact hT.s2 | exact hT.s3 | exact hT.s4 | exact hT.s5 | exact hT.s6) rfl ?_
  refine q_invokevirtual (pc := 84) (d' := d - 1) (mc' := 0) (ms' := 0) (As := [_]) (TX4, 4) cl_X6_49 dX6_copyFrom_84 rfl rfl (by first | assumption | exact hS.o | exact hS.s0 | exact hS.s1 | exact hS.s2 | exact hS.s3 | exact hS.s4 | exact hS.s5 | exact hS.s6 | exact hT.o | exact hT.s0 | exact hT.s1 | exact hT.s2 | exact hT.s3 | exact hT.s4 | exact hT.s5 | exact hT.s6) rfl (by omega) rfl 0 0 (Nat.le_refl 0) (Nat.le_refl 0) ?_
  refine c_X4_copyFrom (by omega) hS.h5 (by omega) hT.h5 (by omega) (fun w7 hs7 hU7 => ?_)
  have hS := hS.set5 hs7 hU7
  have hT := hT.keep hs7 (by omega)
  refine q_aload_n (pc := 87) dX6_copyFrom_87 rfl rfl ?_
  refine q_getfield (pc := 88) gf_X6_35 dX6_copyFrom_88 (by first | assumption | exact hS.o | exact hS.s0 | exact hS.s1 | exact hS.s2 | exact hS.s3 | exact hS.s4 | exact hS.s5 | exact hS.s6 | exact hT.o | exact hT.s0 | exact hT.s1 | exact hT.s2 | exact hT.s3 | exact hT.s4 | exact hT.s5 | exact hT.s6) rfl ?_
  refine q_aload_n (pc := 91) dX6_copyFrom_91 rfl rfl ?_
  refine q_getfield (pc := 92) gf_X6_35 dX6_copyFrom_92 (by first | assumption | exact hS.o | exact hS.s0 | exact hS.s1 | exact hS.s2 | exact hS.s3 | exact hS.s4 | exact hS.s5 | exact hS.s6 | exact hT.o | exact hT.s0 | exact hT.s1 | exact hT.s2 | exact hT.s3 | exact hT.s4 | exact hT.s5 | exact hT.s6) rfl ?_
  refine q_invokevirtual (pc := 95) (d' := d - 1) (mc' := 0) (ms' := 0) (As := [_]) (TX4, 4) cl_X6_49 dX6_copyFrom_95 rfl rfl (by first | assumption | exact hS.o | exact hS.s0 | exact hS.s1 | exact hS.s2 | exact hS.s3 | exact hS.s4 | exact hS.s5 | exact hS.s6 | exact hT.o | exact hT.s0 | exact hT.s1 | exact hT.s2 | exact hT.s3 | exact hT.s4 | exact hT.s5 | exact hT.s6) rfl (by omega) rfl 0 0 (Nat.le_refl 0) (Nat.le_refl 0) ?_
  refine c_X4_copyFrom (by omega) hS.h6 (by omega) hT.h6 (by omega) (fun w8 hs8 hU8 => ?_)
  have hS := hS.set6 hs8 hU8
  have hT := hT.keep hs8 (by omega)
  refine q_return (pc := 98) dX6_copyFrom_98 rfl ?_
  refine k _ (((((((((zSame.up (by omega)).tr (zSame.up (by omega))).tr (hs2.wide (by omega) (by omega))).tr (hs3.wide (by omega) (by omega))).tr (hs4.wide (by omega) (by omega))).tr (hs5.wide (by omega) (by omega))).tr (hs6.wide (by omega) (by omega))).tr (hs7.wide (by omega) (by omega))).tr (hs8.wide (by omega) (by omega))) (zS7.sto (N := N) hS (fun c a b => ?_) (fun s a b => ?_) (fun s a b => ?_) (fun i j a b a2 b2 => ?_) (fun i j a b a2 b2 => ?_) (fun i j a b a2 b2 => ?_) (fun i a b => ?_))
  · rw [zcpy_in (by omega), zcpy_in (by omega)]; exact ⟨(r0 c a b).1, (r0 c a b).2.1, fun r a2 b2 => by rw [zcpy_in (by omega)]; exact (r0 c a b).2.2 r a2 b2⟩
  · rw [zcpy_in (by omega), zcpy_in (by omega)]; exact r1 s a b
  · rw [zcpy_in (by omega), zcpy_in (by omega), zcpy_in (by omega)]; exact r2 s a b
  · rw [zcpy_in (by omega)]; exact r3 i j a b a2 b2
  · rw [zcpy_in (by omega)]; exact r4 i j a b a2 b2
  · rw [zcpy_in (by omega)]; exact r5 i j a b a2 b2
  · obtain ⟨q1, q2, q3, q4⟩ := r6 i a b
    rw [zcpy_in (by omega), zcpy_in (by omega)]
    refine ⟨q1, q2, fun c2 a3 b3 => ?_, fun k2 a3 b3 => ?_⟩
    · rw [zcpy_in (by omega), zcpy_in (by omega)]; exact ⟨(q3 c2 a3 b3).1, (q3 c2 a3 b3).2.1, fun r a4 b4 => by rw [zcpy_in (by omega)]; exact (q3 c2 a3 b3).2.2 r a4 b4⟩
    · rw [zcpy_in (by omega), zcpy_in (by omega), zcpy_in (by omega)]; exact q4 k2 a3 b3
end X6E
