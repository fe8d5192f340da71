/-! THE STATE, in the reference's numbers: N the row of 168 (what is now), u how many moments may be undone, P the moments, sixty numbers each; and how a Store of the class holds it -/
def zat (k : Int) : Int := if k < 2 then 3 + k else if k < 52 then 18 + k - 2 else if k < 56 then 80 + k - 52 else 88 + k - 56
def zundo (N P : Int → Int) (i : Int) : Int → Int := fun j => if j = 3 then P (60 * i) else if j = 4 then P (60 * i + 1) else if 18 ≤ j ∧ j < 68 then P (60 * i + (j - 16)) else if 80 ≤ j ∧ j < 84 then P (60 * i + (j - 28)) else if 88 ≤ j ∧ j < 92 then P (60 * i + (j - 32)) else N j
abbrev zHd (N : Int → Int) : Prop := (0 ≤ N 0 ∧ N 0 ≤ 5) ∧ (0 ≤ N 1 ∧ N 1 ≤ 6) ∧ (0 ≤ N 2 ∧ N 2 ≤ 4) ∧ (0 ≤ N 3 ∧ N 3 ≤ 999) ∧ (0 ≤ N 4 ∧ N 4 ≤ 9) ∧ (0 ≤ N 5 ∧ N 5 ≤ 4) ∧ (0 ≤ N 6 ∧ N 6 ≤ 6) ∧ (0 ≤ N 7 ∧ N 7 ≤ 6)
abbrev zKd (N : Int → Int) : Prop := ∀ c, 0 ≤ c → c < N 0 → (0 ≤ N (8 + c) ∧ N (8 + c) ≤ 5) ∧ (0 ≤ N (13 + c) ∧ N (13 + c) ≤ 9)
abbrev zSn (N : Int → Int) : Prop := ∀ c r, 0 ≤ c → c < 5 → 1 ≤ r → r ≤ 9 → (0 ≤ N (18 + 10 * c + r) ∧ N (18 + 10 * c + r) ≤ 99) ∧ (N 0 ≤ c → N (18 + 10 * c + r) = 0)
abbrev zSl (N : Int → Int) : Prop := ∀ s, 0 ≤ s → s < N 1 → (0 ≤ N (68 + s) ∧ N (68 + s) ≤ 5) ∧ (0 ≤ N (74 + s) ∧ N (74 + s) ≤ 9)
abbrev zCd (N : Int → Int) : Prop := ∀ k, 0 ≤ k → k < N 2 → (0 ≤ N (80 + k) ∧ N (80 + k) ≤ 30) ∧ (1 ≤ N (84 + k) ∧ N (84 + k) ≤ 40) ∧ (0 ≤ N (88 + k) ∧ N (88 + k) ≤ 40)
abbrev zRg (N : Int → Int) : Prop := ∀ i, 0 ≤ i → i < N 5 → (0 ≤ N (92 + 4 * i) ∧ N (92 + 4 * i) < N 0) ∧ (0 ≤ N (93 + 4 * i) ∧ N (93 + 4 * i) ≤ 99) ∧ (1 ≤ N (94 + 4 * i) ∧ N (94 + 4 * i) ≤ 9) ∧ (0 ≤ N (95 + 4 * i) ∧ N (95 + 4 * i) ≤ 9)
abbrev zNt (N : Int → Int) : Prop := ∀ i, 0 ≤ i → i < N 6 → (0 ≤ N (108 + 5 * i) ∧ N (108 + 5 * i) < N 0) ∧ (0 ≤ N (109 + 5 * i) ∧ N (109 + 5 * i) ≤ 9) ∧ (0 ≤ N (110 + 5 * i) ∧ N (110 + 5 * i) ≤ 99) ∧ (0 ≤ N (111 + 5 * i) ∧ N (111 + 5 * i) ≤ 4) ∧ (0 ≤ N (112 + 5 * i) ∧ N (112 + 5 * i) ≤ 4)
abbrev zFl (N : Int → Int) : Prop := ∀ i, 0 ≤ i → i < N 7 → (0 ≤ N (138 + 5 * i) ∧ N (138 + 5 * i) < N 1) ∧ (1 ≤ N (139 + 5 * i) ∧ N (139 + 5 * i) ≤ 9) ∧ (0 ≤ N (140 + 5 * i) ∧ N (140 + 5 * i) ≤ 9) ∧ (0 ≤ N (141 + 5 * i) ∧ N (141 + 5 * i) ≤ 60) ∧ (0 ≤ N (142 + 5 * i) ∧ N (142 + 5 * i) ≤ 12)
/-- what holds of every state -/
abbrev zOK (N : Int → Int) : Prop := zHd N ∧ zKd N ∧ zSn N ∧ zSl N ∧ zCd N ∧ zRg N ∧ zNt N ∧ zFl N
abbrev zOKu (N : Int → Int) (u : Int) (P : Int → Int) : Prop := zOK N ∧ (0 ≤ u ∧ u ≤ 8) ∧ ∀ i, 0 ≤ i → i < u → zOK (zundo N P i)
/-! how the sheets hold it -/
abbrev zr0 (N C : Int → Int) : Prop := ∀ c, 0 ≤ c → c < N 0 → C (c * 11 + 0) = N (8 + c) ∧ C (c * 11 + 1) = N (13 + c) ∧ ∀ r, 1 ≤ r → r ≤ 9 → C (c * 11 + (1 + r)) = N (18 + 10 * c + r)
abbrev zr1 (N C : Int → Int) : Prop := ∀ s, 0 ≤ s → s < N 1 → C (s * 2 + 0) = N (68 + s) ∧ C (s * 2 + 1) = N (74 + s)
abbrev zr2 (N C : Int → Int) : Prop := ∀ k, 0 ≤ k → k < N 2 → C (k * 3 + 0) = N (80 + k) ∧ C (k * 3 + 1) = N (84 + k) ∧ C (k * 3 + 2) = N (88 + k)
abbrev zr3 (N C : Int → Int) : Prop := ∀ i j, 0 ≤ i → i < N 5 → 0 ≤ j → j < 4 → C (i * 4 + j) = N (92 + 4 * i + j)
abbrev zr4 (N C : Int → Int) : Prop := ∀ i j, 0 ≤ i → i < N 6 → 0 ≤ j → j < 5 → C (i * 5 + j) = N (108 + 5 * i + j)
abbrev zr5 (N C : Int → Int) : Prop := ∀ i j, 0 ≤ i → i < N 7 → 0 ≤ j → j < 5 → C (i * 5 + j) = N (138 + 5 * i + j)
abbrev zr6 (N : Int → Int) (u : Int) (P C : Int → Int) : Prop := ∀ i, 0 ≤ i → i < u → C (i * 69 + 0) = P (60 * i) ∧ C (i * 69 + 1) = P (60 * i + 1) ∧
  (∀ c, 0 ≤ c → c < N 0 → C (i * 69 + (2 + c * 11)) = N (8 + c) ∧ C (i * 69 + (2 + (c * 11 + 1))) = N (13 + c) ∧ ∀ r, 1 ≤ r → r ≤ 9 → C (i * 69 + (2 + (c * 11 + (1 + r)))) = P (60 * i + (2 + 10 * c + r))) ∧
  (∀ k, 0 ≤ k → k < N 2 → C (i * 69 + (57 + k * 3)) = P (60 * i + (52 + k)) ∧ C (i * 69 + (57 + (k * 3 + 1))) = N (84 + k) ∧ C (i * 69 + (57 + (k * 3 + 2))) = P (60 * i + (56 + k)))
abbrev zSobj (g : zG) (b : Nat) (N : Int → Int) : zE := .inl (5, [zI (N 3), zI (N 4), zR g (b + 1), zR g (b + 3), zR g (b + 5), zR g (b + 7), zR g (b + 9), zR g (b + 11), zR g (b + 13)])
def zSto (g : zG) (w : zWd) (b : Nat) (N : Int → Int) (u : Int) (P : Int → Int) : Prop := ∃ C0 C1 C2 C3 C4 C5 C6 : Int → Int, w.1 b = some (zSobj g b N) ∧
  zSheet g w (b + 1) 55 5 11 (N 0) C0 ∧ zSheet g w (b + 3) 12 6 2 (N 1) C1 ∧ zSheet g w (b + 5) 12 4 3 (N 2) C2 ∧ zSheet g w (b + 7) 16 4 4 (N 5) C3 ∧ zSheet g w (b + 9) 30 6 5 (N 6) C4 ∧ zSheet g w (b + 11) 30 6 5 (N 7) C5 ∧ zSheet g w (b + 13) 552 8 69 u C6 ∧
  zr0 N C0 ∧ zr1 N C1 ∧ zr2 N C2 ∧ zr3 N C3 ∧ zr4 N C4 ∧ zr5 N C5 ∧ zr6 N u P C6
/-- a Store's shape, whatever it holds -/
def zShp (g : zG) (w : zWd) (b : Nat) : Prop := ∃ (N C0 C1 C2 C3 C4 C5 C6 : Int → Int) (u : Int), w.1 b = some (zSobj g b N) ∧
  zSheet g w (b + 1) 55 5 11 (N 0) C0 ∧ zSheet g w (b + 3) 12 6 2 (N 1) C1 ∧ zSheet g w (b + 5) 12 4 3 (N 2) C2 ∧ zSheet g w (b + 7) 16 4 4 (N 5) C3 ∧ zSheet g w (b + 9) 30 6 5 (N 6) C4 ∧ zSheet g w (b + 11) 30 6 5 (N 7) C5 ∧ zSheet g w (b + 13) 552 8 69 u C6
section ZST
variable {g : zG} {w : zWd} {b : Nat} {N P : Int → Int} {u : Int}
theorem zSto.shp (h : zSto g w b N u P) : zShp g w b := by
  obtain ⟨C0, C1, C2, C3, C4, C5, C6, hO, h0, h1, h2, h3, h4, h5, h6, -⟩ := h
  exact ⟨N, C0, C1, C2, C3, C4, C5, C6, u, hO, h0, h1, h2, h3, h4, h5, h6⟩
theorem zSto.o (h : zSto g w b N u P) : w.1 b = some (zSobj g b N) := by obtain ⟨C0, C1, C2, C3, C4, C5, C6, hO, -⟩ := h; exact hO
theorem zSto.s0 (h : zSto g w b N u P) : w.1 (b + 1) = some (.inl (3, [zI 5, zI 11, zR g (b + 1 + 1), zI (N 0)])) := by obtain ⟨C0, C1, C2, C3, C4, C5, C6, hO, h0, -⟩ := h; exact h0.1
theorem zSto.s1 (h : zSto g w b N u P) : w.1 (b + 3) = some (.inl (3, [zI 6, zI 2, zR g (b + 3 + 1), zI (N 1)])) := by obtain ⟨C0, C1, C2, C3, C4, C5, C6, hO, h0, h1, -⟩ := h; exact h1.1
theorem zSto.s2 (h : zSto g w b N u P) : w.1 (b + 5) = some (.inl (3, [zI 4, zI 3, zR g (b + 5 + 1), zI (N 2)])) := by obtain ⟨C0, C1, C2, C3, C4, C5, C6, hO, h0, h1, h2, -⟩ := h; exact h2.1
theorem zSto.s3 (h : zSto g w b N u P) : w.1 (b + 7) = some (.inl (3, [zI 4, zI 4, zR g (b + 7 + 1), zI (N 5)])) := by obtain ⟨C0, C1, C2, C3, C4, C5, C6, hO, h0, h1, h2, h3, -⟩ := h; exact h3.1
theorem zSto.s4 (h : zSto g w b N u P) : w.1 (b + 9) = some (.inl (3, [zI 6, zI 5, zR g (b + 9 + 1), zI (N 6)])) := by obtain ⟨C0, C1, C2, C3, C4, C5, C6, hO, h0, h1, h2, h3, h4, -⟩ := h; exact h4.1
theorem zSto.s5 (h : zSto g w b N u P) : w.1 (b + 11) = some (.inl (3, [zI 6, zI 5, zR g (b + 11 + 1), zI (N 7)])) := by obtain ⟨C0, C1, C2, C3, C4, C5, C6, hO, h0, h1, h2, h3, h4, h5, -⟩ := h; exact h5.1
theorem zSto.s6 (h : zSto g w b N u P) : w.1 (b + 13) = some (.inl (3, [zI 8, zI 69, zR g (b + 13 + 1), zI u])) := by obtain ⟨C0, C1, C2, C3, C4, C5, C6, hO, h0, h1, h2, h3, h4, h5, h6, -⟩ := h; exact h6.1
theorem zSto.keep (h : zSto g w b N u P) {w' : zWd} {b' len : Nat} (hs : zSame w w' b' len) (ho : b + 15 ≤ b' ∨ b' + len ≤ b) : zSto g w' b N u P := by
  obtain ⟨C0, C1, C2, C3, C4, C5, C6, hO, h0, h1, h2, h3, h4, h5, h6, hr⟩ := h
  exact ⟨C0, C1, C2, C3, C4, C5, C6, by rw [hs.2 b (by omega)]; exact hO, h0.keep hs (by omega), h1.keep hs (by omega), h2.keep hs (by omega), h3.keep hs (by omega), h4.keep hs (by omega), h5.keep hs (by omega), h6.keep hs (by omega), hr⟩
theorem zShp.keep (h : zShp g w b) {w' : zWd} {b' len : Nat} (hs : zSame w w' b' len) (ho : b + 15 ≤ b' ∨ b' + len ≤ b) : zShp g w' b := by
  obtain ⟨N, C0, C1, C2, C3, C4, C5, C6, u, hO, h0, h1, h2, h3, h4, h5, h6⟩ := h
  exact ⟨N, C0, C1, C2, C3, C4, C5, C6, u, by rw [hs.2 b (by omega)]; exact hO, h0.keep hs (by omega), h1.keep hs (by omega), h2.keep hs (by omega), h3.keep hs (by omega), h4.keep hs (by omega), h5.keep hs (by omega), h6.keep hs (by omega)⟩
end ZST
