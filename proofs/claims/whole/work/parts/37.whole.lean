/-! THE WHOLE STATE, class and reference alike: ((N, u, P), (text, its length), refused, (above, below), (images, kept, kept undos, kept pasts)); what each call answers and leaves -/
abbrev zSt : Type := ((Int → Int) × Int × (Int → Int)) × ((Int → Int) × Int) × (Int → Int) × (Int × Int) × ((Int → Int) × (Int → Int) × (Int → Int) × (Int → Int))
abbrev sNP (S : zSt) (N : Int → Int) (u : Int) (P : Int → Int) : zSt := ((N, u, P), S.2)
abbrev sN0 (S : zSt) (N : Int → Int) (u : Int) : zSt := ((N, u, S.1.2.2), S.2)
abbrev sN (S : zSt) (N : Int → Int) : zSt := ((N, S.1.2), S.2)
abbrev sMv (S : zSt) (N : Int → Int) : zSt := ((N, zru S.1.2.1, zrP S.1.1 S.1.2.1 S.1.2.2), S.2)
abbrev sT (S : zSt) (T : Int → Int) (len : Int) : zSt := (S.1, (T, len), S.2.2)
abbrev sR (S : zSt) (i : Int) : zSt := (S.1, S.2.1, zfu S.2.2.1 i (S.2.2.1 i + 1), S.2.2.2)
abbrev sF (S : zSt) (a b : Int) : zSt := (S.1, S.2.1, S.2.2.1, (a, b), S.2.2.2.2)
abbrev zbad (S : zSt) : Int × zSt := (-2, sR S 0)
abbrev zno (S : zSt) : Int × zSt := (-3, sR S 1)
abbrev zfull (S : zSt) : Int × zSt := (-4, sR S 2)
def zimN (S : zSt) (i : Int) : Int → Int := fun j => S.2.2.2.2.1 (168 * i + j)
def zimP (S : zSt) (i : Int) : Int → Int := fun j => S.2.2.2.2.2.2.2 (480 * i + j)
/-- what holds of every whole state -/
def zOKS (S : zSt) : Prop := zOKu S.1.1 S.1.2.1 S.1.2.2 ∧ zTx S.2.1.1 S.2.1.2 ∧ ∀ i, 0 ≤ i → i < 2 → (S.2.2.2.2.2.1 i = 0 ∨ S.2.2.2.2.2.1 i = 1) ∧ (S.2.2.2.2.2.1 i = 1 → zOKu (zimN S i) (S.2.2.2.2.2.2.1 i) (zimP S i))
abbrev zObj (g : zG) (S : zSt) : zE := .inl (6, [zR g 1, zR g 16, zR g 31, zR g 46, zR g 61, zR g 63, zR g 64, zR g 70, zI (S.2.2.2.2.2.1 0), zI (S.2.2.2.2.2.1 1), zJ S.2.2.2.1.1, zJ S.2.2.2.1.2, zI (S.2.2.1 0), zI (S.2.2.1 1), zI (S.2.2.1 2)])
def zRdx (g : zG) (w : zWd) (len : Int) : Prop := ∃ nx st tk nm, w.1 61 = some (zRd g 61 46 len nx st tk nm) ∧ zR32 nm
def zHlp (g : zG) (w : zWd) : Prop := w.1 63 = some (.inl (1, [zR g 1])) ∧ w.1 64 = some (.inl (0, [zR g 1, zR g 65, zR g 66, zR g 67, zR g 68, zR g 69])) ∧ (∃ f, w.1 65 = some (.inr (false, 41, f))) ∧ (∃ f, w.1 66 = some (.inr (false, 24, f))) ∧ (∃ f, w.1 67 = some (.inr (false, 4, f))) ∧ (∃ f, w.1 68 = some (.inr (false, 6, f))) ∧ (∃ f, w.1 69 = some (.inr (false, 6, f))) ∧ w.1 70 = some (.inl (4, [zR g 1, zR g 71])) ∧ (∃ f, w.1 71 = some (.inr (false, 6, f)))
/-- how the class holds it -/
def zCl (g : zG) (w : zWd) (S : zSt) : Prop := w.1 0 = some (zObj g S) ∧ zSto g w 1 S.1.1 S.1.2.1 S.1.2.2 ∧ zShp g w 16 ∧ zShp g w 31 ∧ zShp g w 46 ∧ (S.2.2.2.2.2.1 0 = 1 → zSto g w 16 (zimN S 0) (S.2.2.2.2.2.2.1 0) (zimP S 0)) ∧ (S.2.2.2.2.2.1 1 = 1 → zSto g w 31 (zimN S 1) (S.2.2.2.2.2.2.1 1) (zimP S 1)) ∧ zRdx g w S.2.1.2 ∧ w.1 62 = some (.inr (false, 150, S.2.1.1)) ∧ zHlp g w
section ZCL
variable {g : zG} {w w' : zWd} {S : zSt} {K : Option Value → zWd → Prop}
theorem zRdx.keep {len : Int} (h : zRdx g w len) {b' n : Nat} (hs : zSame w w' b' n) (ho : b' + n ≤ 61 ∨ 62 ≤ b') : zRdx g w' len := by
  obtain ⟨a, b, c, e, h1, h2⟩ := h
  exact ⟨a, b, c, e, by rw [hs.2 _ (by omega)]; exact h1, h2⟩
theorem zHlp.keep (h : zHlp g w) {b' n : Nat} (hs : zSame w w' b' n) (ho : b' + n ≤ 63 ∨ 72 ≤ b') : zHlp g w' := by
  obtain ⟨h1, h2, ⟨f3, h3⟩, ⟨f4, h4⟩, ⟨f5, h5⟩, ⟨f6, h6⟩, ⟨f7, h7⟩, h8, f9, h9⟩ := h
  exact ⟨by rw [hs.2 _ (by omega)]; exact h1, by rw [hs.2 _ (by omega)]; exact h2, ⟨f3, by rw [hs.2 _ (by omega)]; exact h3⟩, ⟨f4, by rw [hs.2 _ (by omega)]; exact h4⟩, ⟨f5, by rw [hs.2 _ (by omega)]; exact h5⟩, ⟨f6, by rw [hs.2 _ (by omega)]; exact h6⟩, ⟨f7, by rw [hs.2 _ (by omega)]; exact h7⟩, by rw [hs.2 _ (by omega)]; exact h8, f9, by rw [hs.2 _ (by omega)]; exact h9⟩
theorem zCl.keep (h : zCl g w S) {b' n : Nat} (hs : zSame w w' b' n) (ho : 72 ≤ b') : zCl g w' S := by
  obtain ⟨h1, h2, h3, h4, h5, h6, h7, h8, h9, h10⟩ := h
  exact ⟨by rw [hs.2 _ (by omega)]; exact h1, h2.keep hs (by omega), h3.keep hs (by omega), h4.keep hs (by omega), h5.keep hs (by omega), fun z => (h6 z).keep hs (by omega), fun z => (h7 z).keep hs (by omega), h8.keep hs (by omega), by rw [hs.2 _ (by omega)]; exact h9, h10.keep hs (by omega)⟩
theorem zCl.now (h : zCl g w S) {N P : Int → Int} {u : Int} (hs : zSame w w' 1 15) (hN : zSto g w' 1 N u P) : zCl g w' (sNP S N u P) := by
  obtain ⟨h1, h2, h3, h4, h5, h6, h7, h8, h9, h10⟩ := h
  exact ⟨by rw [hs.2 _ (by omega)]; exact h1, hN, h3.keep hs (by omega), h4.keep hs (by omega), h5.keep hs (by omega), fun z => (h6 z).keep hs (by omega), fun z => (h7 z).keep hs (by omega), h8.keep hs (by omega), by rw [hs.2 _ (by omega)]; exact h9, h10.keep hs (by omega)⟩
theorem zCl.ob (h : zCl g w S) {R : Int → Int} {a b : Int} {e : zE} (he : e = zObj g (S.1, S.2.1, R, (a, b), S.2.2.2.2)) : zCl g (zup w 0 e) (S.1, S.2.1, R, (a, b), S.2.2.2.2) := by
  subst he
  have hs : zSame w (zup w 0 (zObj g (S.1, S.2.1, R, (a, b), S.2.2.2.2))) 0 1 := zSame.up (by omega)
  obtain ⟨h1, h2, h3, h4, h5, h6, h7, h8, h9, h10⟩ := h
  exact ⟨by simp only [zup]; rw [if_pos trivial], h2.keep hs (by omega), h3.keep hs (by omega), h4.keep hs (by omega), h5.keep hs (by omega), fun z => (h6 z).keep hs (by omega), fun z => (h7 z).keep hs (by omega), h8.keep hs (by omega), by rw [hs.2 _ (by omega)]; exact h9, h10.keep hs (by omega)⟩
theorem zCl.txt (h : zCl g w S) {T : Int → Int} {len : Int} (hs : zSame w w' 61 2) (hR : zRdx g w' len) (hT : w'.1 62 = some (.inr (false, 150, T))) : zCl g w' (sT S T len) := by
  obtain ⟨h1, h2, h3, h4, h5, h6, h7, h8, h9, h10⟩ := h
  exact ⟨by rw [hs.2 _ (by omega)]; exact h1, h2.keep hs (by omega), h3.keep hs (by omega), h4.keep hs (by omega), h5.keep hs (by omega), fun z => (h6 z).keep hs (by omega), fun z => (h7 z).keep hs (by omega), hR, hT, h10.keep hs (by omega)⟩
theorem zCl.hlp (h : zCl g w S) (hs : zSame w w' 63 9) (hH : zHlp g w') : zCl g w' S := by
  obtain ⟨h1, h2, h3, h4, h5, h6, h7, h8, h9, h10⟩ := h
  exact ⟨by rw [hs.2 _ (by omega)]; exact h1, h2.keep hs (by omega), h3.keep hs (by omega), h4.keep hs (by omega), h5.keep hs (by omega), fun z => (h6 z).keep hs (by omega), fun z => (h7 z).keep hs (by omega), h8.keep hs (by omega), by rw [hs.2 _ (by omega)]; exact h9, hH⟩
theorem zgo {o : Int × zSt} {a : Int} {S' : zSt} (k : ∀ w', zSame w w' 0 72 → zCl g w' o.2 → K (some (zI o.1)) w') (e : o = (a, S')) (hs : zSame w w' 0 72) (hC : zCl g w' S') : K (some (zI a)) w' := by
  subst e; exact k _ hs hC
theorem zgoJ {o : Int × zSt} {a : Int} {S' : zSt} (k : ∀ w', zSame w w' 0 72 → zCl g w' o.2 → K (some (zJ o.1)) w') (e : o = (a, S')) (hs : zSame w w' 0 72) (hC : zCl g w' S') : K (some (zJ a)) w' := by
  subst e; exact k _ hs hC
end ZCL
section X7A
variable {g : zG} {d : Nat} {w : zWd} {K : Option Value → zWd → Prop} {S : zSt}
theorem zfu_00 {f : Int → Int} {v : Int} : zfu f 0 v 0 = v ∧ zfu f 0 v 1 = f 1 ∧ zfu f 0 v 2 = f 2 := ⟨if_pos rfl, if_neg (by omega), if_neg (by omega)⟩
theorem zfu_11 {f : Int → Int} {v : Int} : zfu f 1 v 0 = f 0 ∧ zfu f 1 v 1 = v ∧ zfu f 1 v 2 = f 2 := ⟨if_neg (by omega), if_pos rfl, if_neg (by omega)⟩
theorem zfu_22 {f : Int → Int} {v : Int} : zfu f 2 v 0 = f 0 ∧ zfu f 2 v 1 = f 1 ∧ zfu f 2 v 2 = v := ⟨if_neg (by omega), if_neg (by omega), if_pos rfl⟩
set_option maxRecDepth 100000 in
set_option maxHeartbeats 4000000 in
theorem c_X7_refusedAsBad {a : Int} (hC : zCl g w S) (k : ∀ w', zSame w w' 0 72 → zCl g w' (sR S 0) → K (some (zI a)) w') : zCall g d 0 0 mX7_refusedAsBad [zR g 0, zI a] w K := by
  have hX := hC.1
  refine zenter [some _, some _] pn_X7 rfl (Nat.le_of_ble_eq_true rfl) ?_
  refine q_aload_n (pc := 0) dX7_refusedAsBad_0 rfl rfl ?_
  refine q_dup (pc := 1) rfl dX7_refusedAsBad_1 ?_
  refine q_getfield (pc := 2) gf_X7_289 dX7_refusedAsBad_2 (by assumption) rfl ?_
  refine q_iconst (pc := 5) dX7_refusedAsBad_5 ?_
  refine q_iadd (pc := 6) dX7_refusedAsBad_6 ?_
  refine q_putfield2 (pc := 7) [_, _, _, _, _, _, _, _, _, _, _, _, _, _, _] pf_X7_289 dX7_refusedAsBad_7 (by assumption) rfl rfl (Nat.le_of_ble_eq_true rfl) rfl ?_
  refine q_iload_n (pc := 10) dX7_refusedAsBad_10 rfl ?_
  refine q_ireturn (pc := 11) dX7_refusedAsBad_11 rfl ?_
  exact k _ (zSame.up (by omega)) (hC.ob (by rw [zObj]; simp only [zfu_00.1, zfu_00.2.1, zfu_00.2.2]))
set_option maxRecDepth 100000 in
set_option maxHeartbeats 4000000 in
theorem c_X7_bad (hd : 1 ≤ d) (hC : zCl g w S) (k : ∀ w', zSame w w' 0 72 → zCl g w' (sR S 0) → K (some (zI (-2))) w') : zCall g d 0 0 mX7_bad [zR g 0] w K := by
  have hX := hC.1
  refine zenter [some _] pn_X7 rfl (Nat.le_of_ble_eq_true rfl) ?_
  refine q_aload_n (pc := 0) dX7_bad_0 rfl rfl ?_
  refine q_bipush (pc := 1) (by decide) dX7_bad_1 ?_
  refine q_invokevirtual (pc := 3) (d' := d - 1) (mc' := 0) (ms' := 0) (As := [_]) (TX7, 15) cl_X7_222 dX7_bad_3 rfl rfl (by assumption) rfl (by omega) rfl 0 0 (Nat.le_refl 0) (Nat.le_refl 0) ?_
  refine c_X7_refusedAsBad hC (fun w1 hs1 hC1 => ?_)
  refine q_ireturn (pc := 6) dX7_bad_6 rfl ?_
  exact k _ hs1 hC1
set_option maxRecDepth 100000 in
set_option maxHeartbeats 4000000 in
theorem c_X7_no (hC : zCl g w S) (k : ∀ w', zSame w w' 0 72 → zCl g w' (sR S 1) → K (some (zI (-3))) w') : zCall g d 0 0 mX7_no [zR g 0] w K := by
  have hX := hC.1
  refine zenter [some _] pn_X7 rfl (Nat.le_of_ble_eq_true rfl) ?_
  refine q_aload_n (pc := 0) dX7_no_0 rfl rfl ?_
  refine q_dup (pc := 1) rfl dX7_no_1 ?_
  refine q_getfield (pc := 2) gf_X7_292 dX7_no_2 (by assumption) rfl ?_
  refine q_iconst (pc := 5) dX7_no_5 ?_
  refine q_iadd (pc := 6) dX7_no_6 ?_
  refine q_putfield2 (pc := 7) [_, _, _, _, _, _, _, _, _, _, _, _, _, _, _] pf_X7_292 dX7_no_7 (by assumption) rfl rfl (Nat.le_of_ble_eq_true rfl) rfl ?_
  refine q_bipush (pc := 10) (by decide) dX7_no_10 ?_
  refine q_ireturn (pc := 12) dX7_no_12 rfl ?_
  exact k _ (zSame.up (by omega)) (hC.ob (by rw [zObj]; simp only [zfu_11.1, zfu_11.2.1, zfu_11.2.2]))
set_option maxRecDepth 100000 in
set_option maxHeartbeats 4000000 in
theorem c_X7_full (hC : zCl g w S) (k : ∀ w', zSame w w' 0 72 → zCl g w' (sR S 2) → K (some (zI (-4))) w') : zCall g d 0 0 mX7_full [zR g 0] w K := by
  have hX := hC.1
  refine zenter [some _] pn_X7 rfl (Nat.le_of_ble_eq_true rfl) ?_
  refine q_aload_n (pc := 0) dX7_full_0 rfl rfl ?_
  refine q_dup (pc := 1) rfl dX7_full_1 ?_
  refine q_getfield (pc := 2) gf_X7_295 dX7_full_2 (by assumption) rfl ?_
  refine q_iconst (pc := 5) dX7_full_5 ?_
  refine q_iadd (pc := 6) dX7_full_6 ?_
  refine q_putfield2 (pc := 7) [_, _, _, _, _, _, _, _, _, _, _, _, _, _, _] pf_X7_295 dX7_full_7 (by assumption) rfl rfl (Nat.le_of_ble_eq_true rfl) rfl ?_
  refine q_bipush (pc := 10) (by decide) dX7_full_10 ?_
  refine q_ireturn (pc := 12) dX7_full_12 rfl ?_
  exact k _ (zSame.up (by omega)) (hC.ob (by rw [zObj]; simp only [zfu_22.1, zfu_22.2.1, zfu_22.2.2]))
variable {b : Nat} {N P : Int → Int} {u : Int}
theorem s_hold0 {c : Int} (hS : zSto g w b N u P) (hH : zHd N) (hr : zR32 c) (k : K (some (zI (zb (0 ≤ c ∧ c < N 0)))) w) : zCall g d 0 0 mX4_holds [zR g (b + 1), zI c] w K := by
  obtain ⟨C0, C1, C2, C3, C4, C5, C6, hO, h0, h1, h2, h3, h4, h5, h6, -⟩ := hS
  have hh := hH
  exact c_X4_holds h0 ⟨by omega, by omega, by omega, by omega, by omega, by omega⟩ hr k
theorem s_hold1 {c : Int} (hS : zSto g w b N u P) (hH : zHd N) (hr : zR32 c) (k : K (some (zI (zb (0 ≤ c ∧ c < N 1)))) w) : zCall g d 0 0 mX4_holds [zR g (b + 3), zI c] w K := by
  obtain ⟨C0, C1, C2, C3, C4, C5, C6, hO, h0, h1, h2, h3, h4, h5, h6, -⟩ := hS
  have hh := hH
  exact c_X4_holds h1 ⟨by omega, by omega, by omega, by omega, by omega, by omega⟩ hr k
theorem s_hold2 {c : Int} (hS : zSto g w b N u P) (hH : zHd N) (hr : zR32 c) (k : K (some (zI (zb (0 ≤ c ∧ c < N 2)))) w) : zCall g d 0 0 mX4_holds [zR g (b + 5), zI c] w K := by
  obtain ⟨C0, C1, C2, C3, C4, C5, C6, hO, h0, h1, h2, h3, h4, h5, h6, -⟩ := hS
  have hh := hH
  exact c_X4_holds h2 ⟨by omega, by omega, by omega, by omega, by omega, by omega⟩ hr k
theorem s_hold3 {c : Int} (hS : zSto g w b N u P) (hH : zHd N) (hr : zR32 c) (k : K (some (zI (zb (0 ≤ c ∧ c < N 5)))) w) : zCall g d 0 0 mX4_holds [zR g (b + 7), zI c] w K := by
  obtain ⟨C0, C1, C2, C3, C4, C5, C6, hO, h0, h1, h2, h3, h4, h5, h6, -⟩ := hS
  have hh := hH
  exact c_X4_holds h3 ⟨by omega, by omega, by omega, by omega, by omega, by omega⟩ hr k
end X7A
