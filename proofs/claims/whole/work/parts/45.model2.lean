/-! the reference: its state; the methods on its rows -/
theorem zup_at {w : zWd} {k : Nat} {e : zE} : (zup w k e).1 k = some e := by simp only [zup]; rw [if_pos trivial]
theorem zup_ne {w : zWd} {k j : Nat} {e : zE} (h : j ≠ k) : (zup w k e).1 j = w.1 j := by simp only [zup]; rw [if_neg h]
def zScr (w : zWd) : Prop := (∃ f, w.1 77 = some (.inr (false, 168, f))) ∧ (∃ f, w.1 78 = some (.inr (false, 10, f))) ∧ (∃ f, w.1 79 = some (.inr (false, 41, f))) ∧ (∃ f, w.1 80 = some (.inr (false, 4, f))) ∧ (∃ f, w.1 81 = some (.inr (false, 4, f))) ∧ (∃ f, w.1 82 = some (.inr (false, 6, f))) ∧ (∃ f, w.1 83 = some (.inr (false, 168, f)))
def zMo (g : zG) (w : zWd) (S : zSt) : Prop := (∃ p0 p1 p2 p3 p4 it sm, w.1 72 = some (zMO g S.2.2.2.1.1 S.2.2.2.1.2 S.1.2.1 S.2.1.2 p0 p1 p2 p3 p4 it sm)) ∧ w.1 73 = some (.inr (false, 168, S.1.1)) ∧ w.1 74 = some (.inr (false, 3, S.2.2.1)) ∧ w.1 75 = some (.inr (false, 480, S.1.2.2)) ∧ w.1 76 = some (.inr (false, 150, S.2.1.1)) ∧ zScr w ∧ w.1 84 = some (.inr (false, 336, S.2.2.2.2.1)) ∧ w.1 85 = some (.inr (true, 2, S.2.2.2.2.2.1)) ∧ w.1 86 = some (.inr (false, 2, S.2.2.2.2.2.2.1)) ∧ w.1 87 = some (.inr (false, 960, S.2.2.2.2.2.2.2))
section ZMO
variable {g : zG} {w w' : zWd} {S : zSt} {K : Option Value → zWd → Prop}
theorem zScr.keep (h : zScr w) {b' n : Nat} (hs : zSame w w' b' n) (ho : b' + n ≤ 77 ∨ 84 ≤ b') : zScr w' := by
  obtain ⟨⟨f3, h3⟩, ⟨f4, h4⟩, ⟨f5, h5⟩, ⟨f6, h6⟩, ⟨f7, h7⟩, ⟨f8, h8⟩, f9, h9⟩ := h
  exact ⟨⟨f3, by rw [hs.2 _ (by omega)]; exact h3⟩, ⟨f4, by rw [hs.2 _ (by omega)]; exact h4⟩, ⟨f5, by rw [hs.2 _ (by omega)]; exact h5⟩, ⟨f6, by rw [hs.2 _ (by omega)]; exact h6⟩, ⟨f7, by rw [hs.2 _ (by omega)]; exact h7⟩, ⟨f8, by rw [hs.2 _ (by omega)]; exact h8⟩, f9, by rw [hs.2 _ (by omega)]; exact h9⟩
theorem zMo.keep (h : zMo g w S) {b' n : Nat} (hs : zSame w w' b' n) (ho : b' + n ≤ 72) : zMo g w' S := by
  obtain ⟨⟨p0, p1, p2, p3, p4, it, sm, h1⟩, h2, h3, h4, h5, h6, h7, h8, h9, h10⟩ := h
  exact ⟨⟨p0, p1, p2, p3, p4, it, sm, by rw [hs.2 _ (by omega)]; exact h1⟩, by rw [hs.2 _ (by omega)]; exact h2, by rw [hs.2 _ (by omega)]; exact h3, by rw [hs.2 _ (by omega)]; exact h4, by rw [hs.2 _ (by omega)]; exact h5, h6.keep hs (by omega), by rw [hs.2 _ (by omega)]; exact h7, by rw [hs.2 _ (by omega)]; exact h8, by rw [hs.2 _ (by omega)]; exact h9, by rw [hs.2 _ (by omega)]; exact h10⟩
theorem zMo.o72 (h : zMo g w S) (hs : zSame w w' 72 1) {ab be u len p0 p1 p2 p3 p4 it sm : Int} (e : w'.1 72 = some (zMO g ab be u len p0 p1 p2 p3 p4 it sm)) : zMo g w' ((S.1.1, u, S.1.2.2), (S.2.1.1, len), S.2.2.1, (ab, be), S.2.2.2.2) := by
  obtain ⟨-, h2, h3, h4, h5, h6, h7, h8, h9, h10⟩ := h
  exact ⟨⟨_, _, _, _, _, _, _, e⟩, by rw [hs.2 _ (by omega)]; exact h2, by rw [hs.2 _ (by omega)]; exact h3, by rw [hs.2 _ (by omega)]; exact h4, by rw [hs.2 _ (by omega)]; exact h5, h6.keep hs (by omega), by rw [hs.2 _ (by omega)]; exact h7, by rw [hs.2 _ (by omega)]; exact h8, by rw [hs.2 _ (by omega)]; exact h9, by rw [hs.2 _ (by omega)]; exact h10⟩
theorem zMo.o73 (h : zMo g w S) (hs : zSame w w' 73 1) {N : Int → Int} (e : w'.1 73 = some (.inr (false, 168, N))) : zMo g w' (sN S N) := by
  obtain ⟨⟨p0, p1, p2, p3, p4, it, sm, h1⟩, h2, h3, h4, h5, h6, h7, h8, h9, h10⟩ := h
  exact ⟨⟨p0, p1, p2, p3, p4, it, sm, by rw [hs.2 _ (by omega)]; exact h1⟩, e, by rw [hs.2 _ (by omega)]; exact h3, by rw [hs.2 _ (by omega)]; exact h4, by rw [hs.2 _ (by omega)]; exact h5, h6.keep hs (by omega), by rw [hs.2 _ (by omega)]; exact h7, by rw [hs.2 _ (by omega)]; exact h8, by rw [hs.2 _ (by omega)]; exact h9, by rw [hs.2 _ (by omega)]; exact h10⟩
theorem zMo.o74 (h : zMo g w S) (hs : zSame w w' 74 1) {R : Int → Int} (e : w'.1 74 = some (.inr (false, 3, R))) : zMo g w' (S.1, S.2.1, R, S.2.2.2) := by
  obtain ⟨⟨p0, p1, p2, p3, p4, it, sm, h1⟩, h2, h3, h4, h5, h6, h7, h8, h9, h10⟩ := h
  exact ⟨⟨p0, p1, p2, p3, p4, it, sm, by rw [hs.2 _ (by omega)]; exact h1⟩, by rw [hs.2 _ (by omega)]; exact h2, e, by rw [hs.2 _ (by omega)]; exact h4, by rw [hs.2 _ (by omega)]; exact h5, h6.keep hs (by omega), by rw [hs.2 _ (by omega)]; exact h7, by rw [hs.2 _ (by omega)]; exact h8, by rw [hs.2 _ (by omega)]; exact h9, by rw [hs.2 _ (by omega)]; exact h10⟩
theorem zMo.o75 (h : zMo g w S) (hs : zSame w w' 75 1) {P : Int → Int} (e : w'.1 75 = some (.inr (false, 480, P))) : zMo g w' ((S.1.1, S.1.2.1, P), S.2) := by
  obtain ⟨⟨p0, p1, p2, p3, p4, it, sm, h1⟩, h2, h3, h4, h5, h6, h7, h8, h9, h10⟩ := h
  exact ⟨⟨p0, p1, p2, p3, p4, it, sm, by rw [hs.2 _ (by omega)]; exact h1⟩, by rw [hs.2 _ (by omega)]; exact h2, by rw [hs.2 _ (by omega)]; exact h3, e, by rw [hs.2 _ (by omega)]; exact h5, h6.keep hs (by omega), by rw [hs.2 _ (by omega)]; exact h7, by rw [hs.2 _ (by omega)]; exact h8, by rw [hs.2 _ (by omega)]; exact h9, by rw [hs.2 _ (by omega)]; exact h10⟩
theorem zMo.o76 (h : zMo g w S) (hs : zSame w w' 76 1) {T : Int → Int} (e : w'.1 76 = some (.inr (false, 150, T))) : zMo g w' (sT S T S.2.1.2) := by
  obtain ⟨⟨p0, p1, p2, p3, p4, it, sm, h1⟩, h2, h3, h4, h5, h6, h7, h8, h9, h10⟩ := h
  exact ⟨⟨p0, p1, p2, p3, p4, it, sm, by rw [hs.2 _ (by omega)]; exact h1⟩, by rw [hs.2 _ (by omega)]; exact h2, by rw [hs.2 _ (by omega)]; exact h3, by rw [hs.2 _ (by omega)]; exact h4, e, h6.keep hs (by omega), by rw [hs.2 _ (by omega)]; exact h7, by rw [hs.2 _ (by omega)]; exact h8, by rw [hs.2 _ (by omega)]; exact h9, by rw [hs.2 _ (by omega)]; exact h10⟩
theorem zMo.scr (h : zMo g w S) (hs : zSame w w' 77 7) (e : zScr w') : zMo g w' S := by
  obtain ⟨⟨p0, p1, p2, p3, p4, it, sm, h1⟩, h2, h3, h4, h5, h6, h7, h8, h9, h10⟩ := h
  exact ⟨⟨p0, p1, p2, p3, p4, it, sm, by rw [hs.2 _ (by omega)]; exact h1⟩, by rw [hs.2 _ (by omega)]; exact h2, by rw [hs.2 _ (by omega)]; exact h3, by rw [hs.2 _ (by omega)]; exact h4, by rw [hs.2 _ (by omega)]; exact h5, e, by rw [hs.2 _ (by omega)]; exact h7, by rw [hs.2 _ (by omega)]; exact h8, by rw [hs.2 _ (by omega)]; exact h9, by rw [hs.2 _ (by omega)]; exact h10⟩
theorem zgm {o : Int × zSt} {a : Int} {S' : zSt} (k : ∀ w', zSame w w' 72 16 → zMo g w' o.2 → K (some (zI o.1)) w') (e : o = (a, S')) (hs : zSame w w' 72 16) (hC : zMo g w' S') : K (some (zI a)) w' := by
  subst e; exact k _ hs hC
theorem zgmJ {o : Int × zSt} {a : Int} {S' : zSt} (k : ∀ w', zSame w w' 72 16 → zMo g w' o.2 → K (some (zJ o.1)) w') (e : o = (a, S')) (hs : zSame w w' 72 16) (hC : zMo g w' S') : K (some (zJ a)) w' := by
  subst e; exact k _ hs hC
end ZMO
section X8B
variable {g : zG} {d : Nat} {w : zWd} {K : Option Value → zWd → Prop} {N R : Int → Int} {ab be u len p0 p1 p2 p3 p4 it sm : Int}
set_option maxRecDepth 100000 in
set_option maxHeartbeats 4000000 in
theorem c_X8_bad {S : zSt} (hC : zMo g w S) (k : ∀ w', zSame w w' 72 16 → zMo g w' (sR S 0) → K (some (zI (-2))) w') : zCall g d 0 0 mX8_bad [zR g 72] w K := by
  obtain ⟨⟨p0, p1, p2, p3, p4, it, sm, h72⟩, h73, h74, h75, -⟩ := id hC
  refine zenter [some _] pn_X8 rfl (Nat.le_of_ble_eq_true rfl) ?_
  refine q_aload_n (pc := 0) dX8_bad_0 rfl rfl ?_
  refine q_getfield (pc := 1) gf_X8_13 dX8_bad_1 (by assumption) rfl ?_
  refine q_iconst (pc := 4) dX8_bad_4 ?_
  refine q_dup2 (pc := 5) rfl rfl dX8_bad_5 ?_
  refine q_iaload (pc := 6) dX8_bad_6 (by assumption) (by omega) ?_
  refine q_iconst (pc := 7) dX8_bad_7 ?_
  refine q_iadd (pc := 8) dX8_bad_8 ?_
  refine q_iastore (pc := 9) dX8_bad_9 (by assumption) (by omega) ?_
  refine q_bipush (pc := 10) (by decide) dX8_bad_10 ?_
  refine q_ireturn (pc := 12) dX8_bad_12 rfl ?_
  exact k _ (zSame.up (by omega)) (hC.o74 (zSame.up (by omega)) zup_at)
set_option maxRecDepth 100000 in
set_option maxHeartbeats 4000000 in
theorem c_X8_no {S : zSt} (hC : zMo g w S) (k : ∀ w', zSame w w' 72 16 → zMo g w' (sR S 1) → K (some (zI (-3))) w') : zCall g d 0 0 mX8_no [zR g 72] w K := by
  obtain ⟨⟨p0, p1, p2, p3, p4, it, sm, h72⟩, h73, h74, h75, -⟩ := id hC
  refine zenter [some _] pn_X8 rfl (Nat.le_of_ble_eq_true rfl) ?_
  refine q_aload_n (pc := 0) dX8_no_0 rfl rfl ?_
  refine q_getfield (pc := 1) gf_X8_13 dX8_no_1 (by assumption) rfl ?_
  refine q_iconst (pc := 4) dX8_no_4 ?_
  refine q_dup2 (pc := 5) rfl rfl dX8_no_5 ?_
  refine q_iaload (pc := 6) dX8_no_6 (by assumption) (by omega) ?_
  refine q_iconst (pc := 7) dX8_no_7 ?_
  refine q_iadd (pc := 8) dX8_no_8 ?_
  refine q_iastore (pc := 9) dX8_no_9 (by assumption) (by omega) ?_
  refine q_bipush (pc := 10) (by decide) dX8_no_10 ?_
  refine q_ireturn (pc := 12) dX8_no_12 rfl ?_
  exact k _ (zSame.up (by omega)) (hC.o74 (zSame.up (by omega)) zup_at)
set_option maxRecDepth 100000 in
set_option maxHeartbeats 4000000 in
theorem c_X8_full {S : zSt} (hC : zMo g w S) (k : ∀ w', zSame w w' 72 16 → zMo g w' (sR S 2) → K (some (zI (-4))) w') : zCall g d 0 0 mX8_full [zR g 72] w K := by
  obtain ⟨⟨p0, p1, p2, p3, p4, it, sm, h72⟩, h73, h74, h75, -⟩ := id hC
  refine zenter [some _] pn_X8 rfl (Nat.le_of_ble_eq_true rfl) ?_
  refine q_aload_n (pc := 0) dX8_full_0 rfl rfl ?_
  refine q_getfield (pc := 1) gf_X8_13 dX8_full_1 (by assumption) rfl ?_
  refine q_iconst (pc := 4) dX8_full_4 ?_
  refine q_dup2 (pc := 5) rfl rfl dX8_full_5 ?_
  refine q_iaload (pc := 6) dX8_full_6 (by assumption) (by omega) ?_
  refine q_iconst (pc := 7) dX8_full_7 ?_
  refine q_iadd (pc := 8) dX8_full_8 ?_
  refine q_iastore (pc := 9) dX8_full_9 (by assumption) (by omega) ?_
  refine q_bipush (pc := 10) (by decide) dX8_full_10 ?_
  refine q_ireturn (pc := 12) dX8_full_12 rfl ?_
  exact k _ (zSame.up (by omega)) (hC.o74 (zSame.up (by omega)) zup_at)
set_option maxRecDepth 100000 in
set_option maxHeartbeats 4000000 in
theorem c_X8_isCellar {c : Int} (hd : 1 ≤ d) (h72 : w.1 72 = some (zMO g ab be u len p0 p1 p2 p3 p4 it sm)) (h73 : w.1 73 = some (.inr (false, 168, N))) (hH : zHd N) (hc : zR32 c) (k : K (some (zI (zb (0 ≤ c ∧ c < N 0)))) w) : zCall g d 0 0 mX8_isCellar [zR g 72, zI c] w K := by
  have hh := hH
  refine zenter [some _, some _] pn_X8 rfl (Nat.le_of_ble_eq_true rfl) ?_
  refine q_iload_n (pc := 0) dX8_isCellar_0 rfl ?_
  refine q_i2l (pc := 1) dX8_isCellar_1 (by omega) ?_
  refine q_lconst (pc := 2) (v := 0) dX8_isCellar_2 rfl ?_
  refine q_aload_n (pc := 3) dX8_isCellar_3 rfl rfl ?_
  refine q_getfield (pc := 4) gf_X8_7 dX8_isCellar_4 (by assumption) rfl ?_
  refine q_iconst (pc := 7) dX8_isCellar_7 ?_
  refine q_iaload (pc := 8) dX8_isCellar_8 (by assumption) (by omega) ?_
  refine q_iconst (pc := 9) dX8_isCellar_9 ?_
  refine q_isub (pc := 10) dX8_isCellar_10 ?_
  refine q_i2l (pc := 11) dX8_isCellar_11 (by omega) ?_
  refine q_invokestatic (pc := 12) (d' := d - 1) (mc' := 0) (ms' := 0) (As := [_, _, _]) cl_X8_60 dX8_isCellar_12 rfl rfl (by omega) rfl 0 0 (Nat.le_refl 0) (Nat.le_refl 0) ?_
  refine c_X8_in (by omega) (by omega) (by omega) ?_
  rw [zb_iff (show (0 ≤ c ∧ c ≤ N 0 - 1) ↔ (0 ≤ c ∧ c < N 0) by omega)]
  refine q_zreturn (pc := 15) dX8_isCellar_15 rfl ?_
  exact k
set_option maxRecDepth 100000 in
set_option maxHeartbeats 4000000 in
theorem c_X8_isSlinger {c : Int} (hd : 1 ≤ d) (h72 : w.1 72 = some (zMO g ab be u len p0 p1 p2 p3 p4 it sm)) (h73 : w.1 73 = some (.inr (false, 168, N))) (hH : zHd N) (hc : zR32 c) (k : K (some (zI (zb (0 ≤ c ∧ c < N 1)))) w) : zCall g d 0 0 mX8_isSlinger [zR g 72, zI c] w K := by
  have hh := hH
  refine zenter [some _, some _] pn_X8 rfl (Nat.le_of_ble_eq_true rfl) ?_
  refine q_iload_n (pc := 0) dX8_isSlinger_0 rfl ?_
  refine q_i2l (pc := 1) dX8_isSlinger_1 (by omega) ?_
  refine q_lconst (pc := 2) (v := 0) dX8_isSlinger_2 rfl ?_
  refine q_aload_n (pc := 3) dX8_isSlinger_3 rfl rfl ?_
  refine q_getfield (pc := 4) gf_X8_7 dX8_isSlinger_4 (by assumption) rfl ?_
  refine q_iconst (pc := 7) dX8_isSlinger_7 ?_
  refine q_iaload (pc := 8) dX8_isSlinger_8 (by assumption) (by omega) ?_
  refine q_iconst (pc := 9) dX8_isSlinger_9 ?_
  refine q_isub (pc := 10) dX8_isSlinger_10 ?_
  refine q_i2l (pc := 11) dX8_isSlinger_11 (by omega) ?_
  refine q_invokestatic (pc := 12) (d' := d - 1) (mc' := 0) (ms' := 0) (As := [_, _, _]) cl_X8_60 dX8_isSlinger_12 rfl rfl (by omega) rfl 0 0 (Nat.le_refl 0) (Nat.le_refl 0) ?_
  refine c_X8_in (by omega) (by omega) (by omega) ?_
  rw [zb_iff (show (0 ≤ c ∧ c ≤ N 1 - 1) ↔ (0 ≤ c ∧ c < N 1) by omega)]
  refine q_zreturn (pc := 15) dX8_isSlinger_15 rfl ?_
  exact k
set_option maxRecDepth 100000 in
set_option maxHeartbeats 4000000 in
theorem c_X8_isCloud {c : Int} (hd : 1 ≤ d) (h72 : w.1 72 = some (zMO g ab be u len p0 p1 p2 p3 p4 it sm)) (h73 : w.1 73 = some (.inr (false, 168, N))) (hH : zHd N) (hc : zR32 c) (k : K (some (zI (zb (0 ≤ c ∧ c < N 2)))) w) : zCall g d 0 0 mX8_isCloud [zR g 72, zI c] w K := by
  have hh := hH
  refine zenter [some _, some _] pn_X8 rfl (Nat.le_of_ble_eq_true rfl) ?_
  refine q_iload_n (pc := 0) dX8_isCloud_0 rfl ?_
  refine q_i2l (pc := 1) dX8_isCloud_1 (by omega) ?_
  refine q_lconst (pc := 2) (v := 0) dX8_isCloud_2 rfl ?_
  refine q_aload_n (pc := 3) dX8_isCloud_3 rfl rfl ?_
  refine q_getfield (pc := 4) gf_X8_7 dX8_isCloud_4 (by assumption) rfl ?_
  refine q_iconst (pc := 7) dX8_isCloud_7 ?_
  refine q_iaload (pc := 8) dX8_isCloud_8 (by assumption) (by omega) ?_
  refine q_iconst (pc := 9) dX8_isCloud_9 ?_
  refine q_isub (pc := 10) dX8_isCloud_10 ?_
  refine q_i2l (pc := 11) dX8_isCloud_11 (by omega) ?_
  refine q_invokestatic (pc := 12) (d' := d - 1) (mc' := 0) (ms' := 0) (As := [_, _, _]) cl_X8_60 dX8_isCloud_12 rfl rfl (by omega) rfl 0 0 (Nat.le_refl 0) (Nat.le_refl 0) ?_
  refine c_X8_in (by omega) (by omega) (by omega) ?_
  rw [zb_iff (show (0 ≤ c ∧ c ≤ N 2 - 1) ↔ (0 ≤ c ∧ c < N 2) by omega)]
  refine q_zreturn (pc := 15) dX8_isCloud_15 rfl ?_
  exact k
set_option maxRecDepth 100000 in
set_option maxHeartbeats 4000000 in
theorem c_X8_farOf {s r v : Int} (hd : 2 ≤ d) (h72 : w.1 72 = some (zMO g ab be u len p0 p1 p2 p3 p4 it sm)) (h73 : w.1 73 = some (.inr (false, 168, N))) (hO : zOK N) (hs : 0 ≤ s ∧ s < N 1) (hr : 1 ≤ r ∧ r ≤ 9) (hv : 0 ≤ v ∧ v ≤ 13) (k : K (some (zI (zfar (N (68 + s)) (N (74 + s)) r v))) w) : zCall g d 0 0 mX8_farOf [zR g 72, zI s, zI r, zI v] w K := by
  have hh := hO.1
  have hl := hO.2.2.2.1 s (by omega) (by omega)
  refine zenter [some _, some _, some _, some _] pn_X8 rfl (Nat.le_of_ble_eq_true rfl) ?_
  refine q_aload_n (pc := 0) dX8_farOf_0 rfl rfl ?_
  refine q_getfield (pc := 1) gf_X8_7 dX8_farOf_1 (by assumption) rfl ?_
  refine q_bipush (pc := 4) (by decide) dX8_farOf_4 ?_
  refine q_iload_n (pc := 6) dX8_farOf_6 rfl ?_
  refine q_iadd (pc := 7) dX8_farOf_7 ?_
  refine q_iaload (pc := 8) dX8_farOf_8 (by assumption) (by omega) ?_
  refine q_aload_n (pc := 9) dX8_farOf_9 rfl rfl ?_
  refine q_getfield (pc := 10) gf_X8_7 dX8_farOf_10 (by assumption) rfl ?_
  refine q_bipush (pc := 13) (by decide) dX8_farOf_13 ?_
  refine q_iload_n (pc := 15) dX8_farOf_15 rfl ?_
  refine q_iadd (pc := 16) dX8_farOf_16 ?_
  refine q_iaload (pc := 17) dX8_farOf_17 (by assumption) (by omega) ?_
  refine q_iload_n (pc := 18) dX8_farOf_18 rfl ?_
  refine q_iload_n (pc := 19) dX8_farOf_19 rfl ?_
  refine q_invokestatic (pc := 20) (d' := d - 1) (mc' := 0) (ms' := 0) (As := [_, _, _, _]) cl_X8_71 dX8_farOf_20 rfl rfl (by omega) rfl 0 0 (Nat.le_refl 0) (Nat.le_refl 0) ?_
  refine c_X8_farBy (by omega) (by omega) (by omega) (by omega) (by omega) ?_
  refine q_ireturn (pc := 23) dX8_farOf_23 rfl ?_
  exact k
set_option maxRecDepth 100000 in
set_option maxHeartbeats 4000000 in
theorem c_X8_hitsOf {s r : Int} (hd : 2 ≤ d) (h72 : w.1 72 = some (zMO g ab be u len p0 p1 p2 p3 p4 it sm)) (h73 : w.1 73 = some (.inr (false, 168, N))) (hO : zOK N) (hs : 0 ≤ s ∧ s < N 1) (hr : 1 ≤ r ∧ r ≤ 9) (k : K (some (zI (zhits (N (68 + s)) r))) w) : zCall g d 0 0 mX8_hitsOf [zR g 72, zI s, zI r] w K := by
  have hh := hO.1
  have hl := hO.2.2.2.1 s (by omega) (by omega)
  refine zenter [some _, some _, some _] pn_X8 rfl (Nat.le_of_ble_eq_true rfl) ?_
  refine q_aload_n (pc := 0) dX8_hitsOf_0 rfl rfl ?_
  refine q_getfield (pc := 1) gf_X8_7 dX8_hitsOf_1 (by assumption) rfl ?_
  refine q_bipush (pc := 4) (by decide) dX8_hitsOf_4 ?_
  refine q_iload_n (pc := 6) dX8_hitsOf_6 rfl ?_
  refine q_iadd (pc := 7) dX8_hitsOf_7 ?_
  refine q_iaload (pc := 8) dX8_hitsOf_8 (by assumption) (by omega) ?_
  refine q_iload_n (pc := 9) dX8_hitsOf_9 rfl ?_
  refine q_invokestatic (pc := 10) (d' := d - 1) (mc' := 0) (ms' := 0) (As := [_, _]) cl_X8_75 dX8_hitsOf_10 rfl rfl (by omega) rfl 0 0 (Nat.le_refl 0) (Nat.le_refl 0) ?_
  refine c_X8_hitsBy (by omega) (by omega) (by omega) ?_
  refine q_ireturn (pc := 13) dX8_hitsOf_13 rfl ?_
  exact k
set_option maxRecDepth 100000 in
set_option maxHeartbeats 4000000 in
theorem c_X8_reaches {s r q v : Int} (hd : 3 ≤ d) (h72 : w.1 72 = some (zMO g ab be u len p0 p1 p2 p3 p4 it sm)) (h73 : w.1 73 = some (.inr (false, 168, N))) (hO : zOK N) (hs : 0 ≤ s ∧ s < N 1) (hr : 1 ≤ r ∧ r ≤ 9) (hq : 0 ≤ q ∧ q < N 2) (hv : 0 ≤ v ∧ v ≤ 13) (k : K (some (zI (zb (zRch N s q r v)))) w) : zCall g d 0 0 mX8_reaches [zR g 72, zI s, zI r, zI q, zI v] w K := by
  have hh := hO.1
  have hl := hO.2.2.2.1 s (by omega) (by omega)
  have hk := hO.2.2.2.2.1 q (by omega) (by omega)
  have hf := zfar_b (kind := N (68 + s)) (a := N (74 + s)) (r := r) (v := v) (by omega) (by omega) hv
  refine zenter [some _, some _, some _, some _, some _] pn_X8 rfl (Nat.le_of_ble_eq_true rfl) ?_
  refine q_aload_n (pc := 0) dX8_reaches_0 rfl rfl ?_
  refine q_getfield (pc := 1) gf_X8_7 dX8_reaches_1 (by assumption) rfl ?_
  refine q_bipush (pc := 4) (by decide) dX8_reaches_4 ?_
  refine q_iload_n (pc := 6) dX8_reaches_6 rfl ?_
  refine q_iadd (pc := 7) dX8_reaches_7 ?_
  refine q_iaload (pc := 8) dX8_reaches_8 (by assumption) (by omega) ?_
  refine q_if_le (pc := 9) (by omega) 36 dX8_reaches_9 rfl (fun c9 => ?_) (fun c9 => ?_)
  · refine q_iconst (pc := 36) dX8_reaches_36 ?_
    exact q_zreturn0 (pc := 37) (by omega) dX8_reaches_37 rfl k
  refine q_aload_n (pc := 12) dX8_reaches_12 rfl rfl ?_
  refine q_getfield (pc := 13) gf_X8_7 dX8_reaches_13 (by assumption) rfl ?_
  refine q_bipush (pc := 16) (by decide) dX8_reaches_16 ?_
  refine q_iload_n (pc := 18) dX8_reaches_18 rfl ?_
  refine q_iadd (pc := 19) dX8_reaches_19 ?_
  refine q_iaload (pc := 20) dX8_reaches_20 (by assumption) (by omega) ?_
  refine q_aload_n (pc := 21) dX8_reaches_21 rfl rfl ?_
  refine q_iload_n (pc := 22) dX8_reaches_22 rfl ?_
  refine q_iload_n (pc := 23) dX8_reaches_23 rfl ?_
  refine q_iload (pc := 24) dX8_reaches_24 rfl ?_
  refine q_invokevirtual (pc := 26) (d' := d - 1) (mc' := 0) (ms' := 0) (As := [_, _, _]) (TX8, 26) cl_X8_79 dX8_reaches_26 rfl rfl (by assumption) rfl (by omega) rfl 0 0 (Nat.le_refl 0) (Nat.le_refl 0) ?_
  refine c_X8_farOf (by omega) h72 h73 hO hs hr hv ?_
  refine q_icmp_gt (pc := 29) (by omega) (by omega) 36 dX8_reaches_29 rfl (fun c29 => ?_) (fun c29 => ?_)
  · refine q_iconst (pc := 36) dX8_reaches_36 ?_
    exact q_zreturn0 (pc := 37) (by omega) dX8_reaches_37 rfl k
  refine q_iconst (pc := 32) dX8_reaches_32 ?_
  refine q_goto (pc := 33) 37 dX8_reaches_33 rfl ?_
  exact q_zreturn1 (pc := 37) (by omega) dX8_reaches_37 rfl k
set_option maxRecDepth 100000 in
set_option maxHeartbeats 4000000 in
theorem c_X8_isTurned {q : Int} (h72 : w.1 72 = some (zMO g ab be u len p0 p1 p2 p3 p4 it sm)) (h73 : w.1 73 = some (.inr (false, 168, N))) (hO : zOK N) (hq : 0 ≤ q ∧ q < N 2) (k : K (some (zI (zb (zTn N q)))) w) : zCall g d 0 0 mX8_isTurned [zR g 72, zI q] w K := by
  have hh := hO.1
  have hk := hO.2.2.2.2.1 q (by omega) (by omega)
  refine zenter [some _, some _] pn_X8 rfl (Nat.le_of_ble_eq_true rfl) ?_
  refine q_aload_n (pc := 0) dX8_isTurned_0 rfl rfl ?_
  refine q_getfield (pc := 1) gf_X8_7 dX8_isTurned_1 (by assumption) rfl ?_
  refine q_bipush (pc := 4) (by decide) dX8_isTurned_4 ?_
  refine q_iload_n (pc := 6) dX8_isTurned_6 rfl ?_
  refine q_iadd (pc := 7) dX8_isTurned_7 ?_
  refine q_iaload (pc := 8) dX8_isTurned_8 (by assumption) (by omega) ?_
  refine q_aload_n (pc := 9) dX8_isTurned_9 rfl rfl ?_
  refine q_getfield (pc := 10) gf_X8_7 dX8_isTurned_10 (by assumption) rfl ?_
  refine q_bipush (pc := 13) (by decide) dX8_isTurned_13 ?_
  refine q_iload_n (pc := 15) dX8_isTurned_15 rfl ?_
  refine q_iadd (pc := 16) dX8_isTurned_16 ?_
  refine q_iaload (pc := 17) dX8_isTurned_17 (by assumption) (by omega) ?_
  refine q_icmp_lt (pc := 18) (by omega) (by omega) 25 dX8_isTurned_18 rfl (fun c18 => ?_) (fun c18 => ?_)
  · refine q_iconst (pc := 25) dX8_isTurned_25 ?_
    exact q_zreturn0 (pc := 26) (by omega) dX8_isTurned_26 rfl k
  refine q_iconst (pc := 21) dX8_isTurned_21 ?_
  refine q_goto (pc := 22) 26 dX8_isTurned_22 rfl ?_
  exact q_zreturn1 (pc := 26) (by omega) dX8_isTurned_26 rfl k
theorem zfrom_1 {N : Int → Int} {c : Int} : zfrom N c 1 = zsg (fun i => N (18 + 10 * c + i)) 9 1 := rfl
set_option maxRecDepth 100000 in
set_option maxHeartbeats 4000000 in
theorem c_X8_allStones (hd : 1 ≤ d) (h72 : w.1 72 = some (zMO g ab be u len p0 p1 p2 p3 p4 it sm)) (h73 : w.1 73 = some (.inr (false, 168, N))) (hH : zHd N) (k : K (some (zI (zall N))) w) : zCall g d 0 0 mX8_allStones [zR g 72] w K := by
  have hh := hH
  have L : ∀ (q m : Nat), (m : Int) + (q : Int) = N 0 → zRuns g d mX8_allStones 0 0 4 [some (zR g 72), some (zI (zsg (fun c => zfrom N c 1) m 0)), some (zI (m : Int))] [] w K := by
    intro q
    induction q with
    | zero =>
      intro m h1
      have e : m = (N 0).toNat := by omega
      refine q_iload_n (pc := 4) dX8_allStones_4 rfl ?_
      refine q_aload_n (pc := 5) dX8_allStones_5 rfl rfl ?_
      refine q_getfield (pc := 6) gf_X8_7 dX8_allStones_6 (by assumption) rfl ?_
      refine q_iconst (pc := 9) dX8_allStones_9 ?_
      refine q_iaload (pc := 10) dX8_allStones_10 (by assumption) (by omega) ?_
      refine q_icmp_ge (pc := 11) (by omega) (by omega) 37 dX8_allStones_11 rfl (fun c11 => ?_) (fun c11 => ?_)
      · refine q_iload_n (pc := 37) dX8_allStones_37 rfl ?_
        refine q_ireturn (pc := 38) dX8_allStones_38 rfl ?_
        rw [e]; exact k
      exfalso; omega
    | succ q ih =>
      intro m h1
      have hih := ih (m + 1) (by omega)
      rw [zsg, Int.zero_add] at hih
      refine q_iload_n (pc := 4) dX8_allStones_4 rfl ?_
      refine q_aload_n (pc := 5) dX8_allStones_5 rfl rfl ?_
      refine q_getfield (pc := 6) gf_X8_7 dX8_allStones_6 (by assumption) rfl ?_
      refine q_iconst (pc := 9) dX8_allStones_9 ?_
      refine q_iaload (pc := 10) dX8_allStones_10 (by assumption) (by omega) ?_
      refine q_icmp_ge (pc := 11) (by omega) (by omega) 37 dX8_allStones_11 rfl (fun c11 => ?_) (fun c11 => ?_)
      · exfalso; omega
      refine q_iload_n (pc := 14) dX8_allStones_14 rfl ?_
      refine q_aload_n (pc := 15) dX8_allStones_15 rfl rfl ?_
      refine q_getfield (pc := 16) gf_X8_7 dX8_allStones_16 (by assumption) rfl ?_
      refine q_bipush (pc := 19) (by decide) dX8_allStones_19 ?_
      refine q_bipush (pc := 21) (by decide) dX8_allStones_21 ?_
      refine q_iload_n (pc := 23) dX8_allStones_23 rfl ?_
      refine q_imul (pc := 24) dX8_allStones_24 ?_
      refine q_iadd (pc := 25) dX8_allStones_25 ?_
      refine q_invokestatic (pc := 26) (d' := d - 1) (mc' := 0) (ms' := 0) (As := [_, _]) cl_X8_83 dX8_allStones_26 rfl rfl (by omega) rfl 0 0 (Nat.le_refl 0) (Nat.le_refl 0) ?_
      refine c_X8_stonesIn h73 (by omega) ?_
      rw [← zfrom_1]
      refine q_iadd (pc := 29) dX8_allStones_29 ?_
      refine q_istore_n (pc := 30) [some _, some _, some _] dX8_allStones_30 rfl (Nat.le_of_ble_eq_true rfl) rfl ?_
      refine q_iinc (pc := 31) [some _, some _, some _] dX8_allStones_31 rfl rfl rfl ?_
      refine q_goto (pc := 34) 4 dX8_allStones_34 rfl ?_
      exact hih
  refine zenter [some _, none, none] pn_X8 rfl (Nat.le_of_ble_eq_true rfl) ?_
  refine q_iconst (pc := 0) dX8_allStones_0 ?_
  refine q_istore_n (pc := 1) [some _, some _, none] dX8_allStones_1 rfl (Nat.le_of_ble_eq_true rfl) rfl ?_
  refine q_iconst (pc := 2) dX8_allStones_2 ?_
  refine q_istore_n (pc := 3) [some _, some _, some _] dX8_allStones_3 rfl (Nat.le_of_ble_eq_true rfl) rfl ?_
  exact L (N 0).toNat 0 (by omega)
set_option maxRecDepth 100000 in
set_option maxHeartbeats 4000000 in
theorem c_X8_passWeek {ad : Nat} (hd : 1 ≤ d) (hA : w.1 ad = some (.inr (false, 168, N))) (hO : zOK N) (k : ∀ w', zSame w w' ad 1 → w'.1 ad = some (.inr (false, 168, zweek N)) → K none w') : zCall g d 0 0 mX8_passWeek [zR g ad] w K := by
  have hh := hO.1
  have L : ∀ (q m : Nat) (w1 : zWd), (m : Int) + (q : Int) = N 0 → zSame w w1 ad 1 → w1.1 ad = some (.inr (false, 168, zweekTo N m)) → zRuns g d mX8_passWeek 0 0 2 [some (zR g ad), some (zI (m : Int))] [] w1 K := by
    intro q
    induction q with
    | zero =>
      intro m w1 h1 hs hA
      have e : m = (N 0).toNat := by omega
      have e0 := zweekTo_out (N := N) (m := m) (j := 0) (by omega) (by omega)
      have e3 := zweekTo_out (N := N) (m := m) (j := 3) (by omega) (by omega)
      refine q_iload_n (pc := 2) dX8_passWeek_2 rfl ?_
      refine q_aload_n (pc := 3) dX8_passWeek_3 rfl rfl ?_
      refine q_iconst (pc := 4) dX8_passWeek_4 ?_
      refine q_iaload (pc := 5) dX8_passWeek_5 (by assumption) (by omega) ?_
      refine q_icmp_ge (pc := 6) (by omega) (by omega) 44 dX8_passWeek_6 rfl (fun c6 => ?_) (fun c6 => ?_)
      · refine q_aload_n (pc := 44) dX8_passWeek_44 rfl rfl ?_
        refine q_iconst (pc := 45) dX8_passWeek_45 ?_
        refine q_dup2 (pc := 46) rfl rfl dX8_passWeek_46 ?_
        refine q_iaload (pc := 47) dX8_passWeek_47 (by assumption) (by omega) ?_
        refine q_iconst (pc := 48) dX8_passWeek_48 ?_
        refine q_iadd (pc := 49) dX8_passWeek_49 ?_
        refine q_iastore (pc := 50) dX8_passWeek_50 (by assumption) (by omega) ?_
        refine q_return (pc := 51) dX8_passWeek_51 rfl ?_
        refine k _ (hs.tr (zSame.up (by omega))) ?_
        rw [zup_at, e3, e]; rfl
      exfalso; omega
    | succ q ih =>
      intro m w1 h1 hs hA
      have hih := ih (m + 1)
      have e0 := zweekTo_out (N := N) (m := m) (j := 0) (by omega) (by omega)
      have e3 := zweekTo_out (N := N) (m := m) (j := 3) (by omega) (by omega)
      have e8 := zweekTo_out (N := N) (m := m) (j := 8 + (m : Int)) (by omega) (by omega)
      have e13 := zweekTo_out (N := N) (m := m) (j := 13 + (m : Int)) (by omega) (by omega)
      have hkd := hO.2.1 (m : Int) (by omega) (by omega)
      have hmb := zmelt_b (N (8 + (m : Int))) (N 3) (N (13 + (m : Int)))
      refine q_iload_n (pc := 2) dX8_passWeek_2 rfl ?_
      refine q_aload_n (pc := 3) dX8_passWeek_3 rfl rfl ?_
      refine q_iconst (pc := 4) dX8_passWeek_4 ?_
      refine q_iaload (pc := 5) dX8_passWeek_5 (by assumption) (by omega) ?_
      refine q_icmp_ge (pc := 6) (by omega) (by omega) 44 dX8_passWeek_6 rfl (fun c6 => ?_) (fun c6 => ?_)
      · exfalso; omega
      refine q_aload_n (pc := 9) dX8_passWeek_9 rfl rfl ?_
      refine q_bipush (pc := 10) (by decide) dX8_passWeek_10 ?_
      refine q_bipush (pc := 12) (by decide) dX8_passWeek_12 ?_
      refine q_iload_n (pc := 14) dX8_passWeek_14 rfl ?_
      refine q_imul (pc := 15) dX8_passWeek_15 ?_
      refine q_iadd (pc := 16) dX8_passWeek_16 ?_
      refine q_aload_n (pc := 17) dX8_passWeek_17 rfl rfl ?_
      refine q_bipush (pc := 18) (by decide) dX8_passWeek_18 ?_
      refine q_iload_n (pc := 20) dX8_passWeek_20 rfl ?_
      refine q_iadd (pc := 21) dX8_passWeek_21 ?_
      refine q_iaload (pc := 22) dX8_passWeek_22 (by assumption) (by omega) ?_
      refine q_aload_n (pc := 23) dX8_passWeek_23 rfl rfl ?_
      refine q_iconst (pc := 24) dX8_passWeek_24 ?_
      refine q_iaload (pc := 25) dX8_passWeek_25 (by assumption) (by omega) ?_
      refine q_aload_n (pc := 26) dX8_passWeek_26 rfl rfl ?_
      refine q_bipush (pc := 27) (by decide) dX8_passWeek_27 ?_
      refine q_iload_n (pc := 29) dX8_passWeek_29 rfl ?_
      refine q_iadd (pc := 30) dX8_passWeek_30 ?_
      refine q_iaload (pc := 31) dX8_passWeek_31 (by assumption) (by omega) ?_
      refine q_invokestatic (pc := 32) (d' := d - 1) (mc' := 0) (ms' := 0) (As := [_, _, _]) cl_X8_87 dX8_passWeek_32 rfl rfl (by omega) rfl 0 0 (Nat.le_refl 0) (Nat.le_refl 0) ?_
      refine c_X8_meltsBy (by omega) (by omega) (by omega) ?_
      rw [e8, e3, e13]
      refine q_invokestatic (pc := 35) (d' := d - 1) (mc' := 0) (ms' := 0) (As := [_, _, _]) cl_X8_90 dX8_passWeek_35 rfl rfl (by omega) rfl 0 0 (Nat.le_refl 0) (Nat.le_refl 0) ?_
      refine c_X8_melt hA (by omega) (by omega) (fun w2 hs2 hA2 => ?_)
      rw [zml_lose] at hA2
      refine q_iinc (pc := 38) [some _, some _] dX8_passWeek_38 rfl rfl rfl ?_
      refine q_goto (pc := 41) 2 dX8_passWeek_41 rfl ?_
      exact hih _ (by omega) (hs.tr hs2) hA2
  refine zenter [some _, none] pn_X8 rfl (Nat.le_of_ble_eq_true rfl) ?_
  refine q_iconst (pc := 0) dX8_passWeek_0 ?_
  refine q_istore_n (pc := 1) [some _, some _] dX8_passWeek_1 rfl (Nat.le_of_ble_eq_true rfl) rfl ?_
  exact L (N 0).toNat 0 _ (by omega) zSame.rf hA
set_option maxRecDepth 100000 in
set_option maxHeartbeats 4000000 in
theorem c_X8_openDoor {c : Int} (hd : 1 ≤ d) (h72 : w.1 72 = some (zMO g ab be u len p0 p1 p2 p3 p4 it sm)) (h73 : w.1 73 = some (.inr (false, 168, N))) (hO : zOK N) (hc : 0 ≤ c ∧ c < N 0) (k : ∀ w', zSame w w' 73 1 → w'.1 73 = some (.inr (false, 168, zlose N c (zcost (N (8 + c))))) → K none w') : zCall g d 0 0 mX8_openDoor [zR g 72, zI c] w K := by
  have hh := hO.1
  have hkd := hO.2.1 c (by omega) (by omega)
  have hmb := zcost_b (N (8 + c))
  refine zenter [some _, some _] pn_X8 rfl (Nat.le_of_ble_eq_true rfl) ?_
  refine q_aload_n (pc := 0) dX8_openDoor_0 rfl rfl ?_
  refine q_getfield (pc := 1) gf_X8_7 dX8_openDoor_1 (by assumption) rfl ?_
  refine q_bipush (pc := 4) (by decide) dX8_openDoor_4 ?_
  refine q_bipush (pc := 6) (by decide) dX8_openDoor_6 ?_
  refine q_iload_n (pc := 8) dX8_openDoor_8 rfl ?_
  refine q_imul (pc := 9) dX8_openDoor_9 ?_
  refine q_iadd (pc := 10) dX8_openDoor_10 ?_
  refine q_aload_n (pc := 11) dX8_openDoor_11 rfl rfl ?_
  refine q_getfield (pc := 12) gf_X8_7 dX8_openDoor_12 (by assumption) rfl ?_
  refine q_bipush (pc := 15) (by decide) dX8_openDoor_15 ?_
  refine q_iload_n (pc := 17) dX8_openDoor_17 rfl ?_
  refine q_iadd (pc := 18) dX8_openDoor_18 ?_
  refine q_iaload (pc := 19) dX8_openDoor_19 (by assumption) (by omega) ?_
  refine q_invokestatic (pc := 20) (d' := d - 1) (mc' := 0) (ms' := 0) (As := [_]) cl_X8_217 dX8_openDoor_20 rfl rfl (by omega) rfl 0 0 (Nat.le_refl 0) (Nat.le_refl 0) ?_
  refine c_X8_costBy (by omega) ?_
  refine q_invokestatic (pc := 23) (d' := d - 1) (mc' := 0) (ms' := 0) (As := [_, _, _]) cl_X8_90 dX8_openDoor_23 rfl rfl (by omega) rfl 0 0 (Nat.le_refl 0) (Nat.le_refl 0) ?_
  refine c_X8_melt h73 (by omega) (by omega) (fun w2 hs2 hA2 => ?_)
  refine q_return (pc := 26) dX8_openDoor_26 rfl ?_
  exact k _ hs2 hA2
end X8B
