/-! moments: what is remembered, what is undone -/
def zsh (P : Int → Int) : Int → Int := fun j => if 0 ≤ j ∧ j < 420 then P (j + 60) else P j
def zp60 (N : Int → Int) (u : Int) (P : Int → Int) : Int → Int := fun j => if 60 * u ≤ j ∧ j < 60 * u + 60 then N (zat (j - 60 * u)) else P j
def zru (u : Int) : Int := if u = 8 then 8 else u + 1
def zrP (N : Int → Int) (u : Int) (P : Int → Int) : Int → Int := if u = 8 then zp60 N 7 (zsh P) else zp60 N u P
abbrev zUz (j : Int) : Prop := j = 3 ∨ j = 4 ∨ (18 ≤ j ∧ j < 68) ∨ (80 ≤ j ∧ j < 84) ∨ (88 ≤ j ∧ j < 92)
theorem zat_0 {k : Int} (h : k < 2) : zat k = 3 + k := if_pos h
theorem zat_1 {k : Int} (h : 2 ≤ k ∧ k < 52) : zat k = 16 + k := by unfold zat; rw [if_neg (by omega), if_pos (by omega)]; omega
theorem zat_2 {k : Int} (h : 52 ≤ k ∧ k < 56) : zat k = 28 + k := by unfold zat; rw [if_neg (by omega), if_neg (by omega), if_pos (by omega)]; omega
theorem zat_3 {k : Int} (h : 56 ≤ k) : zat k = 32 + k := by unfold zat; rw [if_neg (by omega), if_neg (by omega), if_neg (by omega)]; omega
theorem zundo_last {N N2 : Int → Int} {u : Int} {P : Int → Int} (e : ∀ j, ¬ zUz j → N2 j = N j) : zundo N2 (zp60 N u P) u = N := by
  funext j
  simp only [zundo]
  split
  · simp only [zp60]; rw [if_pos (by omega), zat_0 (by omega)]; congr 1; omega
  · split
    · simp only [zp60]; rw [if_pos (by omega), zat_0 (by omega)]; congr 1; omega
    · split
      · simp only [zp60]; rw [if_pos (by omega), zat_1 (by omega)]; congr 1; omega
      · split
        · simp only [zp60]; rw [if_pos (by omega), zat_2 (by omega)]; congr 1; omega
        · split
          · simp only [zp60]; rw [if_pos (by omega), zat_3 (by omega)]; congr 1; omega
          · exact e j (by omega)
theorem zundo_old {N N2 : Int → Int} {u i : Int} {P : Int → Int} (e : ∀ j, ¬ zUz j → N2 j = N j) (h : i < u) : zundo N2 (zp60 N u P) i = zundo N P i := by
  funext j
  simp only [zundo]
  split
  · simp only [zp60]; rw [if_neg (by omega)]
  · split
    · simp only [zp60]; rw [if_neg (by omega)]
    · split
      · simp only [zp60]; rw [if_neg (by omega)]
      · split
        · simp only [zp60]; rw [if_neg (by omega)]
        · split
          · simp only [zp60]; rw [if_neg (by omega)]
          · exact e j (by omega)
theorem zundo_sh {N : Int → Int} {i : Int} {P : Int → Int} (h : 0 ≤ i ∧ i < 7) : zundo N (zsh P) i = zundo N P (i + 1) := by
  funext j
  simp only [zundo]
  split
  · simp only [zsh]; rw [if_pos (by omega)]; congr 1; omega
  · split
    · simp only [zsh]; rw [if_pos (by omega)]; congr 1; omega
    · split
      · simp only [zsh]; rw [if_pos (by omega)]; congr 1; omega
      · split
        · simp only [zsh]; rw [if_pos (by omega)]; congr 1; omega
        · split
          · simp only [zsh]; rw [if_pos (by omega)]; congr 1; omega
          · rfl
theorem zOKu_next {N N2 : Int → Int} {u : Int} {P : Int → Int} (h : zOKu N u P) (hO : zOK N2) (e : ∀ j, ¬ zUz j → N2 j = N j) : zOKu N2 (zru u) (zrP N u P) := by
  obtain ⟨h1, h2, h3⟩ := h
  refine ⟨hO, by unfold zru; split <;> omega, fun i a b => ?_⟩
  unfold zru at b
  unfold zrP
  by_cases hu : u = 8
  · rw [if_pos hu] at b ⊢
    by_cases hi : i = 7
    · subst hi; rw [zundo_last e]; exact h1
    · rw [zundo_old e (by omega), zundo_sh (by omega)]; exact h3 (i + 1) (by omega) (by omega)
  · rw [if_neg hu] at b ⊢
    by_cases hi : i = u
    · subst hi; rw [zundo_last e]; exact h1
    · rw [zundo_old e (by omega)]; exact h3 i a (by omega)
theorem zr6_sh {N P C : Int → Int} (hh : zHd N) (h : zr6 N 8 P C) : zr6 N 7 (zsh P) (zcpy C C 69 0 (552 - 69)) := by
  intro i a b
  have hq := h (i + 1) (by omega) (by omega)
  have ex : ∀ x, 0 ≤ x → x < 69 → zcpy C C 69 0 (552 - 69) (i * 69 + x) = C ((i + 1) * 69 + x) := fun x h1 h2 => by
    simp only [zcpy]; rw [if_pos (by omega)]; congr 1; omega
  have ey : ∀ x, 0 ≤ x → x < 60 → zsh P (60 * i + x) = P (60 * (i + 1) + x) := fun x h1 h2 => by
    simp only [zsh]; rw [if_pos (by omega)]; congr 1; omega
  obtain ⟨q1, q2, q3, q4⟩ := hq
  refine ⟨?_, ?_, fun c a3 b3 => ?_, fun k a3 b3 => ?_⟩
  · rw [ex 0 (by omega) (by omega), q1]; have := ey 0 (by omega) (by omega); simp only [Int.add_zero] at this; exact this.symm
  · rw [ex 1 (by omega) (by omega), q2, ey 1 (by omega) (by omega)]
  · obtain ⟨s1, s2, s3⟩ := q3 c a3 b3
    refine ⟨by rw [ex _ (by omega) (by omega)]; exact s1, by rw [ex _ (by omega) (by omega)]; exact s2, fun r a4 b4 => ?_⟩
    rw [ex _ (by omega) (by omega), ey _ (by omega) (by omega)]; exact s3 r a4 b4
  · obtain ⟨s1, s2, s3⟩ := q4 k a3 b3
    exact ⟨by rw [ex _ (by omega) (by omega), ey _ (by omega) (by omega)]; exact s1, by rw [ex _ (by omega) (by omega)]; exact s2, by rw [ex _ (by omega) (by omega), ey _ (by omega) (by omega)]; exact s3⟩
def zc6 (C6 C0 C2 : Int → Int) (u a3 a4 : Int) : Int → Int := zcpy C2 (zcpy C0 (zfu (zfu (zblank C6 (u * 69) 69) (u * 69 + 0) a3) (u * 69 + 1) a4) 0 (u * 69 + 2) ((55 : Nat) : Int)) 0 (u * 69 + 57) ((12 : Nat) : Int)
theorem zr6_new {N P C6 C0 C2 : Int → Int} {u : Int} (hh : zHd N) (hu : 0 ≤ u) (r0 : zr0 N C0) (r2 : zr2 N C2) (h : zr6 N u P C6) : zr6 N (u + 1) (zp60 N u P) (zc6 C6 C0 C2 u (N 3) (N 4)) := by
  intro i a b
  by_cases hi : i = u
  · subst hi
    have ey : ∀ x, 0 ≤ x → x < 60 → zp60 N i P (60 * i + x) = N (zat x) := fun x h1 h2 => by
      simp only [zp60]; rw [if_pos (by omega)]; congr 2; omega
    have e0 : zc6 C6 C0 C2 i (N 3) (N 4) (i * 69 + 0) = N 3 := by
      simp only [zc6, zcpy, zfu]; rw [if_neg (by omega), if_neg (by omega), if_neg (by omega), if_pos trivial]
    have e1 : zc6 C6 C0 C2 i (N 3) (N 4) (i * 69 + 1) = N 4 := by
      simp only [zc6, zcpy, zfu]; rw [if_neg (by omega), if_neg (by omega), if_pos trivial]
    have ec : ∀ x, 0 ≤ x → x < 55 → zc6 C6 C0 C2 i (N 3) (N 4) (i * 69 + (2 + x)) = C0 x := fun x h1 h2 => by
      simp only [zc6, zcpy]; rw [if_neg (by omega), if_pos (by omega)]; congr 1; omega
    have ek : ∀ x, 0 ≤ x → x < 12 → zc6 C6 C0 C2 i (N 3) (N 4) (i * 69 + (57 + x)) = C2 x := fun x h1 h2 => by
      simp only [zc6, zcpy]; rw [if_pos (by omega)]; congr 1; omega
    refine ⟨?_, ?_, fun c a3 b3 => ?_, fun k a3 b3 => ?_⟩
    · rw [e0]; have := ey 0 (by omega) (by omega); simp only [Int.add_zero] at this; rw [this, zat_0 (by omega)]; rfl
    · rw [e1, ey 1 (by omega) (by omega), zat_0 (by omega)]; rfl
    · obtain ⟨s1, s2, s3⟩ := r0 c a3 b3
      refine ⟨by rw [ec _ (by omega) (by omega), ← s1]; congr 1; omega, by rw [ec _ (by omega) (by omega)]; exact s2, fun r a4 b4 => ?_⟩
      rw [ec _ (by omega) (by omega), ey _ (by omega) (by omega), zat_1 (by omega), s3 r a4 b4]; congr 1; omega
    · obtain ⟨s1, s2, s3⟩ := r2 k a3 b3
      refine ⟨?_, ?_, ?_⟩
      · rw [ek _ (by omega) (by omega), ey _ (by omega) (by omega), zat_2 (by omega), show k * 3 = k * 3 + 0 by omega, s1]; congr 1; omega
      · rw [ek _ (by omega) (by omega)]; exact s2
      · rw [ek _ (by omega) (by omega), ey _ (by omega) (by omega), zat_3 (by omega), s3]; congr 1; omega
  · have ex : ∀ x, 0 ≤ x → x < 69 → zc6 C6 C0 C2 u (N 3) (N 4) (i * 69 + x) = C6 (i * 69 + x) := fun x h1 h2 => by
      simp only [zc6, zcpy, zfu, zblank]; rw [if_neg (by omega), if_neg (by omega), if_neg (by omega), if_neg (by omega), if_neg (by omega)]
    have ey : ∀ x, 0 ≤ x → x < 60 → zp60 N u P (60 * i + x) = P (60 * i + x) := fun x h1 h2 => by
      simp only [zp60]; rw [if_neg (by omega)]
    obtain ⟨q1, q2, q3, q4⟩ := h i a (by omega)
    refine ⟨?_, ?_, fun c a3 b3 => ?_, fun k a3 b3 => ?_⟩
    · rw [ex 0 (by omega) (by omega), q1]; have := ey 0 (by omega) (by omega); simp only [Int.add_zero] at this; exact this.symm
    · rw [ex 1 (by omega) (by omega), q2, ey 1 (by omega) (by omega)]
    · obtain ⟨s1, s2, s3⟩ := q3 c a3 b3
      refine ⟨by rw [ex _ (by omega) (by omega)]; exact s1, by rw [ex _ (by omega) (by omega)]; exact s2, fun r a4 b4 => ?_⟩
      rw [ex _ (by omega) (by omega), ey _ (by omega) (by omega)]; exact s3 r a4 b4
    · obtain ⟨s1, s2, s3⟩ := q4 k a3 b3
      exact ⟨by rw [ex _ (by omega) (by omega), ey _ (by omega) (by omega)]; exact s1, by rw [ex _ (by omega) (by omega)]; exact s2, by rw [ex _ (by omega) (by omega), ey _ (by omega) (by omega)]; exact s3⟩
section X6F
variable {g : zG} {d : Nat} {w : zWd} {K : Option Value → zWd → Prop} {b : Nat} {N P : Int → Int} {u : Int}
set_option maxRecDepth 100000 in
set_option maxHeartbeats 4000000 in
theorem c_X6_remember (hd : 3 ≤ d) (hS : zSto g w b N u P) (hO : zOK N) (hu : 0 ≤ u ∧ u ≤ 8) (k : ∀ w', zSame w w' b 15 → zSto g w' b N (zru u) (zrP N u P) → K none w') : zCall g d 0 0 mX6_remember [zR g b] w K := by
  have hh := hO.1
  have J : ∀ (w1 : zWd) (v : Int) (Q : Int → Int), 0 ≤ v → v ≤ 7 → zSame w w1 b 15 → zSto g w1 b N v Q → zru u = v + 1 → zrP N u P = zp60 N v Q → zRuns g d mX6_remember 0 0 17 [some (zR g b), none] [] w1 K := by
    intro w1 v Q hv0 hv7 hs hS eu eP
    obtain ⟨C0, C1, C2, C3, C4, C5, C6, hS, r0, r1, r2, r3, r4, r5, r6⟩ := hS.s7
    refine q_aload_n (pc := 17) dX6_remember_17 rfl rfl ?_
    refine q_getfield (pc := 18) gf_X6_35 dX6_remember_18 (by first | assumption | exact hS.o | exact hS.s0 | exact hS.s1 | exact hS.s2 | exact hS.s3 | exact hS.s4 | exact hS.s5 | exact hS.s6) rfl ?_
    refine q_invokevirtual (pc := 21) (d' := d - 1) (mc' := 0) (ms' := 0) (As := []) (TX4, 4) cl_X6_60 dX6_remember_21 rfl rfl (by first | assumption | exact hS.o | exact hS.s0 | exact hS.s1 | exact hS.s2 | exact hS.s3 | exact hS.s4 | exact hS.s5 | exact hS.s6) rfl (by omega) rfl 0 0 (Nat.le_refl 0) (Nat.le_refl 0) ?_
    refine c_X4_openRow (by omega) hS.h6 (by omega) (by omega) (fun w2 hs2 hT2 => ?_)
    have hS := hS.set6 hs2 hT2
    refine q_istore_n (pc := 24) [some _, some _] dX6_remember_24 rfl (Nat.le_of_ble_eq_true rfl) rfl ?_
    refine q_aload_n (pc := 25) dX6_remember_25 rfl rfl ?_
    refine q_getfield (pc := 26) gf_X6_35 dX6_remember_26 (by first | assumption | exact hS.o | exact hS.s0 | exact hS.s1 | exact hS.s2 | exact hS.s3 | exact hS.s4 | exact hS.s5 | exact hS.s6) rfl ?_
    refine q_iload_n (pc := 29) dX6_remember_29 rfl ?_
    refine q_iconst (pc := 30) dX6_remember_30 ?_
    refine q_aload_n (pc := 31) dX6_remember_31 rfl rfl ?_
    refine q_getfield (pc := 32) gf_X6_38 dX6_remember_32 (by first | assumption | exact hS.o | exact hS.s0 | exact hS.s1 | exact hS.s2 | exact hS.s3 | exact hS.s4 | exact hS.s5 | exact hS.s6) rfl ?_
    refine q_invokevirtual (pc := 35) (d' := d - 1) (mc' := 0) (ms' := 0) (As := [_, _, _]) (TX4, 4) cl_X6_63 dX6_remember_35 rfl rfl (by first | assumption | exact hS.o | exact hS.s0 | exact hS.s1 | exact hS.s2 | exact hS.s3 | exact hS.s4 | exact hS.s5 | exact hS.s6) rfl (by omega) rfl 0 0 (Nat.le_refl 0) (Nat.le_refl 0) ?_
    refine c_X4_put_in (by omega) hS.h6 (by omega) (by omega) (by omega) (fun w3 hs3 hT3 => ?_)
    have hS := hS.set6 hs3 hT3
    refine q_aload_n (pc := 38) dX6_remember_38 rfl rfl ?_
    refine q_getfield (pc := 39) gf_X6_35 dX6_remember_39 (by first | assumption | exact hS.o | exact hS.s0 | exact hS.s1 | exact hS.s2 | exact hS.s3 | exact hS.s4 | exact hS.s5 | exact hS.s6) rfl ?_
    refine q_iload_n (pc := 42) dX6_remember_42 rfl ?_
    refine q_iconst (pc := 43) dX6_remember_43 ?_
    refine q_aload_n (pc := 44) dX6_remember_44 rfl rfl ?_
    refine q_getfield (pc := 45) gf_X6_42 dX6_remember_45 (by first | assumption | exact hS.o | exact hS.s0 | exact hS.s1 | exact hS.s2 | exact hS.s3 | exact hS.s4 | exact hS.s5 | exact hS.s6) rfl ?_
    refine q_invokevirtual (pc := 48) (d' := d - 1) (mc' := 0) (ms' := 0) (As := [_, _, _]) (TX4, 4) cl_X6_63 dX6_remember_48 rfl rfl (by first | assumption | exact hS.o | exact hS.s0 | exact hS.s1 | exact hS.s2 | exact hS.s3 | exact hS.s4 | exact hS.s5 | exact hS.s6) rfl (by omega) rfl 0 0 (Nat.le_refl 0) (Nat.le_refl 0) ?_
    refine c_X4_put_in (by omega) hS.h6 (by omega) (by omega) (by omega) (fun w4 hs4 hT4 => ?_)
    have hS := hS.set6 hs4 hT4
    refine q_aload_n (pc := 51) dX6_remember_51 rfl rfl ?_
    refine q_getfield (pc := 52) gf_X6_35 dX6_remember_52 (by first | assumption | exact hS.o | exact hS.s0 | exact hS.s1 | exact hS.s2 | exact hS.s3 | exact hS.s4 | exact hS.s5 | exact hS.s6) rfl ?_
    refine q_iload_n (pc := 55) dX6_remember_55 rfl ?_
    refine q_iconst (pc := 56) dX6_remember_56 ?_
    refine q_aload_n (pc := 57) dX6_remember_57 rfl rfl ?_
    refine q_getfield (pc := 58) gf_X6_16 dX6_remember_58 (by first | assumption | exact hS.o | exact hS.s0 | exact hS.s1 | exact hS.s2 | exact hS.s3 | exact hS.s4 | exact hS.s5 | exact hS.s6) rfl ?_
    refine q_invokevirtual (pc := 61) (d' := d - 1) (mc' := 0) (ms' := 0) (As := [_, _, _]) (TX4, 4) cl_X6_67 dX6_remember_61 rfl rfl (by first | assumption | exact hS.o | exact hS.s0 | exact hS.s1 | exact hS.s2 | exact hS.s3 | exact hS.s4 | exact hS.s5 | exact hS.s6) rfl (by omega) rfl 0 0 (Nat.le_refl 0) (Nat.le_refl 0) ?_
    refine c_X4_putSheet (by omega) hS.h6 (by omega) (by omega) (by omega) hS.h0 (fun w5 hs5 hT5 => ?_)
    have hS := hS.set6 hs5 hT5
    refine q_aload_n (pc := 64) dX6_remember_64 rfl rfl ?_
    refine q_getfield (pc := 65) gf_X6_35 dX6_remember_65 (by first | assumption | exact hS.o | exact hS.s0 | exact hS.s1 | exact hS.s2 | exact hS.s3 | exact hS.s4 | exact hS.s5 | exact hS.s6) rfl ?_
    refine q_iload_n (pc := 68) dX6_remember_68 rfl ?_
    refine q_bipush (pc := 69) (by decide) dX6_remember_69 ?_
    refine q_aload_n (pc := 71) dX6_remember_71 rfl rfl ?_
    refine q_getfield (pc := 72) gf_X6_23 dX6_remember_72 (by first | assumption | exact hS.o | exact hS.s0 | exact hS.s1 | exact hS.s2 | exact hS.s3 | exact hS.s4 | exact hS.s5 | exact hS.s6) rfl ?_
    refine q_invokevirtual (pc := 75) (d' := d - 1) (mc' := 0) (ms' := 0) (As := [_, _, _]) (TX4, 4) cl_X6_67 dX6_remember_75 rfl rfl (by first | assumption | exact hS.o | exact hS.s0 | exact hS.s1 | exact hS.s2 | exact hS.s3 | exact hS.s4 | exact hS.s5 | exact hS.s6) rfl (by omega) rfl 0 0 (Nat.le_refl 0) (Nat.le_refl 0) ?_
    refine c_X4_putSheet (by omega) hS.h6 (by omega) (by omega) (by omega) hS.h2 (fun w6 hs6 hT6 => ?_)
    have hS := hS.set6 hs6 hT6
    refine q_return (pc := 78) dX6_remember_78 rfl ?_
    refine k _ (hs.tr (((((hs2.tr hs3).tr hs4).tr hs5).tr hs6).wide (by omega) (by omega))) ?_
    rw [eu, eP]
    exact zS7.sto hS r0 r1 r2 r3 r4 r5 (zr6_new hh hv0 r0 r2 r6)
  obtain ⟨C0, C1, C2, C3, C4, C5, C6, hS7, r0, r1, r2, r3, r4, r5, r6⟩ := hS.s7
  refine zenter [some _, none] pn_X6 rfl (Nat.le_of_ble_eq_true rfl) ?_
  refine q_aload_n (pc := 0) dX6_remember_0 rfl rfl ?_
  refine q_getfield (pc := 1) gf_X6_35 dX6_remember_1 (by first | assumption | exact hS7.o | exact hS7.s0 | exact hS7.s1 | exact hS7.s2 | exact hS7.s3 | exact hS7.s4 | exact hS7.s5 | exact hS7.s6) rfl ?_
  refine q_invokevirtual (pc := 4) (d' := d - 1) (mc' := 0) (ms' := 0) (As := []) (TX4, 4) cl_X6_53 dX6_remember_4 rfl rfl (by first | assumption | exact hS7.o | exact hS7.s0 | exact hS7.s1 | exact hS7.s2 | exact hS7.s3 | exact hS7.s4 | exact hS7.s5 | exact hS7.s6) rfl (by omega) rfl 0 0 (Nat.le_refl 0) (Nat.le_refl 0) ?_
  refine c_X4_isFull hS7.h6 (by omega) ?_
  refine q_ifb_eq (pc := 7) 17 dX6_remember_7 rfl (fun c7 => ?_) (fun c7 => ?_)
  · first | exact J _ u P (by omega) (by omega) zSame.rf hS (by unfold zru; rw [if_neg (by omega)]) (by unfold zrP; rw [if_neg (by omega)]) | (have hu8 : u = 8 := (by omega); subst hu8; exact J _ 7 (zsh P) (by omega) (by omega) (hs2.wide (by omega) (by omega)) (zS7.sto hS7 r0 r1 r2 r3 r4 r5 (zr6_sh hh r6)) rfl rfl)
  refine q_aload_n (pc := 10) dX6_remember_10 rfl rfl ?_
  refine q_getfield (pc := 11) gf_X6_35 dX6_remember_11 (by first | assumption | exact hS7.o | exact hS7.s0 | exact hS7.s1 | exact hS7.s2 | exact hS7.s3 | exact hS7.s4 | exact hS7.s5 | exact hS7.s6) rfl ?_
  refine q_invokevirtual (pc := 14) (d' := d - 1) (mc' := 0) (ms' := 0) (As := []) (TX4, 4) cl_X6_57 dX6_remember_14 rfl rfl (by first | assumption | exact hS7.o | exact hS7.s0 | exact hS7.s1 | exact hS7.s2 | exact hS7.s3 | exact hS7.s4 | exact hS7.s5 | exact hS7.s6) rfl (by omega) rfl 0 0 (Nat.le_refl 0) (Nat.le_refl 0) ?_
  refine c_X4_dropFirst (by omega) hS7.h6 (by omega) (by omega) (fun w2 hs2 hT2 => ?_)
  have hS7 := hS7.set6 hs2 hT2
  first | exact J _ u P (by omega) (by omega) zSame.rf hS (by unfold zru; rw [if_neg (by omega)]) (by unfold zrP; rw [if_neg (by omega)]) | (have hu8 : u = 8 := (by omega); subst hu8; exact J _ 7 (zsh P) (by omega) (by omega) (hs2.wide (by omega) (by omega)) (zS7.sto hS7 r0 r1 r2 r3 r4 r5 (zr6_sh hh r6)) rfl rfl)
set_option maxRecDepth 100000 in
set_option maxHeartbeats 4000000 in
theorem c_X6_goBack (hd : 3 ≤ d) (hS : zSto g w b N u P) (hO : zOK N) (hu : 1 ≤ u ∧ u ≤ 8) (k : ∀ w', zSame w w' b 15 → zSto g w' b (zundo N P (u - 1)) (u - 1) P → K none w') : zCall g d 0 0 mX6_goBack [zR g b] w K := by
  have hh := hO.1
  obtain ⟨C0, C1, C2, C3, C4, C5, C6, hS, r0, r1, r2, r3, r4, r5, r6⟩ := hS.s7
  have hq := r6 (u - 1) (by omega) (by omega)
  refine zenter [some _, none] pn_X6 rfl (Nat.le_of_ble_eq_true rfl) ?_
  refine q_aload_n (pc := 0) dX6_goBack_0 rfl rfl ?_
  refine q_getfield (pc := 1) gf_X6_35 dX6_goBack_1 (by first | assumption | exact hS.o | exact hS.s0 | exact hS.s1 | exact hS.s2 | exact hS.s3 | exact hS.s4 | exact hS.s5 | exact hS.s6) rfl ?_
  refine q_getfield (pc := 4) gf_X6_71 dX6_goBack_4 (by first | assumption | exact hS.o | exact hS.s0 | exact hS.s1 | exact hS.s2 | exact hS.s3 | exact hS.s4 | exact hS.s5 | exact hS.s6) rfl ?_
  refine q_iconst (pc := 7) dX6_goBack_7 ?_
  refine q_isub (pc := 8) dX6_goBack_8 ?_
  refine q_istore_n (pc := 9) [some _, some _] dX6_goBack_9 rfl (Nat.le_of_ble_eq_true rfl) rfl ?_
  refine q_aload_n (pc := 10) dX6_goBack_10 rfl rfl ?_
  refine q_getfield (pc := 11) gf_X6_35 dX6_goBack_11 (by first | assumption | exact hS.o | exact hS.s0 | exact hS.s1 | exact hS.s2 | exact hS.s3 | exact hS.s4 | exact hS.s5 | exact hS.s6) rfl ?_
  refine q_iload_n (pc := 14) dX6_goBack_14 rfl ?_
  refine q_invokevirtual (pc := 15) (d' := d - 1) (mc' := 0) (ms' := 0) (As := [_]) (TX4, 4) cl_X6_74 dX6_goBack_15 rfl rfl (by first | assumption | exact hS.o | exact hS.s0 | exact hS.s1 | exact hS.s2 | exact hS.s3 | exact hS.s4 | exact hS.s5 | exact hS.s6) rfl (by omega) rfl 0 0 (Nat.le_refl 0) (Nat.le_refl 0) ?_
  refine c_X4_holds hS.h6 (by omega) (by omega) ?_
  refine q_ifb_ne (pc := 18) 22 dX6_goBack_18 rfl (fun c18 => ?_) (fun c18 => ?_)
  · refine q_aload_n (pc := 22) dX6_goBack_22 rfl rfl ?_
    refine q_aload_n (pc := 23) dX6_goBack_23 rfl rfl ?_
    refine q_getfield (pc := 24) gf_X6_35 dX6_goBack_24 (by first | assumption | exact hS.o | exact hS.s0 | exact hS.s1 | exact hS.s2 | exact hS.s3 | exact hS.s4 | exact hS.s5 | exact hS.s6) rfl ?_
    refine q_iload_n (pc := 27) dX6_goBack_27 rfl ?_
    refine q_iconst (pc := 28) dX6_goBack_28 ?_
    refine q_invokevirtual (pc := 29) (d' := d - 1) (mc' := 0) (ms' := 0) (As := [_, _]) (TX4, 4) cl_X6_78 dX6_goBack_29 rfl rfl (by first | assumption | exact hS.o | exact hS.s0 | exact hS.s1 | exact hS.s2 | exact hS.s3 | exact hS.s4 | exact hS.s5 | exact hS.s6) rfl (by omega) rfl 0 0 (Nat.le_refl 0) (Nat.le_refl 0) ?_
    refine c_X4_get (by omega) hS.h6 (by omega) (by omega) (by omega) ?_
    rw [hq.1]
    refine q_putfield2 (pc := 32) [_, _, _, _, _, _, _, _, _] pf_X6_38 dX6_goBack_32 (by first | assumption | exact hS.o | exact hS.s0 | exact hS.s1 | exact hS.s2 | exact hS.s3 | exact hS.s4 | exact hS.s5 | exact hS.s6) rfl rfl (Nat.le_of_ble_eq_true rfl) rfl ?_
    have hS := hS.wa3 (m := P (60 * (u - 1)))
    refine q_aload_n (pc := 35) dX6_goBack_35 rfl rfl ?_
    refine q_aload_n (pc := 36) dX6_goBack_36 rfl rfl ?_
    refine q_getfield (pc := 37) gf_X6_35 dX6_goBack_37 (by first | assumption | exact hS.o | exact hS.s0 | exact hS.s1 | exact hS.s2 | exact hS.s3 | exact hS.s4 | exact hS.s5 | exact hS.s6) rfl ?_
    refine q_iload_n (pc := 40) dX6_goBack_40 rfl ?_
    refine q_iconst (pc := 41) dX6_goBack_41 ?_
    refine q_invokevirtual (pc := 42) (d' := d - 1) (mc' := 0) (ms' := 0) (As := [_, _]) (TX4, 4) cl_X6_78 dX6_goBack_42 rfl rfl (by first | assumption | exact hS.o | exact hS.s0 | exact hS.s1 | exact hS.s2 | exact hS.s3 | exact hS.s4 | exact hS.s5 | exact hS.s6) rfl (by omega) rfl 0 0 (Nat.le_refl 0) (Nat.le_refl 0) ?_
    refine c_X4_get (by omega) hS.h6 (by omega) (by omega) (by omega) ?_
    rw [hq.2.1]
    refine q_putfield2 (pc := 45) [_, _, _, _, _, _, _, _, _] pf_X6_42 dX6_goBack_45 (by first | assumption | exact hS.o | exact hS.s0 | exact hS.s1 | exact hS.s2 | exact hS.s3 | exact hS.s4 | exact hS.s5 | exact hS.s6) rfl rfl (Nat.le_of_ble_eq_true rfl) rfl ?_
    have hS := hS.wa4 (m := P (60 * (u - 1) + 1))
    refine q_aload_n (pc := 48) dX6_goBack_48 rfl rfl ?_
    refine q_getfield (pc := 49) gf_X6_35 dX6_goBack_49 (by first | assumption | exact hS.o | exact hS.s0 | exact hS.s1 | exact hS.s2 | exact hS.s3 | exact hS.s4 | exact hS.s5 | exact hS.s6) rfl ?_
    refine q_iload_n (pc := 52) dX6_goBack_52 rfl ?_
    refine q_iconst (pc := 53) dX6_goBack_53 ?_
    refine q_aload_n (pc := 54) dX6_goBack_54 rfl rfl ?_
    refine q_getfield (pc := 55) gf_X6_16 dX6_goBack_55 (by first | assumption | exact hS.o | exact hS.s0 | exact hS.s1 | exact hS.s2 | exact hS.s3 | exact hS.s4 | exact hS.s5 | exact hS.s6) rfl ?_
    refine q_invokevirtual (pc := 58) (d' := d - 1) (mc' := 0) (ms' := 0) (As := [_, _, _]) (TX4, 4) cl_X6_82 dX6_goBack_58 rfl rfl (by first | assumption | exact hS.o | exact hS.s0 | exact hS.s1 | exact hS.s2 | exact hS.s3 | exact hS.s4 | exact hS.s5 | exact hS.s6) rfl (by omega) rfl 0 0 (Nat.le_refl 0) (Nat.le_refl 0) ?_
    refine c_X4_getSheet (by omega) hS.h6 (by omega) (by omega) (by omega) hS.h0 (fun w2 hs2 hT2 => ?_)
    have hS := hS.set0 hs2 hT2
    refine q_aload_n (pc := 61) dX6_goBack_61 rfl rfl ?_
    refine q_getfield (pc := 62) gf_X6_35 dX6_goBack_62 (by first | assumption | exact hS.o | exact hS.s0 | exact hS.s1 | exact hS.s2 | exact hS.s3 | exact hS.s4 | exact hS.s5 | exact hS.s6) rfl ?_
    refine q_iload_n (pc := 65) dX6_goBack_65 rfl ?_
    refine q_bipush (pc := 66) (by decide) dX6_goBack_66 ?_
    refine q_aload_n (pc := 68) dX6_goBack_68 rfl rfl ?_
    refine q_getfield (pc := 69) gf_X6_23 dX6_goBack_69 (by first | assumption | exact hS.o | exact hS.s0 | exact hS.s1 | exact hS.s2 | exact hS.s3 | exact hS.s4 | exact hS.s5 | exact hS.s6) rfl ?_
    refine q_invokevirtual (pc := 72) (d' := d - 1) (mc' := 0) (ms' := 0) (As := [_, _, _]) (TX4, 4) cl_X6_82 dX6_goBack_72 rfl rfl (by first | assumption | exact hS.o | exact hS.s0 | exact hS.s1 | exact hS.s2 | exact hS.s3 | exact hS.s4 | exact hS.s5 | exact hS.s6) rfl (by omega) rfl 0 0 (Nat.le_refl 0) (Nat.le_refl 0) ?_
    refine c_X4_getSheet (by omega) hS.h6 (by omega) (by omega) (by omega) hS.h2 (fun w3 hs3 hT3 => ?_)
    have hS := hS.set2 hs3 hT3
    refine q_aload_n (pc := 75) dX6_goBack_75 rfl rfl ?_
    refine q_getfield (pc := 76) gf_X6_35 dX6_goBack_76 (by first | assumption | exact hS.o | exact hS.s0 | exact hS.s1 | exact hS.s2 | exact hS.s3 | exact hS.s4 | exact hS.s5 | exact hS.s6) rfl ?_
    refine q_iload_n (pc := 79) dX6_goBack_79 rfl ?_
    refine q_putfield2 (pc := 80) [_, _, _, _] pf_X6_71 dX6_goBack_80 (by first | assumption | exact hS.o | exact hS.s0 | exact hS.s1 | exact hS.s2 | exact hS.s3 | exact hS.s4 | exact hS.s5 | exact hS.s6) rfl rfl (Nat.le_of_ble_eq_true rfl) rfl ?_
    have hS := hS.row6 (m := u - 1)
    refine q_return (pc := 83) dX6_goBack_83 rfl ?_
    refine k _ (((((zSame.up (by omega)).tr (zSame.up (by omega))).tr (hs2.wide (by omega) (by omega))).tr (hs3.wide (by omega) (by omega))).tr (zSame.up (by omega))) (zS7.sto (N := zundo N P (u - 1)) (by simpa [zundo] using hS) ?_ ?_ ?_ ?_ ?_ ?_ ?_)
    · intro c a b
      have e0 : zundo N P (u - 1) 0 = N 0 := by simp [zundo]
      rw [e0] at b
      obtain ⟨s1, s2, s3⟩ := hq.2.2.1 c a b
      have ek : ∀ j, 8 ≤ j → j < 18 → zundo N P (u - 1) j = N j := fun j h1 h2 => by simp only [zundo]; rw [if_neg (by omega), if_neg (by omega), if_neg (by omega), if_neg (by omega), if_neg (by omega)]
      have ec : ∀ x, 0 ≤ x → x < 55 → zcpy C6 C0 ((u - 1) * 69 + 2) 0 55 x = C6 ((u - 1) * 69 + (2 + x)) := fun x h1 h2 => by simp only [zcpy]; rw [if_pos (by omega)]; congr 1; omega
      refine ⟨?_, ?_, fun r a4 b4 => ?_⟩
      · rw [ek _ (by omega) (by omega), ec _ (by omega) (by omega), ← s1]; congr 1; omega
      · rw [ek _ (by omega) (by omega), ec _ (by omega) (by omega)]; exact s2
      · rw [ec _ (by omega) (by omega), s3 r a4 b4]; simp only [zundo]; rw [if_neg (by omega), if_neg (by omega), if_pos (by omega)]; congr 1; omega
    · intro s a b
      have e1 : zundo N P (u - 1) 1 = N 1 := by simp [zundo]
      rw [e1] at b
      simp only [zundo]; rw [if_neg (by omega), if_neg (by omega), if_neg (by omega), if_neg (by omega), if_neg (by omega), if_neg (by omega), if_neg (by omega), if_neg (by omega), if_neg (by omega), if_neg (by omega)]; exact r1 s a b
    · intro s a b
      have e2 : zundo N P (u - 1) 2 = N 2 := by simp [zundo]
      rw [e2] at b
      obtain ⟨s1, s2, s3⟩ := hq.2.2.2 s a b
      have ec : ∀ x, 0 ≤ x → x < 12 → zcpy C6 C2 ((u - 1) * 69 + 57) 0 12 x = C6 ((u - 1) * 69 + (57 + x)) := fun x h1 h2 => by simp only [zcpy]; rw [if_pos (by omega)]; congr 1; omega
      refine ⟨?_, ?_, ?_⟩
      · rw [ec _ (by omega) (by omega), show s * 3 + 0 = s * 3 by omega, s1]; simp only [zundo]; rw [if_neg (by omega), if_neg (by omega), if_neg (by omega), if_pos (by omega)]; congr 1; omega
      · rw [ec _ (by omega) (by omega), s2]; simp only [zundo]; rw [if_neg (by omega), if_neg (by omega), if_neg (by omega), if_neg (by omega), if_neg (by omega)]
      · rw [ec _ (by omega) (by omega), s3]; simp only [zundo]; rw [if_neg (by omega), if_neg (by omega), if_neg (by omega), if_neg (by omega), if_pos (by omega)]; congr 1; omega
    · intro i j a b a2 b2
      have e5 : zundo N P (u - 1) 5 = N 5 := by simp [zundo]
      rw [e5] at b
      rw [r3 i j a b a2 b2]; simp only [zundo]; rw [if_neg (by omega), if_neg (by omega), if_neg (by omega), if_neg (by omega), if_neg (by omega)]
    · intro i j a b a2 b2
      have e6 : zundo N P (u - 1) 6 = N 6 := by simp [zundo]
      rw [e6] at b
      rw [r4 i j a b a2 b2]; simp only [zundo]; rw [if_neg (by omega), if_neg (by omega), if_neg (by omega), if_neg (by omega), if_neg (by omega)]
    · intro i j a b a2 b2
      have e7 : zundo N P (u - 1) 7 = N 7 := by simp [zundo]
      rw [e7] at b
      rw [r5 i j a b a2 b2]; simp only [zundo]; rw [if_neg (by omega), if_neg (by omega), if_neg (by omega), if_neg (by omega), if_neg (by omega)]
    · intro i a b
      have e0 : zundo N P (u - 1) 0 = N 0 := by simp [zundo]
      have e2 : zundo N P (u - 1) 2 = N 2 := by simp [zundo]
      obtain ⟨q1, q2, q3, q4⟩ := r6 i a (by omega)
      refine ⟨q1, q2, fun c a3 b3 => ?_, fun k2 a3 b3 => ?_⟩
      · rw [e0] at b3
        obtain ⟨s1, s2, s3⟩ := q3 c a3 b3
        refine ⟨?_, ?_, s3⟩
        · rw [s1]; simp only [zundo]; rw [if_neg (by omega), if_neg (by omega), if_neg (by omega), if_neg (by omega), if_neg (by omega)]
        · rw [s2]; simp only [zundo]; rw [if_neg (by omega), if_neg (by omega), if_neg (by omega), if_neg (by omega), if_neg (by omega)]
      · rw [e2] at b3
        obtain ⟨s1, s2, s3⟩ := q4 k2 a3 b3
        refine ⟨s1, ?_, s3⟩
        rw [s2]; simp only [zundo]; rw [if_neg (by omega), if_neg (by omega), if_neg (by omega), if_neg (by omega), if_neg (by omega)]
  exfalso; omega
end X6F
