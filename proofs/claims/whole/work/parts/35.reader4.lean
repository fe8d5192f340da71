/-! the Reader's items -/
def zfin (T : Int → Int) (len : Int) (N : Int → Int) (p : Int) : Bool × (Int → Int) × Int := if ztk T len p = 3 then (true, N, znxt T len p) else (false, N, p)
def zitwo (T : Int → Int) (len l1 h1 l2 h2 : Int) (F : Int → Int → Int → Int) (N : Int → Int) (p : Int) : Bool × (Int → Int) × Int :=
  if znum T len l1 h1 (znxt T len p) then (if znum T len l2 h2 (znxt T len (znxt T len p)) then zfin T len (F (znv T len (znxt T len p)) (znv T len (znxt T len (znxt T len p)))) (znxt T len (znxt T len (znxt T len p))) else (false, N, znxt T len (znxt T len p))) else (false, N, znxt T len p)
def zistore (T : Int → Int) (len : Int) (N : Int → Int) (p : Int) : Bool × (Int → Int) × Int := if znum T len 0 9 (znxt T len p) then zfin T len (zfu N 4 (znv T len (znxt T len p))) (znxt T len (znxt T len p)) else (false, N, znxt T len p)
def zislg (T : Int → Int) (len : Int) (N : Int → Int) (p : Int) : Bool × (Int → Int) × Int := if N 1 = 6 then (false, N, p) else zitwo T len 0 5 0 9 (znews N) N p
def zicld (T : Int → Int) (len : Int) (N : Int → Int) (p : Int) : Bool × (Int → Int) × Int := if N 2 = 4 then (false, N, p) else zitwo T len 1 30 1 40 (znewk N) N p
def ziwks (T : Int → Int) (len : Int) (N : Int → Int) (p : Int) : Bool × (Int → Int) × Int := if znum T len 1 99 (znxt T len p) then zfin T len (zweeks N (znv T len (znxt T len p)).toNat) (znxt T len (znxt T len p)) else (false, N, znxt T len p)
def zcst (T : Int → Int) (len c : Int) : Nat → Int → (Int → Int) → Int → (Int → Int) × Int
  | 0, _, N, p => (N, p)
  | q + 1, r, N, p => if ztk T len p = 2 then zcst T len c q (r + 1) (zfu N (18 + 10 * c + r) (znv T len p)) (znxt T len p) else (N, p)
def zicel (T : Int → Int) (len : Int) (N : Int → Int) (p : Int) : Bool × (Int → Int) × Int :=
  if N 0 = 5 then (false, N, p) else if znum T len 0 5 (znxt T len p) then (if znum T len 0 9 (znxt T len (znxt T len p)) then
    zfin T len (zcst T len (N 0) 9 1 (znewc N (znv T len (znxt T len p)) (znv T len (znxt T len (znxt T len p)))) (znxt T len (znxt T len (znxt T len p)))).1 (zcst T len (N 0) 9 1 (znewc N (znv T len (znxt T len p)) (znv T len (znxt T len (znxt T len p)))) (znxt T len (znxt T len (znxt T len p)))).2
    else (false, N, znxt T len (znxt T len p))) else (false, N, znxt T len p)
def zIt (g : zG) (w : zWd) (db : Nat) (T : Int → Int) (len : Int) (P : Int → Int) (r : Bool × (Int → Int) × Int) : Prop := zRS g w db T len r.2.2 ∧ zSto g w db r.2.1 0 P
theorem zb_iff {P Q : Prop} [Decidable P] [Decidable Q] (h : P ↔ Q) : zb P = zb Q := by
  unfold zb
  by_cases h1 : P
  · rw [if_pos h1, if_pos (h.mp h1)]
  · rw [if_neg h1, if_neg (fun z => h1 (h.mpr z))]
theorem zfin_b {T : Int → Int} {len : Int} {N : Int → Int} {p : Int} : zb ((zfin T len N p).1 = true) = zb (ztk T len p = 3) := by
  refine zb_iff ?_
  unfold zfin
  by_cases h : ztk T len p = 3
  · rw [if_pos h]; exact ⟨fun _ => h, fun _ => rfl⟩
  · rw [if_neg h]; exact ⟨fun z => (by cases z), fun z => absurd z h⟩
theorem zfin_it {g : zG} {w : zWd} {db : Nat} {T : Int → Int} {len : Int} {N P : Int → Int} {p : Int} (hF : zRS g w db T len (if ztk T len p = 3 then znxt T len p else p)) (hS : zSto g w db N 0 P) : zIt g w db T len P (zfin T len N p) := by
  unfold zfin
  by_cases h : ztk T len p = 3
  · rw [if_pos h] at hF ⊢; exact ⟨hF, hS⟩
  · rw [if_neg h] at hF ⊢; exact ⟨hF, hS⟩
theorem znx {T : Int → Int} {len p : Int} (h : 0 ≤ p ∧ p ≤ len) : 0 ≤ znxt T len p ∧ znxt T len p ≤ len := by
  have h1 := zsrt_b (T := T) h.2
  have h2 := znxt_b (T := T) h.2
  omega
theorem zSto.wind {g : zG} {w : zWd} {b : Nat} {N P : Int → Int} {u v : Int} (h : zSto g w b N u P) : zSto g (zup w b (.inl (5, [zI (N 3), zI v, zR g (b + 1), zR g (b + 3), zR g (b + 5), zR g (b + 7), zR g (b + 9), zR g (b + 11), zR g (b + 13)]))) b (zfu N 4 v) u P := by
  obtain ⟨C0, C1, C2, C3, C4, C5, C6, hO, h0, h1, h2, h3, h4, h5, h6, r0, r1, r2, r3, r4, r5, r6⟩ := h
  have e : ∀ j, j ≠ 4 → zfu N 4 v j = N j := fun j hj => if_neg hj
  have hs : zSame w (zup w b (.inl (5, [zI (N 3), zI v, zR g (b + 1), zR g (b + 3), zR g (b + 5), zR g (b + 7), zR g (b + 9), zR g (b + 11), zR g (b + 13)]))) b 1 := zSame.up (by omega)
  refine ⟨C0, C1, C2, C3, C4, C5, C6, ?_, ?_, ?_, ?_, ?_, ?_, ?_, h6.keep hs (by omega), fun c a b => ?_, fun s a b => ?_, fun s a b => ?_, fun i j a b a2 b2 => ?_, fun i j a b a2 b2 => ?_, fun i j a b a2 b2 => ?_, fun i a b => ?_⟩
  · rw [zSobj, e 3 (by omega)]; simp only [zup, zfu, if_pos]
  · rw [e 0 (by omega)]; exact h0.keep hs (by omega)
  · rw [e 1 (by omega)]; exact h1.keep hs (by omega)
  · rw [e 2 (by omega)]; exact h2.keep hs (by omega)
  · rw [e 5 (by omega)]; exact h3.keep hs (by omega)
  · rw [e 6 (by omega)]; exact h4.keep hs (by omega)
  · rw [e 7 (by omega)]; exact h5.keep hs (by omega)
  · rw [e 0 (by omega)] at b
    obtain ⟨q1, q2, q3⟩ := r0 c a b
    exact ⟨by rw [e _ (by omega)]; exact q1, by rw [e _ (by omega)]; exact q2, fun r3 a3 b3 => by rw [e _ (by omega)]; exact q3 r3 a3 b3⟩
  · rw [e 1 (by omega)] at b
    rw [e _ (by omega), e _ (by omega)]; exact r1 s a b
  · rw [e 2 (by omega)] at b
    rw [e _ (by omega), e _ (by omega), e _ (by omega)]; exact r2 s a b
  · rw [e 5 (by omega)] at b
    rw [e _ (by omega)]; exact r3 i j a b a2 b2
  · rw [e 6 (by omega)] at b
    rw [e _ (by omega)]; exact r4 i j a b a2 b2
  · rw [e 7 (by omega)] at b
    rw [e _ (by omega)]; exact r5 i j a b a2 b2
  · obtain ⟨q1, q2, q3, q4⟩ := r6 i a b
    refine ⟨q1, q2, fun c2 a3 b3 => ?_, fun k2 a3 b3 => ?_⟩
    · rw [e 0 (by omega)] at b3
      rw [e _ (by omega), e _ (by omega)]; exact q3 c2 a3 b3
    · rw [e 2 (by omega)] at b3
      rw [e _ (by omega)]; exact q4 k2 a3 b3
theorem zfu4_ok {N : Int → Int} {v : Int} (h : zOK N) (hv : 0 ≤ v ∧ v ≤ 9) : zOK (zfu N 4 v) := by
  have e : ∀ j, j ≠ 4 → zfu N 4 v j = N j := fun j hj => if_neg hj
  have e4 : zfu N 4 v 4 = v := if_pos rfl
  obtain ⟨h0, h1, h2, h3, h4, h5, h6, h7⟩ := h
  refine ⟨?_, fun c a b => ?_, fun c r a b a2 b2 => ?_, fun s a b => ?_, fun s a b => ?_, fun i a b => ?_, fun i a b => ?_, fun i a b => ?_⟩
  · rw [zHd, e 0 (by omega), e 1 (by omega), e 2 (by omega), e 3 (by omega), e4, e 5 (by omega), e 6 (by omega), e 7 (by omega)]
    omega
  · rw [e 0 (by omega)] at b; rw [e _ (by omega), e _ (by omega)]; exact h1 c a b
  · rw [e 0 (by omega), e _ (by omega)]; exact h2 c r a b a2 b2
  · rw [e 1 (by omega)] at b; rw [e _ (by omega), e _ (by omega)]; exact h3 s a b
  · rw [e 2 (by omega)] at b; rw [e _ (by omega), e _ (by omega), e _ (by omega)]; exact h4 s a b
  · rw [e 5 (by omega)] at b; rw [e 0 (by omega), e _ (by omega), e _ (by omega), e _ (by omega), e _ (by omega)]; exact h5 i a b
  · rw [e 6 (by omega)] at b; rw [e 0 (by omega), e _ (by omega), e _ (by omega), e _ (by omega), e _ (by omega), e _ (by omega)]; exact h6 i a b
  · rw [e 7 (by omega)] at b; rw [e 1 (by omega), e _ (by omega), e _ (by omega), e _ (by omega), e _ (by omega), e _ (by omega)]; exact h7 i a b
section SFULL
variable {g : zG} {d : Nat} {w : zWd} {K : Option Value → zWd → Prop} {b : Nat} {N P : Int → Int} {u : Int}
theorem s_full0 (hS : zSto g w b N u P) (hH : zHd N) (k : K (some (zI (zb (5 ≤ N 0)))) w) : zCall g d 0 0 mX4_isFull [zR g (b + 1)] w K := by
  obtain ⟨C0, C1, C2, C3, C4, C5, C6, hO, h0, h1, h2, h3, h4, h5, h6, -⟩ := hS
  have hh := hH
  exact c_X4_isFull h0 ⟨by omega, by omega, by omega, by omega, by omega, by omega⟩ k
theorem s_full1 (hS : zSto g w b N u P) (hH : zHd N) (k : K (some (zI (zb (6 ≤ N 1)))) w) : zCall g d 0 0 mX4_isFull [zR g (b + 3)] w K := by
  obtain ⟨C0, C1, C2, C3, C4, C5, C6, hO, h0, h1, h2, h3, h4, h5, h6, -⟩ := hS
  have hh := hH
  exact c_X4_isFull h1 ⟨by omega, by omega, by omega, by omega, by omega, by omega⟩ k
theorem s_full2 (hS : zSto g w b N u P) (hH : zHd N) (k : K (some (zI (zb (4 ≤ N 2)))) w) : zCall g d 0 0 mX4_isFull [zR g (b + 5)] w K := by
  obtain ⟨C0, C1, C2, C3, C4, C5, C6, hO, h0, h1, h2, h3, h4, h5, h6, -⟩ := hS
  have hh := hH
  exact c_X4_isFull h2 ⟨by omega, by omega, by omega, by omega, by omega, by omega⟩ k
theorem s_full3 (hS : zSto g w b N u P) (hH : zHd N) (k : K (some (zI (zb (4 ≤ N 5)))) w) : zCall g d 0 0 mX4_isFull [zR g (b + 7)] w K := by
  obtain ⟨C0, C1, C2, C3, C4, C5, C6, hO, h0, h1, h2, h3, h4, h5, h6, -⟩ := hS
  have hh := hH
  exact c_X4_isFull h3 ⟨by omega, by omega, by omega, by omega, by omega, by omega⟩ k
theorem s_full4 (hS : zSto g w b N u P) (hH : zHd N) (k : K (some (zI (zb (6 ≤ N 6)))) w) : zCall g d 0 0 mX4_isFull [zR g (b + 9)] w K := by
  obtain ⟨C0, C1, C2, C3, C4, C5, C6, hO, h0, h1, h2, h3, h4, h5, h6, -⟩ := hS
  have hh := hH
  exact c_X4_isFull h4 ⟨by omega, by omega, by omega, by omega, by omega, by omega⟩ k
theorem s_full5 (hS : zSto g w b N u P) (hH : zHd N) (k : K (some (zI (zb (6 ≤ N 7)))) w) : zCall g d 0 0 mX4_isFull [zR g (b + 11)] w K := by
  obtain ⟨C0, C1, C2, C3, C4, C5, C6, hO, h0, h1, h2, h3, h4, h5, h6, -⟩ := hS
  have hh := hH
  exact c_X4_isFull h5 ⟨by omega, by omega, by omega, by omega, by omega, by omega⟩ k
end SFULL
section X3D
variable {g : zG} {d : Nat} {w : zWd} {K : Option Value → zWd → Prop} {db : Nat} {T N P : Int → Int} {len p : Int}
set_option maxRecDepth 100000 in
set_option maxHeartbeats 4000000 in
theorem c_X3_storeItem (hd : 4 ≤ d) (hF : zRS g w db T len p) (hT : w.1 (db + 16) = some (.inr (false, 150, T))) (hb : zTx T len) (hp : 0 ≤ p ∧ p ≤ len) (hS : zSto g w db N 0 P) (k : ∀ w', zSame w w' db 16 → zIt g w' db T len P (zistore T len N p) → K (some (zI (zb ((zistore T len N p).1 = true)))) w') : zCall g d 0 0 mX3_storeItem [zR g (db + 15)] w K := by
  obtain ⟨nm, hR, hv, hm⟩ := hF
  have hx1 := znx (T := T) hp
  have hx2 := znx (T := T) hx1
  unfold zistore at k
  by_cases h1 : znum T len 0 9 (znxt T len p)
  · have h1' := h1
    unfold znum at h1'
    rw [if_pos h1, zfin_b] at k
    refine zenter [some _, none] pn_X3 rfl (Nat.le_of_ble_eq_true rfl) ?_
    refine q_aload_n (pc := 0) dX3_storeItem_0 rfl rfl ?_
    refine q_invokevirtual (pc := 1) (d' := d - 1) (mc' := 0) (ms' := 0) (As := []) (TX3, 7) cl_X3_32 dX3_storeItem_1 rfl rfl (by assumption) rfl (by omega) rfl 0 0 (Nat.le_refl 0) (Nat.le_refl 0) ?_
    refine r_advance (by omega) hR hT hb (by omega) hm (fun w1 hs1 hF1 => ?_)
    obtain ⟨nm1, hR1, hv1, hm1⟩ := id hF1
    have hT1 := (hs1.2 (db + 16) (by omega)).trans hT
    have hS1 := hS.keep hs1 (by omega)
    refine q_aload_n (pc := 4) dX3_storeItem_4 rfl rfl ?_
    refine q_iconst (pc := 5) dX3_storeItem_5 ?_
    refine q_bipush (pc := 6) (by decide) dX3_storeItem_6 ?_
    refine q_invokevirtual (pc := 8) (d' := d - 1) (mc' := 0) (ms' := 0) (As := [_, _]) (TX3, 7) cl_X3_71 dX3_storeItem_8 rfl rfl (by assumption) rfl (by omega) rfl 0 0 (Nat.le_refl 0) (Nat.le_refl 0) ?_
    refine c_X3_takeNumber (by omega) hF1 hT1 hb (by omega) (by omega) (by omega) (fun w2 hs2 hF2 => ?_)
    rw [if_pos h1] at hF2 ⊢
    have hT2 := (hs2.2 (db + 16) (by omega)).trans hT1
    have hS2 := hS1.keep hs2 (by omega)
    obtain ⟨nm2, hR2, hv2, hm2⟩ := id hF2
    refine q_istore_n (pc := 11) [some _, some _] dX3_storeItem_11 rfl (Nat.le_of_ble_eq_true rfl) rfl ?_
    refine q_iload_n (pc := 12) dX3_storeItem_12 rfl ?_
    refine q_iconst (pc := 13) dX3_storeItem_13 ?_
    refine q_icmp_ne (pc := 14) (by omega) (by omega) 19 dX3_storeItem_14 rfl (fun c14 => ?_) (fun c14 => ?_)
    · refine q_aload_n (pc := 19) dX3_storeItem_19 rfl rfl ?_
      refine q_getfield (pc := 20) gf_X3_15 dX3_storeItem_20 (by assumption) rfl ?_
      refine q_iload_n (pc := 23) dX3_storeItem_23 rfl ?_
      refine q_putfield2 (pc := 24) [_, _, _, _, _, _, _, _, _] pf_X3_75 dX3_storeItem_24 hS2.o rfl rfl (Nat.le_of_ble_eq_true rfl) rfl ?_
      refine q_aload_n (pc := 27) dX3_storeItem_27 rfl rfl ?_
      refine q_invokevirtual (pc := 28) (d' := d - 1) (mc' := 0) (ms' := 0) (As := []) (TX3, 7) cl_X3_78 dX3_storeItem_28 rfl rfl (by simp only [zup]; rw [if_neg (by omega)]; exact hR2) rfl (by omega) rfl 0 0 (Nat.le_refl 0) (Nat.le_refl 0) ?_
      refine c_X3_itemEnds (by omega) (hF2.keep (zSame.up (b := db) (len := 1) (by omega)) (by omega)) (by simp only [zup]; rw [if_neg (by omega)]; exact hT2) hb (by omega) (fun w4 hs4 hF4 => ?_)
      refine q_zreturn (pc := 31) dX3_storeItem_31 rfl ?_
      exact k _ (((hs1.wide (by omega) (by omega)).tr (hs2.wide (by omega) (by omega))).tr ((zSame.up (by omega)).tr (hs4.wide (by omega) (by omega)))) (zfin_it hF4 (hS2.wind.keep hs4 (by omega)))
    exfalso; omega
  · rw [if_neg h1] at k
    refine zenter [some _, none] pn_X3 rfl (Nat.le_of_ble_eq_true rfl) ?_
    refine q_aload_n (pc := 0) dX3_storeItem_0 rfl rfl ?_
    refine q_invokevirtual (pc := 1) (d' := d - 1) (mc' := 0) (ms' := 0) (As := []) (TX3, 7) cl_X3_32 dX3_storeItem_1 rfl rfl (by assumption) rfl (by omega) rfl 0 0 (Nat.le_refl 0) (Nat.le_refl 0) ?_
    refine r_advance (by omega) hR hT hb (by omega) hm (fun w1 hs1 hF1 => ?_)
    obtain ⟨nm1, hR1, hv1, hm1⟩ := id hF1
    have hT1 := (hs1.2 (db + 16) (by omega)).trans hT
    have hS1 := hS.keep hs1 (by omega)
    refine q_aload_n (pc := 4) dX3_storeItem_4 rfl rfl ?_
    refine q_iconst (pc := 5) dX3_storeItem_5 ?_
    refine q_bipush (pc := 6) (by decide) dX3_storeItem_6 ?_
    refine q_invokevirtual (pc := 8) (d' := d - 1) (mc' := 0) (ms' := 0) (As := [_, _]) (TX3, 7) cl_X3_71 dX3_storeItem_8 rfl rfl (by assumption) rfl (by omega) rfl 0 0 (Nat.le_refl 0) (Nat.le_refl 0) ?_
    refine c_X3_takeNumber (by omega) hF1 hT1 hb (by omega) (by omega) (by omega) (fun w2 hs2 hF2 => ?_)
    rw [if_neg h1] at hF2 ⊢
    obtain ⟨nm2, hR2, hv2, hm2⟩ := id hF2
    have hS2 := hS1.keep hs2 (by omega)
    refine q_istore_n (pc := 11) [some _, some _] dX3_storeItem_11 rfl (Nat.le_of_ble_eq_true rfl) rfl ?_
    refine q_iload_n (pc := 12) dX3_storeItem_12 rfl ?_
    refine q_iconst (pc := 13) dX3_storeItem_13 ?_
    refine q_icmp_ne (pc := 14) (by omega) (by omega) 19 dX3_storeItem_14 rfl (fun c14 => ?_) (fun c14 => ?_)
    · exfalso; omega
    refine q_iconst (pc := 17) dX3_storeItem_17 ?_
    exact q_zreturn0 (pc := 18) (fun z => by cases z) dX3_storeItem_18 rfl (k _ ((hs1.wide (by omega) (by omega)).tr (hs2.wide (by omega) (by omega))) ⟨hF2, hS2⟩)
set_option maxRecDepth 100000 in
set_option maxHeartbeats 4000000 in
theorem c_X3_weeksItem (hd : 4 ≤ d) (hF : zRS g w db T len p) (hT : w.1 (db + 16) = some (.inr (false, 150, T))) (hb : zTx T len) (hp : 0 ≤ p ∧ p ≤ len) (hS : zSto g w db N 0 P) (hO : zOK N) (k : ∀ w', zSame w w' db 16 → zIt g w' db T len P (ziwks T len N p) → K (some (zI (zb ((ziwks T len N p).1 = true)))) w') : zCall g d 0 0 mX3_weeksItem [zR g (db + 15)] w K := by
  obtain ⟨nm, hR, hv, hm⟩ := hF
  have hx1 := znx (T := T) hp
  have hx2 := znx (T := T) hx1
  unfold ziwks at k
  by_cases h1 : znum T len 1 99 (znxt T len p)
  · have h1' := h1
    unfold znum at h1'
    rw [if_pos h1, zfin_b] at k
    refine zenter [some _, none] pn_X3 rfl (Nat.le_of_ble_eq_true rfl) ?_
    refine q_aload_n (pc := 0) dX3_weeksItem_0 rfl rfl ?_
    refine q_invokevirtual (pc := 1) (d' := d - 1) (mc' := 0) (ms' := 0) (As := []) (TX3, 7) cl_X3_32 dX3_weeksItem_1 rfl rfl (by assumption) rfl (by omega) rfl 0 0 (Nat.le_refl 0) (Nat.le_refl 0) ?_
    refine r_advance (by omega) hR hT hb (by omega) hm (fun w1 hs1 hF1 => ?_)
    obtain ⟨nm1, hR1, hv1, hm1⟩ := id hF1
    have hT1 := (hs1.2 (db + 16) (by omega)).trans hT
    have hS1 := hS.keep hs1 (by omega)
    refine q_aload_n (pc := 4) dX3_weeksItem_4 rfl rfl ?_
    refine q_iconst (pc := 5) dX3_weeksItem_5 ?_
    refine q_bipush (pc := 6) (by decide) dX3_weeksItem_6 ?_
    refine q_invokevirtual (pc := 8) (d' := d - 1) (mc' := 0) (ms' := 0) (As := [_, _]) (TX3, 7) cl_X3_71 dX3_weeksItem_8 rfl rfl (by assumption) rfl (by omega) rfl 0 0 (Nat.le_refl 0) (Nat.le_refl 0) ?_
    refine c_X3_takeNumber (by omega) hF1 hT1 hb (by omega) (by omega) (by omega) (fun w2 hs2 hF2 => ?_)
    rw [if_pos h1] at hF2 ⊢
    have hT2 := (hs2.2 (db + 16) (by omega)).trans hT1
    have hS2 := hS1.keep hs2 (by omega)
    obtain ⟨nm2, hR2, hv2, hm2⟩ := id hF2
    refine q_istore_n (pc := 11) [some _, some _] dX3_weeksItem_11 rfl (Nat.le_of_ble_eq_true rfl) rfl ?_
    refine q_iload_n (pc := 12) dX3_weeksItem_12 rfl ?_
    refine q_iconst (pc := 13) dX3_weeksItem_13 ?_
    refine q_icmp_ne (pc := 14) (by omega) (by omega) 19 dX3_weeksItem_14 rfl (fun c14 => ?_) (fun c14 => ?_)
    · refine q_aload_n (pc := 19) dX3_weeksItem_19 rfl rfl ?_
      refine q_getfield (pc := 20) gf_X3_15 dX3_weeksItem_20 (by assumption) rfl ?_
      refine q_iload_n (pc := 23) dX3_weeksItem_23 rfl ?_
      refine q_invokevirtual (pc := 24) (d' := d - 1) (mc' := 0) (ms' := 0) (As := [_]) (TX6, 9) cl_X3_109 dX3_weeksItem_24 rfl rfl hS2.o rfl (by omega) rfl 0 0 (Nat.le_refl 0) (Nat.le_refl 0) ?_
      refine c_X6_passWeeks (by omega) hS2 hO (by omega) (fun w3 hs3 hS3 => ?_)
      have hT3 := (hs3.2 (db + 16) (by omega)).trans hT2
      refine q_aload_n (pc := 27) dX3_weeksItem_27 rfl rfl ?_
      refine q_invokevirtual (pc := 28) (d' := d - 1) (mc' := 0) (ms' := 0) (As := []) (TX3, 7) cl_X3_78 dX3_weeksItem_28 rfl rfl ((hs3.2 (db + 15) (by omega)).trans hR2) rfl (by omega) rfl 0 0 (Nat.le_refl 0) (Nat.le_refl 0) ?_
      refine c_X3_itemEnds (by omega) (hF2.keep hs3 (by omega)) hT3 hb (by omega) (fun w4 hs4 hF4 => ?_)
      refine q_zreturn (pc := 31) dX3_weeksItem_31 rfl ?_
      exact k _ (((hs1.wide (by omega) (by omega)).tr (hs2.wide (by omega) (by omega))).tr ((hs3.wide (by omega) (by omega)).tr (hs4.wide (by omega) (by omega)))) (zfin_it hF4 (hS3.keep hs4 (by omega)))
    exfalso; omega
  · rw [if_neg h1] at k
    refine zenter [some _, none] pn_X3 rfl (Nat.le_of_ble_eq_true rfl) ?_
    refine q_aload_n (pc := 0) dX3_weeksItem_0 rfl rfl ?_
    refine q_invokevirtual (pc := 1) (d' := d - 1) (mc' := 0) (ms' := 0) (As := []) (TX3, 7) cl_X3_32 dX3_weeksItem_1 rfl rfl (by assumption) rfl (by omega) rfl 0 0 (Nat.le_refl 0) (Nat.le_refl 0) ?_
    refine r_advance (by omega) hR hT hb (by omega) hm (fun w1 hs1 hF1 => ?_)
    obtain ⟨nm1, hR1, hv1, hm1⟩ := id hF1
    have hT1 := (hs1.2 (db + 16) (by omega)).trans hT
    have hS1 := hS.keep hs1 (by omega)
    refine q_aload_n (pc := 4) dX3_weeksItem_4 rfl rfl ?_
    refine q_iconst (pc := 5) dX3_weeksItem_5 ?_
    refine q_bipush (pc := 6) (by decide) dX3_weeksItem_6 ?_
    refine q_invokevirtual (pc := 8) (d' := d - 1) (mc' := 0) (ms' := 0) (As := [_, _]) (TX3, 7) cl_X3_71 dX3_weeksItem_8 rfl rfl (by assumption) rfl (by omega) rfl 0 0 (Nat.le_refl 0) (Nat.le_refl 0) ?_
    refine c_X3_takeNumber (by omega) hF1 hT1 hb (by omega) (by omega) (by omega) (fun w2 hs2 hF2 => ?_)
    rw [if_neg h1] at hF2 ⊢
    obtain ⟨nm2, hR2, hv2, hm2⟩ := id hF2
    have hS2 := hS1.keep hs2 (by omega)
    refine q_istore_n (pc := 11) [some _, some _] dX3_weeksItem_11 rfl (Nat.le_of_ble_eq_true rfl) rfl ?_
    refine q_iload_n (pc := 12) dX3_weeksItem_12 rfl ?_
    refine q_iconst (pc := 13) dX3_weeksItem_13 ?_
    refine q_icmp_ne (pc := 14) (by omega) (by omega) 19 dX3_weeksItem_14 rfl (fun c14 => ?_) (fun c14 => ?_)
    · exfalso; omega
    refine q_iconst (pc := 17) dX3_weeksItem_17 ?_
    exact q_zreturn0 (pc := 18) (fun z => by cases z) dX3_weeksItem_18 rfl (k _ ((hs1.wide (by omega) (by omega)).tr (hs2.wide (by omega) (by omega))) ⟨hF2, hS2⟩)
set_option maxRecDepth 100000 in
set_option maxHeartbeats 4000000 in
theorem c_X3_slingerItem (hd : 4 ≤ d) (hF : zRS g w db T len p) (hT : w.1 (db + 16) = some (.inr (false, 150, T))) (hb : zTx T len) (hp : 0 ≤ p ∧ p ≤ len) (hS : zSto g w db N 0 P) (hO : zOK N) (k : ∀ w', zSame w w' db 16 → zIt g w' db T len P (zislg T len N p) → K (some (zI (zb ((zislg T len N p).1 = true)))) w') : zCall g d 0 0 mX3_slingerItem [zR g (db + 15)] w K := by
  have hF0 := hF
  obtain ⟨nm, hR, hv, hm⟩ := hF
  have hH := hO.1
  have hx1 := znx (T := T) hp
  have hx2 := znx (T := T) hx1
  have hx3 := znx (T := T) hx2
  unfold zislg zitwo at k
  by_cases h0 : N 1 = 6
  · rw [if_pos h0] at k
    refine zenter [some _, none, none] pn_X3 rfl (Nat.le_of_ble_eq_true rfl) ?_
    refine q_aload_n (pc := 0) dX3_slingerItem_0 rfl rfl ?_
    refine q_getfield (pc := 1) gf_X3_15 dX3_slingerItem_1 (by assumption) rfl ?_
    refine q_getfield (pc := 4) gf_X3_97 dX3_slingerItem_4 hS.o rfl ?_
    refine q_invokevirtual (pc := 7) (d' := d - 1) (mc' := 0) (ms' := 0) (As := []) (TX4, 4) cl_X3_85 dX3_slingerItem_7 rfl rfl hS.s1 rfl (by omega) rfl 0 0 (Nat.le_refl 0) (Nat.le_refl 0) ?_
    refine s_full1 hS hO.1 ?_
    refine q_ifb_eq (pc := 10) 15 dX3_slingerItem_10 rfl (fun c10 => ?_) (fun c10 => ?_)
    · exfalso; omega
    refine q_iconst (pc := 13) dX3_slingerItem_13 ?_
    exact q_zreturn0 (pc := 14) (fun z => by cases z) dX3_slingerItem_14 rfl (k _ zSame.rf ⟨hF0, hS⟩)
  · rw [if_neg h0] at k
    by_cases h1 : znum T len 0 5 (znxt T len p)
    · have h1' := h1
      unfold znum at h1'
      rw [if_pos h1] at k
      by_cases h2 : znum T len 0 9 (znxt T len (znxt T len p))
      · have h2' := h2
        unfold znum at h2'
        rw [if_pos h2, zfin_b] at k
        refine zenter [some _, none, none] pn_X3 rfl (Nat.le_of_ble_eq_true rfl) ?_
        refine q_aload_n (pc := 0) dX3_slingerItem_0 rfl rfl ?_
        refine q_getfield (pc := 1) gf_X3_15 dX3_slingerItem_1 (by assumption) rfl ?_
        refine q_getfield (pc := 4) gf_X3_97 dX3_slingerItem_4 hS.o rfl ?_
        refine q_invokevirtual (pc := 7) (d' := d - 1) (mc' := 0) (ms' := 0) (As := []) (TX4, 4) cl_X3_85 dX3_slingerItem_7 rfl rfl hS.s1 rfl (by omega) rfl 0 0 (Nat.le_refl 0) (Nat.le_refl 0) ?_
        refine s_full1 hS hO.1 ?_
        refine q_ifb_eq (pc := 10) 15 dX3_slingerItem_10 rfl (fun c10 => ?_) (fun c10 => ?_)
        · refine q_aload_n (pc := 15) dX3_slingerItem_15 rfl rfl ?_
          refine q_invokevirtual (pc := 16) (d' := d - 1) (mc' := 0) (ms' := 0) (As := []) (TX3, 7) cl_X3_32 dX3_slingerItem_16 rfl rfl (by assumption) rfl (by omega) rfl 0 0 (Nat.le_refl 0) (Nat.le_refl 0) ?_
          refine r_advance (by omega) hR hT hb (by omega) hm (fun w1 hs1 hF1 => ?_)
          obtain ⟨nm1, hR1, hv1, hm1⟩ := id hF1
          have hT1 := (hs1.2 (db + 16) (by omega)).trans hT
          have hS1 := hS.keep hs1 (by omega)
          refine q_aload_n (pc := 19) dX3_slingerItem_19 rfl rfl ?_
          refine q_iconst (pc := 20) dX3_slingerItem_20 ?_
          refine q_iconst (pc := 21) dX3_slingerItem_21 ?_
          refine q_invokevirtual (pc := 22) (d' := d - 1) (mc' := 0) (ms' := 0) (As := [_, _]) (TX3, 7) cl_X3_71 dX3_slingerItem_22 rfl rfl (by assumption) rfl (by omega) rfl 0 0 (Nat.le_refl 0) (Nat.le_refl 0) ?_
          refine c_X3_takeNumber (by omega) hF1 hT1 hb (by omega) (by omega) (by omega) (fun w2 hs2 hF2 => ?_)
          rw [if_pos h1] at hF2 ⊢
          obtain ⟨nm2, hR2, hv2, hm2⟩ := id hF2
          have hT2 := (hs2.2 (db + 16) (by omega)).trans hT1
          have hS2 := hS1.keep hs2 (by omega)
          refine q_istore_n (pc := 25) [some _, some _, none] dX3_slingerItem_25 rfl (Nat.le_of_ble_eq_true rfl) rfl ?_
          refine q_iload_n (pc := 26) dX3_slingerItem_26 rfl ?_
          refine q_iconst (pc := 27) dX3_slingerItem_27 ?_
          refine q_icmp_ne (pc := 28) (by omega) (by omega) 35 dX3_slingerItem_28 rfl (fun c28 => ?_) (fun c28 => ?_)
          · refine q_aload_n (pc := 35) dX3_slingerItem_35 rfl rfl ?_
            refine q_iconst (pc := 36) dX3_slingerItem_36 ?_
            refine q_bipush (pc := 37) (by decide) dX3_slingerItem_37 ?_
            refine q_invokevirtual (pc := 39) (d' := d - 1) (mc' := 0) (ms' := 0) (As := [_, _]) (TX3, 7) cl_X3_71 dX3_slingerItem_39 rfl rfl (by assumption) rfl (by omega) rfl 0 0 (Nat.le_refl 0) (Nat.le_refl 0) ?_
            refine c_X3_takeNumber (by omega) hF2 hT2 hb (by omega) (by omega) (by omega) (fun w3 hs3 hF3 => ?_)
            rw [if_pos h2] at hF3 ⊢
            have hT3 := (hs3.2 (db + 16) (by omega)).trans hT2
            have hS3 := hS2.keep hs3 (by omega)
            obtain ⟨nm3, hR3, hv3, hm3⟩ := id hF3
            refine q_istore_n (pc := 42) [some _, some _, some _] dX3_slingerItem_42 rfl (Nat.le_of_ble_eq_true rfl) rfl ?_
            refine q_iload_n (pc := 43) dX3_slingerItem_43 rfl ?_
            refine q_iconst (pc := 44) dX3_slingerItem_44 ?_
            refine q_icmp_ne (pc := 45) (by omega) (by omega) 50 dX3_slingerItem_45 rfl (fun c45 => ?_) (fun c45 => ?_)
            · refine q_aload_n (pc := 50) dX3_slingerItem_50 rfl rfl ?_
              refine q_getfield (pc := 51) gf_X3_15 dX3_slingerItem_51 (by assumption) rfl ?_
              refine q_iload_n (pc := 54) dX3_slingerItem_54 rfl ?_
              refine q_iload_n (pc := 55) dX3_slingerItem_55 rfl ?_
              refine q_invokevirtual (pc := 56) (d' := d - 1) (mc' := 0) (ms' := 0) (As := [_, _]) (TX6, 9) cl_X3_100 dX3_slingerItem_56 rfl rfl hS3.o rfl (by omega) rfl 0 0 (Nat.le_refl 0) (Nat.le_refl 0) ?_
              refine c_X6_addSlinger (by omega) hS3 hO (by omega) (fun w4 hs4 hS4 => ?_)
              have hT4 := (hs4.2 (db + 16) (by omega)).trans hT3
              refine q_pop (pc := 59) rfl dX3_slingerItem_59 ?_
              refine q_aload_n (pc := 60) dX3_slingerItem_60 rfl rfl ?_
              refine q_invokevirtual (pc := 61) (d' := d - 1) (mc' := 0) (ms' := 0) (As := []) (TX3, 7) cl_X3_78 dX3_slingerItem_61 rfl rfl ((hs4.2 (db + 15) (by omega)).trans hR3) rfl (by omega) rfl 0 0 (Nat.le_refl 0) (Nat.le_refl 0) ?_
              refine c_X3_itemEnds (by omega) (hF3.keep hs4 (by omega)) hT4 hb (by omega) (fun w5 hs5 hF5 => ?_)
              refine q_zreturn (pc := 64) dX3_slingerItem_64 rfl ?_
              exact k _ ((((hs1.wide (by omega) (by omega)).tr (hs2.wide (by omega) (by omega))).tr (hs3.wide (by omega) (by omega))).tr ((hs4.wide (by omega) (by omega)).tr (hs5.wide (by omega) (by omega)))) (zfin_it hF5 (hS4.keep hs5 (by omega)))
            exfalso; omega
          exfalso; omega
        exfalso; omega
      · rw [if_neg h2] at k
        refine zenter [some _, none, none] pn_X3 rfl (Nat.le_of_ble_eq_true rfl) ?_
        refine q_aload_n (pc := 0) dX3_slingerItem_0 rfl rfl ?_
        refine q_getfield (pc := 1) gf_X3_15 dX3_slingerItem_1 (by assumption) rfl ?_
        refine q_getfield (pc := 4) gf_X3_97 dX3_slingerItem_4 hS.o rfl ?_
        refine q_invokevirtual (pc := 7) (d' := d - 1) (mc' := 0) (ms' := 0) (As := []) (TX4, 4) cl_X3_85 dX3_slingerItem_7 rfl rfl hS.s1 rfl (by omega) rfl 0 0 (Nat.le_refl 0) (Nat.le_refl 0) ?_
        refine s_full1 hS hO.1 ?_
        refine q_ifb_eq (pc := 10) 15 dX3_slingerItem_10 rfl (fun c10 => ?_) (fun c10 => ?_)
        · refine q_aload_n (pc := 15) dX3_slingerItem_15 rfl rfl ?_
          refine q_invokevirtual (pc := 16) (d' := d - 1) (mc' := 0) (ms' := 0) (As := []) (TX3, 7) cl_X3_32 dX3_slingerItem_16 rfl rfl (by assumption) rfl (by omega) rfl 0 0 (Nat.le_refl 0) (Nat.le_refl 0) ?_
          refine r_advance (by omega) hR hT hb (by omega) hm (fun w1 hs1 hF1 => ?_)
          obtain ⟨nm1, hR1, hv1, hm1⟩ := id hF1
          have hT1 := (hs1.2 (db + 16) (by omega)).trans hT
          have hS1 := hS.keep hs1 (by omega)
          refine q_aload_n (pc := 19) dX3_slingerItem_19 rfl rfl ?_
          refine q_iconst (pc := 20) dX3_slingerItem_20 ?_
          refine q_iconst (pc := 21) dX3_slingerItem_21 ?_
          refine q_invokevirtual (pc := 22) (d' := d - 1) (mc' := 0) (ms' := 0) (As := [_, _]) (TX3, 7) cl_X3_71 dX3_slingerItem_22 rfl rfl (by assumption) rfl (by omega) rfl 0 0 (Nat.le_refl 0) (Nat.le_refl 0) ?_
          refine c_X3_takeNumber (by omega) hF1 hT1 hb (by omega) (by omega) (by omega) (fun w2 hs2 hF2 => ?_)
          rw [if_pos h1] at hF2 ⊢
          obtain ⟨nm2, hR2, hv2, hm2⟩ := id hF2
          have hT2 := (hs2.2 (db + 16) (by omega)).trans hT1
          have hS2 := hS1.keep hs2 (by omega)
          refine q_istore_n (pc := 25) [some _, some _, none] dX3_slingerItem_25 rfl (Nat.le_of_ble_eq_true rfl) rfl ?_
          refine q_iload_n (pc := 26) dX3_slingerItem_26 rfl ?_
          refine q_iconst (pc := 27) dX3_slingerItem_27 ?_
          refine q_icmp_ne (pc := 28) (by omega) (by omega) 35 dX3_slingerItem_28 rfl (fun c28 => ?_) (fun c28 => ?_)
          · refine q_aload_n (pc := 35) dX3_slingerItem_35 rfl rfl ?_
            refine q_iconst (pc := 36) dX3_slingerItem_36 ?_
            refine q_bipush (pc := 37) (by decide) dX3_slingerItem_37 ?_
            refine q_invokevirtual (pc := 39) (d' := d - 1) (mc' := 0) (ms' := 0) (As := [_, _]) (TX3, 7) cl_X3_71 dX3_slingerItem_39 rfl rfl (by assumption) rfl (by omega) rfl 0 0 (Nat.le_refl 0) (Nat.le_refl 0) ?_
            refine c_X3_takeNumber (by omega) hF2 hT2 hb (by omega) (by omega) (by omega) (fun w3 hs3 hF3 => ?_)
            rw [if_neg h2] at hF3 ⊢
            have hT3 := (hs3.2 (db + 16) (by omega)).trans hT2
            have hS3 := hS2.keep hs3 (by omega)
            obtain ⟨nm3, hR3, hv3, hm3⟩ := id hF3
            refine q_istore_n (pc := 42) [some _, some _, some _] dX3_slingerItem_42 rfl (Nat.le_of_ble_eq_true rfl) rfl ?_
            refine q_iload_n (pc := 43) dX3_slingerItem_43 rfl ?_
            refine q_iconst (pc := 44) dX3_slingerItem_44 ?_
            refine q_icmp_ne (pc := 45) (by omega) (by omega) 50 dX3_slingerItem_45 rfl (fun c45 => ?_) (fun c45 => ?_)
            · exfalso; omega
            refine q_iconst (pc := 48) dX3_slingerItem_48 ?_
            exact q_zreturn0 (pc := 49) (fun z => by cases z) dX3_slingerItem_49 rfl (k _ (((hs1.wide (by omega) (by omega)).tr (hs2.wide (by omega) (by omega))).tr (hs3.wide (by omega) (by omega))) ⟨hF3, hS3⟩)
          exfalso; omega
        exfalso; omega
    · rw [if_neg h1] at k
      refine zenter [some _, none, none] pn_X3 rfl (Nat.le_of_ble_eq_true rfl) ?_
      refine q_aload_n (pc := 0) dX3_slingerItem_0 rfl rfl ?_
      refine q_getfield (pc := 1) gf_X3_15 dX3_slingerItem_1 (by assumption) rfl ?_
      refine q_getfield (pc := 4) gf_X3_97 dX3_slingerItem_4 hS.o rfl ?_
      refine q_invokevirtual (pc := 7) (d' := d - 1) (mc' := 0) (ms' := 0) (As := []) (TX4, 4) cl_X3_85 dX3_slingerItem_7 rfl rfl hS.s1 rfl (by omega) rfl 0 0 (Nat.le_refl 0) (Nat.le_refl 0) ?_
      refine s_full1 hS hO.1 ?_
      refine q_ifb_eq (pc := 10) 15 dX3_slingerItem_10 rfl (fun c10 => ?_) (fun c10 => ?_)
      · refine q_aload_n (pc := 15) dX3_slingerItem_15 rfl rfl ?_
        refine q_invokevirtual (pc := 16) (d' := d - 1) (mc' := 0) (ms' := 0) (As := []) (TX3, 7) cl_X3_32 dX3_slingerItem_16 rfl rfl (by assumption) rfl (by omega) rfl 0 0 (Nat.le_refl 0) (Nat.le_refl 0) ?_
        refine r_advance (by omega) hR hT hb (by omega) hm (fun w1 hs1 hF1 => ?_)
        obtain ⟨nm1, hR1, hv1, hm1⟩ := id hF1
        have hT1 := (hs1.2 (db + 16) (by omega)).trans hT
        have hS1 := hS.keep hs1 (by omega)
        refine q_aload_n (pc := 19) dX3_slingerItem_19 rfl rfl ?_
        refine q_iconst (pc := 20) dX3_slingerItem_20 ?_
        refine q_iconst (pc := 21) dX3_slingerItem_21 ?_
        refine q_invokevirtual (pc := 22) (d' := d - 1) (mc' := 0) (ms' := 0) (As := [_, _]) (TX3, 7) cl_X3_71 dX3_slingerItem_22 rfl rfl (by assumption) rfl (by omega) rfl 0 0 (Nat.le_refl 0) (Nat.le_refl 0) ?_
        refine c_X3_takeNumber (by omega) hF1 hT1 hb (by omega) (by omega) (by omega) (fun w2 hs2 hF2 => ?_)
        rw [if_neg h1] at hF2 ⊢
        obtain ⟨nm2, hR2, hv2, hm2⟩ := id hF2
        have hT2 := (hs2.2 (db + 16) (by omega)).trans hT1
        have hS2 := hS1.keep hs2 (by omega)
        refine q_istore_n (pc := 25) [some _, some _, none] dX3_slingerItem_25 rfl (Nat.le_of_ble_eq_true rfl) rfl ?_
        refine q_iload_n (pc := 26) dX3_slingerItem_26 rfl ?_
        refine q_iconst (pc := 27) dX3_slingerItem_27 ?_
        refine q_icmp_ne (pc := 28) (by omega) (by omega) 35 dX3_slingerItem_28 rfl (fun c28 => ?_) (fun c28 => ?_)
        · exfalso; omega
        refine q_iconst (pc := 31) dX3_slingerItem_31 ?_
        refine q_goto (pc := 32) 42 dX3_slingerItem_32 rfl ?_
        refine q_istore_n (pc := 42) [some _, some _, some _] dX3_slingerItem_42 rfl (Nat.le_of_ble_eq_true rfl) rfl ?_
        refine q_iload_n (pc := 43) dX3_slingerItem_43 rfl ?_
        refine q_iconst (pc := 44) dX3_slingerItem_44 ?_
        refine q_icmp_ne (pc := 45) (by omega) (by omega) 50 dX3_slingerItem_45 rfl (fun c45 => ?_) (fun c45 => ?_)
        · exfalso; omega
        refine q_iconst (pc := 48) dX3_slingerItem_48 ?_
        exact q_zreturn0 (pc := 49) (fun z => by cases z) dX3_slingerItem_49 rfl (k _ ((hs1.wide (by omega) (by omega)).tr (hs2.wide (by omega) (by omega))) ⟨hF2, hS2⟩)
      exfalso; omega
set_option maxRecDepth 100000 in
set_option maxHeartbeats 4000000 in
theorem c_X3_cloudItem (hd : 4 ≤ d) (hF : zRS g w db T len p) (hT : w.1 (db + 16) = some (.inr (false, 150, T))) (hb : zTx T len) (hp : 0 ≤ p ∧ p ≤ len) (hS : zSto g w db N 0 P) (hO : zOK N) (k : ∀ w', zSame w w' db 16 → zIt g w' db T len P (zicld T len N p) → K (some (zI (zb ((zicld T len N p).1 = true)))) w') : zCall g d 0 0 mX3_cloudItem [zR g (db + 15)] w K := by
  have hF0 := hF
  obtain ⟨nm, hR, hv, hm⟩ := hF
  have hH := hO.1
  have hx1 := znx (T := T) hp
  have hx2 := znx (T := T) hx1
  have hx3 := znx (T := T) hx2
  unfold zicld zitwo at k
  by_cases h0 : N 2 = 4
  · rw [if_pos h0] at k
    refine zenter [some _, none, none] pn_X3 rfl (Nat.le_of_ble_eq_true rfl) ?_
    refine q_aload_n (pc := 0) dX3_cloudItem_0 rfl rfl ?_
    refine q_getfield (pc := 1) gf_X3_15 dX3_cloudItem_1 (by assumption) rfl ?_
    refine q_getfield (pc := 4) gf_X3_103 dX3_cloudItem_4 hS.o rfl ?_
    refine q_invokevirtual (pc := 7) (d' := d - 1) (mc' := 0) (ms' := 0) (As := []) (TX4, 4) cl_X3_85 dX3_cloudItem_7 rfl rfl hS.s2 rfl (by omega) rfl 0 0 (Nat.le_refl 0) (Nat.le_refl 0) ?_
    refine s_full2 hS hO.1 ?_
    refine q_ifb_eq (pc := 10) 15 dX3_cloudItem_10 rfl (fun c10 => ?_) (fun c10 => ?_)
    · exfalso; omega
    refine q_iconst (pc := 13) dX3_cloudItem_13 ?_
    exact q_zreturn0 (pc := 14) (fun z => by cases z) dX3_cloudItem_14 rfl (k _ zSame.rf ⟨hF0, hS⟩)
  · rw [if_neg h0] at k
    by_cases h1 : znum T len 1 30 (znxt T len p)
    · have h1' := h1
      unfold znum at h1'
      rw [if_pos h1] at k
      by_cases h2 : znum T len 1 40 (znxt T len (znxt T len p))
      · have h2' := h2
        unfold znum at h2'
        rw [if_pos h2, zfin_b] at k
        refine zenter [some _, none, none] pn_X3 rfl (Nat.le_of_ble_eq_true rfl) ?_
        refine q_aload_n (pc := 0) dX3_cloudItem_0 rfl rfl ?_
        refine q_getfield (pc := 1) gf_X3_15 dX3_cloudItem_1 (by assumption) rfl ?_
        refine q_getfield (pc := 4) gf_X3_103 dX3_cloudItem_4 hS.o rfl ?_
        refine q_invokevirtual (pc := 7) (d' := d - 1) (mc' := 0) (ms' := 0) (As := []) (TX4, 4) cl_X3_85 dX3_cloudItem_7 rfl rfl hS.s2 rfl (by omega) rfl 0 0 (Nat.le_refl 0) (Nat.le_refl 0) ?_
        refine s_full2 hS hO.1 ?_
        refine q_ifb_eq (pc := 10) 15 dX3_cloudItem_10 rfl (fun c10 => ?_) (fun c10 => ?_)
        · refine q_aload_n (pc := 15) dX3_cloudItem_15 rfl rfl ?_
          refine q_invokevirtual (pc := 16) (d' := d - 1) (mc' := 0) (ms' := 0) (As := []) (TX3, 7) cl_X3_32 dX3_cloudItem_16 rfl rfl (by assumption) rfl (by omega) rfl 0 0 (Nat.le_refl 0) (Nat.le_refl 0) ?_
          refine r_advance (by omega) hR hT hb (by omega) hm (fun w1 hs1 hF1 => ?_)
          obtain ⟨nm1, hR1, hv1, hm1⟩ := id hF1
          have hT1 := (hs1.2 (db + 16) (by omega)).trans hT
          have hS1 := hS.keep hs1 (by omega)
          refine q_aload_n (pc := 19) dX3_cloudItem_19 rfl rfl ?_
          refine q_iconst (pc := 20) dX3_cloudItem_20 ?_
          refine q_bipush (pc := 21) (by decide) dX3_cloudItem_21 ?_
          refine q_invokevirtual (pc := 23) (d' := d - 1) (mc' := 0) (ms' := 0) (As := [_, _]) (TX3, 7) cl_X3_71 dX3_cloudItem_23 rfl rfl (by assumption) rfl (by omega) rfl 0 0 (Nat.le_refl 0) (Nat.le_refl 0) ?_
          refine c_X3_takeNumber (by omega) hF1 hT1 hb (by omega) (by omega) (by omega) (fun w2 hs2 hF2 => ?_)
          rw [if_pos h1] at hF2 ⊢
          obtain ⟨nm2, hR2, hv2, hm2⟩ := id hF2
          have hT2 := (hs2.2 (db + 16) (by omega)).trans hT1
          have hS2 := hS1.keep hs2 (by omega)
          refine q_istore_n (pc := 26) [some _, some _, none] dX3_cloudItem_26 rfl (Nat.le_of_ble_eq_true rfl) rfl ?_
          refine q_iload_n (pc := 27) dX3_cloudItem_27 rfl ?_
          refine q_iconst (pc := 28) dX3_cloudItem_28 ?_
          refine q_icmp_ne (pc := 29) (by omega) (by omega) 36 dX3_cloudItem_29 rfl (fun c29 => ?_) (fun c29 => ?_)
          · refine q_aload_n (pc := 36) dX3_cloudItem_36 rfl rfl ?_
            refine q_iconst (pc := 37) dX3_cloudItem_37 ?_
            refine q_bipush (pc := 38) (by decide) dX3_cloudItem_38 ?_
            refine q_invokevirtual (pc := 40) (d' := d - 1) (mc' := 0) (ms' := 0) (As := [_, _]) (TX3, 7) cl_X3_71 dX3_cloudItem_40 rfl rfl (by assumption) rfl (by omega) rfl 0 0 (Nat.le_refl 0) (Nat.le_refl 0) ?_
            refine c_X3_takeNumber (by omega) hF2 hT2 hb (by omega) (by omega) (by omega) (fun w3 hs3 hF3 => ?_)
            rw [if_pos h2] at hF3 ⊢
            have hT3 := (hs3.2 (db + 16) (by omega)).trans hT2
            have hS3 := hS2.keep hs3 (by omega)
            obtain ⟨nm3, hR3, hv3, hm3⟩ := id hF3
            refine q_istore_n (pc := 43) [some _, some _, some _] dX3_cloudItem_43 rfl (Nat.le_of_ble_eq_true rfl) rfl ?_
            refine q_iload_n (pc := 44) dX3_cloudItem_44 rfl ?_
            refine q_iconst (pc := 45) dX3_cloudItem_45 ?_
            refine q_icmp_ne (pc := 46) (by omega) (by omega) 51 dX3_cloudItem_46 rfl (fun c46 => ?_) (fun c46 => ?_)
            · refine q_aload_n (pc := 51) dX3_cloudItem_51 rfl rfl ?_
              refine q_getfield (pc := 52) gf_X3_15 dX3_cloudItem_52 (by assumption) rfl ?_
              refine q_iload_n (pc := 55) dX3_cloudItem_55 rfl ?_
              refine q_iload_n (pc := 56) dX3_cloudItem_56 rfl ?_
              refine q_invokevirtual (pc := 57) (d' := d - 1) (mc' := 0) (ms' := 0) (As := [_, _]) (TX6, 9) cl_X3_106 dX3_cloudItem_57 rfl rfl hS3.o rfl (by omega) rfl 0 0 (Nat.le_refl 0) (Nat.le_refl 0) ?_
              refine c_X6_addCloud (by omega) hS3 hO (by omega) (fun w4 hs4 hS4 => ?_)
              have hT4 := (hs4.2 (db + 16) (by omega)).trans hT3
              refine q_pop (pc := 60) rfl dX3_cloudItem_60 ?_
              refine q_aload_n (pc := 61) dX3_cloudItem_61 rfl rfl ?_
              refine q_invokevirtual (pc := 62) (d' := d - 1) (mc' := 0) (ms' := 0) (As := []) (TX3, 7) cl_X3_78 dX3_cloudItem_62 rfl rfl ((hs4.2 (db + 15) (by omega)).trans hR3) rfl (by omega) rfl 0 0 (Nat.le_refl 0) (Nat.le_refl 0) ?_
              refine c_X3_itemEnds (by omega) (hF3.keep hs4 (by omega)) hT4 hb (by omega) (fun w5 hs5 hF5 => ?_)
              refine q_zreturn (pc := 65) dX3_cloudItem_65 rfl ?_
              exact k _ ((((hs1.wide (by omega) (by omega)).tr (hs2.wide (by omega) (by omega))).tr (hs3.wide (by omega) (by omega))).tr ((hs4.wide (by omega) (by omega)).tr (hs5.wide (by omega) (by omega)))) (zfin_it hF5 (hS4.keep hs5 (by omega)))
            exfalso; omega
          exfalso; omega
        exfalso; omega
      · rw [if_neg h2] at k
        refine zenter [some _, none, none] pn_X3 rfl (Nat.le_of_ble_eq_true rfl) ?_
        refine q_aload_n (pc := 0) dX3_cloudItem_0 rfl rfl ?_
        refine q_getfield (pc := 1) gf_X3_15 dX3_cloudItem_1 (by assumption) rfl ?_
        refine q_getfield (pc := 4) gf_X3_103 dX3_cloudItem_4 hS.o rfl ?_
        refine q_invokevirtual (pc := 7) (d' := d - 1) (mc' := 0) (ms' := 0) (As := []) (TX4, 4) cl_X3_85 dX3_cloudItem_7 rfl rfl hS.s2 rfl (by omega) rfl 0 0 (Nat.le_refl 0) (Nat.le_refl 0) ?_
        refine s_full2 hS hO.1 ?_
        refine q_ifb_eq (pc := 10) 15 dX3_cloudItem_10 rfl (fun c10 => ?_) (fun c10 => ?_)
        · refine q_aload_n (pc := 15) dX3_cloudItem_15 rfl rfl ?_
          refine q_invokevirtual (pc := 16) (d' := d - 1) (mc' := 0) (ms' := 0) (As := []) (TX3, 7) cl_X3_32 dX3_cloudItem_16 rfl rfl (by assumption) rfl (by omega) rfl 0 0 (Nat.le_refl 0) (Nat.le_refl 0) ?_
          refine r_advance (by omega) hR hT hb (by omega) hm (fun w1 hs1 hF1 => ?_)
          obtain ⟨nm1, hR1, hv1, hm1⟩ := id hF1
          have hT1 := (hs1.2 (db + 16) (by omega)).trans hT
          have hS1 := hS.keep hs1 (by omega)
          refine q_aload_n (pc := 19) dX3_cloudItem_19 rfl rfl ?_
          refine q_iconst (pc := 20) dX3_cloudItem_20 ?_
          refine q_bipush (pc := 21) (by decide) dX3_cloudItem_21 ?_
          refine q_invokevirtual (pc := 23) (d' := d - 1) (mc' := 0) (ms' := 0) (As := [_, _]) (TX3, 7) cl_X3_71 dX3_cloudItem_23 rfl rfl (by assumption) rfl (by omega) rfl 0 0 (Nat.le_refl 0) (Nat.le_refl 0) ?_
          refine c_X3_takeNumber (by omega) hF1 hT1 hb (by omega) (by omega) (by omega) (fun w2 hs2 hF2 => ?_)
          rw [if_pos h1] at hF2 ⊢
          obtain ⟨nm2, hR2, hv2, hm2⟩ := id hF2
          have hT2 := (hs2.2 (db + 16) (by omega)).trans hT1
          have hS2 := hS1.keep hs2 (by omega)
          refine q_istore_n (pc := 26) [some _, some _, none] dX3_cloudItem_26 rfl (Nat.le_of_ble_eq_true rfl) rfl ?_
          refine q_iload_n (pc := 27) dX3_cloudItem_27 rfl ?_
          refine q_iconst (pc := 28) dX3_cloudItem_28 ?_
          refine q_icmp_ne (pc := 29) (by omega) (by omega) 36 dX3_cloudItem_29 rfl (fun c29 => ?_) (fun c29 => ?_)
          · refine q_aload_n (pc := 36) dX3_cloudItem_36 rfl rfl ?_
            refine q_iconst (pc := 37) dX3_cloudItem_37 ?_
            refine q_bipush (pc := 38) (by decide) dX3_cloudItem_38 ?_
            refine q_invokevirtual (pc := 40) (d' := d - 1) (mc' := 0) (ms' := 0) (As := [_, _]) (TX3, 7) cl_X3_71 dX3_cloudItem_40 rfl rfl (by assumption) rfl (by omega) rfl 0 0 (Nat.le_refl 0) (Nat.le_refl 0) ?_
            refine c_X3_takeNumber (by omega) hF2 hT2 hb (by omega) (by omega) (by omega) (fun w3 hs3 hF3 => ?_)
            rw [if_neg h2] at hF3 ⊢
            have hT3 := (hs3.2 (db + 16) (by omega)).trans hT2
            have hS3 := hS2.keep hs3 (by omega)
            obtain ⟨nm3, hR3, hv3, hm3⟩ := id hF3
            refine q_istore_n (pc := 43) [some _, some _, some _] dX3_cloudItem_43 rfl (Nat.le_of_ble_eq_true rfl) rfl ?_
            refine q_iload_n (pc := 44) dX3_cloudItem_44 rfl ?_
            refine q_iconst (pc := 45) dX3_cloudItem_45 ?_
            refine q_icmp_ne (pc := 46) (by omega) (by omega) 51 dX3_cloudItem_46 rfl (fun c46 => ?_) (fun c46 => ?_)
            · exfalso; omega
            refine q_iconst (pc := 49) dX3_cloudItem_49 ?_
            exact q_zreturn0 (pc := 50) (fun z => by cases z) dX3_cloudItem_50 rfl (k _ (((hs1.wide (by omega) (by omega)).tr (hs2.wide (by omega) (by omega))).tr (hs3.wide (by omega) (by omega))) ⟨hF3, hS3⟩)
          exfalso; omega
        exfalso; omega
    · rw [if_neg h1] at k
      refine zenter [some _, none, none] pn_X3 rfl (Nat.le_of_ble_eq_true rfl) ?_
      refine q_aload_n (pc := 0) dX3_cloudItem_0 rfl rfl ?_
      refine q_getfield (pc := 1) gf_X3_15 dX3_cloudItem_1 (by assumption) rfl ?_
      refine q_getfield (pc := 4) gf_X3_103 dX3_cloudItem_4 hS.o rfl ?_
      refine q_invokevirtual (pc := 7) (d' := d - 1) (mc' := 0) (ms' := 0) (As := []) (TX4, 4) cl_X3_85 dX3_cloudItem_7 rfl rfl hS.s2 rfl (by omega) rfl 0 0 (Nat.le_refl 0) (Nat.le_refl 0) ?_
      refine s_full2 hS hO.1 ?_
      refine q_ifb_eq (pc := 10) 15 dX3_cloudItem_10 rfl (fun c10 => ?_) (fun c10 => ?_)
      · refine q_aload_n (pc := 15) dX3_cloudItem_15 rfl rfl ?_
        refine q_invokevirtual (pc := 16) (d' := d - 1) (mc' := 0) (ms' := 0) (As := []) (TX3, 7) cl_X3_32 dX3_cloudItem_16 rfl rfl (by assumption) rfl (by omega) rfl 0 0 (Nat.le_refl 0) (Nat.le_refl 0) ?_
        refine r_advance (by omega) hR hT hb (by omega) hm (fun w1 hs1 hF1 => ?_)
        obtain ⟨nm1, hR1, hv1, hm1⟩ := id hF1
        have hT1 := (hs1.2 (db + 16) (by omega)).trans hT
        have hS1 := hS.keep hs1 (by omega)
        refine q_aload_n (pc := 19) dX3_cloudItem_19 rfl rfl ?_
        refine q_iconst (pc := 20) dX3_cloudItem_20 ?_
        refine q_bipush (pc := 21) (by decide) dX3_cloudItem_21 ?_
        refine q_invokevirtual (pc := 23) (d' := d - 1) (mc' := 0) (ms' := 0) (As := [_, _]) (TX3, 7) cl_X3_71 dX3_cloudItem_23 rfl rfl (by assumption) rfl (by omega) rfl 0 0 (Nat.le_refl 0) (Nat.le_refl 0) ?_
        refine c_X3_takeNumber (by omega) hF1 hT1 hb (by omega) (by omega) (by omega) (fun w2 hs2 hF2 => ?_)
        rw [if_neg h1] at hF2 ⊢
        obtain ⟨nm2, hR2, hv2, hm2⟩ := id hF2
        have hT2 := (hs2.2 (db + 16) (by omega)).trans hT1
        have hS2 := hS1.keep hs2 (by omega)
        refine q_istore_n (pc := 26) [some _, some _, none] dX3_cloudItem_26 rfl (Nat.le_of_ble_eq_true rfl) rfl ?_
        refine q_iload_n (pc := 27) dX3_cloudItem_27 rfl ?_
        refine q_iconst (pc := 28) dX3_cloudItem_28 ?_
        refine q_icmp_ne (pc := 29) (by omega) (by omega) 36 dX3_cloudItem_29 rfl (fun c29 => ?_) (fun c29 => ?_)
        · exfalso; omega
        refine q_iconst (pc := 32) dX3_cloudItem_32 ?_
        refine q_goto (pc := 33) 43 dX3_cloudItem_33 rfl ?_
        refine q_istore_n (pc := 43) [some _, some _, some _] dX3_cloudItem_43 rfl (Nat.le_of_ble_eq_true rfl) rfl ?_
        refine q_iload_n (pc := 44) dX3_cloudItem_44 rfl ?_
        refine q_iconst (pc := 45) dX3_cloudItem_45 ?_
        refine q_icmp_ne (pc := 46) (by omega) (by omega) 51 dX3_cloudItem_46 rfl (fun c46 => ?_) (fun c46 => ?_)
        · exfalso; omega
        refine q_iconst (pc := 49) dX3_cloudItem_49 ?_
        exact q_zreturn0 (pc := 50) (fun z => by cases z) dX3_cloudItem_50 rfl (k _ ((hs1.wide (by omega) (by omega)).tr (hs2.wide (by omega) (by omega))) ⟨hF2, hS2⟩)
      exfalso; omega
end X3D
