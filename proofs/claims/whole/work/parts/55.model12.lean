def zRel (need : Int) (F M : Int → Int) : Prop := ∀ t, 0 ≤ t → t ≤ need → (∀ u, t ≤ u → u ≤ need → F t ≤ M u) ∧ ∃ u, t ≤ u ∧ u ≤ need ∧ F t = M u
def zThr (M : Int → Int) (h p need j : Int) (C : Int → Int) : Prop := (∀ u, 0 ≤ u → u < need → C u = if j < u - h then min (M u) (M (u - h) + p) else M u) ∧ C need ≤ M need ∧ (∀ i, j < i → need - h ≤ i → 0 ≤ i → i < need → C need ≤ M i + p) ∧ (C need = M need ∨ ∃ i, j < i ∧ need - h ≤ i ∧ 0 ≤ i ∧ i < need ∧ C need = M i + p)
theorem zThr_0 {M : Int → Int} {h p need : Int} (hh : 1 ≤ h) : zThr M h p need (need - 1) M := ⟨fun u a b => by rw [if_neg (by omega)], Int.le_refl _, fun i a b c e => by omega, Or.inl rfl⟩
theorem zThr_s {M C : Int → Int} {h p need j : Int} (hh : 1 ≤ h) (hj : 0 ≤ j ∧ j < need) (T : zThr M h p need j C) : zThr M h p need (j - 1) (zfu C (min (j + h) need) (min (C (min (j + h) need)) (M j + p))) := by
  obtain ⟨T1, T2, T3, T4⟩ := T
  by_cases hc : j + h < need
  · rw [show min (j + h) need = j + h by omega]
    have e := T1 (j + h) (by omega) hc
    rw [if_neg (by omega)] at e
    have en : zfu C (j + h) (min (C (j + h)) (M j + p)) need = C need := zfu_ne (by omega)
    refine ⟨fun u a b => ?_, by rw [en]; exact T2, fun i a b c f => by rw [en]; exact T3 i (by omega) b c f, ?_⟩
    · by_cases hu : u = j + h
      · subst hu; rw [zfu_at, e, if_pos (by omega), show j + h - h = j by omega]
      · rw [zfu_ne hu, T1 u a b]
        by_cases h2 : j < u - h
        · rw [if_pos h2, if_pos (by omega)]
        · rw [if_neg h2, if_neg (by omega)]
    · rw [en]
      rcases T4 with f | ⟨i, i1, i2, i3, i4, f⟩
      · exact Or.inl f
      · exact Or.inr ⟨i, by omega, i2, i3, i4, f⟩
  · rw [show min (j + h) need = need by omega]
    have en : zfu C need (min (C need) (M j + p)) need = min (C need) (M j + p) := zfu_at
    refine ⟨fun u a b => ?_, by rw [en]; omega, fun i a b c f => ?_, ?_⟩
    · rw [zfu_ne (by omega), T1 u a b]
      by_cases h2 : j < u - h
      · rw [if_pos h2, if_pos (by omega)]
      · rw [if_neg h2, if_neg (by omega)]
    · rw [en]
      by_cases hi : i = j
      · rw [hi]; omega
      · have := T3 i (by omega) b c f; omega
    · rw [en]
      by_cases hm : C need ≤ M j + p
      · rw [show min (C need) (M j + p) = C need by omega]
        rcases T4 with f | ⟨i, i1, i2, i3, i4, f⟩
        · exact Or.inl f
        · exact Or.inr ⟨i, by omega, i2, i3, i4, f⟩
      · exact Or.inr ⟨j, by omega, by omega, by omega, by omega, by omega⟩
theorem zRel_s {F M M2 : Int → Int} {need h p : Int} (hn : 0 ≤ need ∧ need ≤ 40) (hh : 1 ≤ h) (hp : 0 < p) (R : zRel need F M) (T : zThr M h p need (-1) M2) : zRel need (zoffer F h p) M2 := by
  obtain ⟨T1, T2, T3, T4⟩ := T
  have val : ∀ t, 0 ≤ t → t ≤ need → (zoffer F h p t = F t ∧ (t = 0 ∨ F t ≤ F (max 0 (t - h)) + p)) ∨ (zoffer F h p t = F (max 0 (t - h)) + p ∧ F (max 0 (t - h)) + p < F t) := fun t a b => by
    unfold zoffer zoffto
    split
    · rename_i z; exact Or.inr ⟨rfl, z.2.2⟩
    · exact Or.inl ⟨rfl, by omega⟩
  have lo2 : ∀ t, 0 ≤ t → t ≤ need → zoffer F h p t ≤ F (max 0 (t - h)) + p := fun t a b => by
    have := val t a b
    by_cases t0 : t = 0
    · have e : F (max 0 (t - h)) = F t := by congr 1; omega
      omega
    · omega
  intro t h0 h1
  have v := val t h0 h1
  have l2 := lo2 t h0 h1
  have low : ∀ u, t ≤ u → u ≤ need → zoffer F h p t ≤ M2 u := fun u a b => by
    have r1 := (R t h0 h1).1 u a b
    by_cases hu : u < need
    · rw [T1 u (by omega) hu]
      split
      · have r2 := (R (max 0 (t - h)) (by omega) (by omega)).1 (u - h) (by omega) (by omega)
        omega
      · omega
    · obtain rfl : u = need := by omega
      rcases T4 with e | ⟨i, i1, i2, i3, i4, e⟩
      · omega
      · have r2 := (R (max 0 (t - h)) (by omega) (by omega)).1 i (by omega) (by omega)
        omega
  refine ⟨low, ?_⟩
  rcases v with ⟨e, e2⟩ | ⟨e, e2⟩
  · obtain ⟨u, a, b, e4⟩ := (R t h0 h1).2
    have l := low u a b
    have up : M2 u ≤ M u := by
      by_cases hu : u < need
      · rw [T1 u (by omega) hu]; split <;> omega
      · rw [show u = need by omega]; exact T2
    exact ⟨u, a, b, by omega⟩
  · obtain ⟨y, a, b, e4⟩ := (R (max 0 (t - h)) (by omega) (by omega)).2
    have r1 := (R t h0 h1).1 need (by omega) (by omega)
    have hy : y < need := by
      by_cases q : y = need
      · subst q; omega
      · omega
    by_cases hyh : y + h < need
    · have l := low (y + h) (by omega) (by omega)
      have m := T1 (y + h) (by omega) hyh
      rw [if_pos (by omega), show y + h - h = y by omega] at m
      exact ⟨y + h, by omega, by omega, by omega⟩
    · have l := low need (by omega) (by omega)
      have m := T3 y (by omega) (by omega) (by omega) hy
      exact ⟨need, by omega, by omega, by omega⟩
theorem zoffer_le {F : Int → Int} {h p t : Int} (hh : 1 ≤ h) (hp : 0 ≤ p) (ht : 0 ≤ t ∧ t ≤ 40) : zoffer F h p t ≤ F (max 0 (t - h)) + p := by
  unfold zoffer zoffto
  split
  · omega
  · by_cases t0 : t = 0
    · have e : F (max 0 (t - h)) = F t := by congr 1; omega
      omega
    · omega
theorem zoffs_st {F : Int → Int} {h p : Int} (hh : 1 ≤ h) (hp : 0 ≤ p) : ∀ (n : Nat) (t : Int), 0 ≤ t → t ≤ (n : Int) → t ≤ 40 → zoffs F h p (n + 1) t = zoffs F h p n t
  | 0, t, h0, h1, _ => by
    show zoffer (zoffs F h p 0) h p t = _
    unfold zoffer zoffto; rw [if_neg (by omega)]
  | n + 1, t, h0, h1, h2 => by
    show zoffer (zoffs F h p (n + 1)) h p t = zoffs F h p (n + 1) t
    by_cases t0 : t = 0
    · unfold zoffer zoffto; rw [if_neg (by omega)]
    · have ih := zoffs_st (F := F) hh hp n (max 0 (t - h)) (by omega) (by omega) (by omega)
      have lo : zoffs F h p (n + 1) t ≤ zoffs F h p n (max 0 (t - h)) + p := zoffer_le hh hp ⟨h0, h2⟩
      unfold zoffer zoffto
      rw [if_neg (by omega)]
theorem zoffs_ge {F : Int → Int} {h p : Int} (hh : 1 ≤ h) (hp : 0 ≤ p) (a : Nat) (ha : a ≤ 40) : ∀ (q : Nat) (t : Int), 0 ≤ t → t ≤ (a : Int) → zoffs F h p (a + q) t = zoffs F h p a t
  | 0, t, _, _ => rfl
  | q + 1, t, h0, h1 => by
    rw [← zoffs_ge hh hp a ha q t h0 h1]
    exact zoffs_st hh hp (a + q) t h0 (by omega) (by omega)
def zInv (need : Int) (F M : Int → Int) : Prop := zin M ∧ (1 ≤ need → zRel need F M) ∧ (need = 0 → M 0 = 0)
theorem zInv_s {F M M2 : Int → Int} {need h p : Int} (hn : 0 ≤ need ∧ need ≤ 40) (hh : 1 ≤ h) (hp : 0 < p) (I : zInv need F M) (T : zThr M h p need (-1) M2) (hz : zin M2) : zInv need (zoffer F h p) M2 := by
  refine ⟨hz, fun z => zRel_s hn hh hp (I.2.1 z) T, fun z => ?_⟩
  subst z
  rcases T.2.2.2 with e | ⟨i, i1, i2, i3, i4, e⟩
  · rw [e]; exact I.2.2 rfl
  · omega
theorem zInv_c {F F2 M : Int → Int} {need : Int} (I : zInv need F M) (e : 1 ≤ need → ∀ t, 0 ≤ t → t ≤ need → F2 t = F t) : zInv need F2 M :=
  ⟨I.1, fun z t a b => by rw [e z t a b]; exact I.2.1 z t a b, I.2.2⟩
theorem zInv_0 {M : Int → Int} {need : Int} (hn : 0 ≤ need ∧ need ≤ 40) (e : ∀ i, 0 ≤ i → i ≤ 40 → M i = zpr0 i) : zInv need zpr0 M := by
  refine ⟨fun i a b => by rw [e i a b]; unfold zpr0; split <;> omega, fun z t a b => ?_, fun z => by rw [e 0 (by omega) (by omega)]; rfl⟩
  refine ⟨fun u c f => ?_, t, Int.le_refl _, b, by rw [e t a (by omega)]⟩
  rw [e u (by omega) (by omega)]
  unfold zpr0
  split <;> split <;> omega
/-! the reference's own calls, the fewest stones -/
section X8L
variable {g : zG} {d : Nat} {w : zWd} {K : Option Value → zWd → Prop} {S : zSt}
set_option maxRecDepth 100000 in
set_option maxHeartbeats 8000000 in
theorem c_X8_throwOne {r h need : Int} {M : Int → Int} {ab be u len p0 p1 p2 p3 p4 it sm : Int} (h72 : w.1 72 = some (zMO g ab be u len p0 p1 p2 p3 p4 it sm)) (h79 : w.1 79 = some (.inr (false, 41, M))) (hM : zin M) (hr : 1 ≤ r ∧ r ≤ 9) (hh : 1 ≤ h ∧ h ≤ 10) (hn : 0 ≤ need ∧ need ≤ 40) (k : ∀ w' C, zSame w w' 79 1 → w'.1 79 = some (.inr (false, 41, C)) → zin C → zThr M h (1000 + r) need (-1) C → K none w') : zCall g d 0 0 mX8_throwOne [zR g 72, zI r, zI h, zI need] w K := by
  have L : ∀ (q : Nat) (j : Int) (w1 : zWd) (C : Int → Int) (x5 x6 : Option Value), j + 1 = q → j < need → zSame w w1 79 1 → w1.1 79 = some (.inr (false, 41, C)) → zin C → zThr M h (1000 + r) need j C → zRuns g d mX8_throwOne 0 0 5 [some (zR g 72), some (zI r), some (zI h), some (zI need), some (zI j), x5, x6] [] w1 K := by
    intro q
    induction q with
    | zero =>
      intro j w1 C x5 x6 h1 h2 hs hA hz hT
      obtain rfl : j = -1 := by omega
      refine q_iload (pc := 5) dX8_throwOne_5 rfl ?_
      refine q_if_lt (pc := 7) (by omega) 80 dX8_throwOne_7 rfl (fun c7 => ?_) (fun c7 => ?_)
      · refine q_return (pc := 80) dX8_throwOne_80 rfl ?_
        exact k _ _ hs hA hz hT
      exfalso; omega
    | succ q ih =>
      intro j w1 C x5 x6 h1 h2 hs hA hz hT
      have h721 := (hs.2 72 (by omega)).trans h72
      have hih := ih (j - 1)
      have ec := hT.1 j (by omega) h2
      rw [if_neg (by omega)] at ec
      have hb := hz (min (j + h) need) (by omega) (by omega)
      have hm := hM j (by omega) (by omega)
      have h9 := zThr_s hh.1 (j := j) (by omega) hT
      have hz9 : zin (zfu C (min (j + h) need) (min (C (min (j + h) need)) (M j + (1000 + r)))) := fun i a b => by
        simp only [zfu]
        split
        · omega
        · exact hz i a b
      have J73 : ∀ (t v : Int) (x6 : Option Value), t = min (j + h) need → v = min (C (min (j + h) need)) (M j + (1000 + r)) → zRuns g d mX8_throwOne 0 0 73 [some (zR g 72), some (zI r), some (zI h), some (zI need), some (zI j), some (zI t), x6] [zI v, zI t, zR g 79] w1 K := by
        intro t v x6 et ev
        subst et
        subst ev
        refine q_iastore (pc := 73) dX8_throwOne_73 (by assumption) (by omega) ?_
        refine q_iinc (pc := 74) [some _, some _, some _, some _, some _, some _, _] dX8_throwOne_74 rfl rfl rfl ?_
        refine q_goto (pc := 77) 5 dX8_throwOne_77 rfl ?_
        exact hih _ _ _ _ (by omega) (by omega) (hs.tr (zSame.up (by omega))) zup_at hz9 h9
      have J26 : ∀ (t : Int), t = min (j + h) need → zRuns g d mX8_throwOne 0 0 26 [some (zR g 72), some (zI r), some (zI h), some (zI need), some (zI j), x5, x6] [zI t] w1 K := by
        intro t et
        rw [← et] at hb
        refine q_istore (pc := 26) [some _, some _, some _, some _, some _, some _, _] dX8_throwOne_26 rfl (Nat.le_of_ble_eq_true rfl) rfl ?_
        refine q_aload_n (pc := 28) dX8_throwOne_28 rfl rfl ?_
        refine q_getfield (pc := 29) gf_X8_32 dX8_throwOne_29 (by assumption) rfl ?_
        refine q_iload (pc := 32) dX8_throwOne_32 rfl ?_
        refine q_iaload (pc := 34) dX8_throwOne_34 (by assumption) (by omega) ?_
        rw [ec]
        refine q_sipush (pc := 35) (by decide) dX8_throwOne_35 ?_
        refine q_iadd (pc := 38) dX8_throwOne_38 ?_
        refine q_iload_n (pc := 39) dX8_throwOne_39 rfl ?_
        refine q_iadd (pc := 40) dX8_throwOne_40 ?_
        refine q_istore (pc := 41) [some _, some _, some _, some _, some _, some _, some _] dX8_throwOne_41 rfl (Nat.le_of_ble_eq_true rfl) rfl ?_
        refine q_aload_n (pc := 43) dX8_throwOne_43 rfl rfl ?_
        refine q_getfield (pc := 44) gf_X8_32 dX8_throwOne_44 (by assumption) rfl ?_
        refine q_iload (pc := 47) dX8_throwOne_47 rfl ?_
        refine q_iload (pc := 49) dX8_throwOne_49 rfl ?_
        refine q_aload_n (pc := 51) dX8_throwOne_51 rfl rfl ?_
        refine q_getfield (pc := 52) gf_X8_32 dX8_throwOne_52 (by assumption) rfl ?_
        refine q_iload (pc := 55) dX8_throwOne_55 rfl ?_
        refine q_iaload (pc := 57) dX8_throwOne_57 (by assumption) (by omega) ?_
        refine q_icmp_ge (pc := 58) (by omega) (by omega) 66 dX8_throwOne_58 rfl (fun c58 => ?_) (fun c58 => ?_)
        · refine q_aload_n (pc := 66) dX8_throwOne_66 rfl rfl ?_
          refine q_getfield (pc := 67) gf_X8_32 dX8_throwOne_67 (by assumption) rfl ?_
          refine q_iload (pc := 70) dX8_throwOne_70 rfl ?_
          refine q_iaload (pc := 72) dX8_throwOne_72 (by assumption) (by omega) ?_
          exact J73 _ _ _ et (by rw [← et]; omega)
        refine q_iload (pc := 61) dX8_throwOne_61 rfl ?_
        refine q_goto (pc := 63) 73 dX8_throwOne_63 rfl ?_
        exact J73 _ _ _ et (by rw [← et]; omega)
      refine q_iload (pc := 5) dX8_throwOne_5 rfl ?_
      refine q_if_lt (pc := 7) (by omega) 80 dX8_throwOne_7 rfl (fun c7 => ?_) (fun c7 => ?_)
      · exfalso; omega
      refine q_iload (pc := 10) dX8_throwOne_10 rfl ?_
      refine q_iload_n (pc := 12) dX8_throwOne_12 rfl ?_
      refine q_iadd (pc := 13) dX8_throwOne_13 ?_
      refine q_iload_n (pc := 14) dX8_throwOne_14 rfl ?_
      refine q_icmp_ge (pc := 15) (by omega) (by omega) 25 dX8_throwOne_15 rfl (fun c15 => ?_) (fun c15 => ?_)
      · refine q_iload_n (pc := 25) dX8_throwOne_25 rfl ?_
        exact J26 _ (by omega)
      refine q_iload (pc := 18) dX8_throwOne_18 rfl ?_
      refine q_iload_n (pc := 20) dX8_throwOne_20 rfl ?_
      refine q_iadd (pc := 21) dX8_throwOne_21 ?_
      refine q_goto (pc := 22) 26 dX8_throwOne_22 rfl ?_
      exact J26 _ (by omega)
  refine zenter [some _, some _, some _, some _, none, none, none] pn_X8 rfl (Nat.le_of_ble_eq_true rfl) ?_
  refine q_iload_n (pc := 0) dX8_throwOne_0 rfl ?_
  refine q_iconst (pc := 1) dX8_throwOne_1 ?_
  refine q_isub (pc := 2) dX8_throwOne_2 ?_
  refine q_istore (pc := 3) [some _, some _, some _, some _, some _, none, none] dX8_throwOne_3 rfl (Nat.le_of_ble_eq_true rfl) rfl ?_
  exact L need.toNat (need - 1) _ M _ _ (by omega) (by omega) zSame.rf h79 hM (zThr_0 hh.1)
set_option maxRecDepth 100000 in
set_option maxHeartbeats 8000000 in
theorem c_X8_turn {q s c x : Int} (hd : 6 ≤ d) (hC : zMo g w S) (hO : zOKS S) (h_q : zR32 q) (h_s : zR32 s) (h_c : zR32 c) (h_x : zR32 x) (k : ∀ w', zSame w w' 72 16 → zMo g w' (o_turn S q s c x).2 → K (some (zI (o_turn S q s c x).1)) w') : zCall g d 0 0 mX8_turn [zR g 72, zI q, zI s, zI c, zI x] w K := by
  obtain ⟨⟨p0, p1, p2, p3, p4, it, sm, h72⟩, h73, h74, h75, h76, hScr, h84, h85, h86, h87⟩ := id hC
  have hO1 := hO.1
  have hO2 := hO1.1
  have hO3 := hO2.1
  by_cases hv : (0 ≤ q ∧ q < S.1.1 2) ∧ (0 ≤ s ∧ s < S.1.1 1) ∧ (0 ≤ c ∧ c < S.1.1 0) ∧ (0 ≤ x ∧ x ≤ 1)
  · obtain ⟨f0, h79⟩ := hScr.2.2.1
    have hsk := hO2.2.2.2.2.1 q (by omega) (by omega)
    have fin : ∀ (w1 : zWd) (f : Int → Int), zSame w w1 79 1 → w1.1 79 = some (.inr (false, 41, f)) → zMo g w1 S := fun w1 f hs h => hC.scr (hs.wide (by omega) (by omega)) (hScr.p79 hs h)
    generalize hneed : max 0 (S.1.1 (84 + q) - S.1.1 (88 + q)) = need
    have hnb : 0 ≤ need ∧ need ≤ 40 := by omega
    have hn1 : 1 ≤ need → min 40 (S.1.1 (84 + q) - S.1.1 (88 + q)) = need := fun z => by omega
    have L1 : ∀ (qq m : Nat) (w1 : zWd) (M : Int → Int) (x7 : Option Value), m + qq = 9 → zSame w w1 79 1 → w1.1 79 = some (.inr (false, 41, M)) → zInv need (zprc S.1.1 zpr0 s q c need m) M → zRuns g d mX8_turn 0 0 101 [some (zR g 72), some (zI q), some (zI s), some (zI c), some (zI x), some (zI need), some (zI (1 + (m : Int))), x7] [] w1 K := by
      intro qq
      induction qq with
      | zero =>
        intro m w1 M x7 h1 hs hA hI
        obtain rfl : m = 9 := by omega
        have h721 := (hs.2 72 (by omega)).trans h72
        have hb := hI.1 need (by omega) (by omega)
        have e : zprice S.1.1 q s c = if M need < 1000000 then M need else -1 := by
          unfold zprice
          by_cases z : need = 0
          · rw [if_pos (by omega), z, hI.2.2 z, if_pos (by omega)]
          · have R := hI.2.1 (by omega) need (by omega) (by omega)
            obtain ⟨u, a, b, e4⟩ := R.2
            have : u = need := by omega
            subst this
            rw [if_neg (by omega), hn1 (by omega), e4]
        refine q_iload (pc := 101) dX8_turn_101 rfl ?_
        refine q_bipush (pc := 103) (by decide) dX8_turn_103 ?_
        refine q_icmp_ge (pc := 105) (by omega) (by omega) 182 dX8_turn_105 rfl (fun c105 => ?_) (fun c105 => ?_)
        · refine q_aload_n (pc := 182) dX8_turn_182 rfl rfl ?_
          refine q_getfield (pc := 183) gf_X8_32 dX8_turn_183 (by assumption) rfl ?_
          refine q_iload (pc := 186) dX8_turn_186 rfl ?_
          refine q_iaload (pc := 188) dX8_turn_188 (by assumption) (by omega) ?_
          refine q_ldc (pc := 189) tw_5_152 dX8_turn_189 ?_
          refine q_icmp_lt (pc := 191) (by omega) (by omega) 196 dX8_turn_191 rfl (fun c191 => ?_) (fun c191 => ?_)
          · refine q_iload (pc := 196) dX8_turn_196 rfl ?_
            refine q_if_ne (pc := 198) (by omega) 215 dX8_turn_198 rfl (fun c198 => ?_) (fun c198 => ?_)
            · refine q_aload_n (pc := 215) dX8_turn_215 rfl rfl ?_
              refine q_getfield (pc := 216) gf_X8_32 dX8_turn_216 (by assumption) rfl ?_
              refine q_iload (pc := 219) dX8_turn_219 rfl ?_
              refine q_iaload (pc := 221) dX8_turn_221 (by assumption) (by omega) ?_
              refine q_sipush (pc := 222) (by decide) dX8_turn_222 ?_
              refine q_irem (pc := 225) dX8_turn_225 (by omega) (by omega) (by omega) ?_
              refine q_ireturn (pc := 226) dX8_turn_226 rfl ?_
              first | exact zgm k (by unfold o_turn; rw [e]; exact (if_pos hv).trans (by rw [if_pos (show M need < 1000000 by omega), if_neg (by omega), if_pos (by omega)])) (hs.wide (by omega) (by omega)) (fin _ _ hs hA) | exact zgm k (by unfold o_turn; rw [e]; exact (if_pos hv).trans (by rw [if_pos (show M need < 1000000 by omega), if_neg (by omega), if_neg (by omega)])) (hs.wide (by omega) (by omega)) (fin _ _ hs hA)
            refine q_aload_n (pc := 201) dX8_turn_201 rfl rfl ?_
            refine q_getfield (pc := 202) gf_X8_32 dX8_turn_202 (by assumption) rfl ?_
            refine q_iload (pc := 205) dX8_turn_205 rfl ?_
            refine q_iaload (pc := 207) dX8_turn_207 (by assumption) (by omega) ?_
            refine q_sipush (pc := 208) (by decide) dX8_turn_208 ?_
            refine q_idiv (pc := 211) dX8_turn_211 (by omega) (by omega) (by omega) ?_
            refine q_goto (pc := 212) 226 dX8_turn_212 rfl ?_
            refine q_ireturn (pc := 226) dX8_turn_226 rfl ?_
            first | exact zgm k (by unfold o_turn; rw [e]; exact (if_pos hv).trans (by rw [if_pos (show M need < 1000000 by omega), if_neg (by omega), if_pos (by omega)])) (hs.wide (by omega) (by omega)) (fin _ _ hs hA) | exact zgm k (by unfold o_turn; rw [e]; exact (if_pos hv).trans (by rw [if_pos (show M need < 1000000 by omega), if_neg (by omega), if_neg (by omega)])) (hs.wide (by omega) (by omega)) (fin _ _ hs hA)
          refine q_iconst (pc := 194) dX8_turn_194 ?_
          refine q_ireturn (pc := 195) dX8_turn_195 rfl ?_
          exact zgm k (by unfold o_turn; rw [e]; exact (if_pos hv).trans (by rw [if_neg (show ¬ M need < 1000000 by omega), if_pos rfl])) (hs.wide (by omega) (by omega)) (fin _ _ hs hA)
        exfalso; omega
      | succ qq ih =>
        intro m w1 M x7 h1 hs hA hI
        have hih := fun w1 M x7 => ih (m + 1) w1 M x7 (by omega)
        have hst := (hO2.2.2.1 c (1 + (m : Int)) (by omega) (by omega) (by omega) (by omega)).1
        have hhb := zhits_b (kind := S.1.1 (68 + s)) (r := 1 + (m : Int)) (by omega)
        have J176 : ∀ (w2 : zWd) (M2 : Int → Int) (x7 : Option Value), zSame w w2 79 1 → w2.1 79 = some (.inr (false, 41, M2)) → zInv need (zprc S.1.1 zpr0 s q c need (m + 1)) M2 → zRuns g d mX8_turn 0 0 176 [some (zR g 72), some (zI q), some (zI s), some (zI c), some (zI x), some (zI need), some (zI (1 + (m : Int))), x7] [] w2 K := by
          intro w2 M2 x7 hs hA hI
          have h9 := hih w2 M2 x7 hs hA hI
          rw [show 1 + ((m + 1 : Nat) : Int) = 1 + (m : Int) + 1 by omega] at h9
          refine q_iinc (pc := 176) [some _, some _, some _, some _, some _, some _, some _, _] dX8_turn_176 rfl rfl rfl ?_
          refine q_goto (pc := 179) 101 dX8_turn_179 rfl ?_
          exact h9
        by_cases hz : zRch S.1.1 s q (1 + (m : Int)) (S.1.1 4)
        · have eh : zhat S.1.1 s q (1 + (m : Int)) (S.1.1 4) = zhits (S.1.1 (68 + s)) (1 + (m : Int)) := if_pos hz
          have L2 : ∀ (q2 n : Nat) (w2 : zWd) (M2 : Int → Int), n + q2 = (min 40 (S.1.1 (18 + 10 * c + (1 + (m : Int))))).toNat → zSame w w2 79 1 → w2.1 79 = some (.inr (false, 41, M2)) → zInv need (zoffs (zprc S.1.1 zpr0 s q c need m) (zhits (S.1.1 (68 + s)) (1 + (m : Int))) (1000 + (1 + (m : Int))) n) M2 → zRuns g d mX8_turn 0 0 111 [some (zR g 72), some (zI q), some (zI s), some (zI c), some (zI x), some (zI need), some (zI (1 + (m : Int))), some (zI (n : Int))] [] w2 K := by
            intro q2
            induction q2 with
            | zero =>
              intro n w2 M2 h2 hs hA hI
              have h722 := (hs.2 72 (by omega)).trans h72
              have h732 := (hs.2 73 (by omega)).trans h73
              have hI2 : zInv need (zprc S.1.1 zpr0 s q c need (m + 1)) M2 := zInv_c hI (fun z t a b => by
                rw [zprc, eh]
                unfold zcop
                rw [eh, if_neg (by omega)]
                by_cases y : S.1.1 (18 + 10 * c + (1 + (m : Int))) ≤ need
                · rw [show (min need (S.1.1 (18 + 10 * c + (1 + (m : Int))))).toNat = n by omega]
                · have h8 := zoffs_ge (F := zprc S.1.1 zpr0 s q c need m) (h := zhits (S.1.1 (68 + s)) (1 + (m : Int))) (p := 1000 + (1 + (m : Int))) (by omega) (by omega) need.toNat (by omega) (n - need.toNat) t a (by omega)
                  rw [show need.toNat + (n - need.toNat) = n by omega] at h8
                  rw [show (min need (S.1.1 (18 + 10 * c + (1 + (m : Int))))).toNat = need.toNat by omega, h8])
              refine q_iload (pc := 111) dX8_turn_111 rfl ?_
              refine q_aload_n (pc := 113) dX8_turn_113 rfl rfl ?_
              refine q_getfield (pc := 114) gf_X8_7 dX8_turn_114 (by assumption) rfl ?_
              refine q_bipush (pc := 117) (by decide) dX8_turn_117 ?_
              refine q_bipush (pc := 119) (by decide) dX8_turn_119 ?_
              refine q_iload_n (pc := 121) dX8_turn_121 rfl ?_
              refine q_imul (pc := 122) dX8_turn_122 ?_
              refine q_iadd (pc := 123) dX8_turn_123 ?_
              refine q_iload (pc := 124) dX8_turn_124 rfl ?_
              refine q_iadd (pc := 126) dX8_turn_126 ?_
              refine q_iaload (pc := 127) dX8_turn_127 (by assumption) (by omega) ?_
              refine q_icmp_ge (pc := 128) (by omega) (by omega) 176 dX8_turn_128 rfl (fun c128 => ?_) (fun c128 => ?_)
              · exact J176 _ _ _ hs hA hI2
              refine q_iload (pc := 131) dX8_turn_131 rfl ?_
              refine q_bipush (pc := 133) (by decide) dX8_turn_133 ?_
              refine q_icmp_ge (pc := 135) (by omega) (by omega) 176 dX8_turn_135 rfl (fun c135 => ?_) (fun c135 => ?_)
              · exact J176 _ _ _ hs hA hI2
              exfalso; omega
            | succ q2 ih2 =>
              intro n w2 M2 h2 hs hA hI
              have h722 := (hs.2 72 (by omega)).trans h72
              have h732 := (hs.2 73 (by omega)).trans h73
              have hih2 := fun w2 M2 => ih2 (n + 1) w2 M2 (by omega)
              refine q_iload (pc := 111) dX8_turn_111 rfl ?_
              refine q_aload_n (pc := 113) dX8_turn_113 rfl rfl ?_
              refine q_getfield (pc := 114) gf_X8_7 dX8_turn_114 (by assumption) rfl ?_
              refine q_bipush (pc := 117) (by decide) dX8_turn_117 ?_
              refine q_bipush (pc := 119) (by decide) dX8_turn_119 ?_
              refine q_iload_n (pc := 121) dX8_turn_121 rfl ?_
              refine q_imul (pc := 122) dX8_turn_122 ?_
              refine q_iadd (pc := 123) dX8_turn_123 ?_
              refine q_iload (pc := 124) dX8_turn_124 rfl ?_
              refine q_iadd (pc := 126) dX8_turn_126 ?_
              refine q_iaload (pc := 127) dX8_turn_127 (by assumption) (by omega) ?_
              refine q_icmp_ge (pc := 128) (by omega) (by omega) 176 dX8_turn_128 rfl (fun c128 => ?_) (fun c128 => ?_)
              · first | (exfalso; omega; done) | exact absurd hz c152
              refine q_iload (pc := 131) dX8_turn_131 rfl ?_
              refine q_bipush (pc := 133) (by decide) dX8_turn_133 ?_
              refine q_icmp_ge (pc := 135) (by omega) (by omega) 176 dX8_turn_135 rfl (fun c135 => ?_) (fun c135 => ?_)
              · first | (exfalso; omega; done) | exact absurd hz c152
              refine q_aload_n (pc := 138) dX8_turn_138 rfl rfl ?_
              refine q_iload_n (pc := 139) dX8_turn_139 rfl ?_
              refine q_iload (pc := 140) dX8_turn_140 rfl ?_
              refine q_iload_n (pc := 142) dX8_turn_142 rfl ?_
              refine q_aload_n (pc := 143) dX8_turn_143 rfl rfl ?_
              refine q_getfield (pc := 144) gf_X8_7 dX8_turn_144 (by assumption) rfl ?_
              refine q_iconst (pc := 147) dX8_turn_147 ?_
              refine q_iaload (pc := 148) dX8_turn_148 (by assumption) (by omega) ?_
              refine q_invokevirtual (pc := 149) (d' := d - 1) (mc' := 0) (ms' := 0) (As := [_, _, _, _]) (TX8, 26) cl_X8_232 dX8_turn_149 rfl rfl (by assumption) rfl (by omega) rfl 0 0 (Nat.le_refl 0) (Nat.le_refl 0) ?_
              refine c_X8_reaches (by omega) h722 h732 hO2 (by omega) (by omega) (by omega) (by omega) ?_
              refine q_ifb_eq (pc := 152) 176 dX8_turn_152 rfl (fun c152 => ?_) (fun c152 => ?_)
              · first | (exfalso; omega; done) | exact absurd hz c152
              refine q_aload_n (pc := 155) dX8_turn_155 rfl rfl ?_
              refine q_iload (pc := 156) dX8_turn_156 rfl ?_
              refine q_aload_n (pc := 158) dX8_turn_158 rfl rfl ?_
              refine q_iload_n (pc := 159) dX8_turn_159 rfl ?_
              refine q_iload (pc := 160) dX8_turn_160 rfl ?_
              refine q_invokevirtual (pc := 162) (d' := d - 1) (mc' := 0) (ms' := 0) (As := [_, _]) (TX8, 26) cl_X8_236 dX8_turn_162 rfl rfl (by assumption) rfl (by omega) rfl 0 0 (Nat.le_refl 0) (Nat.le_refl 0) ?_
              refine c_X8_hitsOf (by omega) h722 h732 hO2 (by omega) (by omega) ?_
              refine q_iload (pc := 165) dX8_turn_165 rfl ?_
              refine q_invokevirtual (pc := 167) (d' := d - 1) (mc' := 0) (ms' := 0) (As := [_, _, _]) (TX8, 26) cl_X8_254 dX8_turn_167 rfl rfl (by assumption) rfl (by omega) rfl 0 0 (Nat.le_refl 0) (Nat.le_refl 0) ?_
              refine c_X8_throwOne h722 hA hI.1 (by omega) hhb hnb (fun w3 C hs3 hA3 hz3 hT3 => ?_)
              refine q_iinc (pc := 170) [some _, some _, some _, some _, some _, some _, some _, some _] dX8_turn_170 rfl rfl rfl ?_
              refine q_goto (pc := 173) 111 dX8_turn_173 rfl ?_
              exact hih2 _ _ (hs.tr hs3) hA3 (zInv_s hnb hhb.1 (by omega) hI hT3 hz3)
          refine q_iload (pc := 101) dX8_turn_101 rfl ?_
          refine q_bipush (pc := 103) (by decide) dX8_turn_103 ?_
          refine q_icmp_ge (pc := 105) (by omega) (by omega) 182 dX8_turn_105 rfl (fun c105 => ?_) (fun c105 => ?_)
          · exfalso; omega
          refine q_iconst (pc := 108) dX8_turn_108 ?_
          refine q_istore (pc := 109) [some _, some _, some _, some _, some _, some _, some _, some _] dX8_turn_109 rfl (Nat.le_of_ble_eq_true rfl) rfl ?_
          exact L2 _ 0 _ M (Nat.zero_add _) hs hA hI
        · have eh : zhat S.1.1 s q (1 + (m : Int)) (S.1.1 4) = 0 := if_neg hz
          have hI2 : zInv need (zprc S.1.1 zpr0 s q c need (m + 1)) M := zInv_c hI (fun z t a b => by
            rw [zprc, eh]
            unfold zcop
            rw [eh, if_pos (by omega)]
            rfl)
          have h721 := (hs.2 72 (by omega)).trans h72
          have h731 := (hs.2 73 (by omega)).trans h73
          refine q_iload (pc := 101) dX8_turn_101 rfl ?_
          refine q_bipush (pc := 103) (by decide) dX8_turn_103 ?_
          refine q_icmp_ge (pc := 105) (by omega) (by omega) 182 dX8_turn_105 rfl (fun c105 => ?_) (fun c105 => ?_)
          · exfalso; omega
          refine q_iconst (pc := 108) dX8_turn_108 ?_
          refine q_istore (pc := 109) [some _, some _, some _, some _, some _, some _, some _, some _] dX8_turn_109 rfl (Nat.le_of_ble_eq_true rfl) rfl ?_
          refine q_iload (pc := 111) dX8_turn_111 rfl ?_
          refine q_aload_n (pc := 113) dX8_turn_113 rfl rfl ?_
          refine q_getfield (pc := 114) gf_X8_7 dX8_turn_114 (by assumption) rfl ?_
          refine q_bipush (pc := 117) (by decide) dX8_turn_117 ?_
          refine q_bipush (pc := 119) (by decide) dX8_turn_119 ?_
          refine q_iload_n (pc := 121) dX8_turn_121 rfl ?_
          refine q_imul (pc := 122) dX8_turn_122 ?_
          refine q_iadd (pc := 123) dX8_turn_123 ?_
          refine q_iload (pc := 124) dX8_turn_124 rfl ?_
          refine q_iadd (pc := 126) dX8_turn_126 ?_
          refine q_iaload (pc := 127) dX8_turn_127 (by assumption) (by omega) ?_
          refine q_icmp_ge (pc := 128) (by omega) (by omega) 176 dX8_turn_128 rfl (fun c128 => ?_) (fun c128 => ?_)
          · exact J176 _ _ _ hs hA hI2
          refine q_iload (pc := 131) dX8_turn_131 rfl ?_
          refine q_bipush (pc := 133) (by decide) dX8_turn_133 ?_
          refine q_icmp_ge (pc := 135) (by omega) (by omega) 176 dX8_turn_135 rfl (fun c135 => ?_) (fun c135 => ?_)
          · exact J176 _ _ _ hs hA hI2
          refine q_aload_n (pc := 138) dX8_turn_138 rfl rfl ?_
          refine q_iload_n (pc := 139) dX8_turn_139 rfl ?_
          refine q_iload (pc := 140) dX8_turn_140 rfl ?_
          refine q_iload_n (pc := 142) dX8_turn_142 rfl ?_
          refine q_aload_n (pc := 143) dX8_turn_143 rfl rfl ?_
          refine q_getfield (pc := 144) gf_X8_7 dX8_turn_144 (by assumption) rfl ?_
          refine q_iconst (pc := 147) dX8_turn_147 ?_
          refine q_iaload (pc := 148) dX8_turn_148 (by assumption) (by omega) ?_
          refine q_invokevirtual (pc := 149) (d' := d - 1) (mc' := 0) (ms' := 0) (As := [_, _, _, _]) (TX8, 26) cl_X8_232 dX8_turn_149 rfl rfl (by assumption) rfl (by omega) rfl 0 0 (Nat.le_refl 0) (Nat.le_refl 0) ?_
          refine c_X8_reaches (by omega) h721 h731 hO2 (by omega) (by omega) (by omega) (by omega) ?_
          refine q_ifb_eq (pc := 152) 176 dX8_turn_152 rfl (fun c152 => ?_) (fun c152 => ?_)
          · exact J176 _ _ _ hs hA hI2
          exact absurd c152 hz
    have L0 : ∀ (qq m : Nat) (w1 : zWd) (f : Int → Int), m + qq = 41 → zSame w w1 79 1 → w1.1 79 = some (.inr (false, 41, f)) → (∀ i, 0 ≤ i → i < (m : Int) → f i = zpr0 i) → zRuns g d mX8_turn 0 0 67 [some (zR g 72), some (zI q), some (zI s), some (zI c), some (zI x), some (zI need), some (zI (m : Int)), none] [] w1 K := by
      intro qq
      induction qq with
      | zero =>
        intro m w1 f h1 hs hA hf
        obtain rfl : m = 41 := by omega
        refine q_iload (pc := 67) dX8_turn_67 rfl ?_
        refine q_bipush (pc := 69) (by decide) dX8_turn_69 ?_
        refine q_icmp_ge (pc := 71) (by omega) (by omega) 98 dX8_turn_71 rfl (fun c71 => ?_) (fun c71 => ?_)
        · refine q_iconst (pc := 98) dX8_turn_98 ?_
          refine q_istore (pc := 99) [some _, some _, some _, some _, some _, some _, some _, none] dX8_turn_99 rfl (Nat.le_of_ble_eq_true rfl) rfl ?_
          exact L1 9 0 _ f _ (by omega) hs hA (zInv_0 hnb (fun i a b => hf i a (by omega)))
        exfalso; omega
      | succ qq ih =>
        intro m w1 f h1 hs hA hf
        have h721 := (hs.2 72 (by omega)).trans h72
        have hih := ih (m + 1)
        refine q_iload (pc := 67) dX8_turn_67 rfl ?_
        refine q_bipush (pc := 69) (by decide) dX8_turn_69 ?_
        refine q_icmp_ge (pc := 71) (by omega) (by omega) 98 dX8_turn_71 rfl (fun c71 => ?_) (fun c71 => ?_)
        · exfalso; omega
        refine q_aload_n (pc := 74) dX8_turn_74 rfl rfl ?_
        refine q_getfield (pc := 75) gf_X8_32 dX8_turn_75 (by assumption) rfl ?_
        refine q_iload (pc := 78) dX8_turn_78 rfl ?_
        refine q_iload (pc := 80) dX8_turn_80 rfl ?_
        refine q_if_ne (pc := 82) (by omega) 89 dX8_turn_82 rfl (fun c82 => ?_) (fun c82 => ?_)
        · refine q_ldc (pc := 89) tw_5_152 dX8_turn_89 ?_
          refine q_iastore (pc := 91) dX8_turn_91 (by assumption) (by omega) ?_
          refine q_iinc (pc := 92) [some _, some _, some _, some _, some _, some _, some _, none] dX8_turn_92 rfl rfl rfl ?_
          refine q_goto (pc := 95) 67 dX8_turn_95 rfl ?_
          refine hih _ _ (by omega) (hs.tr (zSame.up (by omega))) zup_at (fun r a b => ?_)
          simp only [zfu]
          by_cases e : r = (m : Int)
          · rw [if_pos e, e]; unfold zpr0; first | rw [if_pos (by omega)] | rw [if_neg (by omega)]
          · rw [if_neg e]; exact hf r a (by omega)
        refine q_iconst (pc := 85) dX8_turn_85 ?_
        refine q_goto (pc := 86) 91 dX8_turn_86 rfl ?_
        refine q_iastore (pc := 91) dX8_turn_91 (by assumption) (by omega) ?_
        refine q_iinc (pc := 92) [some _, some _, some _, some _, some _, some _, some _, none] dX8_turn_92 rfl rfl rfl ?_
        refine q_goto (pc := 95) 67 dX8_turn_95 rfl ?_
        refine hih _ _ (by omega) (hs.tr (zSame.up (by omega))) zup_at (fun r a b => ?_)
        simp only [zfu]
        by_cases e : r = (m : Int)
        · rw [if_pos e, e]; unfold zpr0; first | rw [if_pos (by omega)] | rw [if_neg (by omega)]
        · rw [if_neg e]; exact hf r a (by omega)
    refine zenter [some _, some _, some _, some _, some _, none, none, none] pn_X8 rfl (Nat.le_of_ble_eq_true rfl) ?_
    refine q_aload_n (pc := 0) dX8_turn_0 rfl rfl ?_
    refine q_iload_n (pc := 1) dX8_turn_1 rfl ?_
    refine q_invokevirtual (pc := 2) (d' := d - 1) (mc' := 0) (ms' := 0) (As := [_]) (TX8, 26) cl_X8_226 dX8_turn_2 rfl rfl (by first | assumption | exact zup_at | exact (zup_ne (by decide)).trans (zup_at) | exact (zup_ne (by decide)).trans (by assumption) | exact (zup_ne (by decide)).trans ((zup_ne (by decide)).trans (zup_at)) | exact (zup_ne (by decide)).trans ((zup_ne (by decide)).trans (by assumption)) | exact (zup_ne (by decide)).trans ((zup_ne (by decide)).trans ((zup_ne (by decide)).trans (zup_at))) | exact (zup_ne (by decide)).trans ((zup_ne (by decide)).trans ((zup_ne (by decide)).trans (by assumption))) | exact (zup_ne (by decide)).trans ((zup_ne (by decide)).trans ((zup_ne (by decide)).trans ((zup_ne (by decide)).trans (zup_at)))) | exact (zup_ne (by decide)).trans ((zup_ne (by decide)).trans ((zup_ne (by decide)).trans ((zup_ne (by decide)).trans (by assumption)))) | exact (zup_ne (by decide)).trans ((zup_ne (by decide)).trans ((zup_ne (by decide)).trans ((zup_ne (by decide)).trans ((zup_ne (by decide)).trans (zup_at))))) | exact (zup_ne (by decide)).trans ((zup_ne (by decide)).trans ((zup_ne (by decide)).trans ((zup_ne (by decide)).trans ((zup_ne (by decide)).trans (by assumption)))))) rfl (by omega) rfl 0 0 (Nat.le_refl 0) (Nat.le_refl 0) ?_
    refine c_X8_isCloud (by omega) h72 h73 hO3 (by omega) ?_
    refine q_ifb_eq (pc := 5) 35 dX8_turn_5 rfl (fun c5 => ?_) (fun c5 => ?_)
    · exfalso; omega
    refine q_aload_n (pc := 8) dX8_turn_8 rfl rfl ?_
    refine q_iload_n (pc := 9) dX8_turn_9 rfl ?_
    refine q_invokevirtual (pc := 10) (d' := d - 1) (mc' := 0) (ms' := 0) (As := [_]) (TX8, 26) cl_X8_223 dX8_turn_10 rfl rfl (by first | assumption | exact zup_at | exact (zup_ne (by decide)).trans (zup_at) | exact (zup_ne (by decide)).trans (by assumption) | exact (zup_ne (by decide)).trans ((zup_ne (by decide)).trans (zup_at)) | exact (zup_ne (by decide)).trans ((zup_ne (by decide)).trans (by assumption)) | exact (zup_ne (by decide)).trans ((zup_ne (by decide)).trans ((zup_ne (by decide)).trans (zup_at))) | exact (zup_ne (by decide)).trans ((zup_ne (by decide)).trans ((zup_ne (by decide)).trans (by assumption))) | exact (zup_ne (by decide)).trans ((zup_ne (by decide)).trans ((zup_ne (by decide)).trans ((zup_ne (by decide)).trans (zup_at)))) | exact (zup_ne (by decide)).trans ((zup_ne (by decide)).trans ((zup_ne (by decide)).trans ((zup_ne (by decide)).trans (by assumption)))) | exact (zup_ne (by decide)).trans ((zup_ne (by decide)).trans ((zup_ne (by decide)).trans ((zup_ne (by decide)).trans ((zup_ne (by decide)).trans (zup_at))))) | exact (zup_ne (by decide)).trans ((zup_ne (by decide)).trans ((zup_ne (by decide)).trans ((zup_ne (by decide)).trans ((zup_ne (by decide)).trans (by assumption)))))) rfl (by omega) rfl 0 0 (Nat.le_refl 0) (Nat.le_refl 0) ?_
    refine c_X8_isSlinger (by omega) h72 h73 hO3 (by omega) ?_
    refine q_ifb_eq (pc := 13) 35 dX8_turn_13 rfl (fun c13 => ?_) (fun c13 => ?_)
    · exfalso; omega
    refine q_aload_n (pc := 16) dX8_turn_16 rfl rfl ?_
    refine q_iload_n (pc := 17) dX8_turn_17 rfl ?_
    refine q_invokevirtual (pc := 18) (d' := d - 1) (mc' := 0) (ms' := 0) (As := [_]) (TX8, 26) cl_X8_116 dX8_turn_18 rfl rfl (by first | assumption | exact zup_at | exact (zup_ne (by decide)).trans (zup_at) | exact (zup_ne (by decide)).trans (by assumption) | exact (zup_ne (by decide)).trans ((zup_ne (by decide)).trans (zup_at)) | exact (zup_ne (by decide)).trans ((zup_ne (by decide)).trans (by assumption)) | exact (zup_ne (by decide)).trans ((zup_ne (by decide)).trans ((zup_ne (by decide)).trans (zup_at))) | exact (zup_ne (by decide)).trans ((zup_ne (by decide)).trans ((zup_ne (by decide)).trans (by assumption))) | exact (zup_ne (by decide)).trans ((zup_ne (by decide)).trans ((zup_ne (by decide)).trans ((zup_ne (by decide)).trans (zup_at)))) | exact (zup_ne (by decide)).trans ((zup_ne (by decide)).trans ((zup_ne (by decide)).trans ((zup_ne (by decide)).trans (by assumption)))) | exact (zup_ne (by decide)).trans ((zup_ne (by decide)).trans ((zup_ne (by decide)).trans ((zup_ne (by decide)).trans ((zup_ne (by decide)).trans (zup_at))))) | exact (zup_ne (by decide)).trans ((zup_ne (by decide)).trans ((zup_ne (by decide)).trans ((zup_ne (by decide)).trans ((zup_ne (by decide)).trans (by assumption)))))) rfl (by omega) rfl 0 0 (Nat.le_refl 0) (Nat.le_refl 0) ?_
    refine c_X8_isCellar (by omega) h72 h73 hO3 (by omega) ?_
    refine q_ifb_eq (pc := 21) 35 dX8_turn_21 rfl (fun c21 => ?_) (fun c21 => ?_)
    · exfalso; omega
    refine q_iload (pc := 24) dX8_turn_24 rfl ?_
    refine q_i2l (pc := 26) dX8_turn_26 (by omega) ?_
    refine q_lconst (pc := 27) (v := 0) dX8_turn_27 rfl ?_
    refine q_lconst (pc := 28) (v := 1) dX8_turn_28 rfl ?_
    refine q_invokestatic (pc := 29) (d' := d - 1) (mc' := 0) (ms' := 0) (As := [_, _, _]) cl_X8_60 dX8_turn_29 rfl rfl (by omega) rfl 0 0 (Nat.le_refl 0) (Nat.le_refl 0) ?_
    refine c_X8_in (by omega) (by omega) (by omega) ?_
    refine q_ifb_ne (pc := 32) 40 dX8_turn_32 rfl (fun c32 => ?_) (fun c32 => ?_)
    · refine q_aload_n (pc := 40) dX8_turn_40 rfl rfl ?_
      refine q_getfield (pc := 41) gf_X8_7 dX8_turn_41 (by first | assumption | exact zup_at | exact (zup_ne (by decide)).trans (zup_at) | exact (zup_ne (by decide)).trans (by assumption) | exact (zup_ne (by decide)).trans ((zup_ne (by decide)).trans (zup_at)) | exact (zup_ne (by decide)).trans ((zup_ne (by decide)).trans (by assumption)) | exact (zup_ne (by decide)).trans ((zup_ne (by decide)).trans ((zup_ne (by decide)).trans (zup_at))) | exact (zup_ne (by decide)).trans ((zup_ne (by decide)).trans ((zup_ne (by decide)).trans (by assumption))) | exact (zup_ne (by decide)).trans ((zup_ne (by decide)).trans ((zup_ne (by decide)).trans ((zup_ne (by decide)).trans (zup_at)))) | exact (zup_ne (by decide)).trans ((zup_ne (by decide)).trans ((zup_ne (by decide)).trans ((zup_ne (by decide)).trans (by assumption)))) | exact (zup_ne (by decide)).trans ((zup_ne (by decide)).trans ((zup_ne (by decide)).trans ((zup_ne (by decide)).trans ((zup_ne (by decide)).trans (zup_at))))) | exact (zup_ne (by decide)).trans ((zup_ne (by decide)).trans ((zup_ne (by decide)).trans ((zup_ne (by decide)).trans ((zup_ne (by decide)).trans (by assumption)))))) rfl ?_
      refine q_bipush (pc := 44) (by decide) dX8_turn_44 ?_
      refine q_iload_n (pc := 46) dX8_turn_46 rfl ?_
      refine q_iadd (pc := 47) dX8_turn_47 ?_
      refine q_iaload (pc := 48) dX8_turn_48 (by first | assumption | exact zup_at | exact (zup_ne (by decide)).trans (zup_at) | exact (zup_ne (by decide)).trans (by assumption) | exact (zup_ne (by decide)).trans ((zup_ne (by decide)).trans (zup_at)) | exact (zup_ne (by decide)).trans ((zup_ne (by decide)).trans (by assumption)) | exact (zup_ne (by decide)).trans ((zup_ne (by decide)).trans ((zup_ne (by decide)).trans (zup_at))) | exact (zup_ne (by decide)).trans ((zup_ne (by decide)).trans ((zup_ne (by decide)).trans (by assumption))) | exact (zup_ne (by decide)).trans ((zup_ne (by decide)).trans ((zup_ne (by decide)).trans ((zup_ne (by decide)).trans (zup_at)))) | exact (zup_ne (by decide)).trans ((zup_ne (by decide)).trans ((zup_ne (by decide)).trans ((zup_ne (by decide)).trans (by assumption)))) | exact (zup_ne (by decide)).trans ((zup_ne (by decide)).trans ((zup_ne (by decide)).trans ((zup_ne (by decide)).trans ((zup_ne (by decide)).trans (zup_at))))) | exact (zup_ne (by decide)).trans ((zup_ne (by decide)).trans ((zup_ne (by decide)).trans ((zup_ne (by decide)).trans ((zup_ne (by decide)).trans (by assumption)))))) (by omega) ?_
      refine q_aload_n (pc := 49) dX8_turn_49 rfl rfl ?_
      refine q_getfield (pc := 50) gf_X8_7 dX8_turn_50 (by first | assumption | exact zup_at | exact (zup_ne (by decide)).trans (zup_at) | exact (zup_ne (by decide)).trans (by assumption) | exact (zup_ne (by decide)).trans ((zup_ne (by decide)).trans (zup_at)) | exact (zup_ne (by decide)).trans ((zup_ne (by decide)).trans (by assumption)) | exact (zup_ne (by decide)).trans ((zup_ne (by decide)).trans ((zup_ne (by decide)).trans (zup_at))) | exact (zup_ne (by decide)).trans ((zup_ne (by decide)).trans ((zup_ne (by decide)).trans (by assumption))) | exact (zup_ne (by decide)).trans ((zup_ne (by decide)).trans ((zup_ne (by decide)).trans ((zup_ne (by decide)).trans (zup_at)))) | exact (zup_ne (by decide)).trans ((zup_ne (by decide)).trans ((zup_ne (by decide)).trans ((zup_ne (by decide)).trans (by assumption)))) | exact (zup_ne (by decide)).trans ((zup_ne (by decide)).trans ((zup_ne (by decide)).trans ((zup_ne (by decide)).trans ((zup_ne (by decide)).trans (zup_at))))) | exact (zup_ne (by decide)).trans ((zup_ne (by decide)).trans ((zup_ne (by decide)).trans ((zup_ne (by decide)).trans ((zup_ne (by decide)).trans (by assumption)))))) rfl ?_
      refine q_bipush (pc := 53) (by decide) dX8_turn_53 ?_
      refine q_iload_n (pc := 55) dX8_turn_55 rfl ?_
      refine q_iadd (pc := 56) dX8_turn_56 ?_
      refine q_iaload (pc := 57) dX8_turn_57 (by first | assumption | exact zup_at | exact (zup_ne (by decide)).trans (zup_at) | exact (zup_ne (by decide)).trans (by assumption) | exact (zup_ne (by decide)).trans ((zup_ne (by decide)).trans (zup_at)) | exact (zup_ne (by decide)).trans ((zup_ne (by decide)).trans (by assumption)) | exact (zup_ne (by decide)).trans ((zup_ne (by decide)).trans ((zup_ne (by decide)).trans (zup_at))) | exact (zup_ne (by decide)).trans ((zup_ne (by decide)).trans ((zup_ne (by decide)).trans (by assumption))) | exact (zup_ne (by decide)).trans ((zup_ne (by decide)).trans ((zup_ne (by decide)).trans ((zup_ne (by decide)).trans (zup_at)))) | exact (zup_ne (by decide)).trans ((zup_ne (by decide)).trans ((zup_ne (by decide)).trans ((zup_ne (by decide)).trans (by assumption)))) | exact (zup_ne (by decide)).trans ((zup_ne (by decide)).trans ((zup_ne (by decide)).trans ((zup_ne (by decide)).trans ((zup_ne (by decide)).trans (zup_at))))) | exact (zup_ne (by decide)).trans ((zup_ne (by decide)).trans ((zup_ne (by decide)).trans ((zup_ne (by decide)).trans ((zup_ne (by decide)).trans (by assumption)))))) (by omega) ?_
      refine q_isub (pc := 58) dX8_turn_58 ?_
      refine q_invokestatic (pc := 59) (d' := d - 1) (mc' := 0) (ms' := 0) (As := [_]) cl_X8_64 dX8_turn_59 rfl rfl (by omega) rfl 0 0 (Nat.le_refl 0) (Nat.le_refl 0) ?_
      refine c_X8_least0 (by omega) ?_
      rw [hneed]
      refine q_istore (pc := 62) [some _, some _, some _, some _, some _, some _, none, none] dX8_turn_62 rfl (Nat.le_of_ble_eq_true rfl) rfl ?_
      refine q_iconst (pc := 64) dX8_turn_64 ?_
      refine q_istore (pc := 65) [some _, some _, some _, some _, some _, some _, some _, none] dX8_turn_65 rfl (Nat.le_of_ble_eq_true rfl) rfl ?_
      exact L0 41 0 _ f0 (by omega) zSame.rf h79 (fun j a b => by omega)
    exfalso; omega
  · have hz0 := hv
    refine zenter [some _, some _, some _, some _, some _, none, none, none] pn_X8 rfl (Nat.le_of_ble_eq_true rfl) ?_
    refine q_aload_n (pc := 0) dX8_turn_0 rfl rfl ?_
    refine q_iload_n (pc := 1) dX8_turn_1 rfl ?_
    refine q_invokevirtual (pc := 2) (d' := d - 1) (mc' := 0) (ms' := 0) (As := [_]) (TX8, 26) cl_X8_226 dX8_turn_2 rfl rfl (by first | assumption | exact zup_at | exact (zup_ne (by decide)).trans (zup_at) | exact (zup_ne (by decide)).trans (by assumption) | exact (zup_ne (by decide)).trans ((zup_ne (by decide)).trans (zup_at)) | exact (zup_ne (by decide)).trans ((zup_ne (by decide)).trans (by assumption)) | exact (zup_ne (by decide)).trans ((zup_ne (by decide)).trans ((zup_ne (by decide)).trans (zup_at))) | exact (zup_ne (by decide)).trans ((zup_ne (by decide)).trans ((zup_ne (by decide)).trans (by assumption))) | exact (zup_ne (by decide)).trans ((zup_ne (by decide)).trans ((zup_ne (by decide)).trans ((zup_ne (by decide)).trans (zup_at)))) | exact (zup_ne (by decide)).trans ((zup_ne (by decide)).trans ((zup_ne (by decide)).trans ((zup_ne (by decide)).trans (by assumption)))) | exact (zup_ne (by decide)).trans ((zup_ne (by decide)).trans ((zup_ne (by decide)).trans ((zup_ne (by decide)).trans ((zup_ne (by decide)).trans (zup_at))))) | exact (zup_ne (by decide)).trans ((zup_ne (by decide)).trans ((zup_ne (by decide)).trans ((zup_ne (by decide)).trans ((zup_ne (by decide)).trans (by assumption)))))) rfl (by omega) rfl 0 0 (Nat.le_refl 0) (Nat.le_refl 0) ?_
    refine c_X8_isCloud (by omega) h72 h73 hO3 (by omega) ?_
    refine q_ifb_eq (pc := 5) 35 dX8_turn_5 rfl (fun c5 => ?_) (fun c5 => ?_)
    · refine q_aload_n (pc := 35) dX8_turn_35 rfl rfl ?_
      refine q_invokevirtual (pc := 36) (d' := d - 1) (mc' := 0) (ms' := 0) (As := []) (TX8, 26) cl_X8_103 dX8_turn_36 rfl rfl (by first | assumption | exact zup_at | exact (zup_ne (by decide)).trans (zup_at) | exact (zup_ne (by decide)).trans (by assumption) | exact (zup_ne (by decide)).trans ((zup_ne (by decide)).trans (zup_at)) | exact (zup_ne (by decide)).trans ((zup_ne (by decide)).trans (by assumption)) | exact (zup_ne (by decide)).trans ((zup_ne (by decide)).trans ((zup_ne (by decide)).trans (zup_at))) | exact (zup_ne (by decide)).trans ((zup_ne (by decide)).trans ((zup_ne (by decide)).trans (by assumption))) | exact (zup_ne (by decide)).trans ((zup_ne (by decide)).trans ((zup_ne (by decide)).trans ((zup_ne (by decide)).trans (zup_at)))) | exact (zup_ne (by decide)).trans ((zup_ne (by decide)).trans ((zup_ne (by decide)).trans ((zup_ne (by decide)).trans (by assumption)))) | exact (zup_ne (by decide)).trans ((zup_ne (by decide)).trans ((zup_ne (by decide)).trans ((zup_ne (by decide)).trans ((zup_ne (by decide)).trans (zup_at))))) | exact (zup_ne (by decide)).trans ((zup_ne (by decide)).trans ((zup_ne (by decide)).trans ((zup_ne (by decide)).trans ((zup_ne (by decide)).trans (by assumption)))))) rfl (by omega) rfl 0 0 (Nat.le_refl 0) (Nat.le_refl 0) ?_
      refine c_X8_bad hC (fun w9 hs9 hC9 => ?_)
      refine q_ireturn (pc := 39) dX8_turn_39 rfl ?_
      exact zgm k (by unfold o_turn; exact ((if_neg (by omega)).trans rfl)) hs9 hC9
    refine q_aload_n (pc := 8) dX8_turn_8 rfl rfl ?_
    refine q_iload_n (pc := 9) dX8_turn_9 rfl ?_
    refine q_invokevirtual (pc := 10) (d' := d - 1) (mc' := 0) (ms' := 0) (As := [_]) (TX8, 26) cl_X8_223 dX8_turn_10 rfl rfl (by first | assumption | exact zup_at | exact (zup_ne (by decide)).trans (zup_at) | exact (zup_ne (by decide)).trans (by assumption) | exact (zup_ne (by decide)).trans ((zup_ne (by decide)).trans (zup_at)) | exact (zup_ne (by decide)).trans ((zup_ne (by decide)).trans (by assumption)) | exact (zup_ne (by decide)).trans ((zup_ne (by decide)).trans ((zup_ne (by decide)).trans (zup_at))) | exact (zup_ne (by decide)).trans ((zup_ne (by decide)).trans ((zup_ne (by decide)).trans (by assumption))) | exact (zup_ne (by decide)).trans ((zup_ne (by decide)).trans ((zup_ne (by decide)).trans ((zup_ne (by decide)).trans (zup_at)))) | exact (zup_ne (by decide)).trans ((zup_ne (by decide)).trans ((zup_ne (by decide)).trans ((zup_ne (by decide)).trans (by assumption)))) | exact (zup_ne (by decide)).trans ((zup_ne (by decide)).trans ((zup_ne (by decide)).trans ((zup_ne (by decide)).trans ((zup_ne (by decide)).trans (zup_at))))) | exact (zup_ne (by decide)).trans ((zup_ne (by decide)).trans ((zup_ne (by decide)).trans ((zup_ne (by decide)).trans ((zup_ne (by decide)).trans (by assumption)))))) rfl (by omega) rfl 0 0 (Nat.le_refl 0) (Nat.le_refl 0) ?_
    refine c_X8_isSlinger (by omega) h72 h73 hO3 (by omega) ?_
    refine q_ifb_eq (pc := 13) 35 dX8_turn_13 rfl (fun c13 => ?_) (fun c13 => ?_)
    · refine q_aload_n (pc := 35) dX8_turn_35 rfl rfl ?_
      refine q_invokevirtual (pc := 36) (d' := d - 1) (mc' := 0) (ms' := 0) (As := []) (TX8, 26) cl_X8_103 dX8_turn_36 rfl rfl (by first | assumption | exact zup_at | exact (zup_ne (by decide)).trans (zup_at) | exact (zup_ne (by decide)).trans (by assumption) | exact (zup_ne (by decide)).trans ((zup_ne (by decide)).trans (zup_at)) | exact (zup_ne (by decide)).trans ((zup_ne (by decide)).trans (by assumption)) | exact (zup_ne (by decide)).trans ((zup_ne (by decide)).trans ((zup_ne (by decide)).trans (zup_at))) | exact (zup_ne (by decide)).trans ((zup_ne (by decide)).trans ((zup_ne (by decide)).trans (by assumption))) | exact (zup_ne (by decide)).trans ((zup_ne (by decide)).trans ((zup_ne (by decide)).trans ((zup_ne (by decide)).trans (zup_at)))) | exact (zup_ne (by decide)).trans ((zup_ne (by decide)).trans ((zup_ne (by decide)).trans ((zup_ne (by decide)).trans (by assumption)))) | exact (zup_ne (by decide)).trans ((zup_ne (by decide)).trans ((zup_ne (by decide)).trans ((zup_ne (by decide)).trans ((zup_ne (by decide)).trans (zup_at))))) | exact (zup_ne (by decide)).trans ((zup_ne (by decide)).trans ((zup_ne (by decide)).trans ((zup_ne (by decide)).trans ((zup_ne (by decide)).trans (by assumption)))))) rfl (by omega) rfl 0 0 (Nat.le_refl 0) (Nat.le_refl 0) ?_
      refine c_X8_bad hC (fun w9 hs9 hC9 => ?_)
      refine q_ireturn (pc := 39) dX8_turn_39 rfl ?_
      exact zgm k (by unfold o_turn; exact ((if_neg (by omega)).trans rfl)) hs9 hC9
    refine q_aload_n (pc := 16) dX8_turn_16 rfl rfl ?_
    refine q_iload_n (pc := 17) dX8_turn_17 rfl ?_
    refine q_invokevirtual (pc := 18) (d' := d - 1) (mc' := 0) (ms' := 0) (As := [_]) (TX8, 26) cl_X8_116 dX8_turn_18 rfl rfl (by first | assumption | exact zup_at | exact (zup_ne (by decide)).trans (zup_at) | exact (zup_ne (by decide)).trans (by assumption) | exact (zup_ne (by decide)).trans ((zup_ne (by decide)).trans (zup_at)) | exact (zup_ne (by decide)).trans ((zup_ne (by decide)).trans (by assumption)) | exact (zup_ne (by decide)).trans ((zup_ne (by decide)).trans ((zup_ne (by decide)).trans (zup_at))) | exact (zup_ne (by decide)).trans ((zup_ne (by decide)).trans ((zup_ne (by decide)).trans (by assumption))) | exact (zup_ne (by decide)).trans ((zup_ne (by decide)).trans ((zup_ne (by decide)).trans ((zup_ne (by decide)).trans (zup_at)))) | exact (zup_ne (by decide)).trans ((zup_ne (by decide)).trans ((zup_ne (by decide)).trans ((zup_ne (by decide)).trans (by assumption)))) | exact (zup_ne (by decide)).trans ((zup_ne (by decide)).trans ((zup_ne (by decide)).trans ((zup_ne (by decide)).trans ((zup_ne (by decide)).trans (zup_at))))) | exact (zup_ne (by decide)).trans ((zup_ne (by decide)).trans ((zup_ne (by decide)).trans ((zup_ne (by decide)).trans ((zup_ne (by decide)).trans (by assumption)))))) rfl (by omega) rfl 0 0 (Nat.le_refl 0) (Nat.le_refl 0) ?_
    refine c_X8_isCellar (by omega) h72 h73 hO3 (by omega) ?_
    refine q_ifb_eq (pc := 21) 35 dX8_turn_21 rfl (fun c21 => ?_) (fun c21 => ?_)
    · refine q_aload_n (pc := 35) dX8_turn_35 rfl rfl ?_
      refine q_invokevirtual (pc := 36) (d' := d - 1) (mc' := 0) (ms' := 0) (As := []) (TX8, 26) cl_X8_103 dX8_turn_36 rfl rfl (by first | assumption | exact zup_at | exact (zup_ne (by decide)).trans (zup_at) | exact (zup_ne (by decide)).trans (by assumption) | exact (zup_ne (by decide)).trans ((zup_ne (by decide)).trans (zup_at)) | exact (zup_ne (by decide)).trans ((zup_ne (by decide)).trans (by assumption)) | exact (zup_ne (by decide)).trans ((zup_ne (by decide)).trans ((zup_ne (by decide)).trans (zup_at))) | exact (zup_ne (by decide)).trans ((zup_ne (by decide)).trans ((zup_ne (by decide)).trans (by assumption))) | exact (zup_ne (by decide)).trans ((zup_ne (by decide)).trans ((zup_ne (by decide)).trans ((zup_ne (by decide)).trans (zup_at)))) | exact (zup_ne (by decide)).trans ((zup_ne (by decide)).trans ((zup_ne (by decide)).trans ((zup_ne (by decide)).trans (by assumption)))) | exact (zup_ne (by decide)).trans ((zup_ne (by decide)).trans ((zup_ne (by decide)).trans ((zup_ne (by decide)).trans ((zup_ne (by decide)).trans (zup_at))))) | exact (zup_ne (by decide)).trans ((zup_ne (by decide)).trans ((zup_ne (by decide)).trans ((zup_ne (by decide)).trans ((zup_ne (by decide)).trans (by assumption)))))) rfl (by omega) rfl 0 0 (Nat.le_refl 0) (Nat.le_refl 0) ?_
      refine c_X8_bad hC (fun w9 hs9 hC9 => ?_)
      refine q_ireturn (pc := 39) dX8_turn_39 rfl ?_
      exact zgm k (by unfold o_turn; exact ((if_neg (by omega)).trans rfl)) hs9 hC9
    refine q_iload (pc := 24) dX8_turn_24 rfl ?_
    refine q_i2l (pc := 26) dX8_turn_26 (by omega) ?_
    refine q_lconst (pc := 27) (v := 0) dX8_turn_27 rfl ?_
    refine q_lconst (pc := 28) (v := 1) dX8_turn_28 rfl ?_
    refine q_invokestatic (pc := 29) (d' := d - 1) (mc' := 0) (ms' := 0) (As := [_, _, _]) cl_X8_60 dX8_turn_29 rfl rfl (by omega) rfl 0 0 (Nat.le_refl 0) (Nat.le_refl 0) ?_
    refine c_X8_in (by omega) (by omega) (by omega) ?_
    refine q_ifb_ne (pc := 32) 40 dX8_turn_32 rfl (fun c32 => ?_) (fun c32 => ?_)
    · exfalso; omega
    refine q_aload_n (pc := 35) dX8_turn_35 rfl rfl ?_
    refine q_invokevirtual (pc := 36) (d' := d - 1) (mc' := 0) (ms' := 0) (As := []) (TX8, 26) cl_X8_103 dX8_turn_36 rfl rfl (by first | assumption | exact zup_at | exact (zup_ne (by decide)).trans (zup_at) | exact (zup_ne (by decide)).trans (by assumption) | exact (zup_ne (by decide)).trans ((zup_ne (by decide)).trans (zup_at)) | exact (zup_ne (by decide)).trans ((zup_ne (by decide)).trans (by assumption)) | exact (zup_ne (by decide)).trans ((zup_ne (by decide)).trans ((zup_ne (by decide)).trans (zup_at))) | exact (zup_ne (by decide)).trans ((zup_ne (by decide)).trans ((zup_ne (by decide)).trans (by assumption))) | exact (zup_ne (by decide)).trans ((zup_ne (by decide)).trans ((zup_ne (by decide)).trans ((zup_ne (by decide)).trans (zup_at)))) | exact (zup_ne (by decide)).trans ((zup_ne (by decide)).trans ((zup_ne (by decide)).trans ((zup_ne (by decide)).trans (by assumption)))) | exact (zup_ne (by decide)).trans ((zup_ne (by decide)).trans ((zup_ne (by decide)).trans ((zup_ne (by decide)).trans ((zup_ne (by decide)).trans (zup_at))))) | exact (zup_ne (by decide)).trans ((zup_ne (by decide)).trans ((zup_ne (by decide)).trans ((zup_ne (by decide)).trans ((zup_ne (by decide)).trans (by assumption)))))) rfl (by omega) rfl 0 0 (Nat.le_refl 0) (Nat.le_refl 0) ?_
    refine c_X8_bad hC (fun w9 hs9 hC9 => ?_)
    refine q_ireturn (pc := 39) dX8_turn_39 rfl ?_
    exact zgm k (by unfold o_turn; exact ((if_neg (by omega)).trans rfl)) hs9 hC9
end X8L
