/-! the reference: remember, emptyAll -/
def zsT (P : Int → Int) (k : Int) : Int → Int := fun j => if 0 ≤ j ∧ j < k - 60 then P (j + 60) else P j
def zpT (N : Int → Int) (u : Int) (P : Int → Int) (m : Int) : Int → Int := fun j => if 60 * u ≤ j ∧ j < 60 * u + m then N (zat (j - 60 * u)) else P j
def zeT (N : Int → Int) (m : Int) : Int → Int := fun j => if 0 ≤ j ∧ j < m then 0 else N j
theorem zsT_60 {P : Int → Int} : zsT P 60 = P := by funext j; simp only [zsT]; rw [if_neg (by omega)]
theorem zsT_480 {P : Int → Int} : zsT P 480 = zsh P := rfl
theorem zsT_at {P : Int → Int} {k j : Int} (h : k - 60 ≤ j) : zsT P k j = P j := by simp only [zsT]; rw [if_neg (by omega)]
theorem zsT_s {P : Int → Int} {k : Int} (hk : 60 ≤ k) : zfu (zsT P k) (k - 60) (zsT P k k) = zsT P (k + 1) := by
  rw [zsT_at (by omega)]
  funext j
  simp only [zfu, zsT]
  by_cases h1 : j = k - 60
  · rw [if_pos h1, if_pos (by omega)]; congr 1; omega
  · rw [if_neg h1]
    by_cases h2 : 0 ≤ j ∧ j < k - 60
    · rw [if_pos h2, if_pos (by omega)]
    · rw [if_neg h2, if_neg (by omega)]
theorem zpT_0 {N P : Int → Int} {u : Int} : zpT N u P 0 = P := by funext j; simp only [zpT]; rw [if_neg (by omega)]
theorem zpT_60 {N P : Int → Int} {u : Int} : zpT N u P 60 = zp60 N u P := rfl
theorem zpT_s {N P : Int → Int} {u m : Int} (hm : 0 ≤ m) : zfu (zpT N u P m) (60 * u + m) (N (zat m)) = zpT N u P (m + 1) := by
  funext j
  simp only [zfu, zpT]
  by_cases h1 : j = 60 * u + m
  · rw [if_pos h1, if_pos (by omega)]; congr 2; omega
  · rw [if_neg h1]
    by_cases h2 : 60 * u ≤ j ∧ j < 60 * u + m
    · rw [if_pos h2, if_pos (by omega)]
    · rw [if_neg h2, if_neg (by omega)]
theorem zeT_0 {N : Int → Int} : zeT N 0 = N := by funext j; simp only [zeT]; rw [if_neg (by omega)]
theorem zeT_s {N : Int → Int} {m : Int} (hm : 0 ≤ m) : zfu (zeT N m) m 0 = zeT N (m + 1) := by
  funext j
  simp only [zfu, zeT]
  by_cases h1 : j = m
  · rw [if_pos h1, if_pos (by omega)]
  · rw [if_neg h1]
    by_cases h2 : 0 ≤ j ∧ j < m
    · rw [if_pos h2, if_pos (by omega)]
    · rw [if_neg h2, if_neg (by omega)]
theorem zat_b {k : Int} (h : 0 ≤ k ∧ k < 60) : 0 ≤ zat k ∧ zat k < 168 := by
  unfold zat
  repeat' split
  all_goals omega
section X8C
variable {g : zG} {d : Nat} {w : zWd} {K : Option Value → zWd → Prop} {S : zSt}
set_option maxRecDepth 100000 in
set_option maxHeartbeats 4000000 in
theorem c_X8_remember (hd : 1 ≤ d) (hC : zMo g w S) (hu : 0 ≤ S.1.2.1 ∧ S.1.2.1 ≤ 8) (k : ∀ w', zSame w w' 72 4 → zMo g w' (sMv S S.1.1) → K none w') : zCall g d 0 0 mX8_remember [zR g 72] w K := by
  have J52 : ∀ (u : Int) (P : Int → Int), 0 ≤ u ∧ u ≤ 7 → u + 1 = zru S.1.2.1 → zp60 S.1.1 u P = zrP S.1.1 S.1.2.1 S.1.2.2 → ∀ (q : Nat) (m : Nat) (w1 : zWd), m + q = 60 → zSame w w1 72 4 → zMo g w1 (sNP S S.1.1 u (zpT S.1.1 u P (m : Int))) → zRuns g d mX8_remember 0 0 52 [some (zR g 72), some (zI (m : Int))] [] w1 K := by
    intro u P h1 h2 h3 q
    induction q with
    | zero =>
      intro m w1 h4 hs hM
      obtain ⟨⟨p0, p1, p2, p3, p4, it, sm, h72⟩, -⟩ := id hM
      have h72 : w1.1 72 = some (zMO g S.2.2.2.1.1 S.2.2.2.1.2 u S.2.1.2 p0 p1 p2 p3 p4 it sm) := h72
      obtain rfl : m = 60 := by omega
      have hM : zMo g w1 (sNP S S.1.1 u (zp60 S.1.1 u P)) := hM
      rw [h3] at hM
      refine q_iload_n (pc := 52) dX8_remember_52 rfl ?_
      refine q_bipush (pc := 53) (by decide) dX8_remember_53 ?_
      refine q_icmp_ge (pc := 55) (by omega) (by omega) 87 dX8_remember_55 rfl (fun c55 => ?_) (fun c55 => ?_)
      · refine q_aload_n (pc := 87) dX8_remember_87 rfl rfl ?_
        refine q_dup (pc := 88) rfl dX8_remember_88 ?_
        refine q_getfield (pc := 89) gf_X8_94 dX8_remember_89 (by assumption) rfl ?_
        refine q_iconst (pc := 92) dX8_remember_92 ?_
        refine q_iadd (pc := 93) dX8_remember_93 ?_
        refine q_putfield2 (pc := 94) [_, _, _, _, _, _, _, _, _, _, _, _, _, _, _, _, _, _, _, _, _, _, _, _, _, _] pf_X8_94 dX8_remember_94 (by assumption) rfl rfl (Nat.le_of_ble_eq_true rfl) rfl ?_
        refine q_return (pc := 97) dX8_remember_97 rfl ?_
        rw [h2]; exact k _ (hs.tr (zSame.up (by omega))) (hM.o72 (zSame.up (by omega)) zup_at)
      exfalso; omega
    | succ q ih =>
      intro m w1 h4 hs hM
      have hih := ih (m + 1)
      obtain ⟨⟨p0, p1, p2, p3, p4, it, sm, h72⟩, -⟩ := id hM
      have h72 : w1.1 72 = some (zMO g S.2.2.2.1.1 S.2.2.2.1.2 u S.2.1.2 p0 p1 p2 p3 p4 it sm) := h72
      have h73 : w1.1 73 = some (.inr (false, 168, S.1.1)) := hM.2.1
      have h75 : w1.1 75 = some (.inr (false, 480, zpT S.1.1 u P (m : Int))) := hM.2.2.2.1
      have hz := zat_b (k := (m : Int)) (by omega)
      have hzs := zpT_s (N := S.1.1) (P := P) (u := u) (m := (m : Int)) (by omega)
      refine q_iload_n (pc := 52) dX8_remember_52 rfl ?_
      refine q_bipush (pc := 53) (by decide) dX8_remember_53 ?_
      refine q_icmp_ge (pc := 55) (by omega) (by omega) 87 dX8_remember_55 rfl (fun c55 => ?_) (fun c55 => ?_)
      · exfalso; omega
      refine q_aload_n (pc := 58) dX8_remember_58 rfl rfl ?_
      refine q_getfield (pc := 59) gf_X8_20 dX8_remember_59 (by assumption) rfl ?_
      refine q_bipush (pc := 62) (by decide) dX8_remember_62 ?_
      refine q_aload_n (pc := 64) dX8_remember_64 rfl rfl ?_
      refine q_getfield (pc := 65) gf_X8_94 dX8_remember_65 (by assumption) rfl ?_
      refine q_imul (pc := 68) dX8_remember_68 ?_
      refine q_iload_n (pc := 69) dX8_remember_69 rfl ?_
      refine q_iadd (pc := 70) dX8_remember_70 ?_
      refine q_aload_n (pc := 71) dX8_remember_71 rfl rfl ?_
      refine q_getfield (pc := 72) gf_X8_7 dX8_remember_72 (by assumption) rfl ?_
      refine q_iload_n (pc := 75) dX8_remember_75 rfl ?_
      refine q_invokestatic (pc := 76) (d' := d - 1) (mc' := 0) (ms' := 0) (As := [_]) cl_X8_98 dX8_remember_76 rfl rfl (by omega) rfl 0 0 (Nat.le_refl 0) (Nat.le_refl 0) ?_
      refine c_X8_undoneAt (by omega) ?_
      refine q_iaload (pc := 79) dX8_remember_79 (by assumption) (by omega) ?_
      refine q_iastore (pc := 80) dX8_remember_80 (by assumption) (by omega) ?_
      refine q_iinc (pc := 81) [some _, some _] dX8_remember_81 rfl rfl rfl ?_
      refine q_goto (pc := 84) 52 dX8_remember_84 rfl ?_
      exact hih _ (by omega) (hs.tr (zSame.up (by omega))) (by have h9 := hM.o75 (zSame.up (by omega)) (zup_at (w := w1) (k := 75) (e := .inr (false, 480, zfu (zpT S.1.1 u P (m : Int)) (60 * u + (m : Int)) (S.1.1 (zat (m : Int)))))); rw [hzs] at h9 ⊢; exact h9)
  have L1 : S.1.2.1 = 8 → ∀ (q : Nat) (m : Nat) (w1 : zWd), m + q = 480 → 60 ≤ m → zSame w w1 72 4 → zMo g w1 (sNP S S.1.1 8 (zsT S.1.2.2 (m : Int))) → zRuns g d mX8_remember 0 0 12 [some (zR g 72), some (zI (m : Int))] [] w1 K := by
    intro hu8 q
    induction q with
    | zero =>
      intro m w1 h4 h5 hs hM
      obtain ⟨⟨p0, p1, p2, p3, p4, it, sm, h72⟩, -⟩ := id hM
      have h72 : w1.1 72 = some (zMO g S.2.2.2.1.1 S.2.2.2.1.2 8 S.2.1.2 p0 p1 p2 p3 p4 it sm) := h72
      obtain rfl : m = 480 := by omega
      have hM : zMo g w1 (sNP S S.1.1 8 (zsh S.1.2.2)) := hM
      refine q_iload_n (pc := 12) dX8_remember_12 rfl ?_
      refine q_sipush (pc := 13) (by decide) dX8_remember_13 ?_
      refine q_icmp_ge (pc := 16) (by omega) (by omega) 40 dX8_remember_16 rfl (fun c16 => ?_) (fun c16 => ?_)
      · refine q_aload_n (pc := 40) dX8_remember_40 rfl rfl ?_
        refine q_dup (pc := 41) rfl dX8_remember_41 ?_
        refine q_getfield (pc := 42) gf_X8_94 dX8_remember_42 (by assumption) rfl ?_
        refine q_iconst (pc := 45) dX8_remember_45 ?_
        refine q_isub (pc := 46) dX8_remember_46 ?_
        refine q_putfield2 (pc := 47) [_, _, _, _, _, _, _, _, _, _, _, _, _, _, _, _, _, _, _, _, _, _, _, _, _, _] pf_X8_94 dX8_remember_47 (by assumption) rfl rfl (Nat.le_of_ble_eq_true rfl) rfl ?_
        refine q_iconst (pc := 50) dX8_remember_50 ?_
        refine q_istore_n (pc := 51) [some _, some _] dX8_remember_51 rfl (Nat.le_of_ble_eq_true rfl) rfl ?_
        exact J52 7 (zsh S.1.2.2) (by omega) (by unfold zru; rw [if_pos hu8]; rfl) (by unfold zrP; rw [if_pos hu8]) 60 0 _ (by omega) (hs.tr (zSame.up (by omega))) (by rw [show ((0 : Nat) : Int) = 0 from rfl, zpT_0]; exact hM.o72 (zSame.up (by omega)) zup_at)
      exfalso; omega
    | succ q ih =>
      intro m w1 h4 h5 hs hM
      have hih := ih (m + 1)
      obtain ⟨⟨p0, p1, p2, p3, p4, it, sm, h72⟩, -⟩ := id hM
      have h72 : w1.1 72 = some (zMO g S.2.2.2.1.1 S.2.2.2.1.2 8 S.2.1.2 p0 p1 p2 p3 p4 it sm) := h72
      have h75 : w1.1 75 = some (.inr (false, 480, zsT S.1.2.2 (m : Int))) := hM.2.2.2.1
      have hzs := zsT_s (P := S.1.2.2) (k := (m : Int)) (by omega)
      refine q_iload_n (pc := 12) dX8_remember_12 rfl ?_
      refine q_sipush (pc := 13) (by decide) dX8_remember_13 ?_
      refine q_icmp_ge (pc := 16) (by omega) (by omega) 40 dX8_remember_16 rfl (fun c16 => ?_) (fun c16 => ?_)
      · exfalso; omega
      refine q_aload_n (pc := 19) dX8_remember_19 rfl rfl ?_
      refine q_getfield (pc := 20) gf_X8_20 dX8_remember_20 (by assumption) rfl ?_
      refine q_iload_n (pc := 23) dX8_remember_23 rfl ?_
      refine q_bipush (pc := 24) (by decide) dX8_remember_24 ?_
      refine q_isub (pc := 26) dX8_remember_26 ?_
      refine q_aload_n (pc := 27) dX8_remember_27 rfl rfl ?_
      refine q_getfield (pc := 28) gf_X8_20 dX8_remember_28 (by assumption) rfl ?_
      refine q_iload_n (pc := 31) dX8_remember_31 rfl ?_
      refine q_iaload (pc := 32) dX8_remember_32 (by assumption) (by omega) ?_
      refine q_iastore (pc := 33) dX8_remember_33 (by assumption) (by omega) ?_
      refine q_iinc (pc := 34) [some _, some _] dX8_remember_34 rfl rfl rfl ?_
      refine q_goto (pc := 37) 12 dX8_remember_37 rfl ?_
      exact hih _ (by omega) (by omega) (hs.tr (zSame.up (by omega))) (by have h9 := hM.o75 (zSame.up (by omega)) (zup_at (w := w1) (k := 75) (e := .inr (false, 480, zfu (zsT S.1.2.2 (m : Int)) ((m : Int) - 60) (zsT S.1.2.2 (m : Int) (m : Int))))); rw [hzs] at h9 ⊢; exact h9)
  obtain ⟨⟨p0, p1, p2, p3, p4, it, sm, h72⟩, -⟩ := id hC
  by_cases h8 : S.1.2.1 = 8
  · rw [h8] at h72
    refine zenter [some _, none] pn_X8 rfl (Nat.le_of_ble_eq_true rfl) ?_
    refine q_aload_n (pc := 0) dX8_remember_0 rfl rfl ?_
    refine q_getfield (pc := 1) gf_X8_94 dX8_remember_1 (by assumption) rfl ?_
    refine q_bipush (pc := 4) (by decide) dX8_remember_4 ?_
    refine q_icmp_ne (pc := 6) (by omega) (by omega) 50 dX8_remember_6 rfl (fun c6 => ?_) (fun c6 => ?_)
    · exfalso; omega
    refine q_bipush (pc := 9) (by decide) dX8_remember_9 ?_
    refine q_istore_n (pc := 11) [some _, some _] dX8_remember_11 rfl (Nat.le_of_ble_eq_true rfl) rfl ?_
    exact L1 h8 420 60 _ (by omega) (by omega) zSame.rf (by rw [show ((60 : Nat) : Int) = 60 from rfl, zsT_60, ← h8]; exact hC)
  · refine zenter [some _, none] pn_X8 rfl (Nat.le_of_ble_eq_true rfl) ?_
    refine q_aload_n (pc := 0) dX8_remember_0 rfl rfl ?_
    refine q_getfield (pc := 1) gf_X8_94 dX8_remember_1 (by assumption) rfl ?_
    refine q_bipush (pc := 4) (by decide) dX8_remember_4 ?_
    refine q_icmp_ne (pc := 6) (by omega) (by omega) 50 dX8_remember_6 rfl (fun c6 => ?_) (fun c6 => ?_)
    · refine q_iconst (pc := 50) dX8_remember_50 ?_
      refine q_istore_n (pc := 51) [some _, some _] dX8_remember_51 rfl (Nat.le_of_ble_eq_true rfl) rfl ?_
      exact J52 S.1.2.1 S.1.2.2 (by omega) (by unfold zru; rw [if_neg h8]) (by unfold zrP; rw [if_neg h8]) 60 0 _ (by omega) zSame.rf (by rw [show ((0 : Nat) : Int) = 0 from rfl, zpT_0]; exact hC)
    exfalso; omega
set_option maxRecDepth 100000 in
set_option maxHeartbeats 4000000 in
theorem c_X8_emptyAll {v : Int} (hC : zMo g w S) (hv : 0 ≤ v ∧ v ≤ 9) (k : ∀ w', zSame w w' 72 2 → zMo g w' (sN0 S (zempty v) 0) → K none w') : zCall g d 0 0 mX8_emptyAll [zR g 72, zI v] w K := by
  have L : ∀ (q : Nat) (m : Nat) (w1 : zWd), m + q = 168 → zSame w w1 72 2 → zMo g w1 (sN S (zeT S.1.1 (m : Int))) → zRuns g d mX8_emptyAll 0 0 2 [some (zR g 72), some (zI v), some (zI (m : Int))] [] w1 K := by
    intro q
    induction q with
    | zero =>
      intro m w1 h4 hs hM
      obtain rfl : m = 168 := by omega
      obtain ⟨⟨p0, p1, p2, p3, p4, it, sm, h72⟩, -⟩ := id hM
      have h72 : w1.1 72 = some (zMO g S.2.2.2.1.1 S.2.2.2.1.2 S.1.2.1 S.2.1.2 p0 p1 p2 p3 p4 it sm) := h72
      have h73 : w1.1 73 = some (.inr (false, 168, zeT S.1.1 168)) := hM.2.1
      have e : ∀ j, 0 ≤ j → j < ((168 : Nat) : Int) → zfu (zeT S.1.1 168) 4 v j = zempty v j := fun j a b => by
        simp only [zfu, zeT, zempty]
        by_cases h : j = 4
        · rw [if_pos h, if_pos h]
        · rw [if_neg h, if_neg h, if_pos (by omega)]
      refine q_iload_n (pc := 2) dX8_emptyAll_2 rfl ?_
      refine q_sipush (pc := 3) (by decide) dX8_emptyAll_3 ?_
      refine q_icmp_ge (pc := 6) (by omega) (by omega) 22 dX8_emptyAll_6 rfl (fun c6 => ?_) (fun c6 => ?_)
      · refine q_aload_n (pc := 22) dX8_emptyAll_22 rfl rfl ?_
        refine q_getfield (pc := 23) gf_X8_7 dX8_emptyAll_23 (by first | assumption | exact zup_at | exact (zup_ne (by decide)).trans (zup_at) | exact (zup_ne (by decide)).trans (by assumption) | exact (zup_ne (by decide)).trans ((zup_ne (by decide)).trans (zup_at)) | exact (zup_ne (by decide)).trans ((zup_ne (by decide)).trans (by assumption)) | exact (zup_ne (by decide)).trans ((zup_ne (by decide)).trans ((zup_ne (by decide)).trans (zup_at))) | exact (zup_ne (by decide)).trans ((zup_ne (by decide)).trans ((zup_ne (by decide)).trans (by assumption))) | exact (zup_ne (by decide)).trans ((zup_ne (by decide)).trans ((zup_ne (by decide)).trans ((zup_ne (by decide)).trans (zup_at)))) | exact (zup_ne (by decide)).trans ((zup_ne (by decide)).trans ((zup_ne (by decide)).trans ((zup_ne (by decide)).trans (by assumption)))) | exact (zup_ne (by decide)).trans ((zup_ne (by decide)).trans ((zup_ne (by decide)).trans ((zup_ne (by decide)).trans ((zup_ne (by decide)).trans (zup_at))))) | exact (zup_ne (by decide)).trans ((zup_ne (by decide)).trans ((zup_ne (by decide)).trans ((zup_ne (by decide)).trans ((zup_ne (by decide)).trans (by assumption)))))) rfl ?_
        refine q_iconst (pc := 26) dX8_emptyAll_26 ?_
        refine q_iload_n (pc := 27) dX8_emptyAll_27 rfl ?_
        refine q_iastore (pc := 28) dX8_emptyAll_28 (by first | assumption | exact zup_at | exact (zup_ne (by decide)).trans (zup_at) | exact (zup_ne (by decide)).trans (by assumption) | exact (zup_ne (by decide)).trans ((zup_ne (by decide)).trans (zup_at)) | exact (zup_ne (by decide)).trans ((zup_ne (by decide)).trans (by assumption)) | exact (zup_ne (by decide)).trans ((zup_ne (by decide)).trans ((zup_ne (by decide)).trans (zup_at))) | exact (zup_ne (by decide)).trans ((zup_ne (by decide)).trans ((zup_ne (by decide)).trans (by assumption))) | exact (zup_ne (by decide)).trans ((zup_ne (by decide)).trans ((zup_ne (by decide)).trans ((zup_ne (by decide)).trans (zup_at)))) | exact (zup_ne (by decide)).trans ((zup_ne (by decide)).trans ((zup_ne (by decide)).trans ((zup_ne (by decide)).trans (by assumption)))) | exact (zup_ne (by decide)).trans ((zup_ne (by decide)).trans ((zup_ne (by decide)).trans ((zup_ne (by decide)).trans ((zup_ne (by decide)).trans (zup_at))))) | exact (zup_ne (by decide)).trans ((zup_ne (by decide)).trans ((zup_ne (by decide)).trans ((zup_ne (by decide)).trans ((zup_ne (by decide)).trans (by assumption)))))) (by omega) ?_
        refine q_aload_n (pc := 29) dX8_emptyAll_29 rfl rfl ?_
        refine q_iconst (pc := 30) dX8_emptyAll_30 ?_
        refine q_putfield2 (pc := 31) [_, _, _, _, _, _, _, _, _, _, _, _, _, _, _, _, _, _, _, _, _, _, _, _, _, _] pf_X8_94 dX8_emptyAll_31 (by first | assumption | exact zup_at | exact (zup_ne (by decide)).trans (zup_at) | exact (zup_ne (by decide)).trans (by assumption) | exact (zup_ne (by decide)).trans ((zup_ne (by decide)).trans (zup_at)) | exact (zup_ne (by decide)).trans ((zup_ne (by decide)).trans (by assumption)) | exact (zup_ne (by decide)).trans ((zup_ne (by decide)).trans ((zup_ne (by decide)).trans (zup_at))) | exact (zup_ne (by decide)).trans ((zup_ne (by decide)).trans ((zup_ne (by decide)).trans (by assumption))) | exact (zup_ne (by decide)).trans ((zup_ne (by decide)).trans ((zup_ne (by decide)).trans ((zup_ne (by decide)).trans (zup_at)))) | exact (zup_ne (by decide)).trans ((zup_ne (by decide)).trans ((zup_ne (by decide)).trans ((zup_ne (by decide)).trans (by assumption)))) | exact (zup_ne (by decide)).trans ((zup_ne (by decide)).trans ((zup_ne (by decide)).trans ((zup_ne (by decide)).trans ((zup_ne (by decide)).trans (zup_at))))) | exact (zup_ne (by decide)).trans ((zup_ne (by decide)).trans ((zup_ne (by decide)).trans ((zup_ne (by decide)).trans ((zup_ne (by decide)).trans (by assumption)))))) rfl rfl (Nat.le_of_ble_eq_true rfl) rfl ?_
        refine q_norm (k := 73) (zempty v) ((zup_ne (by decide)).trans zup_at) e ?_
        refine q_return (pc := 34) dX8_emptyAll_34 rfl ?_
        exact k _ ((hs.tr (zSame.up (by omega))).tr ((zSame.up (by omega)).tr (zSame.up (by omega)))) (((hM.o73 (zSame.up (by omega)) zup_at).o72 (zSame.up (by omega)) zup_at).o73 (zSame.up (by omega)) zup_at)
      exfalso; omega
    | succ q ih =>
      intro m w1 h4 hs hM
      have hih := ih (m + 1)
      obtain ⟨⟨p0, p1, p2, p3, p4, it, sm, h72⟩, -⟩ := id hM
      have h72 : w1.1 72 = some (zMO g S.2.2.2.1.1 S.2.2.2.1.2 S.1.2.1 S.2.1.2 p0 p1 p2 p3 p4 it sm) := h72
      have h73 : w1.1 73 = some (.inr (false, 168, zeT S.1.1 (m : Int))) := hM.2.1
      have hzs := zeT_s (N := S.1.1) (m := (m : Int)) (by omega)
      refine q_iload_n (pc := 2) dX8_emptyAll_2 rfl ?_
      refine q_sipush (pc := 3) (by decide) dX8_emptyAll_3 ?_
      refine q_icmp_ge (pc := 6) (by omega) (by omega) 22 dX8_emptyAll_6 rfl (fun c6 => ?_) (fun c6 => ?_)
      · exfalso; omega
      refine q_aload_n (pc := 9) dX8_emptyAll_9 rfl rfl ?_
      refine q_getfield (pc := 10) gf_X8_7 dX8_emptyAll_10 (by assumption) rfl ?_
      refine q_iload_n (pc := 13) dX8_emptyAll_13 rfl ?_
      refine q_iconst (pc := 14) dX8_emptyAll_14 ?_
      refine q_iastore (pc := 15) dX8_emptyAll_15 (by assumption) (by omega) ?_
      refine q_iinc (pc := 16) [some _, some _, some _] dX8_emptyAll_16 rfl rfl rfl ?_
      refine q_goto (pc := 19) 2 dX8_emptyAll_19 rfl ?_
      exact hih _ (by omega) (hs.tr (zSame.up (by omega))) (by have h9 := hM.o73 (zSame.up (by omega)) (zup_at (w := w1) (k := 73) (e := .inr (false, 168, zfu (zeT S.1.1 (m : Int)) (m : Int) 0))); rw [hzs] at h9 ⊢; exact h9)
  refine zenter [some _, some _, none] pn_X8 rfl (Nat.le_of_ble_eq_true rfl) ?_
  refine q_iconst (pc := 0) dX8_emptyAll_0 ?_
  refine q_istore_n (pc := 1) [some _, some _, some _] dX8_emptyAll_1 rfl (Nat.le_of_ble_eq_true rfl) rfl ?_
  exact L 168 0 _ (by omega) zSame.rf (by rw [show ((0 : Nat) : Int) = 0 from rfl, zeT_0]; exact hC)
end X8C
