/-! the Reader: the next token -/
def zsrt (T : Int → Int) (len nx : Int) : Int := zskip T (len - nx).toNat nx
def zt0 (T : Int → Int) (len nx : Int) : Int := ztok (zbyte T len (zsrt T len nx))
def znxt (T : Int → Int) (len nx : Int) : Int := if zt0 T len nx = 1 ∨ zt0 T len nx = 2 then zrun T (zt0 T len nx) (len - min len (zsrt T len nx + 1)).toNat (min len (zsrt T len nx + 1)) else min len (zsrt T len nx + 1)
def ztk (T : Int → Int) (len nx : Int) : Int := if zt0 T len nx = 2 ∧ 2 < znxt T len nx - zsrt T len nx then 4 else zt0 T len nx
def znm (T : Int → Int) (len nx nm : Int) : Int := if zt0 T len nx = 2 ∧ ¬ 2 < znxt T len nx - zsrt T len nx then zfig T len (zsrt T len nx) (znxt T len nx - zsrt T len nx) else nm
theorem zsrt_b {T : Int → Int} {len nx : Int} (h : nx ≤ len) : nx ≤ zsrt T len nx ∧ zsrt T len nx ≤ len := by
  have := zskip_b (T := T) (len - nx).toNat nx
  unfold zsrt; omega
theorem znxt_b {T : Int → Int} {len nx : Int} (h : nx ≤ len) : zsrt T len nx ≤ znxt T len nx ∧ znxt T len nx ≤ len := by
  have h1 := zsrt_b (T := T) h
  have h2 := zrun_b (T := T) (tk := zt0 T len nx) (len - min len (zsrt T len nx + 1)).toNat (min len (zsrt T len nx + 1))
  unfold znxt; split <;> omega
section X3B
variable {g : zG} {d : Nat} {w : zWd} {K : Option Value → zWd → Prop} {rb db : Nat} {T : Int → Int} {len nx st tk nm : Int}
set_option maxRecDepth 100000 in
set_option maxHeartbeats 4000000 in
theorem c_X3_advance (hd : 2 ≤ d) (hF : w.1 rb = some (zRd g rb db len nx st tk nm)) (hT : w.1 (rb + 1) = some (.inr (false, 150, T))) (hl : 0 ≤ len ∧ len ≤ 150) (hn : 0 ≤ nx ∧ nx ≤ len) (hb : ∀ i, 0 ≤ i → i < len → 0 ≤ T i ∧ T i ≤ 255) (k : ∀ w', zSame w w' rb 1 → w'.1 rb = some (zRd g rb db len (znxt T len nx) (zsrt T len nx) (ztk T len nx) (znm T len nx nm)) → K none w') : zCall g d 0 0 mX3_advance [zR g rb] w K := by
  have hS := zsrt_b (T := T) hn.2
  have hE := znxt_b (T := T) hn.2
  have ht := ztok_b (zbyte T len (zsrt T len nx))
  have e0 : zsrt T len nx = zskip T (len - nx).toNat nx := rfl
  have e1 : zt0 T len nx = ztok (zbyte T len (zsrt T len nx)) := rfl
  have e2 : znxt T len nx = if zt0 T len nx = 1 ∨ zt0 T len nx = 2 then zrun T (zt0 T len nx) (len - min len (zsrt T len nx + 1)).toNat (min len (zsrt T len nx + 1)) else min len (zsrt T len nx + 1) := rfl
  rw [← e1] at ht
  unfold ztk znm at k
  have hby : ∀ p, zR32 (zbyte T len p) := fun p => by
    unfold zbyte
    split
    · have := hb p (by omega) (by omega); omega
    · omega
  generalize zt0 T len nx = t0 at *
  generalize zsrt T len nx = S at *
  generalize znxt T len nx = E at *
  have J145 : ∀ (w1 : zWd) (x1 : Option Value), zSame w w1 rb 1 → w1.1 rb = some (zRd g rb db len (E) (S) (t0) (nm)) → zRuns g d mX3_advance 0 0 145 [some (zR g rb), x1] [] w1 K := by
    intro w1 x1 hs hF
    have hT := (hs.2 (rb + 1) (by omega)).trans hT
    by_cases h2 : t0 = 2
    · by_cases h3 : 2 < E - S
      · simp only [if_pos (show t0 = 2 ∧ 2 < E - S from ⟨h2, h3⟩), if_neg (show ¬ (t0 = 2 ∧ ¬ 2 < E - S) from fun z => z.2 h3)] at k
        refine q_aload_n (pc := 145) dX3_advance_145 rfl rfl ?_
        refine q_getfield (pc := 146) gf_X3_45 dX3_advance_146 (by assumption) rfl ?_
        refine q_iconst (pc := 149) dX3_advance_149 ?_
        refine q_icmp_ne (pc := 150) (by omega) (by omega) 166 dX3_advance_150 rfl (fun c150 => ?_) (fun c150 => ?_)
        · first | (exfalso; omega; done) | skip
        refine q_aload_n (pc := 153) dX3_advance_153 rfl rfl ?_
        refine q_aload_n (pc := 154) dX3_advance_154 rfl rfl ?_
        refine q_getfield (pc := 155) gf_X3_29 dX3_advance_155 (by assumption) rfl ?_
        refine q_aload_n (pc := 158) dX3_advance_158 rfl rfl ?_
        refine q_getfield (pc := 159) gf_X3_68 dX3_advance_159 (by assumption) rfl ?_
        refine q_isub (pc := 162) dX3_advance_162 ?_
        refine q_invokevirtual (pc := 163) (d' := d - 1) (mc' := 0) (ms' := 0) (As := [_]) (TX3, 7) cl_X3_140 dX3_advance_163 rfl rfl (by assumption) rfl (by omega) rfl 0 0 (Nat.le_refl 0) (Nat.le_refl 0) ?_
        refine c_X3_readFigures (by omega) hF hT hl (by omega) (by omega) (fun w2 hs2 h => ?_)
        rw [if_pos h3, if_pos h3] at h
        exact q_return (pc := 166) dX3_advance_166 rfl (k _ (hs.tr hs2) h)
        first | (exfalso; omega; done) | skip
      · simp only [if_neg (show ¬ (t0 = 2 ∧ 2 < E - S) from fun z => h3 z.2), if_pos (show t0 = 2 ∧ ¬ 2 < E - S from ⟨h2, h3⟩)] at k
        refine q_aload_n (pc := 145) dX3_advance_145 rfl rfl ?_
        refine q_getfield (pc := 146) gf_X3_45 dX3_advance_146 (by assumption) rfl ?_
        refine q_iconst (pc := 149) dX3_advance_149 ?_
        refine q_icmp_ne (pc := 150) (by omega) (by omega) 166 dX3_advance_150 rfl (fun c150 => ?_) (fun c150 => ?_)
        · first | (exfalso; omega; done) | skip
        refine q_aload_n (pc := 153) dX3_advance_153 rfl rfl ?_
        refine q_aload_n (pc := 154) dX3_advance_154 rfl rfl ?_
        refine q_getfield (pc := 155) gf_X3_29 dX3_advance_155 (by assumption) rfl ?_
        refine q_aload_n (pc := 158) dX3_advance_158 rfl rfl ?_
        refine q_getfield (pc := 159) gf_X3_68 dX3_advance_159 (by assumption) rfl ?_
        refine q_isub (pc := 162) dX3_advance_162 ?_
        refine q_invokevirtual (pc := 163) (d' := d - 1) (mc' := 0) (ms' := 0) (As := [_]) (TX3, 7) cl_X3_140 dX3_advance_163 rfl rfl (by assumption) rfl (by omega) rfl 0 0 (Nat.le_refl 0) (Nat.le_refl 0) ?_
        refine c_X3_readFigures (by omega) hF hT hl (by omega) (by omega) (fun w2 hs2 h => ?_)
        rw [if_neg h3, if_neg h3] at h
        exact q_return (pc := 166) dX3_advance_166 rfl (k _ (hs.tr hs2) h)
        first | (exfalso; omega; done) | skip
    · simp only [if_neg (show ¬ (t0 = 2 ∧ 2 < E - S) from fun z => h2 z.1), if_neg (show ¬ (t0 = 2 ∧ ¬ 2 < E - S) from fun z => h2 z.1)] at k
      refine q_aload_n (pc := 145) dX3_advance_145 rfl rfl ?_
      refine q_getfield (pc := 146) gf_X3_45 dX3_advance_146 (by assumption) rfl ?_
      refine q_iconst (pc := 149) dX3_advance_149 ?_
      refine q_icmp_ne (pc := 150) (by omega) (by omega) 166 dX3_advance_150 rfl (fun c150 => ?_) (fun c150 => ?_)
      · refine q_return (pc := 166) dX3_advance_166 rfl ?_
        exact k _ hs hF
      exfalso; omega
  have L2 : ∀ (q m : Nat) (w1 : zWd), (m : Int) + (q : Int) = len → (t0 = 1 ∨ t0 = 2) → zSame w w1 rb 1 → w1.1 rb = some (zRd g rb db len ((m : Int)) (S) (t0) (nm)) → zrun T t0 q (m : Int) = E → zRuns g d mX3_advance 0 0 99 [some (zR g rb), some (zI 1)] [] w1 K := by
    intro q
    induction q with
    | zero =>
      intro m w1 hm ht0 hs hF hz
      rw [zrun] at hz
      rw [hz] at hF
      refine q_iload_n (pc := 99) dX3_advance_99 rfl ?_
      refine q_if_eq (pc := 100) (by omega) 145 dX3_advance_100 rfl (fun c100 => ?_) (fun c100 => ?_)
      · first | (exfalso; omega; done) | exact J145 _ _ hs hF
      refine q_aload_n (pc := 103) dX3_advance_103 rfl rfl ?_
      refine q_getfield (pc := 104) gf_X3_29 dX3_advance_104 (by assumption) rfl ?_
      refine q_aload_n (pc := 107) dX3_advance_107 rfl rfl ?_
      refine q_getfield (pc := 108) gf_X3_19 dX3_advance_108 (by assumption) rfl ?_
      refine q_icmp_ge (pc := 111) (by omega) (by omega) 145 dX3_advance_111 rfl (fun c111 => ?_) (fun c111 => ?_)
      · first | (exfalso; omega; done) | exact J145 _ _ hs hF
      exfalso; omega
    | succ q ih =>
      intro m w1 hm ht0 hs hF hz
      have hT := (hs.2 (rb + 1) (by omega)).trans hT
      have hih := fun w1 => ih (m + 1) w1 (by omega) ht0
      have eb : zbyte T len (m : Int) = T (m : Int) := by unfold zbyte; rw [if_pos (by omega)]
      have htm := ztok_b (T (m : Int))
      rw [zrun] at hz
      refine q_iload_n (pc := 99) dX3_advance_99 rfl ?_
      refine q_if_eq (pc := 100) (by omega) 145 dX3_advance_100 rfl (fun c100 => ?_) (fun c100 => ?_)
      · first | (exfalso; omega; done) | (rw [if_neg (by omega)] at hz; rw [hz] at hF; exact J145 _ _ hs hF)
      refine q_aload_n (pc := 103) dX3_advance_103 rfl rfl ?_
      refine q_getfield (pc := 104) gf_X3_29 dX3_advance_104 (by assumption) rfl ?_
      refine q_aload_n (pc := 107) dX3_advance_107 rfl rfl ?_
      refine q_getfield (pc := 108) gf_X3_19 dX3_advance_108 (by assumption) rfl ?_
      refine q_icmp_ge (pc := 111) (by omega) (by omega) 145 dX3_advance_111 rfl (fun c111 => ?_) (fun c111 => ?_)
      · first | (exfalso; omega; done) | (rw [if_neg (by omega)] at hz; rw [hz] at hF; exact J145 _ _ hs hF)
      refine q_aload_n (pc := 114) dX3_advance_114 rfl rfl ?_
      refine q_aload_n (pc := 115) dX3_advance_115 rfl rfl ?_
      refine q_getfield (pc := 116) gf_X3_29 dX3_advance_116 (by assumption) rfl ?_
      refine q_invokevirtual (pc := 119) (d' := d - 1) (mc' := 0) (ms' := 0) (As := [_]) (TX3, 7) cl_X3_124 dX3_advance_119 rfl rfl (by assumption) rfl (by omega) rfl 0 0 (Nat.le_refl 0) (Nat.le_refl 0) ?_
      refine c_X3_byteAt hF hT hl (by omega) ?_
      refine q_invokestatic (pc := 122) (d' := d - 1) (mc' := 0) (ms' := 0) (As := [_]) cl_X3_132 dX3_advance_122 rfl rfl (by omega) rfl 0 0 (Nat.le_refl 0) (Nat.le_refl 0) ?_
      refine c_X3_tokenBegunBy (hby _) ?_
      rw [eb]
      refine q_aload_n (pc := 125) dX3_advance_125 rfl rfl ?_
      refine q_getfield (pc := 126) gf_X3_45 dX3_advance_126 (by assumption) rfl ?_
      refine q_icmp_ne (pc := 129) (by omega) (by omega) 145 dX3_advance_129 rfl (fun c129 => ?_) (fun c129 => ?_)
      · first | (exfalso; omega; done) | (rw [if_neg (by omega)] at hz; rw [hz] at hF; exact J145 _ _ hs hF)
      refine q_aload_n (pc := 132) dX3_advance_132 rfl rfl ?_
      refine q_dup (pc := 133) rfl dX3_advance_133 ?_
      refine q_getfield (pc := 134) gf_X3_29 dX3_advance_134 (by assumption) rfl ?_
      refine q_iconst (pc := 137) dX3_advance_137 ?_
      refine q_iadd (pc := 138) dX3_advance_138 ?_
      refine q_putfield2 (pc := 139) [_, _, _, _, _, _, _] pf_X3_29 dX3_advance_139 (by assumption) rfl rfl (Nat.le_of_ble_eq_true rfl) rfl ?_
      refine q_goto (pc := 142) 99 dX3_advance_142 rfl ?_
      rw [if_pos (by omega)] at hz
      exact hih _ (hs.tr (zSame.up (by omega))) (by simp only [zup]; rw [if_pos trivial]; rfl) hz
  have J77 : ∀ (w1 : zWd), zSame w w1 rb 1 → w1.1 rb = some (zRd g rb db len (min len (S + 1)) (S) (t0) (nm)) → zRuns g d mX3_advance 0 0 77 [some (zR g rb), none] [] w1 K := by
    intro w1 hs hF
    by_cases h2 : t0 = 1 ∨ t0 = 2
    · rw [if_pos h2] at e2
      have em : (((min len (S + 1)).toNat : Nat) : Int) = min len (S + 1) := by omega
      refine q_aload_n (pc := 77) dX3_advance_77 rfl rfl ?_
      refine q_getfield (pc := 78) gf_X3_45 dX3_advance_78 (by assumption) rfl ?_
      refine q_iconst (pc := 81) dX3_advance_81 ?_
      refine q_icmp_eq (pc := 82) (by omega) (by omega) 93 dX3_advance_82 rfl (fun c82 => ?_) (fun c82 => ?_)
      · refine q_iconst (pc := 93) dX3_advance_93 ?_
        refine q_goto (pc := 94) 98 dX3_advance_94 rfl ?_
        refine q_istore_n (pc := 98) [some _, some _] dX3_advance_98 rfl (Nat.le_of_ble_eq_true rfl) rfl ?_
        exact L2 (len - min len (S + 1)).toNat (min len (S + 1)).toNat _ (by omega) h2 hs (by rw [em]; exact hF) (by rw [em]; exact e2.symm)
      refine q_aload_n (pc := 85) dX3_advance_85 rfl rfl ?_
      refine q_getfield (pc := 86) gf_X3_45 dX3_advance_86 (by assumption) rfl ?_
      refine q_iconst (pc := 89) dX3_advance_89 ?_
      refine q_icmp_ne (pc := 90) (by omega) (by omega) 97 dX3_advance_90 rfl (fun c90 => ?_) (fun c90 => ?_)
      · exfalso; omega
      refine q_iconst (pc := 93) dX3_advance_93 ?_
      refine q_goto (pc := 94) 98 dX3_advance_94 rfl ?_
      refine q_istore_n (pc := 98) [some _, some _] dX3_advance_98 rfl (Nat.le_of_ble_eq_true rfl) rfl ?_
      exact L2 (len - min len (S + 1)).toNat (min len (S + 1)).toNat _ (by omega) h2 hs (by rw [em]; exact hF) (by rw [em]; exact e2.symm)
    · rw [if_neg h2] at e2
      rw [← e2] at hF
      refine q_aload_n (pc := 77) dX3_advance_77 rfl rfl ?_
      refine q_getfield (pc := 78) gf_X3_45 dX3_advance_78 (by assumption) rfl ?_
      refine q_iconst (pc := 81) dX3_advance_81 ?_
      refine q_icmp_eq (pc := 82) (by omega) (by omega) 93 dX3_advance_82 rfl (fun c82 => ?_) (fun c82 => ?_)
      · exfalso; omega
      refine q_aload_n (pc := 85) dX3_advance_85 rfl rfl ?_
      refine q_getfield (pc := 86) gf_X3_45 dX3_advance_86 (by assumption) rfl ?_
      refine q_iconst (pc := 89) dX3_advance_89 ?_
      refine q_icmp_ne (pc := 90) (by omega) (by omega) 97 dX3_advance_90 rfl (fun c90 => ?_) (fun c90 => ?_)
      · refine q_iconst (pc := 97) dX3_advance_97 ?_
        refine q_istore_n (pc := 98) [some _, some _] dX3_advance_98 rfl (Nat.le_of_ble_eq_true rfl) rfl ?_
        refine q_iload_n (pc := 99) dX3_advance_99 rfl ?_
        refine q_if_eq (pc := 100) (by omega) 145 dX3_advance_100 rfl (fun c100 => ?_) (fun c100 => ?_)
        · first | (exfalso; omega; done) | exact J145 _ _ hs hF
        exfalso; omega
      exfalso; omega
  have J60 : ∀ (w1 : zWd), zSame w w1 rb 1 → w1.1 rb = some (zRd g rb db len (S) (S) (t0) (nm)) → zRuns g d mX3_advance 0 0 60 [some (zR g rb), none] [] w1 K := by
    intro w1 hs hF
    refine q_aload_n (pc := 60) dX3_advance_60 rfl rfl ?_
    refine q_aload_n (pc := 61) dX3_advance_61 rfl rfl ?_
    refine q_getfield (pc := 62) gf_X3_19 dX3_advance_62 (by assumption) rfl ?_
    refine q_aload_n (pc := 65) dX3_advance_65 rfl rfl ?_
    refine q_getfield (pc := 66) gf_X3_68 dX3_advance_66 (by assumption) rfl ?_
    refine q_iconst (pc := 69) dX3_advance_69 ?_
    refine q_iadd (pc := 70) dX3_advance_70 ?_
    refine q_min (pc := 71) tw_2_135 tw_2_67 tw_1_4 tw_2_68 dX3_advance_71 (by omega) rfl (by omega) (by omega) ?_
    refine q_putfield2 (pc := 74) [_, _, _, _, _, _, _] pf_X3_29 dX3_advance_74 (by assumption) rfl rfl (Nat.le_of_ble_eq_true rfl) rfl ?_
    exact J77 _ (hs.tr (zSame.up (by omega))) (by simp only [zup]; rw [if_pos trivial])
  have J45 : ∀ (w1 : zWd), zSame w w1 rb 1 → w1.1 rb = some (zRd g rb db len (S) (S) (tk) (nm)) → zRuns g d mX3_advance 0 0 45 [some (zR g rb), none] [] w1 K := by
    intro w1 hs hF
    have hT := (hs.2 (rb + 1) (by omega)).trans hT
    refine q_aload_n (pc := 45) dX3_advance_45 rfl rfl ?_
    refine q_aload_n (pc := 46) dX3_advance_46 rfl rfl ?_
    refine q_aload_n (pc := 47) dX3_advance_47 rfl rfl ?_
    refine q_getfield (pc := 48) gf_X3_68 dX3_advance_48 (by assumption) rfl ?_
    refine q_invokevirtual (pc := 51) (d' := d - 1) (mc' := 0) (ms' := 0) (As := [_]) (TX3, 7) cl_X3_124 dX3_advance_51 rfl rfl (by assumption) rfl (by omega) rfl 0 0 (Nat.le_refl 0) (Nat.le_refl 0) ?_
    refine c_X3_byteAt hF hT hl (by omega) ?_
    refine q_invokestatic (pc := 54) (d' := d - 1) (mc' := 0) (ms' := 0) (As := [_]) cl_X3_132 dX3_advance_54 rfl rfl (by omega) rfl 0 0 (Nat.le_refl 0) (Nat.le_refl 0) ?_
    refine c_X3_tokenBegunBy (hby _) ?_
    rw [← e1]
    refine q_putfield2 (pc := 57) [_, _, _, _, _, _, _] pf_X3_45 dX3_advance_57 (by assumption) rfl rfl (Nat.le_of_ble_eq_true rfl) rfl ?_
    exact J60 _ (hs.tr (zSame.up (by omega))) (by simp only [zup]; rw [if_pos trivial])
  have J37 : ∀ (w1 : zWd), zSame w w1 rb 1 → w1.1 rb = some (zRd g rb db len (S) (st) (tk) (nm)) → zRuns g d mX3_advance 0 0 37 [some (zR g rb), none] [] w1 K := by
    intro w1 hs hF
    refine q_aload_n (pc := 37) dX3_advance_37 rfl rfl ?_
    refine q_aload_n (pc := 38) dX3_advance_38 rfl rfl ?_
    refine q_getfield (pc := 39) gf_X3_29 dX3_advance_39 (by assumption) rfl ?_
    refine q_putfield2 (pc := 42) [_, _, _, _, _, _, _] pf_X3_68 dX3_advance_42 (by assumption) rfl rfl (Nat.le_of_ble_eq_true rfl) rfl ?_
    exact J45 _ (hs.tr (zSame.up (by omega))) (by simp only [zup]; rw [if_pos trivial])
  have L1 : ∀ (q m : Nat) (w1 : zWd), (m : Int) + (q : Int) = len → zSame w w1 rb 1 → w1.1 rb = some (zRd g rb db len ((m : Int)) (st) (tk) (nm)) → zskip T q (m : Int) = S → zRuns g d mX3_advance 0 0 0 [some (zR g rb), none] [] w1 K := by
    intro q
    induction q with
    | zero =>
      intro m w1 hm hs hF hz
      rw [zskip] at hz
      rw [hz] at hF
      refine q_aload_n (pc := 0) dX3_advance_0 rfl rfl ?_
      refine q_getfield (pc := 1) gf_X3_29 dX3_advance_1 (by assumption) rfl ?_
      refine q_aload_n (pc := 4) dX3_advance_4 rfl rfl ?_
      refine q_getfield (pc := 5) gf_X3_19 dX3_advance_5 (by assumption) rfl ?_
      refine q_icmp_ge (pc := 8) (by omega) (by omega) 37 dX3_advance_8 rfl (fun c8 => ?_) (fun c8 => ?_)
      · exact J37 _ hs hF
      exfalso; omega
    | succ q ih =>
      intro m w1 hm hs hF hz
      have hT := (hs.2 (rb + 1) (by omega)).trans hT
      have hih := fun w1 => ih (m + 1) w1 (by omega)
      have eb : zbyte T len (m : Int) = T (m : Int) := by unfold zbyte; rw [if_pos (by omega)]
      have hbm := hb (m : Int) (by omega) (by omega)
      rw [zskip] at hz
      refine q_aload_n (pc := 0) dX3_advance_0 rfl rfl ?_
      refine q_getfield (pc := 1) gf_X3_29 dX3_advance_1 (by assumption) rfl ?_
      refine q_aload_n (pc := 4) dX3_advance_4 rfl rfl ?_
      refine q_getfield (pc := 5) gf_X3_19 dX3_advance_5 (by assumption) rfl ?_
      refine q_icmp_ge (pc := 8) (by omega) (by omega) 37 dX3_advance_8 rfl (fun c8 => ?_) (fun c8 => ?_)
      · first | (exfalso; omega; done) | (rw [if_neg (by omega)] at hz; rw [hz] at hF; exact J37 _ hs hF)
      refine q_aload_n (pc := 11) dX3_advance_11 rfl rfl ?_
      refine q_aload_n (pc := 12) dX3_advance_12 rfl rfl ?_
      refine q_getfield (pc := 13) gf_X3_29 dX3_advance_13 (by assumption) rfl ?_
      refine q_invokevirtual (pc := 16) (d' := d - 1) (mc' := 0) (ms' := 0) (As := [_]) (TX3, 7) cl_X3_124 dX3_advance_16 rfl rfl (by assumption) rfl (by omega) rfl 0 0 (Nat.le_refl 0) (Nat.le_refl 0) ?_
      refine c_X3_byteAt hF hT hl (by omega) ?_
      rw [eb]
      refine q_bipush (pc := 19) (by decide) dX3_advance_19 ?_
      refine q_icmp_ne (pc := 21) (by omega) (by omega) 37 dX3_advance_21 rfl (fun c21 => ?_) (fun c21 => ?_)
      · first | (exfalso; omega; done) | (rw [if_neg (by omega)] at hz; rw [hz] at hF; exact J37 _ hs hF)
      refine q_aload_n (pc := 24) dX3_advance_24 rfl rfl ?_
      refine q_dup (pc := 25) rfl dX3_advance_25 ?_
      refine q_getfield (pc := 26) gf_X3_29 dX3_advance_26 (by assumption) rfl ?_
      refine q_iconst (pc := 29) dX3_advance_29 ?_
      refine q_iadd (pc := 30) dX3_advance_30 ?_
      refine q_putfield2 (pc := 31) [_, _, _, _, _, _, _] pf_X3_29 dX3_advance_31 (by assumption) rfl rfl (Nat.le_of_ble_eq_true rfl) rfl ?_
      refine q_goto (pc := 34) 0 dX3_advance_34 rfl ?_
      rw [if_pos (by omega)] at hz
      exact hih _ (hs.tr (zSame.up (by omega))) (by simp only [zup]; rw [if_pos trivial]; rfl) hz
  refine zenter [some _, none] pn_X3 rfl (Nat.le_of_ble_eq_true rfl) ?_
  have en : ((nx.toNat : Nat) : Int) = nx := by omega
  exact L1 (len - nx).toNat nx.toNat _ (by omega) zSame.rf (by rw [en]; exact hF) (by rw [en]; exact e0.symm)
end X3B
