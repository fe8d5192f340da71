/-! the Reader: numbers, words, items; what a text tells -/
def znv (T : Int → Int) (len p : Int) : Int := zfig T len (zsrt T len p) (znxt T len p - zsrt T len p)
abbrev znum (T : Int → Int) (len lo hi p : Int) : Prop := ztk T len p = 2 ∧ lo ≤ znv T len p ∧ znv T len p ≤ hi
abbrev zword (T : Int → Int) (len p : Int) (i : Nat) : Prop := ztk T len p = 1 ∧ znxt T len p - zsrt T len p = zslen i ∧ ∀ j : Nat, j < zLen.getD i 0 → T (zsrt T len p + (j : Int)) = zschr i (j : Int)
/-- the Reader stands at the token that begins behind p -/
def zRS (g : zG) (w : zWd) (db : Nat) (T : Int → Int) (len p : Int) : Prop := ∃ nm, w.1 (db + 15) = some (zRd g (db + 15) db len (znxt T len p) (zsrt T len p) (ztk T len p) nm) ∧ (ztk T len p = 2 → nm = znv T len p) ∧ zR32 nm
abbrev zTx (T : Int → Int) (len : Int) : Prop := (0 ≤ len ∧ len ≤ 150) ∧ ∀ i, 0 ≤ i → i < len → 0 ≤ T i ∧ T i ≤ 127
theorem ztk_eq {T : Int → Int} {len p : Int} (h : ztk T len p = 2) : zt0 T len p = 2 ∧ ¬ 2 < znxt T len p - zsrt T len p := by
  unfold ztk at h
  split at h <;> omega
theorem ztk_b {T : Int → Int} {len p : Int} : 0 ≤ ztk T len p ∧ ztk T len p ≤ 4 := by
  have := ztok_b (zbyte T len (zsrt T len p))
  unfold ztk zt0
  split <;> omega
theorem zbyte_b {T : Int → Int} {len p : Int} (h : zTx T len) : -1 ≤ zbyte T len p ∧ zbyte T len p ≤ 127 := by
  unfold zbyte
  split
  · have := h.2 p (by omega) (by omega); omega
  · omega
theorem ztok2 {x : Int} (h : ztok x = 2) : 48 ≤ x ∧ x ≤ 57 := by
  unfold ztok at h
  repeat' split at h
  all_goals omega
theorem zrun_tok {T : Int → Int} {tk : Int} : ∀ (q : Nat) (p i : Int), p ≤ i → i < zrun T tk q p → ztok (T i) = tk
  | 0, p, i => by rw [zrun]; omega
  | q + 1, p, i => by
    intro h1 h2
    rw [zrun] at h2
    split at h2
    · rename_i h3
      by_cases h4 : i = p
      · rw [h4]; exact h3
      · exact zrun_tok q (p + 1) i (by omega) h2
    · omega
theorem zt0_0 {T : Int → Int} {len p : Int} (h : p ≤ len) (hp : 0 ≤ p) (hz : zt0 T len p ≠ 0) : zsrt T len p < len := by
  have h1 := zsrt_b (T := T) h
  refine Int.not_le.mp fun q => hz ?_
  unfold zt0 zbyte
  rw [if_neg (by omega)]
  rfl
theorem znxt_up {T : Int → Int} {len p : Int} (h : p ≤ len) (hp : 0 ≤ p) (hz : zt0 T len p ≠ 0) : zsrt T len p < znxt T len p := by
  have h1 := zt0_0 h hp hz
  have h2 := zrun_b (T := T) (tk := zt0 T len p) (len - min len (zsrt T len p + 1)).toNat (min len (zsrt T len p + 1))
  unfold znxt; split <;> omega
theorem ztk_0 {T : Int → Int} {len p : Int} (h : ztk T len p ≠ 0) : zt0 T len p ≠ 0 := by
  unfold ztk at h
  split at h <;> omega
theorem znv_b {T : Int → Int} {len p : Int} (hT : zTx T len) (hp : 0 ≤ p ∧ p ≤ len) (h : ztk T len p = 2) : 0 ≤ znv T len p ∧ znv T len p ≤ 99 := by
  obtain ⟨h1, h2⟩ := ztk_eq h
  have hu := znxt_up (T := T) hp.2 hp.1 (by omega)
  have hs := zsrt_b (T := T) hp.2
  have hn := znxt_b (T := T) hp.2
  have e1 : zbyte T len (zsrt T len p) = T (zsrt T len p) := by unfold zbyte; rw [if_pos (by omega)]
  have b1 := ztok2 (show ztok (T (zsrt T len p)) = 2 by rw [← e1]; exact h1)
  unfold znv zfig
  by_cases h3 : znxt T len p - zsrt T len p = 2
  · rw [if_pos h3]
    have e2 : zbyte T len (zsrt T len p + 1) = T (zsrt T len p + 1) := by unfold zbyte; rw [if_pos (by omega)]
    have hr : ztok (T (zsrt T len p + 1)) = 2 := by
      have e3 : znxt T len p = zrun T (zt0 T len p) (len - min len (zsrt T len p + 1)).toNat (min len (zsrt T len p + 1)) := by unfold znxt; rw [if_pos (by omega)]
      have := zrun_tok (T := T) (tk := zt0 T len p) (len - min len (zsrt T len p + 1)).toNat (min len (zsrt T len p + 1)) (zsrt T len p + 1) (by omega) (by rw [← e3]; omega)
      omega
    have b2 := ztok2 hr
    rw [e1, e2]; omega
  · rw [if_neg h3, e1]; omega
section X3C
variable {g : zG} {d : Nat} {w : zWd} {K : Option Value → zWd → Prop} {db : Nat} {T : Int → Int} {len p : Int}
theorem zRS.keep (h : zRS g w db T len p) {w' : zWd} {b' n : Nat} (hs : zSame w w' b' n) (ho : b' + n ≤ db + 15 ∨ db + 16 ≤ b') : zRS g w' db T len p := by
  obtain ⟨nm, h1, h2⟩ := h
  exact ⟨nm, by rw [hs.2 _ (by omega)]; exact h1, h2⟩
set_option maxRecDepth 100000 in
set_option maxHeartbeats 4000000 in
theorem r_advance {nx st tk nm : Int} (hd : 2 ≤ d) (hF : w.1 (db + 15) = some (zRd g (db + 15) db len nx st tk nm)) (hT : w.1 (db + 16) = some (.inr (false, 150, T))) (hb : zTx T len) (hn : 0 ≤ nx ∧ nx ≤ len) (hm : zR32 nm) (k : ∀ w', zSame w w' (db + 15) 1 → zRS g w' db T len nx → K none w') : zCall g d 0 0 mX3_advance [zR g (db + 15)] w K := by
  refine c_X3_advance hd hF hT hb.1 hn (fun i h1 h2 => by have := hb.2 i h1 h2; omega) (fun w' hs h => k w' hs ⟨_, h, fun h2 => ?_, ?_⟩)
  · have := ztk_eq h2
    unfold znm
    rw [if_pos (by omega)]; rfl
  · unfold znm zfig
    have := zbyte_b (p := zsrt T len nx) hb
    have := zbyte_b (p := zsrt T len nx + 1) hb
    split
    · split <;> omega
    · exact hm
set_option maxRecDepth 100000 in
set_option maxHeartbeats 4000000 in
theorem c_X3_itemEnds (hd : 3 ≤ d) (hF : zRS g w db T len p) (hT : w.1 (db + 16) = some (.inr (false, 150, T))) (hb : zTx T len) (hp : 0 ≤ p ∧ p ≤ len) (k : ∀ w', zSame w w' (db + 15) 1 → zRS g w' db T len (if ztk T len p = 3 then znxt T len p else p) → K (some (zI (zb (ztk T len p = 3)))) w') : zCall g d 0 0 mX3_itemEnds [zR g (db + 15)] w K := by
  have hF0 := hF
  obtain ⟨nm, hF, -, hm⟩ := hF
  have ht := ztk_b (T := T) (len := len) (p := p)
  have hs := zsrt_b (T := T) hp.2
  have hn := znxt_b (T := T) hp.2
  by_cases h3 : ztk T len p = 3
  · rw [if_pos h3] at k
    refine zenter [some _] pn_X3 rfl (Nat.le_of_ble_eq_true rfl) ?_
    refine q_aload_n (pc := 0) dX3_itemEnds_0 rfl rfl ?_
    refine q_getfield (pc := 1) gf_X3_45 dX3_itemEnds_1 (by assumption) rfl ?_
    refine q_iconst (pc := 4) dX3_itemEnds_4 ?_
    refine q_icmp_eq (pc := 5) (by omega) (by omega) 10 dX3_itemEnds_5 rfl (fun c5 => ?_) (fun c5 => ?_)
    · refine q_aload_n (pc := 10) dX3_itemEnds_10 rfl rfl ?_
      refine q_invokevirtual (pc := 11) (d' := d - 1) (mc' := 0) (ms' := 0) (As := []) (TX3, 7) cl_X3_32 dX3_itemEnds_11 rfl rfl (by assumption) rfl (by omega) rfl 0 0 (Nat.le_refl 0) (Nat.le_refl 0) ?_
      refine r_advance (by omega) hF hT hb (by omega) hm (fun w2 hs2 h => ?_)
      refine q_iconst (pc := 14) dX3_itemEnds_14 ?_
      exact q_zreturn1 (pc := 15) (by omega) dX3_itemEnds_15 rfl (k _ hs2 h)
    exfalso; omega
  · rw [if_neg h3] at k
    refine zenter [some _] pn_X3 rfl (Nat.le_of_ble_eq_true rfl) ?_
    refine q_aload_n (pc := 0) dX3_itemEnds_0 rfl rfl ?_
    refine q_getfield (pc := 1) gf_X3_45 dX3_itemEnds_1 (by assumption) rfl ?_
    refine q_iconst (pc := 4) dX3_itemEnds_4 ?_
    refine q_icmp_eq (pc := 5) (by omega) (by omega) 10 dX3_itemEnds_5 rfl (fun c5 => ?_) (fun c5 => ?_)
    · exfalso; omega
    refine q_iconst (pc := 8) dX3_itemEnds_8 ?_
    exact q_zreturn0 (pc := 9) (by omega) dX3_itemEnds_9 rfl (k _ zSame.rf hF0)
set_option maxRecDepth 100000 in
set_option maxHeartbeats 4000000 in
theorem c_X3_takeNumber {lo hi : Int} (hd : 3 ≤ d) (hF : zRS g w db T len p) (hT : w.1 (db + 16) = some (.inr (false, 150, T))) (hb : zTx T len) (hp : 0 ≤ p ∧ p ≤ len) (hlo : 0 ≤ lo ∧ lo ≤ 99) (hhi : 0 ≤ hi ∧ hi ≤ 99) (k : ∀ w', zSame w w' (db + 15) 1 → zRS g w' db T len (if znum T len lo hi p then znxt T len p else p) → K (some (zI (if znum T len lo hi p then znv T len p else -1))) w') : zCall g d 0 0 mX3_takeNumber [zR g (db + 15), zI lo, zI hi] w K := by
  have hF0 := hF
  obtain ⟨nm, hF, hv, hm⟩ := hF
  have ht := ztk_b (T := T) (len := len) (p := p)
  have hs := zsrt_b (T := T) hp.2
  have hn := znxt_b (T := T) hp.2
  by_cases h3 : znum T len lo hi p
  · rw [if_pos h3, if_pos h3] at k
    have h4 := h3
    unfold znum at h4
    rw [hv h3.1] at hF
    refine zenter [some _, some _, some _, none] pn_X3 rfl (Nat.le_of_ble_eq_true rfl) ?_
    refine q_aload_n (pc := 0) dX3_takeNumber_0 rfl rfl ?_
    refine q_getfield (pc := 1) gf_X3_45 dX3_takeNumber_1 (by assumption) rfl ?_
    refine q_iconst (pc := 4) dX3_takeNumber_4 ?_
    refine q_icmp_ne (pc := 5) (by omega) (by omega) 20 dX3_takeNumber_5 rfl (fun c5 => ?_) (fun c5 => ?_)
    · exfalso; omega
    refine q_aload_n (pc := 8) dX3_takeNumber_8 rfl rfl ?_
    refine q_getfield (pc := 9) gf_X3_112 dX3_takeNumber_9 (by assumption) rfl ?_
    refine q_iload_n (pc := 12) dX3_takeNumber_12 rfl ?_
    refine q_iload_n (pc := 13) dX3_takeNumber_13 rfl ?_
    refine q_invokestnest (pc := 14) (d' := d - 1) (mc' := 0) (ms' := 0) (As := [_, _, _]) cl_X3_115 dX3_takeNumber_14 rfl rfl (by omega) rfl 0 0 (Nat.le_refl 0) (Nat.le_refl 0) ?_
    refine c_X7_within (by omega) (by omega) (by omega) ?_
    refine q_ifb_ne (pc := 17) 22 dX3_takeNumber_17 rfl (fun c17 => ?_) (fun c17 => ?_)
    · refine q_aload_n (pc := 22) dX3_takeNumber_22 rfl rfl ?_
      refine q_getfield (pc := 23) gf_X3_112 dX3_takeNumber_23 (by assumption) rfl ?_
      refine q_istore_n (pc := 26) [some _, some _, some _, some _] dX3_takeNumber_26 rfl (Nat.le_of_ble_eq_true rfl) rfl ?_
      refine q_aload_n (pc := 27) dX3_takeNumber_27 rfl rfl ?_
      refine q_invokevirtual (pc := 28) (d' := d - 1) (mc' := 0) (ms' := 0) (As := []) (TX3, 7) cl_X3_32 dX3_takeNumber_28 rfl rfl (by assumption) rfl (by omega) rfl 0 0 (Nat.le_refl 0) (Nat.le_refl 0) ?_
      refine r_advance (by omega) hF hT hb (by omega) (by omega) (fun w2 hs2 h => ?_)
      refine q_iload_n (pc := 31) dX3_takeNumber_31 rfl ?_
      refine q_ireturn (pc := 32) dX3_takeNumber_32 rfl ?_
      exact k _ hs2 h
    exfalso; omega
  · rw [if_neg h3, if_neg h3] at k
    have h4 := h3
    unfold znum at h4
    refine zenter [some _, some _, some _, none] pn_X3 rfl (Nat.le_of_ble_eq_true rfl) ?_
    refine q_aload_n (pc := 0) dX3_takeNumber_0 rfl rfl ?_
    refine q_getfield (pc := 1) gf_X3_45 dX3_takeNumber_1 (by assumption) rfl ?_
    refine q_iconst (pc := 4) dX3_takeNumber_4 ?_
    refine q_icmp_ne (pc := 5) (by omega) (by omega) 20 dX3_takeNumber_5 rfl (fun c5 => ?_) (fun c5 => ?_)
    · refine q_iconst (pc := 20) dX3_takeNumber_20 ?_
      refine q_ireturn (pc := 21) dX3_takeNumber_21 rfl ?_
      exact k _ zSame.rf hF0
    refine q_aload_n (pc := 8) dX3_takeNumber_8 rfl rfl ?_
    refine q_getfield (pc := 9) gf_X3_112 dX3_takeNumber_9 (by assumption) rfl ?_
    refine q_iload_n (pc := 12) dX3_takeNumber_12 rfl ?_
    refine q_iload_n (pc := 13) dX3_takeNumber_13 rfl ?_
    refine q_invokestnest (pc := 14) (d' := d - 1) (mc' := 0) (ms' := 0) (As := [_, _, _]) cl_X3_115 dX3_takeNumber_14 rfl rfl (by omega) rfl 0 0 (Nat.le_refl 0) (Nat.le_refl 0) ?_
    refine c_X7_within (by omega) (by omega) (by omega) ?_
    refine q_ifb_ne (pc := 17) 22 dX3_takeNumber_17 rfl (fun c17 => ?_) (fun c17 => ?_)
    · exfalso; have := hv (by omega); omega
    refine q_iconst (pc := 20) dX3_takeNumber_20 ?_
    refine q_ireturn (pc := 21) dX3_takeNumber_21 rfl ?_
    exact k _ zSame.rf hF0
set_option maxRecDepth 100000 in
set_option maxHeartbeats 4000000 in
theorem c_X3_atWord {i : Nat} (hd : 4 ≤ d) (hi : i < 5) (hF : zRS g w db T len p) (hT : w.1 (db + 16) = some (.inr (false, 150, T))) (hb : zTx T len) (hp : 0 ≤ p ∧ p ≤ len) (k : K (some (zI (zb (zword T len p i)))) w) : zCall g d 0 0 mX3_atWord [zR g (db + 15), zS g i] w K := by
  obtain ⟨nm, hF, hv, hm⟩ := hF
  have ht := ztk_b (T := T) (len := len) (p := p)
  have hs := zsrt_b (T := T) hp.2
  have hn := znxt_b (T := T) hp.2
  have hl := zslen_b i hi
  have el : zslen i = ((zLen.getD i 0 : Nat) : Int) := rfl
  have L : ∀ (m j : Nat), ztk T len p = 1 → znxt T len p - zsrt T len p = zslen i → j + m = zLen.getD i 0 → (∀ q : Nat, q < j → T (zsrt T len p + (q : Int)) = zschr i (q : Int)) → zRuns g d mX3_atWord 0 0 28 [some (zR g (db + 15)), some (zS g i), some (zI (j : Int))] [] w K := by
    intro m
    induction m with
    | zero =>
      intro j h1 h2 h3 h4
      refine q_iload_n (pc := 28) dX3_atWord_28 rfl ?_
      refine q_aload_n (pc := 29) dX3_atWord_29 rfl rfl ?_
      refine q_invokestr (pc := 30) (d' := d - 1) (mc' := 0) (ms' := 0) (As := []) hi cl_X3_119 dX3_atWord_30 rfl rfl rfl (by omega) rfl 0 0 (Nat.le_refl 0) (Nat.le_refl 0) ?_
      refine c_J0_length (by omega) hi ?_
      refine q_icmp_ge (pc := 33) (by omega) (by omega) 62 dX3_atWord_33 rfl (fun c33 => ?_) (fun c33 => ?_)
      · refine q_iconst (pc := 62) dX3_atWord_62 ?_
        exact q_zreturn1 (pc := 63) ⟨h1, h2, fun q hq => h4 q (by omega)⟩ dX3_atWord_63 rfl k
      exfalso; omega
    | succ m ih =>
      intro j h1 h2 h3 h4
      have hih := ih (j + 1) h1 h2 (by omega)
      have hc := zschr_b i hi j (by omega)
      have hx := hb.2 (zsrt T len p + (j : Int)) (by omega) (by omega)
      have eb : zbyte T len (zsrt T len p + (j : Int)) = T (zsrt T len p + (j : Int)) := by unfold zbyte; rw [if_pos (by omega)]
      refine q_iload_n (pc := 28) dX3_atWord_28 rfl ?_
      refine q_aload_n (pc := 29) dX3_atWord_29 rfl rfl ?_
      refine q_invokestr (pc := 30) (d' := d - 1) (mc' := 0) (ms' := 0) (As := []) hi cl_X3_119 dX3_atWord_30 rfl rfl rfl (by omega) rfl 0 0 (Nat.le_refl 0) (Nat.le_refl 0) ?_
      refine c_J0_length (by omega) hi ?_
      refine q_icmp_ge (pc := 33) (by omega) (by omega) 62 dX3_atWord_33 rfl (fun c33 => ?_) (fun c33 => ?_)
      · exfalso; omega
      refine q_aload_n (pc := 36) dX3_atWord_36 rfl rfl ?_
      refine q_aload_n (pc := 37) dX3_atWord_37 rfl rfl ?_
      refine q_getfield (pc := 38) gf_X3_68 dX3_atWord_38 (by assumption) rfl ?_
      refine q_iload_n (pc := 41) dX3_atWord_41 rfl ?_
      refine q_iadd (pc := 42) dX3_atWord_42 ?_
      refine q_invokevirtual (pc := 43) (d' := d - 1) (mc' := 0) (ms' := 0) (As := [_]) (TX3, 7) cl_X3_124 dX3_atWord_43 rfl rfl (by assumption) rfl (by omega) rfl 0 0 (Nat.le_refl 0) (Nat.le_refl 0) ?_
      refine c_X3_byteAt hF hT hb.1 (by omega) ?_
      rw [eb]
      refine q_aload_n (pc := 46) dX3_atWord_46 rfl rfl ?_
      refine q_iload_n (pc := 47) dX3_atWord_47 rfl ?_
      refine q_invokestr (pc := 48) (d' := d - 1) (mc' := 0) (ms' := 0) (As := [_]) hi cl_X3_128 dX3_atWord_48 rfl rfl rfl (by omega) rfl 0 0 (Nat.le_refl 0) (Nat.le_refl 0) ?_
      refine c_J0_charAt (by omega) hi (by omega) ?_
      refine q_icmp_eq (pc := 51) (by omega) (by omega) 56 dX3_atWord_51 rfl (fun c51 => ?_) (fun c51 => ?_)
      · refine q_iinc (pc := 56) [some _, some _, some _] dX3_atWord_56 rfl rfl rfl ?_
        refine q_goto (pc := 59) 28 dX3_atWord_59 rfl ?_
        refine hih (fun q hq => ?_)
        by_cases h5 : q = j
        · subst h5; exact c51
        · exact h4 q (by omega)
      refine q_iconst (pc := 54) dX3_atWord_54 ?_
      exact q_zreturn0 (pc := 55) (fun z => c51 (z.2.2 j (by omega))) dX3_atWord_55 rfl k
  refine zenter [some _, some _, none] pn_X3 rfl (Nat.le_of_ble_eq_true rfl) ?_
  refine q_aload_n (pc := 0) dX3_atWord_0 rfl rfl ?_
  refine q_getfield (pc := 1) gf_X3_45 dX3_atWord_1 (by assumption) rfl ?_
  refine q_iconst (pc := 4) dX3_atWord_4 ?_
  refine q_icmp_ne (pc := 5) (by omega) (by omega) 24 dX3_atWord_5 rfl (fun c5 => ?_) (fun c5 => ?_)
  · refine q_iconst (pc := 24) dX3_atWord_24 ?_
    exact q_zreturn0 (pc := 25) (fun z => by have h1 := z.1; have h2 := z.2.1; omega) dX3_atWord_25 rfl k
  refine q_aload_n (pc := 8) dX3_atWord_8 rfl rfl ?_
  refine q_getfield (pc := 9) gf_X3_29 dX3_atWord_9 (by assumption) rfl ?_
  refine q_aload_n (pc := 12) dX3_atWord_12 rfl rfl ?_
  refine q_getfield (pc := 13) gf_X3_68 dX3_atWord_13 (by assumption) rfl ?_
  refine q_isub (pc := 16) dX3_atWord_16 ?_
  refine q_aload_n (pc := 17) dX3_atWord_17 rfl rfl ?_
  refine q_invokestr (pc := 18) (d' := d - 1) (mc' := 0) (ms' := 0) (As := []) hi cl_X3_119 dX3_atWord_18 rfl rfl rfl (by omega) rfl 0 0 (Nat.le_refl 0) (Nat.le_refl 0) ?_
  refine c_J0_length (by omega) hi ?_
  refine q_icmp_eq (pc := 21) (by omega) (by omega) 26 dX3_atWord_21 rfl (fun c21 => ?_) (fun c21 => ?_)
  · refine q_iconst (pc := 26) dX3_atWord_26 ?_
    refine q_istore_n (pc := 27) [some _, some _, some _] dX3_atWord_27 rfl (Nat.le_of_ble_eq_true rfl) rfl ?_
    exact L _ 0 (by omega) (by omega) (Nat.zero_add _) (fun q hq => absurd hq (Nat.not_lt_zero q))
  refine q_iconst (pc := 24) dX3_atWord_24 ?_
  exact q_zreturn0 (pc := 25) (fun z => by have h1 := z.1; have h2 := z.2.1; omega) dX3_atWord_25 rfl k
end X3C
