/-! the Reader: bytes and tokens -/
abbrev zRd (g : zG) (rb db : Nat) (len nx st tk nm : Int) : zE := .inl (2, [zR g (rb + 1), zI len, zR g db, zI nx, zI st, zI tk, zI nm])
def zbyte (T : Int → Int) (len p : Int) : Int := if 0 ≤ p ∧ p < len then T p else -1
def ztok (x : Int) : Int := if x = -1 then 0 else if x = 59 then 3 else if 97 ≤ x ∧ x ≤ 122 then 1 else if 48 ≤ x ∧ x ≤ 57 then 2 else 4
def zskip (T : Int → Int) : Nat → Int → Int
  | 0, p => p
  | q + 1, p => if T p = 32 then zskip T q (p + 1) else p
def zrun (T : Int → Int) (tk : Int) : Nat → Int → Int
  | 0, p => p
  | q + 1, p => if ztok (T p) = tk then zrun T tk q (p + 1) else p
theorem zskip_b {T : Int → Int} : ∀ (q : Nat) (p : Int), p ≤ zskip T q p ∧ zskip T q p ≤ p + (q : Int)
  | 0, p => by rw [zskip]; omega
  | q + 1, p => by
    have := zskip_b (T := T) q (p + 1)
    rw [zskip]; split <;> omega
theorem zrun_b {T : Int → Int} {tk : Int} : ∀ (q : Nat) (p : Int), p ≤ zrun T tk q p ∧ zrun T tk q p ≤ p + (q : Int)
  | 0, p => by rw [zrun]; omega
  | q + 1, p => by
    have := zrun_b (T := T) (tk := tk) q (p + 1)
    rw [zrun]; split <;> omega
def zfig (T : Int → Int) (len st n : Int) : Int := if n = 2 then 10 * (zbyte T len st - 48) + zbyte T len (st + 1) - 48 else zbyte T len st - 48
theorem ztok_b (x : Int) : 0 ≤ ztok x ∧ ztok x ≤ 4 := by
  unfold ztok
  split
  · omega
  · split
    · omega
    · split
      · omega
      · split <;> omega
section X3A
variable {g : zG} {d : Nat} {w : zWd} {K : Option Value → zWd → Prop} {rb db : Nat} {T : Int → Int} {len nx st tk nm : Int}
set_option maxRecDepth 100000 in
set_option maxHeartbeats 4000000 in
theorem c_X3_byteAt {p : Int} (hF : w.1 rb = some (zRd g rb db len nx st tk nm)) (hT : w.1 (rb + 1) = some (.inr (false, 150, T))) (hl : 0 ≤ len ∧ len ≤ 150) (hp : zR32 p) (k : K (some (zI (zbyte T len p))) w) : zCall g d 0 0 mX3_byteAt [zR g rb, zI p] w K := by
  unfold zbyte at k
  refine zenter [some _, some _] pn_X3 rfl (Nat.le_of_ble_eq_true rfl) ?_
  refine q_iload_n (pc := 0) dX3_byteAt_0 rfl ?_
  refine q_if_lt (pc := 1) (by omega) 30 dX3_byteAt_1 rfl (fun c1 => ?_) (fun c1 => ?_)
  · refine q_iconst (pc := 30) dX3_byteAt_30 ?_
    refine q_ireturn (pc := 31) dX3_byteAt_31 rfl ?_
    first | (exfalso; omega; done) | (rw [if_pos (by omega)] at k; exact k) | (rw [if_neg (by omega)] at k; exact k)
  refine q_iload_n (pc := 4) dX3_byteAt_4 rfl ?_
  refine q_aload_n (pc := 5) dX3_byteAt_5 rfl rfl ?_
  refine q_getfield (pc := 6) gf_X3_19 dX3_byteAt_6 (by assumption) rfl ?_
  refine q_icmp_ge (pc := 9) (by omega) (by omega) 30 dX3_byteAt_9 rfl (fun c9 => ?_) (fun c9 => ?_)
  · refine q_iconst (pc := 30) dX3_byteAt_30 ?_
    refine q_ireturn (pc := 31) dX3_byteAt_31 rfl ?_
    first | (exfalso; omega; done) | (rw [if_pos (by omega)] at k; exact k) | (rw [if_neg (by omega)] at k; exact k)
  refine q_iload_n (pc := 12) dX3_byteAt_12 rfl ?_
  refine q_aload_n (pc := 13) dX3_byteAt_13 rfl rfl ?_
  refine q_getfield (pc := 14) gf_X3_9 dX3_byteAt_14 (by assumption) rfl ?_
  refine q_arraylength (pc := 17) dX3_byteAt_17 (by assumption) ?_
  refine q_icmp_ge (pc := 18) (by omega) (by omega) 30 dX3_byteAt_18 rfl (fun c18 => ?_) (fun c18 => ?_)
  · refine q_iconst (pc := 30) dX3_byteAt_30 ?_
    refine q_ireturn (pc := 31) dX3_byteAt_31 rfl ?_
    first | (exfalso; omega; done) | (rw [if_pos (by omega)] at k; exact k) | (rw [if_neg (by omega)] at k; exact k)
  refine q_aload_n (pc := 21) dX3_byteAt_21 rfl rfl ?_
  refine q_getfield (pc := 22) gf_X3_9 dX3_byteAt_22 (by assumption) rfl ?_
  refine q_iload_n (pc := 25) dX3_byteAt_25 rfl ?_
  refine q_iaload (pc := 26) dX3_byteAt_26 (by assumption) (by omega) ?_
  refine q_goto (pc := 27) 31 dX3_byteAt_27 rfl ?_
  refine q_ireturn (pc := 31) dX3_byteAt_31 rfl ?_
  first | (exfalso; omega; done) | (rw [if_pos (by omega)] at k; exact k) | (rw [if_neg (by omega)] at k; exact k)
set_option maxRecDepth 100000 in
set_option maxHeartbeats 4000000 in
theorem c_X3_tokenBegunBy {x : Int} (hx : zR32 x) (k : K (some (zI (ztok x))) w) : zCall g d 0 0 mX3_tokenBegunBy [zI x] w K := by
  unfold ztok at k
  refine zenter [some _] pn_X3 rfl (Nat.le_of_ble_eq_true rfl) ?_
  refine q_iload_n (pc := 0) dX3_tokenBegunBy_0 rfl ?_
  refine q_iconst (pc := 1) dX3_tokenBegunBy_1 ?_
  refine q_icmp_ne (pc := 2) (by omega) (by omega) 7 dX3_tokenBegunBy_2 rfl (fun c2 => ?_) (fun c2 => ?_)
  · refine q_iload_n (pc := 7) dX3_tokenBegunBy_7 rfl ?_
    refine q_bipush (pc := 8) (by decide) dX3_tokenBegunBy_8 ?_
    refine q_icmp_ne (pc := 10) (by omega) (by omega) 15 dX3_tokenBegunBy_10 rfl (fun c10 => ?_) (fun c10 => ?_)
    · refine q_bipush (pc := 15) (by decide) dX3_tokenBegunBy_15 ?_
      refine q_iload_n (pc := 17) dX3_tokenBegunBy_17 rfl ?_
      refine q_icmp_gt (pc := 18) (by omega) (by omega) 29 dX3_tokenBegunBy_18 rfl (fun c18 => ?_) (fun c18 => ?_)
      · refine q_bipush (pc := 29) (by decide) dX3_tokenBegunBy_29 ?_
        refine q_iload_n (pc := 31) dX3_tokenBegunBy_31 rfl ?_
        refine q_icmp_gt (pc := 32) (by omega) (by omega) 45 dX3_tokenBegunBy_32 rfl (fun c32 => ?_) (fun c32 => ?_)
        · refine q_iconst (pc := 45) dX3_tokenBegunBy_45 ?_
          refine q_ireturn (pc := 46) dX3_tokenBegunBy_46 rfl ?_
          first | (rw [if_neg (by omega), if_neg (by omega), if_neg (by omega), if_pos (by omega)] at k; exact k) | (rw [if_neg (by omega), if_neg (by omega), if_neg (by omega), if_neg (by omega)] at k; exact k)
        refine q_iload_n (pc := 35) dX3_tokenBegunBy_35 rfl ?_
        refine q_bipush (pc := 36) (by decide) dX3_tokenBegunBy_36 ?_
        refine q_icmp_gt (pc := 38) (by omega) (by omega) 45 dX3_tokenBegunBy_38 rfl (fun c38 => ?_) (fun c38 => ?_)
        · refine q_iconst (pc := 45) dX3_tokenBegunBy_45 ?_
          refine q_ireturn (pc := 46) dX3_tokenBegunBy_46 rfl ?_
          first | (rw [if_neg (by omega), if_neg (by omega), if_neg (by omega), if_pos (by omega)] at k; exact k) | (rw [if_neg (by omega), if_neg (by omega), if_neg (by omega), if_neg (by omega)] at k; exact k)
        refine q_iconst (pc := 41) dX3_tokenBegunBy_41 ?_
        refine q_goto (pc := 42) 46 dX3_tokenBegunBy_42 rfl ?_
        refine q_ireturn (pc := 46) dX3_tokenBegunBy_46 rfl ?_
        first | (rw [if_neg (by omega), if_neg (by omega), if_neg (by omega), if_pos (by omega)] at k; exact k) | (rw [if_neg (by omega), if_neg (by omega), if_neg (by omega), if_neg (by omega)] at k; exact k)
      refine q_iload_n (pc := 21) dX3_tokenBegunBy_21 rfl ?_
      refine q_bipush (pc := 22) (by decide) dX3_tokenBegunBy_22 ?_
      refine q_icmp_gt (pc := 24) (by omega) (by omega) 29 dX3_tokenBegunBy_24 rfl (fun c24 => ?_) (fun c24 => ?_)
      · refine q_bipush (pc := 29) (by decide) dX3_tokenBegunBy_29 ?_
        refine q_iload_n (pc := 31) dX3_tokenBegunBy_31 rfl ?_
        refine q_icmp_gt (pc := 32) (by omega) (by omega) 45 dX3_tokenBegunBy_32 rfl (fun c32 => ?_) (fun c32 => ?_)
        · refine q_iconst (pc := 45) dX3_tokenBegunBy_45 ?_
          refine q_ireturn (pc := 46) dX3_tokenBegunBy_46 rfl ?_
          first | (rw [if_neg (by omega), if_neg (by omega), if_neg (by omega), if_pos (by omega)] at k; exact k) | (rw [if_neg (by omega), if_neg (by omega), if_neg (by omega), if_neg (by omega)] at k; exact k)
        refine q_iload_n (pc := 35) dX3_tokenBegunBy_35 rfl ?_
        refine q_bipush (pc := 36) (by decide) dX3_tokenBegunBy_36 ?_
        refine q_icmp_gt (pc := 38) (by omega) (by omega) 45 dX3_tokenBegunBy_38 rfl (fun c38 => ?_) (fun c38 => ?_)
        · refine q_iconst (pc := 45) dX3_tokenBegunBy_45 ?_
          refine q_ireturn (pc := 46) dX3_tokenBegunBy_46 rfl ?_
          first | (rw [if_neg (by omega), if_neg (by omega), if_neg (by omega), if_pos (by omega)] at k; exact k) | (rw [if_neg (by omega), if_neg (by omega), if_neg (by omega), if_neg (by omega)] at k; exact k)
        refine q_iconst (pc := 41) dX3_tokenBegunBy_41 ?_
        refine q_goto (pc := 42) 46 dX3_tokenBegunBy_42 rfl ?_
        refine q_ireturn (pc := 46) dX3_tokenBegunBy_46 rfl ?_
        first | (rw [if_neg (by omega), if_neg (by omega), if_neg (by omega), if_pos (by omega)] at k; exact k) | (rw [if_neg (by omega), if_neg (by omega), if_neg (by omega), if_neg (by omega)] at k; exact k)
      refine q_iconst (pc := 27) dX3_tokenBegunBy_27 ?_
      refine q_ireturn (pc := 28) dX3_tokenBegunBy_28 rfl ?_
      rw [if_neg (by omega), if_neg (by omega), if_pos (by omega)] at k; exact k
    refine q_iconst (pc := 13) dX3_tokenBegunBy_13 ?_
    refine q_ireturn (pc := 14) dX3_tokenBegunBy_14 rfl ?_
    rw [if_neg (by omega), if_pos (by omega)] at k; exact k
  refine q_iconst (pc := 5) dX3_tokenBegunBy_5 ?_
  refine q_ireturn (pc := 6) dX3_tokenBegunBy_6 rfl ?_
  rw [if_pos (by omega)] at k; exact k
set_option maxRecDepth 100000 in
set_option maxHeartbeats 4000000 in
theorem c_X3_append {x : Int} (hF : w.1 rb = some (zRd g rb db len nx st tk nm)) (hT : w.1 (rb + 1) = some (.inr (false, 150, T))) (hl : 0 ≤ len ∧ len < 150) (k : ∀ w', zSame w w' rb 2 → w'.1 rb = some (zRd g rb db (len + 1) nx st tk nm) → w'.1 (rb + 1) = some (.inr (false, 150, zfu T len x)) → K (some (zI (len + 1))) w') : zCall g d 0 0 mX3_append [zR g rb, zI x] w K := by
  have hF1 : (zup w (rb + 1) (.inr (false, 150, zfu T len x))).1 rb = some (zRd g rb db len nx st tk nm) := by simp only [zup]; rw [if_neg (by omega)]; exact hF
  refine zenter [some _, some _] pn_X3 rfl (Nat.le_of_ble_eq_true rfl) ?_
  refine q_aload_n (pc := 0) dX3_append_0 rfl rfl ?_
  refine q_getfield (pc := 1) gf_X3_19 dX3_append_1 (by first | assumption | (simp only [zup]; rw [if_pos trivial]; done) | (simp only [zup]; rw [if_pos trivial]; rfl)) rfl ?_
  refine q_if_lt (pc := 4) (by omega) 39 dX3_append_4 rfl (fun c4 => ?_) (fun c4 => ?_)
  · refine q_aload_n (pc := 39) dX3_append_39 rfl rfl ?_
    refine q_getfield (pc := 40) gf_X3_19 dX3_append_40 (by first | assumption | (simp only [zup]; rw [if_pos trivial]; done) | (simp only [zup]; rw [if_pos trivial]; rfl)) rfl ?_
    refine q_ireturn (pc := 43) dX3_append_43 rfl ?_
    first | (exfalso; omega; done) | (exact k _ ((zSame.up (by omega)).tr (zSame.up (by omega))) (by simp only [zup]; rw [if_pos trivial]) (by simp only [zup]; rw [if_neg (by omega), if_pos trivial]))
  refine q_aload_n (pc := 7) dX3_append_7 rfl rfl ?_
  refine q_getfield (pc := 8) gf_X3_19 dX3_append_8 (by first | assumption | (simp only [zup]; rw [if_pos trivial]; done) | (simp only [zup]; rw [if_pos trivial]; rfl)) rfl ?_
  refine q_aload_n (pc := 11) dX3_append_11 rfl rfl ?_
  refine q_getfield (pc := 12) gf_X3_9 dX3_append_12 (by first | assumption | (simp only [zup]; rw [if_pos trivial]; done) | (simp only [zup]; rw [if_pos trivial]; rfl)) rfl ?_
  refine q_arraylength (pc := 15) dX3_append_15 (by first | assumption | (simp only [zup]; rw [if_pos trivial]; done) | (simp only [zup]; rw [if_pos trivial]; rfl)) ?_
  refine q_icmp_ge (pc := 16) (by omega) (by omega) 39 dX3_append_16 rfl (fun c16 => ?_) (fun c16 => ?_)
  · refine q_aload_n (pc := 39) dX3_append_39 rfl rfl ?_
    refine q_getfield (pc := 40) gf_X3_19 dX3_append_40 (by first | assumption | (simp only [zup]; rw [if_pos trivial]; done) | (simp only [zup]; rw [if_pos trivial]; rfl)) rfl ?_
    refine q_ireturn (pc := 43) dX3_append_43 rfl ?_
    first | (exfalso; omega; done) | (exact k _ ((zSame.up (by omega)).tr (zSame.up (by omega))) (by simp only [zup]; rw [if_pos trivial]) (by simp only [zup]; rw [if_neg (by omega), if_pos trivial]))
  refine q_aload_n (pc := 19) dX3_append_19 rfl rfl ?_
  refine q_getfield (pc := 20) gf_X3_9 dX3_append_20 (by first | assumption | (simp only [zup]; rw [if_pos trivial]; done) | (simp only [zup]; rw [if_pos trivial]; rfl)) rfl ?_
  refine q_aload_n (pc := 23) dX3_append_23 rfl rfl ?_
  refine q_getfield (pc := 24) gf_X3_19 dX3_append_24 (by first | assumption | (simp only [zup]; rw [if_pos trivial]; done) | (simp only [zup]; rw [if_pos trivial]; rfl)) rfl ?_
  refine q_iload_n (pc := 27) dX3_append_27 rfl ?_
  refine q_iastore (pc := 28) dX3_append_28 (by first | assumption | (simp only [zup]; rw [if_pos trivial]; done) | (simp only [zup]; rw [if_pos trivial]; rfl)) (by omega) ?_
  refine q_aload_n (pc := 29) dX3_append_29 rfl rfl ?_
  refine q_dup (pc := 30) rfl dX3_append_30 ?_
  refine q_getfield (pc := 31) gf_X3_19 dX3_append_31 (by first | assumption | (simp only [zup]; rw [if_pos trivial]; done) | (simp only [zup]; rw [if_pos trivial]; rfl)) rfl ?_
  refine q_iconst (pc := 34) dX3_append_34 ?_
  refine q_iadd (pc := 35) dX3_append_35 ?_
  refine q_putfield2 (pc := 36) [_, _, _, _, _, _, _] pf_X3_19 dX3_append_36 (by first | assumption | (simp only [zup]; rw [if_pos trivial]; done) | (simp only [zup]; rw [if_pos trivial]; rfl)) rfl rfl (Nat.le_of_ble_eq_true rfl) rfl ?_
  refine q_aload_n (pc := 39) dX3_append_39 rfl rfl ?_
  refine q_getfield (pc := 40) gf_X3_19 dX3_append_40 (by first | assumption | (simp only [zup]; rw [if_pos trivial]; done) | (simp only [zup]; rw [if_pos trivial]; rfl)) rfl ?_
  refine q_ireturn (pc := 43) dX3_append_43 rfl ?_
  first | (exfalso; omega; done) | (exact k _ ((zSame.up (by omega)).tr (zSame.up (by omega))) (by simp only [zup]; rw [if_pos trivial]) (by simp only [zup]; rw [if_neg (by omega), if_pos trivial]))
set_option maxRecDepth 100000 in
set_option maxHeartbeats 4000000 in
theorem c_X3_dropText (hF : w.1 rb = some (zRd g rb db len nx st tk nm)) (k : ∀ w', zSame w w' rb 1 → w'.1 rb = some (zRd g rb db 0 nx st tk nm) → K (some (zI len)) w') : zCall g d 0 0 mX3_dropText [zR g rb] w K := by
  refine zenter [some _, none] pn_X3 rfl (Nat.le_of_ble_eq_true rfl) ?_
  refine q_aload_n (pc := 0) dX3_dropText_0 rfl rfl ?_
  refine q_getfield (pc := 1) gf_X3_19 dX3_dropText_1 (by assumption) rfl ?_
  refine q_istore_n (pc := 4) [some _, some _] dX3_dropText_4 rfl (Nat.le_of_ble_eq_true rfl) rfl ?_
  refine q_aload_n (pc := 5) dX3_dropText_5 rfl rfl ?_
  refine q_iconst (pc := 6) dX3_dropText_6 ?_
  refine q_putfield2 (pc := 7) [_, _, _, _, _, _, _] pf_X3_19 dX3_dropText_7 (by assumption) rfl rfl (Nat.le_of_ble_eq_true rfl) rfl ?_
  refine q_iload_n (pc := 10) dX3_dropText_10 rfl ?_
  refine q_ireturn (pc := 11) dX3_dropText_11 rfl ?_
  refine k _ (zSame.up (by omega)) ?_
  simp only [zup]; rw [if_pos trivial]
set_option maxRecDepth 100000 in
set_option maxHeartbeats 4000000 in
theorem c_X3_isTextFull (hF : w.1 rb = some (zRd g rb db len nx st tk nm)) (hT : w.1 (rb + 1) = some (.inr (false, 150, T))) (hl : 0 ≤ len ∧ len ≤ 150) (k : K (some (zI (zb (150 ≤ len)))) w) : zCall g d 0 0 mX3_isTextFull [zR g rb] w K := by
  refine zenter [some _] pn_X3 rfl (Nat.le_of_ble_eq_true rfl) ?_
  refine q_aload_n (pc := 0) dX3_isTextFull_0 rfl rfl ?_
  refine q_getfield (pc := 1) gf_X3_19 dX3_isTextFull_1 (by assumption) rfl ?_
  refine q_aload_n (pc := 4) dX3_isTextFull_4 rfl rfl ?_
  refine q_getfield (pc := 5) gf_X3_9 dX3_isTextFull_5 (by assumption) rfl ?_
  refine q_arraylength (pc := 8) dX3_isTextFull_8 (by assumption) ?_
  refine q_icmp_lt (pc := 9) (by omega) (by omega) 16 dX3_isTextFull_9 rfl (fun c9 => ?_) (fun c9 => ?_)
  · refine q_iconst (pc := 16) dX3_isTextFull_16 ?_
    exact q_zreturn0 (pc := 17) (by omega) dX3_isTextFull_17 rfl k
  refine q_iconst (pc := 12) dX3_isTextFull_12 ?_
  refine q_goto (pc := 13) 17 dX3_isTextFull_13 rfl ?_
  exact q_zreturn1 (pc := 17) (by omega) dX3_isTextFull_17 rfl k
set_option maxRecDepth 100000 in
set_option maxHeartbeats 4000000 in
theorem c_X3_readFigures {n : Int} (hd : 1 ≤ d) (hF : w.1 rb = some (zRd g rb db len nx st tk nm)) (hT : w.1 (rb + 1) = some (.inr (false, 150, T))) (hl : 0 ≤ len ∧ len ≤ 150) (hst : 0 ≤ st ∧ st ≤ 150) (hn : 0 ≤ n ∧ n ≤ 150) (k : ∀ w', zSame w w' rb 1 → w'.1 rb = some (zRd g rb db len nx st (if 2 < n then 4 else tk) (if 2 < n then nm else zfig T len st n)) → K none w') : zCall g d 0 0 mX3_readFigures [zR g rb, zI n] w K := by
  unfold zfig at k
  by_cases h1 : 2 < n
  · simp only [if_pos h1] at k
    refine zenter [some _, some _, none] pn_X3 rfl (Nat.le_of_ble_eq_true rfl) ?_
    refine q_iload_n (pc := 0) dX3_readFigures_0 rfl ?_
    refine q_iconst (pc := 1) dX3_readFigures_1 ?_
    refine q_icmp_le (pc := 2) (by omega) (by omega) 11 dX3_readFigures_2 rfl (fun c2 => ?_) (fun c2 => ?_)
    · refine q_aload_n (pc := 11) dX3_readFigures_11 rfl rfl ?_
      refine q_aload_n (pc := 12) dX3_readFigures_12 rfl rfl ?_
      refine q_getfield (pc := 13) gf_X3_68 dX3_readFigures_13 (by assumption) rfl ?_
      refine q_invokevirtual (pc := 16) (d' := d - 1) (mc' := 0) (ms' := 0) (As := [_]) (TX3, 7) cl_X3_124 dX3_readFigures_16 rfl rfl (by assumption) rfl (by omega) rfl 0 0 (Nat.le_refl 0) (Nat.le_refl 0) ?_
      refine c_X3_byteAt hF hT hl (by omega) ?_
      refine q_bipush (pc := 19) (by decide) dX3_readFigures_19 ?_
      refine q_isub (pc := 21) dX3_readFigures_21 ?_
      refine q_istore_n (pc := 22) [some _, some _, some _] dX3_readFigures_22 rfl (Nat.le_of_ble_eq_true rfl) rfl ?_
      refine q_aload_n (pc := 23) dX3_readFigures_23 rfl rfl ?_
      refine q_iload_n (pc := 24) dX3_readFigures_24 rfl ?_
      refine q_iconst (pc := 25) dX3_readFigures_25 ?_
      refine q_icmp_ne (pc := 26) (by omega) (by omega) 50 dX3_readFigures_26 rfl (fun c26 => ?_) (fun c26 => ?_)
      · refine q_iload_n (pc := 50) dX3_readFigures_50 rfl ?_
        refine q_putfield2 (pc := 51) [_, _, _, _, _, _, _] pf_X3_112 dX3_readFigures_51 (by assumption) rfl rfl (Nat.le_of_ble_eq_true rfl) rfl ?_
        refine q_return (pc := 54) dX3_readFigures_54 rfl ?_
        first | (exfalso; omega; done) | (exact k _ (zSame.up (by omega)) (by simp only [zup]; rw [if_pos trivial]))
      refine q_bipush (pc := 29) (by decide) dX3_readFigures_29 ?_
      refine q_iload_n (pc := 31) dX3_readFigures_31 rfl ?_
      refine q_imul (pc := 32) dX3_readFigures_32 ?_
      refine q_aload_n (pc := 33) dX3_readFigures_33 rfl rfl ?_
      refine q_aload_n (pc := 34) dX3_readFigures_34 rfl rfl ?_
      refine q_getfield (pc := 35) gf_X3_68 dX3_readFigures_35 (by assumption) rfl ?_
      refine q_iconst (pc := 38) dX3_readFigures_38 ?_
      refine q_iadd (pc := 39) dX3_readFigures_39 ?_
      refine q_invokevirtual (pc := 40) (d' := d - 1) (mc' := 0) (ms' := 0) (As := [_]) (TX3, 7) cl_X3_124 dX3_readFigures_40 rfl rfl (by assumption) rfl (by omega) rfl 0 0 (Nat.le_refl 0) (Nat.le_refl 0) ?_
      refine c_X3_byteAt hF hT hl (by omega) ?_
      refine q_iadd (pc := 43) dX3_readFigures_43 ?_
      refine q_bipush (pc := 44) (by decide) dX3_readFigures_44 ?_
      refine q_isub (pc := 46) dX3_readFigures_46 ?_
      refine q_goto (pc := 47) 51 dX3_readFigures_47 rfl ?_
      refine q_putfield2 (pc := 51) [_, _, _, _, _, _, _] pf_X3_112 dX3_readFigures_51 (by assumption) rfl rfl (Nat.le_of_ble_eq_true rfl) rfl ?_
      refine q_return (pc := 54) dX3_readFigures_54 rfl ?_
      first | (exfalso; omega; done) | (exact k _ (zSame.up (by omega)) (by simp only [zup]; rw [if_pos trivial]))
    refine q_aload_n (pc := 5) dX3_readFigures_5 rfl rfl ?_
    refine q_iconst (pc := 6) dX3_readFigures_6 ?_
    refine q_putfield2 (pc := 7) [_, _, _, _, _, _, _] pf_X3_45 dX3_readFigures_7 (by assumption) rfl rfl (Nat.le_of_ble_eq_true rfl) rfl ?_
    refine q_return (pc := 10) dX3_readFigures_10 rfl ?_
    first | (exfalso; omega; done) | (exact k _ (zSame.up (by omega)) (by simp only [zup]; rw [if_pos trivial]))
  · simp only [if_neg h1] at k
    by_cases h2 : n = 2
    · simp only [if_pos h2] at k
      refine zenter [some _, some _, none] pn_X3 rfl (Nat.le_of_ble_eq_true rfl) ?_
      refine q_iload_n (pc := 0) dX3_readFigures_0 rfl ?_
      refine q_iconst (pc := 1) dX3_readFigures_1 ?_
      refine q_icmp_le (pc := 2) (by omega) (by omega) 11 dX3_readFigures_2 rfl (fun c2 => ?_) (fun c2 => ?_)
      · refine q_aload_n (pc := 11) dX3_readFigures_11 rfl rfl ?_
        refine q_aload_n (pc := 12) dX3_readFigures_12 rfl rfl ?_
        refine q_getfield (pc := 13) gf_X3_68 dX3_readFigures_13 (by assumption) rfl ?_
        refine q_invokevirtual (pc := 16) (d' := d - 1) (mc' := 0) (ms' := 0) (As := [_]) (TX3, 7) cl_X3_124 dX3_readFigures_16 rfl rfl (by assumption) rfl (by omega) rfl 0 0 (Nat.le_refl 0) (Nat.le_refl 0) ?_
        refine c_X3_byteAt hF hT hl (by omega) ?_
        refine q_bipush (pc := 19) (by decide) dX3_readFigures_19 ?_
        refine q_isub (pc := 21) dX3_readFigures_21 ?_
        refine q_istore_n (pc := 22) [some _, some _, some _] dX3_readFigures_22 rfl (Nat.le_of_ble_eq_true rfl) rfl ?_
        refine q_aload_n (pc := 23) dX3_readFigures_23 rfl rfl ?_
        refine q_iload_n (pc := 24) dX3_readFigures_24 rfl ?_
        refine q_iconst (pc := 25) dX3_readFigures_25 ?_
        refine q_icmp_ne (pc := 26) (by omega) (by omega) 50 dX3_readFigures_26 rfl (fun c26 => ?_) (fun c26 => ?_)
        · refine q_iload_n (pc := 50) dX3_readFigures_50 rfl ?_
          refine q_putfield2 (pc := 51) [_, _, _, _, _, _, _] pf_X3_112 dX3_readFigures_51 (by assumption) rfl rfl (Nat.le_of_ble_eq_true rfl) rfl ?_
          refine q_return (pc := 54) dX3_readFigures_54 rfl ?_
          first | (exfalso; omega; done) | (exact k _ (zSame.up (by omega)) (by simp only [zup]; rw [if_pos trivial]))
        refine q_bipush (pc := 29) (by decide) dX3_readFigures_29 ?_
        refine q_iload_n (pc := 31) dX3_readFigures_31 rfl ?_
        refine q_imul (pc := 32) dX3_readFigures_32 ?_
        refine q_aload_n (pc := 33) dX3_readFigures_33 rfl rfl ?_
        refine q_aload_n (pc := 34) dX3_readFigures_34 rfl rfl ?_
        refine q_getfield (pc := 35) gf_X3_68 dX3_readFigures_35 (by assumption) rfl ?_
        refine q_iconst (pc := 38) dX3_readFigures_38 ?_
        refine q_iadd (pc := 39) dX3_readFigures_39 ?_
        refine q_invokevirtual (pc := 40) (d' := d - 1) (mc' := 0) (ms' := 0) (As := [_]) (TX3, 7) cl_X3_124 dX3_readFigures_40 rfl rfl (by assumption) rfl (by omega) rfl 0 0 (Nat.le_refl 0) (Nat.le_refl 0) ?_
        refine c_X3_byteAt hF hT hl (by omega) ?_
        refine q_iadd (pc := 43) dX3_readFigures_43 ?_
        refine q_bipush (pc := 44) (by decide) dX3_readFigures_44 ?_
        refine q_isub (pc := 46) dX3_readFigures_46 ?_
        refine q_goto (pc := 47) 51 dX3_readFigures_47 rfl ?_
        refine q_putfield2 (pc := 51) [_, _, _, _, _, _, _] pf_X3_112 dX3_readFigures_51 (by assumption) rfl rfl (Nat.le_of_ble_eq_true rfl) rfl ?_
        refine q_return (pc := 54) dX3_readFigures_54 rfl ?_
        first | (exfalso; omega; done) | (exact k _ (zSame.up (by omega)) (by simp only [zup]; rw [if_pos trivial]))
      refine q_aload_n (pc := 5) dX3_readFigures_5 rfl rfl ?_
      refine q_iconst (pc := 6) dX3_readFigures_6 ?_
      refine q_putfield2 (pc := 7) [_, _, _, _, _, _, _] pf_X3_45 dX3_readFigures_7 (by assumption) rfl rfl (Nat.le_of_ble_eq_true rfl) rfl ?_
      refine q_return (pc := 10) dX3_readFigures_10 rfl ?_
      first | (exfalso; omega; done) | (exact k _ (zSame.up (by omega)) (by simp only [zup]; rw [if_pos trivial]))
    · simp only [if_neg h2] at k
      refine zenter [some _, some _, none] pn_X3 rfl (Nat.le_of_ble_eq_true rfl) ?_
      refine q_iload_n (pc := 0) dX3_readFigures_0 rfl ?_
      refine q_iconst (pc := 1) dX3_readFigures_1 ?_
      refine q_icmp_le (pc := 2) (by omega) (by omega) 11 dX3_readFigures_2 rfl (fun c2 => ?_) (fun c2 => ?_)
      · refine q_aload_n (pc := 11) dX3_readFigures_11 rfl rfl ?_
        refine q_aload_n (pc := 12) dX3_readFigures_12 rfl rfl ?_
        refine q_getfield (pc := 13) gf_X3_68 dX3_readFigures_13 (by assumption) rfl ?_
        refine q_invokevirtual (pc := 16) (d' := d - 1) (mc' := 0) (ms' := 0) (As := [_]) (TX3, 7) cl_X3_124 dX3_readFigures_16 rfl rfl (by assumption) rfl (by omega) rfl 0 0 (Nat.le_refl 0) (Nat.le_refl 0) ?_
        refine c_X3_byteAt hF hT hl (by omega) ?_
        refine q_bipush (pc := 19) (by decide) dX3_readFigures_19 ?_
        refine q_isub (pc := 21) dX3_readFigures_21 ?_
        refine q_istore_n (pc := 22) [some _, some _, some _] dX3_readFigures_22 rfl (Nat.le_of_ble_eq_true rfl) rfl ?_
        refine q_aload_n (pc := 23) dX3_readFigures_23 rfl rfl ?_
        refine q_iload_n (pc := 24) dX3_readFigures_24 rfl ?_
        refine q_iconst (pc := 25) dX3_readFigures_25 ?_
        refine q_icmp_ne (pc := 26) (by omega) (by omega) 50 dX3_readFigures_26 rfl (fun c26 => ?_) (fun c26 => ?_)
        · refine q_iload_n (pc := 50) dX3_readFigures_50 rfl ?_
          refine q_putfield2 (pc := 51) [_, _, _, _, _, _, _] pf_X3_112 dX3_readFigures_51 (by assumption) rfl rfl (Nat.le_of_ble_eq_true rfl) rfl ?_
          refine q_return (pc := 54) dX3_readFigures_54 rfl ?_
          first | (exfalso; omega; done) | (exact k _ (zSame.up (by omega)) (by simp only [zup]; rw [if_pos trivial]))
        refine q_bipush (pc := 29) (by decide) dX3_readFigures_29 ?_
        refine q_iload_n (pc := 31) dX3_readFigures_31 rfl ?_
        refine q_imul (pc := 32) dX3_readFigures_32 ?_
        refine q_aload_n (pc := 33) dX3_readFigures_33 rfl rfl ?_
        refine q_aload_n (pc := 34) dX3_readFigures_34 rfl rfl ?_
        refine q_getfield (pc := 35) gf_X3_68 dX3_readFigures_35 (by assumption) rfl ?_
        refine q_iconst (pc := 38) dX3_readFigures_38 ?_
        refine q_iadd (pc := 39) dX3_readFigures_39 ?_
        refine q_invokevirtual (pc := 40) (d' := d - 1) (mc' := 0) (ms' := 0) (As := [_]) (TX3, 7) cl_X3_124 dX3_readFigures_40 rfl rfl (by assumption) rfl (by omega) rfl 0 0 (Nat.le_refl 0) (Nat.le_refl 0) ?_
        refine c_X3_byteAt hF hT hl (by omega) ?_
        refine q_iadd (pc := 43) dX3_readFigures_43 ?_
        refine q_bipush (pc := 44) (by decide) dX3_readFigures_44 ?_
        refine q_isub (pc := 46) dX3_readFigures_46 ?_
        refine q_goto (pc := 47) 51 dX3_readFigures_47 rfl ?_
        refine q_putfield2 (pc := 51) [_, _, _, _, _, _, _] pf_X3_112 dX3_readFigures_51 (by assumption) rfl rfl (Nat.le_of_ble_eq_true rfl) rfl ?_
        refine q_return (pc := 54) dX3_readFigures_54 rfl ?_
        first | (exfalso; omega; done) | (exact k _ (zSame.up (by omega)) (by simp only [zup]; rw [if_pos trivial]))
      refine q_aload_n (pc := 5) dX3_readFigures_5 rfl rfl ?_
      refine q_iconst (pc := 6) dX3_readFigures_6 ?_
      refine q_putfield2 (pc := 7) [_, _, _, _, _, _, _] pf_X3_45 dX3_readFigures_7 (by assumption) rfl rfl (Nat.le_of_ble_eq_true rfl) rfl ?_
      refine q_return (pc := 10) dX3_readFigures_10 rfl ?_
      first | (exfalso; omega; done) | (exact k _ (zSame.up (by omega)) (by simp only [zup]; rw [if_pos trivial]))
end X3A
