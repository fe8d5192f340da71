/-! the reference reads: numbers and items -/
def zS2 (w w' : zWd) : Prop := w'.2 = w.2 ∧ ∀ i, i ≠ 72 → i ≠ 77 → w'.1 i = w.1 i
theorem zS2.rf {w : zWd} : zS2 w w := ⟨rfl, fun _ _ _ => rfl⟩
theorem zS2.tr {w1 w2 w3 : zWd} (h1 : zS2 w1 w2) (h2 : zS2 w2 w3) : zS2 w1 w3 := ⟨h2.1.trans h1.1, fun i a b => (h2.2 i a b).trans (h1.2 i a b)⟩
theorem zS2.o72 {w1 w2 : zWd} (h : zSame w1 w2 72 1) : zS2 w1 w2 := ⟨h.1, fun i a b => h.2 i (by omega)⟩
theorem zS2.o77 {w1 w2 : zWd} (h : zSame w1 w2 77 1) : zS2 w1 w2 := ⟨h.1, fun i a b => h.2 i (by omega)⟩
theorem zS2.same {w1 w2 : zWd} (h : zS2 w1 w2) : zSame w1 w2 72 16 := ⟨h.1, fun i a => h.2 i (by omega) (by omega)⟩
def zRM (g : zG) (ab be u len it sm : Int) (T : Int → Int) (w : zWd) (N : Int → Int) (p : Int) : Prop := w.1 72 = some (zMT g ab be u len it sm T p) ∧ w.1 77 = some (.inr (false, 168, N)) ∧ w.1 76 = some (.inr (false, 150, T))
section ZTM
variable {T : Int → Int} {len p : Int}
theorem ztk1 : ztk T len p = 1 ↔ zt0 T len p = 1 := by unfold ztk; split <;> omega
theorem ztk3 : ztk T len p = 3 ↔ zt0 T len p = 3 := by unfold ztk; split <;> omega
theorem zfin_3 {N : Int → Int} (h : zt0 T len p = 3) : zfin T len N p = (true, N, znxt T len p) := by unfold zfin; rw [if_pos (ztk3.mpr h)]
theorem zfin_n {N : Int → Int} (h : ¬ zt0 T len p = 3) : zfin T len N p = (false, N, p) := by unfold zfin; rw [if_neg (fun z => h (ztk3.mp z))]
theorem zmn_v (hp : 0 ≤ p ∧ p ≤ len) (h : ztk T len p = 2) : zmn T len p = znv T len p := by
  obtain ⟨h1, h2⟩ := ztk_eq h
  have hu := znxt_up (T := T) hp.2 hp.1 (by omega)
  have hs := zsrt_b (T := T) hp.2
  have hn := znxt_b (T := T) hp.2
  have eb : ∀ i, 0 ≤ i → i < len → zbyte T len i = T i := fun i a b => by unfold zbyte; rw [if_pos ⟨a, b⟩]
  unfold zmn znv zfig
  rw [if_pos h1, eb _ (by omega) (by omega)]
  by_cases h3 : znxt T len p - zsrt T len p = 2
  · rw [if_pos h3, eb _ (by omega) (by omega), show (znxt T len p - zsrt T len p).toNat = 2 by omega, zmr, if_neg h2, zmr, if_neg h2, zmr, show zsrt T len p + ((0 : Nat) : Int) = zsrt T len p by omega, show zsrt T len p + ((1 : Nat) : Int) = zsrt T len p + 1 by omega]; omega
  · rw [if_neg h3, show (znxt T len p - zsrt T len p).toNat = 1 by omega, zmr, if_neg h2, zmr, show zsrt T len p + ((0 : Nat) : Int) = zsrt T len p by omega]; omega
theorem zmn_4 (h : zt0 T len p = 2) (h2 : 2 < znxt T len p - zsrt T len p) : zmn T len p = 1000000 := by
  unfold zmn
  rw [if_pos h]
  obtain ⟨m, hm⟩ : ∃ m, (znxt T len p - zsrt T len p).toNat = m + 1 := ⟨(znxt T len p - zsrt T len p).toNat - 1, by omega⟩
  rw [hm, zmr, if_pos h2]
theorem ztk_2 (h : zt0 T len p = 2) (h2 : ¬ 2 < znxt T len p - zsrt T len p) : ztk T len p = 2 := by unfold ztk; rw [if_neg (by omega)]; exact h
theorem ztk_4 (h : zt0 T len p = 2) (h2 : 2 < znxt T len p - zsrt T len p) : ztk T len p = 4 := by unfold ztk; rw [if_pos ⟨h, h2⟩]
theorem znumM {lo hi : Int} (hp : 0 ≤ p ∧ p ≤ len) (hh : hi ≤ 99) : (zt0 T len p = 2 ∧ lo ≤ zmn T len p ∧ zmn T len p ≤ hi) ↔ znum T len lo hi p := by
  constructor
  · rintro ⟨a, b, c⟩
    by_cases h2 : 2 < znxt T len p - zsrt T len p
    · rw [zmn_4 a h2] at c; omega
    · have h3 := ztk_2 a h2
      rw [zmn_v hp h3] at b c
      exact ⟨h3, b, c⟩
  · rintro ⟨a, b, c⟩
    rw [zmn_v hp a]
    exact ⟨(ztk_eq a).1, b, c⟩
theorem zmn_b (hT : zTx T len) (hp : 0 ≤ p ∧ p ≤ len) : 0 ≤ zmn T len p ∧ zmn T len p ≤ 1000000 := by
  by_cases h : zt0 T len p = 2
  · by_cases h2 : 2 < znxt T len p - zsrt T len p
    · rw [zmn_4 h h2]; omega
    · have h3 := ztk_2 h h2
      have := znv_b hT hp h3
      rw [zmn_v hp h3]; omega
  · unfold zmn; rw [if_neg h]; omega
theorem zwdM_0 (hp : 0 ≤ p ∧ p ≤ len) (t1 : zt0 T len p = 1) : (zwv T (zsrt T len p) (znxt T len p - zsrt T len p).toNat = 10502465) ↔ zword T len p 0 := by
  have hE := znxt_b (T := T) hp.2
  have hl := zletters hp t1
  rw [zwd_0 (fun j hj => hl j (by omega))]
  constructor
  · rintro ⟨a, b⟩; exact ⟨ztk1.mpr t1, by omega, b⟩
  · rintro ⟨a, b, c⟩; exact ⟨by omega, c⟩
theorem zwdM_1 (hp : 0 ≤ p ∧ p ≤ len) (t1 : zt0 T len p = 1) : (zwv T (zsrt T len p) (znxt T len p - zsrt T len p).toNat = 45948915) ↔ zword T len p 1 := by
  have hE := znxt_b (T := T) hp.2
  have hl := zletters hp t1
  rw [zwd_1 (fun j hj => hl j (by omega))]
  constructor
  · rintro ⟨a, b⟩; exact ⟨ztk1.mpr t1, by omega, b⟩
  · rintro ⟨a, b, c⟩; exact ⟨by omega, c⟩
theorem zwdM_2 (hp : 0 ≤ p ∧ p ≤ len) (t1 : zt0 T len p = 1) : (zwv T (zsrt T len p) (znxt T len p - zsrt T len p).toNat = 7538239962) ↔ zword T len p 2 := by
  have hE := znxt_b (T := T) hp.2
  have hl := zletters hp t1
  rw [zwd_2 (fun j hj => hl j (by omega))]
  constructor
  · rintro ⟨a, b⟩; exact ⟨ztk1.mpr t1, by omega, b⟩
  · rintro ⟨a, b, c⟩; exact ⟨by omega, c⟩
theorem zwdM_3 (hp : 0 ≤ p ∧ p ≤ len) (t1 : zt0 T len p = 1) : (zwv T (zsrt T len p) (znxt T len p - zsrt T len p).toNat = 1842025) ↔ zword T len p 3 := by
  have hE := znxt_b (T := T) hp.2
  have hl := zletters hp t1
  rw [zwd_3 (fun j hj => hl j (by omega))]
  constructor
  · rintro ⟨a, b⟩; exact ⟨ztk1.mpr t1, by omega, b⟩
  · rintro ⟨a, b, c⟩; exact ⟨by omega, c⟩
theorem zwdM_4 (hp : 0 ≤ p ∧ p ≤ len) (t1 : zt0 T len p = 1) : (zwv T (zsrt T len p) (znxt T len p - zsrt T len p).toNat = 12325519) ↔ zword T len p 4 := by
  have hE := znxt_b (T := T) hp.2
  have hl := zletters hp t1
  rw [zwd_4 (fun j hj => hl j (by omega))]
  constructor
  · rintro ⟨a, b⟩; exact ⟨ztk1.mpr t1, by omega, b⟩
  · rintro ⟨a, b, c⟩; exact ⟨by omega, c⟩
end ZTM
theorem znewc_c {N : Int → Int} {a b : Int} (h : 0 ≤ N 0 ∧ N 0 < 5) : zfu (zfu (zfu N 0 (N 0 + 1)) (8 + N 0) a) (13 + N 0) b = znewc N a b := by
  funext j; simp only [zfu, znewc]
  (repeat' split) <;> first | rfl | (exfalso; omega)
theorem znews_c {N : Int → Int} {a b : Int} (h : 0 ≤ N 1 ∧ N 1 < 6) : zfu (zfu (zfu N 1 (N 1 + 1)) (68 + N 1) a) (74 + N 1) b = znews N a b := by
  funext j; simp only [zfu, znews]
  (repeat' split) <;> first | rfl | (exfalso; omega)
theorem znewk_c {N : Int → Int} {a b : Int} (h : 0 ≤ N 2 ∧ N 2 < 4) (h8 : N (88 + N 2) = 0) : zfu (zfu (zfu N 2 (N 2 + 1)) (80 + N 2) a) (84 + N 2) b = znewk N a b := by
  funext j; simp only [zfu, znewk]
  (repeat' split) <;> first | rfl | (exfalso; omega) | (have q : j = 88 + N 2 := (by assumption); rw [q, h8])
section X8I
variable {g : zG} {d : Nat} {w : zWd} {K : Option Value → zWd → Prop} {T N : Int → Int} {len p ab be u it sm : Int}
theorem t_next (hd : 2 ≤ d) (hM : zRM g ab be u len it sm T w N p) (hT : zTx T len) (hp : 0 ≤ p ∧ p ≤ len) (k : ∀ w', zS2 w w' → zRM g ab be u len it sm T w' N (znxt T len p) → K none w') : zCall g d 0 0 mX8_nextToken [zR g 72] w K :=
  c_X8_nextToken hd hM.1 hM.2.2 hT (znx hp) (fun w' hs h => k w' (.o72 hs) ⟨h, (hs.2 77 (by omega)).trans hM.2.1, (hs.2 76 (by omega)).trans hM.2.2⟩)
set_option maxRecDepth 100000 in
set_option maxHeartbeats 8000000 in
theorem c_X8_takes {pl lo hi : Int} (hd : 3 ≤ d) (hM : zRM g ab be u len it sm T w N p) (hT : zTx T len) (hp : 0 ≤ p ∧ p ≤ len) (hpl : 0 ≤ pl ∧ pl < 168) (hlo : 0 ≤ lo) (hhi : lo ≤ hi ∧ hi ≤ 99) (k : ∀ w', zS2 w w' → zRM g ab be u len it sm T w' (if znum T len lo hi (znxt T len p) then zfu N pl (znv T len (znxt T len p)) else N) (znxt T len p) → K (some (zI (zb (znum T len lo hi (znxt T len p))))) w') : zCall g d 0 0 mX8_takes [zR g 72, zI pl, zI lo, zI hi] w K := by
  have hx := znx (T := T) hp
  obtain ⟨h720, h770, h760⟩ := id hM
  have hq := znumM (T := T) (lo := lo) hx hhi.2
  have hm := zmn_b hT hx
  have ht := ztok_b (zbyte T len (zsrt T len (znxt T len p)))
  have e1 : zt0 T len (znxt T len p) = ztok (zbyte T len (zsrt T len (znxt T len p))) := rfl
  by_cases h : znum T len lo hi (znxt T len p)
  · rw [if_pos h] at k
    have ev := zmn_v hx h.1
    obtain ⟨hz, hl1, hl2⟩ := hq.mpr h
    refine zenter [some _, some _, some _, some _, none] pn_X8 rfl (Nat.le_of_ble_eq_true rfl) ?_
    refine q_aload_n (pc := 0) dX8_takes_0 rfl rfl ?_
    refine q_invokevirtual (pc := 1) (d' := d - 1) (mc' := 0) (ms' := 0) (As := []) (TX8, 26) cl_X8_165 dX8_takes_1 rfl rfl (by assumption) rfl (by omega) rfl 0 0 (Nat.le_refl 0) (Nat.le_refl 0) ?_
    refine t_next (by omega) hM hT hp (fun w1 hs1 hM1 => ?_)
    obtain ⟨h72, h77, h76⟩ := id hM1
    refine q_aload_n (pc := 4) dX8_takes_4 rfl rfl ?_
    refine q_getfield (pc := 5) gf_X8_154 dX8_takes_5 (by assumption) rfl ?_
    refine q_iconst (pc := 8) dX8_takes_8 ?_
    refine q_icmp_ne (pc := 9) (by omega) (by omega) 31 dX8_takes_9 rfl (fun c9 => ?_) (fun c9 => ?_)
    · exfalso; omega
    refine q_aload_n (pc := 12) dX8_takes_12 rfl rfl ?_
    refine q_getfield (pc := 13) gf_X8_157 dX8_takes_13 (by assumption) rfl ?_
    refine q_i2l (pc := 16) dX8_takes_16 (by omega) ?_
    refine q_iload_n (pc := 17) dX8_takes_17 rfl ?_
    refine q_i2l (pc := 18) dX8_takes_18 (by omega) ?_
    refine q_iload_n (pc := 19) dX8_takes_19 rfl ?_
    refine q_i2l (pc := 20) dX8_takes_20 (by omega) ?_
    refine q_invokestatic (pc := 21) (d' := d - 1) (mc' := 0) (ms' := 0) (As := [_, _, _]) cl_X8_60 dX8_takes_21 rfl rfl (by omega) rfl 0 0 (Nat.le_refl 0) (Nat.le_refl 0) ?_
    refine c_X8_in (by omega) (by omega) (by omega) ?_
    refine q_ifb_eq (pc := 24) 31 dX8_takes_24 rfl (fun c24 => ?_) (fun c24 => ?_)
    · exfalso; omega
    refine q_iconst (pc := 27) dX8_takes_27 ?_
    refine q_goto (pc := 28) 32 dX8_takes_28 rfl ?_
    refine q_istore (pc := 32) [some _, some _, some _, some _, some _] dX8_takes_32 rfl (Nat.le_of_ble_eq_true rfl) rfl ?_
    refine q_aload_n (pc := 34) dX8_takes_34 rfl rfl ?_
    refine q_getfield (pc := 35) gf_X8_26 dX8_takes_35 (by assumption) rfl ?_
    refine q_iload_n (pc := 38) dX8_takes_38 rfl ?_
    refine q_iload (pc := 39) dX8_takes_39 rfl ?_
    refine q_if_eq (pc := 41) (by omega) 51 dX8_takes_41 rfl (fun c41 => ?_) (fun c41 => ?_)
    · exfalso; omega
    refine q_aload_n (pc := 44) dX8_takes_44 rfl rfl ?_
    refine q_getfield (pc := 45) gf_X8_157 dX8_takes_45 (by assumption) rfl ?_
    refine q_goto (pc := 48) 57 dX8_takes_48 rfl ?_
    refine q_iastore (pc := 57) dX8_takes_57 (by assumption) (by omega) ?_
    refine q_iload (pc := 58) dX8_takes_58 rfl ?_
    refine q_zreturn1 h (pc := 60) dX8_takes_60 rfl ?_
    exact k _ (hs1.tr (.o77 (zSame.up (by omega)))) ⟨(zup_ne (by decide)).trans h72, by rw [← ev]; exact zup_at, (zup_ne (by decide)).trans h76⟩
  · rw [if_neg h] at k
    have hz := fun z => h (hq.mp z)
    refine zenter [some _, some _, some _, some _, none] pn_X8 rfl (Nat.le_of_ble_eq_true rfl) ?_
    refine q_aload_n (pc := 0) dX8_takes_0 rfl rfl ?_
    refine q_invokevirtual (pc := 1) (d' := d - 1) (mc' := 0) (ms' := 0) (As := []) (TX8, 26) cl_X8_165 dX8_takes_1 rfl rfl (by assumption) rfl (by omega) rfl 0 0 (Nat.le_refl 0) (Nat.le_refl 0) ?_
    refine t_next (by omega) hM hT hp (fun w1 hs1 hM1 => ?_)
    obtain ⟨h72, h77, h76⟩ := id hM1
    refine q_aload_n (pc := 4) dX8_takes_4 rfl rfl ?_
    refine q_getfield (pc := 5) gf_X8_154 dX8_takes_5 (by assumption) rfl ?_
    refine q_iconst (pc := 8) dX8_takes_8 ?_
    refine q_icmp_ne (pc := 9) (by omega) (by omega) 31 dX8_takes_9 rfl (fun c9 => ?_) (fun c9 => ?_)
    · refine q_iconst (pc := 31) dX8_takes_31 ?_
      refine q_istore (pc := 32) [some _, some _, some _, some _, some _] dX8_takes_32 rfl (Nat.le_of_ble_eq_true rfl) rfl ?_
      refine q_aload_n (pc := 34) dX8_takes_34 rfl rfl ?_
      refine q_getfield (pc := 35) gf_X8_26 dX8_takes_35 (by assumption) rfl ?_
      refine q_iload_n (pc := 38) dX8_takes_38 rfl ?_
      refine q_iload (pc := 39) dX8_takes_39 rfl ?_
      refine q_if_eq (pc := 41) (by omega) 51 dX8_takes_41 rfl (fun c41 => ?_) (fun c41 => ?_)
      · refine q_aload_n (pc := 51) dX8_takes_51 rfl rfl ?_
        refine q_getfield (pc := 52) gf_X8_26 dX8_takes_52 (by assumption) rfl ?_
        refine q_iload_n (pc := 55) dX8_takes_55 rfl ?_
        refine q_iaload (pc := 56) dX8_takes_56 (by assumption) (by omega) ?_
        refine q_iastore (pc := 57) dX8_takes_57 (by assumption) (by omega) ?_
        refine q_iload (pc := 58) dX8_takes_58 rfl ?_
        refine q_zreturn0 h (pc := 60) dX8_takes_60 rfl ?_
        exact k _ (hs1.tr (.o77 (zSame.up (by omega)))) ⟨(zup_ne (by decide)).trans h72, (zup_at).trans (by rw [zfu_same rfl]), (zup_ne (by decide)).trans h76⟩
      exfalso; omega
    refine q_aload_n (pc := 12) dX8_takes_12 rfl rfl ?_
    refine q_getfield (pc := 13) gf_X8_157 dX8_takes_13 (by assumption) rfl ?_
    refine q_i2l (pc := 16) dX8_takes_16 (by omega) ?_
    refine q_iload_n (pc := 17) dX8_takes_17 rfl ?_
    refine q_i2l (pc := 18) dX8_takes_18 (by omega) ?_
    refine q_iload_n (pc := 19) dX8_takes_19 rfl ?_
    refine q_i2l (pc := 20) dX8_takes_20 (by omega) ?_
    refine q_invokestatic (pc := 21) (d' := d - 1) (mc' := 0) (ms' := 0) (As := [_, _, _]) cl_X8_60 dX8_takes_21 rfl rfl (by omega) rfl 0 0 (Nat.le_refl 0) (Nat.le_refl 0) ?_
    refine c_X8_in (by omega) (by omega) (by omega) ?_
    refine q_ifb_eq (pc := 24) 31 dX8_takes_24 rfl (fun c24 => ?_) (fun c24 => ?_)
    · refine q_iconst (pc := 31) dX8_takes_31 ?_
      refine q_istore (pc := 32) [some _, some _, some _, some _, some _] dX8_takes_32 rfl (Nat.le_of_ble_eq_true rfl) rfl ?_
      refine q_aload_n (pc := 34) dX8_takes_34 rfl rfl ?_
      refine q_getfield (pc := 35) gf_X8_26 dX8_takes_35 (by assumption) rfl ?_
      refine q_iload_n (pc := 38) dX8_takes_38 rfl ?_
      refine q_iload (pc := 39) dX8_takes_39 rfl ?_
      refine q_if_eq (pc := 41) (by omega) 51 dX8_takes_41 rfl (fun c41 => ?_) (fun c41 => ?_)
      · refine q_aload_n (pc := 51) dX8_takes_51 rfl rfl ?_
        refine q_getfield (pc := 52) gf_X8_26 dX8_takes_52 (by assumption) rfl ?_
        refine q_iload_n (pc := 55) dX8_takes_55 rfl ?_
        refine q_iaload (pc := 56) dX8_takes_56 (by assumption) (by omega) ?_
        refine q_iastore (pc := 57) dX8_takes_57 (by assumption) (by omega) ?_
        refine q_iload (pc := 58) dX8_takes_58 rfl ?_
        refine q_zreturn0 h (pc := 60) dX8_takes_60 rfl ?_
        exact k _ (hs1.tr (.o77 (zSame.up (by omega)))) ⟨(zup_ne (by decide)).trans h72, (zup_at).trans (by rw [zfu_same rfl]), (zup_ne (by decide)).trans h76⟩
      exfalso; omega
    exact absurd ⟨c9, c24⟩ hz
set_option maxRecDepth 100000 in
set_option maxHeartbeats 8000000 in
theorem c_X8_takesSlinger (hd : 4 ≤ d) (hM : zRM g ab be u len it sm T w N p) (hT : zTx T len) (hp : 0 ≤ p ∧ p ≤ len) (hO : zOK N) (k : ∀ w' N' p' (b : Bool), zS2 w w' → zRM g ab be u len it sm T w' N' p' → 0 ≤ p' ∧ p' ≤ len → (b = true → zislg T len N p = zfin T len N' (znxt T len p')) → (b = false → (zislg T len N p).1 = false ∧ (zislg T len N p).2.2 = p') → K (some (zI (zb (b = true)))) w') : zCall g d 0 0 mX8_takesSlinger [zR g 72] w K := by
  have hH := hO.1
  have hx1 := znx (T := T) hp
  have hx2 := znx (T := T) hx1
  obtain ⟨h72, h77, h76⟩ := id hM
  unfold zislg at k
  by_cases h0 : N 1 = 6
  · rw [if_pos h0] at k
    refine zenter [some _, none] pn_X8 rfl (Nat.le_of_ble_eq_true rfl) ?_
    refine q_aload_n (pc := 0) dX8_takesSlinger_0 rfl rfl ?_
    refine q_getfield (pc := 1) gf_X8_26 dX8_takesSlinger_1 (by assumption) rfl ?_
    refine q_iconst (pc := 4) dX8_takesSlinger_4 ?_
    refine q_iaload (pc := 5) dX8_takesSlinger_5 (by assumption) (by omega) ?_
    refine q_istore_n (pc := 6) [some _, some _] dX8_takesSlinger_6 rfl (Nat.le_of_ble_eq_true rfl) rfl ?_
    refine q_iload_n (pc := 7) dX8_takesSlinger_7 rfl ?_
    refine q_bipush (pc := 8) (by decide) dX8_takesSlinger_8 ?_
    refine q_icmp_ne (pc := 10) (by omega) (by omega) 15 dX8_takesSlinger_10 rfl (fun c10 => ?_) (fun c10 => ?_)
    · exfalso; omega
    refine q_iconst (pc := 13) dX8_takesSlinger_13 ?_
    exact q_zreturn0 (pc := 14) (show ¬ (false = true) by decide) dX8_takesSlinger_14 rfl (k w N p false .rf hM hp (fun z => by cases z) (fun _ => ⟨rfl, rfl⟩))
  · rw [if_neg h0] at k; unfold zitwo at k
    by_cases h1 : znum T len 0 5 (znxt T len p)
    · rw [if_pos h1] at k
      by_cases h2 : znum T len 0 9 (znxt T len (znxt T len p))
      · rw [if_pos h2, ← znews_c (by omega)] at k
        refine zenter [some _, none] pn_X8 rfl (Nat.le_of_ble_eq_true rfl) ?_
        refine q_aload_n (pc := 0) dX8_takesSlinger_0 rfl rfl ?_
        refine q_getfield (pc := 1) gf_X8_26 dX8_takesSlinger_1 (by assumption) rfl ?_
        refine q_iconst (pc := 4) dX8_takesSlinger_4 ?_
        refine q_iaload (pc := 5) dX8_takesSlinger_5 (by assumption) (by omega) ?_
        refine q_istore_n (pc := 6) [some _, some _] dX8_takesSlinger_6 rfl (Nat.le_of_ble_eq_true rfl) rfl ?_
        refine q_iload_n (pc := 7) dX8_takesSlinger_7 rfl ?_
        refine q_bipush (pc := 8) (by decide) dX8_takesSlinger_8 ?_
        refine q_icmp_ne (pc := 10) (by omega) (by omega) 15 dX8_takesSlinger_10 rfl (fun c10 => ?_) (fun c10 => ?_)
        · refine q_aload_n (pc := 15) dX8_takesSlinger_15 rfl rfl ?_
          refine q_getfield (pc := 16) gf_X8_26 dX8_takesSlinger_16 (by assumption) rfl ?_
          refine q_iconst (pc := 19) dX8_takesSlinger_19 ?_
          refine q_dup2 (pc := 20) rfl rfl dX8_takesSlinger_20 ?_
          refine q_iaload (pc := 21) dX8_takesSlinger_21 (by assumption) (by omega) ?_
          refine q_iconst (pc := 22) dX8_takesSlinger_22 ?_
          refine q_iadd (pc := 23) dX8_takesSlinger_23 ?_
          refine q_iastore (pc := 24) dX8_takesSlinger_24 (by assumption) (by omega) ?_
          refine q_aload_n (pc := 25) dX8_takesSlinger_25 rfl rfl ?_
          refine q_bipush (pc := 26) (by decide) dX8_takesSlinger_26 ?_
          refine q_iload_n (pc := 28) dX8_takesSlinger_28 rfl ?_
          refine q_iadd (pc := 29) dX8_takesSlinger_29 ?_
          refine q_iconst (pc := 30) dX8_takesSlinger_30 ?_
          refine q_iconst (pc := 31) dX8_takesSlinger_31 ?_
          refine q_invokevirtual (pc := 32) (d' := d - 1) (mc' := 0) (ms' := 0) (As := [_, _, _]) (TX8, 26) cl_X8_168 dX8_takesSlinger_32 rfl rfl (by assumption) rfl (by omega) rfl 0 0 (Nat.le_refl 0) (Nat.le_refl 0) ?_
          refine c_X8_takes (by omega) ⟨(zup_ne (by decide)).trans h72, zup_at, (zup_ne (by decide)).trans h76⟩ hT hp (by omega) (by omega) (by omega) (fun w1 hs1 hM1 => ?_)
          rw [if_pos h1] at hM1
          obtain ⟨h721, h771, h761⟩ := id hM1
          refine q_ifb_eq (pc := 35) 56 dX8_takesSlinger_35 rfl (fun c35 => ?_) (fun c35 => ?_)
          · first | exact absurd h1 (by assumption) | exact absurd h2 (by assumption)
          refine q_aload_n (pc := 38) dX8_takesSlinger_38 rfl rfl ?_
          refine q_bipush (pc := 39) (by decide) dX8_takesSlinger_39 ?_
          refine q_iload_n (pc := 41) dX8_takesSlinger_41 rfl ?_
          refine q_iadd (pc := 42) dX8_takesSlinger_42 ?_
          refine q_iconst (pc := 43) dX8_takesSlinger_43 ?_
          refine q_bipush (pc := 44) (by decide) dX8_takesSlinger_44 ?_
          refine q_invokevirtual (pc := 46) (d' := d - 1) (mc' := 0) (ms' := 0) (As := [_, _, _]) (TX8, 26) cl_X8_168 dX8_takesSlinger_46 rfl rfl (by assumption) rfl (by omega) rfl 0 0 (Nat.le_refl 0) (Nat.le_refl 0) ?_
          refine c_X8_takes (by omega) hM1 hT hx1 (by omega) (by omega) (by omega) (fun w2 hs2 hM2 => ?_)
          rw [if_pos h2] at hM2
          obtain ⟨h722, h772, h762⟩ := id hM2
          refine q_ifb_eq (pc := 49) 56 dX8_takesSlinger_49 rfl (fun c49 => ?_) (fun c49 => ?_)
          · first | exact absurd h1 (by assumption) | exact absurd h2 (by assumption)
          refine q_iconst (pc := 52) dX8_takesSlinger_52 ?_
          refine q_goto (pc := 53) 57 dX8_takesSlinger_53 rfl ?_
          exact q_zreturn1 (pc := 57) (show true = true from rfl) dX8_takesSlinger_57 rfl (k _ _ _ true ((zS2.o77 (zSame.up (by omega))).tr (hs1.tr hs2)) hM2 hx2 (fun _ => rfl) (fun z => by cases z))
        exfalso; omega
      · rw [if_neg h2] at k
        refine zenter [some _, none] pn_X8 rfl (Nat.le_of_ble_eq_true rfl) ?_
        refine q_aload_n (pc := 0) dX8_takesSlinger_0 rfl rfl ?_
        refine q_getfield (pc := 1) gf_X8_26 dX8_takesSlinger_1 (by assumption) rfl ?_
        refine q_iconst (pc := 4) dX8_takesSlinger_4 ?_
        refine q_iaload (pc := 5) dX8_takesSlinger_5 (by assumption) (by omega) ?_
        refine q_istore_n (pc := 6) [some _, some _] dX8_takesSlinger_6 rfl (Nat.le_of_ble_eq_true rfl) rfl ?_
        refine q_iload_n (pc := 7) dX8_takesSlinger_7 rfl ?_
        refine q_bipush (pc := 8) (by decide) dX8_takesSlinger_8 ?_
        refine q_icmp_ne (pc := 10) (by omega) (by omega) 15 dX8_takesSlinger_10 rfl (fun c10 => ?_) (fun c10 => ?_)
        · refine q_aload_n (pc := 15) dX8_takesSlinger_15 rfl rfl ?_
          refine q_getfield (pc := 16) gf_X8_26 dX8_takesSlinger_16 (by assumption) rfl ?_
          refine q_iconst (pc := 19) dX8_takesSlinger_19 ?_
          refine q_dup2 (pc := 20) rfl rfl dX8_takesSlinger_20 ?_
          refine q_iaload (pc := 21) dX8_takesSlinger_21 (by assumption) (by omega) ?_
          refine q_iconst (pc := 22) dX8_takesSlinger_22 ?_
          refine q_iadd (pc := 23) dX8_takesSlinger_23 ?_
          refine q_iastore (pc := 24) dX8_takesSlinger_24 (by assumption) (by omega) ?_
          refine q_aload_n (pc := 25) dX8_takesSlinger_25 rfl rfl ?_
          refine q_bipush (pc := 26) (by decide) dX8_takesSlinger_26 ?_
          refine q_iload_n (pc := 28) dX8_takesSlinger_28 rfl ?_
          refine q_iadd (pc := 29) dX8_takesSlinger_29 ?_
          refine q_iconst (pc := 30) dX8_takesSlinger_30 ?_
          refine q_iconst (pc := 31) dX8_takesSlinger_31 ?_
          refine q_invokevirtual (pc := 32) (d' := d - 1) (mc' := 0) (ms' := 0) (As := [_, _, _]) (TX8, 26) cl_X8_168 dX8_takesSlinger_32 rfl rfl (by assumption) rfl (by omega) rfl 0 0 (Nat.le_refl 0) (Nat.le_refl 0) ?_
          refine c_X8_takes (by omega) ⟨(zup_ne (by decide)).trans h72, zup_at, (zup_ne (by decide)).trans h76⟩ hT hp (by omega) (by omega) (by omega) (fun w1 hs1 hM1 => ?_)
          rw [if_pos h1] at hM1
          obtain ⟨h721, h771, h761⟩ := id hM1
          refine q_ifb_eq (pc := 35) 56 dX8_takesSlinger_35 rfl (fun c35 => ?_) (fun c35 => ?_)
          · refine q_iconst (pc := 56) dX8_takesSlinger_56 ?_
            exact q_zreturn0 (pc := 57) (show ¬ (false = true) by decide) dX8_takesSlinger_57 rfl (by first | exact k _ _ _ false ((zS2.o77 (zSame.up (by omega))).tr (hs1.tr hs2)) hM2 hx2 (fun z => by cases z) (fun _ => ⟨rfl, rfl⟩) | exact absurd h1 (by assumption))
          refine q_aload_n (pc := 38) dX8_takesSlinger_38 rfl rfl ?_
          refine q_bipush (pc := 39) (by decide) dX8_takesSlinger_39 ?_
          refine q_iload_n (pc := 41) dX8_takesSlinger_41 rfl ?_
          refine q_iadd (pc := 42) dX8_takesSlinger_42 ?_
          refine q_iconst (pc := 43) dX8_takesSlinger_43 ?_
          refine q_bipush (pc := 44) (by decide) dX8_takesSlinger_44 ?_
          refine q_invokevirtual (pc := 46) (d' := d - 1) (mc' := 0) (ms' := 0) (As := [_, _, _]) (TX8, 26) cl_X8_168 dX8_takesSlinger_46 rfl rfl (by assumption) rfl (by omega) rfl 0 0 (Nat.le_refl 0) (Nat.le_refl 0) ?_
          refine c_X8_takes (by omega) hM1 hT hx1 (by omega) (by omega) (by omega) (fun w2 hs2 hM2 => ?_)
          rw [if_neg h2] at hM2
          obtain ⟨h722, h772, h762⟩ := id hM2
          refine q_ifb_eq (pc := 49) 56 dX8_takesSlinger_49 rfl (fun c49 => ?_) (fun c49 => ?_)
          · refine q_iconst (pc := 56) dX8_takesSlinger_56 ?_
            exact q_zreturn0 (pc := 57) (show ¬ (false = true) by decide) dX8_takesSlinger_57 rfl (by first | exact k _ _ _ false ((zS2.o77 (zSame.up (by omega))).tr (hs1.tr hs2)) hM2 hx2 (fun z => by cases z) (fun _ => ⟨rfl, rfl⟩) | exact absurd h1 (by assumption))
          exact absurd (by assumption) h2
        exfalso; omega
    · rw [if_neg h1] at k
      refine zenter [some _, none] pn_X8 rfl (Nat.le_of_ble_eq_true rfl) ?_
      refine q_aload_n (pc := 0) dX8_takesSlinger_0 rfl rfl ?_
      refine q_getfield (pc := 1) gf_X8_26 dX8_takesSlinger_1 (by assumption) rfl ?_
      refine q_iconst (pc := 4) dX8_takesSlinger_4 ?_
      refine q_iaload (pc := 5) dX8_takesSlinger_5 (by assumption) (by omega) ?_
      refine q_istore_n (pc := 6) [some _, some _] dX8_takesSlinger_6 rfl (Nat.le_of_ble_eq_true rfl) rfl ?_
      refine q_iload_n (pc := 7) dX8_takesSlinger_7 rfl ?_
      refine q_bipush (pc := 8) (by decide) dX8_takesSlinger_8 ?_
      refine q_icmp_ne (pc := 10) (by omega) (by omega) 15 dX8_takesSlinger_10 rfl (fun c10 => ?_) (fun c10 => ?_)
      · refine q_aload_n (pc := 15) dX8_takesSlinger_15 rfl rfl ?_
        refine q_getfield (pc := 16) gf_X8_26 dX8_takesSlinger_16 (by assumption) rfl ?_
        refine q_iconst (pc := 19) dX8_takesSlinger_19 ?_
        refine q_dup2 (pc := 20) rfl rfl dX8_takesSlinger_20 ?_
        refine q_iaload (pc := 21) dX8_takesSlinger_21 (by assumption) (by omega) ?_
        refine q_iconst (pc := 22) dX8_takesSlinger_22 ?_
        refine q_iadd (pc := 23) dX8_takesSlinger_23 ?_
        refine q_iastore (pc := 24) dX8_takesSlinger_24 (by assumption) (by omega) ?_
        refine q_aload_n (pc := 25) dX8_takesSlinger_25 rfl rfl ?_
        refine q_bipush (pc := 26) (by decide) dX8_takesSlinger_26 ?_
        refine q_iload_n (pc := 28) dX8_takesSlinger_28 rfl ?_
        refine q_iadd (pc := 29) dX8_takesSlinger_29 ?_
        refine q_iconst (pc := 30) dX8_takesSlinger_30 ?_
        refine q_iconst (pc := 31) dX8_takesSlinger_31 ?_
        refine q_invokevirtual (pc := 32) (d' := d - 1) (mc' := 0) (ms' := 0) (As := [_, _, _]) (TX8, 26) cl_X8_168 dX8_takesSlinger_32 rfl rfl (by assumption) rfl (by omega) rfl 0 0 (Nat.le_refl 0) (Nat.le_refl 0) ?_
        refine c_X8_takes (by omega) ⟨(zup_ne (by decide)).trans h72, zup_at, (zup_ne (by decide)).trans h76⟩ hT hp (by omega) (by omega) (by omega) (fun w1 hs1 hM1 => ?_)
        rw [if_neg h1] at hM1
        obtain ⟨h721, h771, h761⟩ := id hM1
        refine q_ifb_eq (pc := 35) 56 dX8_takesSlinger_35 rfl (fun c35 => ?_) (fun c35 => ?_)
        · refine q_iconst (pc := 56) dX8_takesSlinger_56 ?_
          exact q_zreturn0 (pc := 57) (show ¬ (false = true) by decide) dX8_takesSlinger_57 rfl (k _ _ _ false ((zS2.o77 (zSame.up (by omega))).tr hs1) hM1 hx1 (fun z => by cases z) (fun _ => ⟨rfl, rfl⟩))
        exact absurd (by assumption) h1
      exfalso; omega
set_option maxRecDepth 100000 in
set_option maxHeartbeats 8000000 in
theorem c_X8_takesCloud (hd : 4 ≤ d) (hM : zRM g ab be u len it sm T w N p) (hT : zTx T len) (hp : 0 ≤ p ∧ p ≤ len) (hO : zOK N) (h8 : N (88 + N 2) = 0) (k : ∀ w' N' p' (b : Bool), zS2 w w' → zRM g ab be u len it sm T w' N' p' → 0 ≤ p' ∧ p' ≤ len → (b = true → zicld T len N p = zfin T len N' (znxt T len p')) → (b = false → (zicld T len N p).1 = false ∧ (zicld T len N p).2.2 = p') → K (some (zI (zb (b = true)))) w') : zCall g d 0 0 mX8_takesCloud [zR g 72] w K := by
  have hH := hO.1
  have hx1 := znx (T := T) hp
  have hx2 := znx (T := T) hx1
  obtain ⟨h72, h77, h76⟩ := id hM
  unfold zicld at k
  by_cases h0 : N 2 = 4
  · rw [if_pos h0] at k
    refine zenter [some _, none] pn_X8 rfl (Nat.le_of_ble_eq_true rfl) ?_
    refine q_aload_n (pc := 0) dX8_takesCloud_0 rfl rfl ?_
    refine q_getfield (pc := 1) gf_X8_26 dX8_takesCloud_1 (by assumption) rfl ?_
    refine q_iconst (pc := 4) dX8_takesCloud_4 ?_
    refine q_iaload (pc := 5) dX8_takesCloud_5 (by assumption) (by omega) ?_
    refine q_istore_n (pc := 6) [some _, some _] dX8_takesCloud_6 rfl (Nat.le_of_ble_eq_true rfl) rfl ?_
    refine q_iload_n (pc := 7) dX8_takesCloud_7 rfl ?_
    refine q_iconst (pc := 8) dX8_takesCloud_8 ?_
    refine q_icmp_ne (pc := 9) (by omega) (by omega) 14 dX8_takesCloud_9 rfl (fun c9 => ?_) (fun c9 => ?_)
    · exfalso; omega
    refine q_iconst (pc := 12) dX8_takesCloud_12 ?_
    exact q_zreturn0 (pc := 13) (show ¬ (false = true) by decide) dX8_takesCloud_13 rfl (k w N p false .rf hM hp (fun z => by cases z) (fun _ => ⟨rfl, rfl⟩))
  · rw [if_neg h0] at k; unfold zitwo at k
    by_cases h1 : znum T len 1 30 (znxt T len p)
    · rw [if_pos h1] at k
      by_cases h2 : znum T len 1 40 (znxt T len (znxt T len p))
      · rw [if_pos h2, ← znewk_c (by omega) h8] at k
        refine zenter [some _, none] pn_X8 rfl (Nat.le_of_ble_eq_true rfl) ?_
        refine q_aload_n (pc := 0) dX8_takesCloud_0 rfl rfl ?_
        refine q_getfield (pc := 1) gf_X8_26 dX8_takesCloud_1 (by assumption) rfl ?_
        refine q_iconst (pc := 4) dX8_takesCloud_4 ?_
        refine q_iaload (pc := 5) dX8_takesCloud_5 (by assumption) (by omega) ?_
        refine q_istore_n (pc := 6) [some _, some _] dX8_takesCloud_6 rfl (Nat.le_of_ble_eq_true rfl) rfl ?_
        refine q_iload_n (pc := 7) dX8_takesCloud_7 rfl ?_
        refine q_iconst (pc := 8) dX8_takesCloud_8 ?_
        refine q_icmp_ne (pc := 9) (by omega) (by omega) 14 dX8_takesCloud_9 rfl (fun c9 => ?_) (fun c9 => ?_)
        · refine q_aload_n (pc := 14) dX8_takesCloud_14 rfl rfl ?_
          refine q_getfield (pc := 15) gf_X8_26 dX8_takesCloud_15 (by assumption) rfl ?_
          refine q_iconst (pc := 18) dX8_takesCloud_18 ?_
          refine q_dup2 (pc := 19) rfl rfl dX8_takesCloud_19 ?_
          refine q_iaload (pc := 20) dX8_takesCloud_20 (by assumption) (by omega) ?_
          refine q_iconst (pc := 21) dX8_takesCloud_21 ?_
          refine q_iadd (pc := 22) dX8_takesCloud_22 ?_
          refine q_iastore (pc := 23) dX8_takesCloud_23 (by assumption) (by omega) ?_
          refine q_aload_n (pc := 24) dX8_takesCloud_24 rfl rfl ?_
          refine q_bipush (pc := 25) (by decide) dX8_takesCloud_25 ?_
          refine q_iload_n (pc := 27) dX8_takesCloud_27 rfl ?_
          refine q_iadd (pc := 28) dX8_takesCloud_28 ?_
          refine q_iconst (pc := 29) dX8_takesCloud_29 ?_
          refine q_bipush (pc := 30) (by decide) dX8_takesCloud_30 ?_
          refine q_invokevirtual (pc := 32) (d' := d - 1) (mc' := 0) (ms' := 0) (As := [_, _, _]) (TX8, 26) cl_X8_168 dX8_takesCloud_32 rfl rfl (by assumption) rfl (by omega) rfl 0 0 (Nat.le_refl 0) (Nat.le_refl 0) ?_
          refine c_X8_takes (by omega) ⟨(zup_ne (by decide)).trans h72, zup_at, (zup_ne (by decide)).trans h76⟩ hT hp (by omega) (by omega) (by omega) (fun w1 hs1 hM1 => ?_)
          rw [if_pos h1] at hM1
          obtain ⟨h721, h771, h761⟩ := id hM1
          refine q_ifb_eq (pc := 35) 56 dX8_takesCloud_35 rfl (fun c35 => ?_) (fun c35 => ?_)
          · first | exact absurd h1 (by assumption) | exact absurd h2 (by assumption)
          refine q_aload_n (pc := 38) dX8_takesCloud_38 rfl rfl ?_
          refine q_bipush (pc := 39) (by decide) dX8_takesCloud_39 ?_
          refine q_iload_n (pc := 41) dX8_takesCloud_41 rfl ?_
          refine q_iadd (pc := 42) dX8_takesCloud_42 ?_
          refine q_iconst (pc := 43) dX8_takesCloud_43 ?_
          refine q_bipush (pc := 44) (by decide) dX8_takesCloud_44 ?_
          refine q_invokevirtual (pc := 46) (d' := d - 1) (mc' := 0) (ms' := 0) (As := [_, _, _]) (TX8, 26) cl_X8_168 dX8_takesCloud_46 rfl rfl (by assumption) rfl (by omega) rfl 0 0 (Nat.le_refl 0) (Nat.le_refl 0) ?_
          refine c_X8_takes (by omega) hM1 hT hx1 (by omega) (by omega) (by omega) (fun w2 hs2 hM2 => ?_)
          rw [if_pos h2] at hM2
          obtain ⟨h722, h772, h762⟩ := id hM2
          refine q_ifb_eq (pc := 49) 56 dX8_takesCloud_49 rfl (fun c49 => ?_) (fun c49 => ?_)
          · first | exact absurd h1 (by assumption) | exact absurd h2 (by assumption)
          refine q_iconst (pc := 52) dX8_takesCloud_52 ?_
          refine q_goto (pc := 53) 57 dX8_takesCloud_53 rfl ?_
          exact q_zreturn1 (pc := 57) (show true = true from rfl) dX8_takesCloud_57 rfl (k _ _ _ true ((zS2.o77 (zSame.up (by omega))).tr (hs1.tr hs2)) hM2 hx2 (fun _ => rfl) (fun z => by cases z))
        exfalso; omega
      · rw [if_neg h2] at k
        refine zenter [some _, none] pn_X8 rfl (Nat.le_of_ble_eq_true rfl) ?_
        refine q_aload_n (pc := 0) dX8_takesCloud_0 rfl rfl ?_
        refine q_getfield (pc := 1) gf_X8_26 dX8_takesCloud_1 (by assumption) rfl ?_
        refine q_iconst (pc := 4) dX8_takesCloud_4 ?_
        refine q_iaload (pc := 5) dX8_takesCloud_5 (by assumption) (by omega) ?_
        refine q_istore_n (pc := 6) [some _, some _] dX8_takesCloud_6 rfl (Nat.le_of_ble_eq_true rfl) rfl ?_
        refine q_iload_n (pc := 7) dX8_takesCloud_7 rfl ?_
        refine q_iconst (pc := 8) dX8_takesCloud_8 ?_
        refine q_icmp_ne (pc := 9) (by omega) (by omega) 14 dX8_takesCloud_9 rfl (fun c9 => ?_) (fun c9 => ?_)
        · refine q_aload_n (pc := 14) dX8_takesCloud_14 rfl rfl ?_
          refine q_getfield (pc := 15) gf_X8_26 dX8_takesCloud_15 (by assumption) rfl ?_
          refine q_iconst (pc := 18) dX8_takesCloud_18 ?_
          refine q_dup2 (pc := 19) rfl rfl dX8_takesCloud_19 ?_
          refine q_iaload (pc := 20) dX8_takesCloud_20 (by assumption) (by omega) ?_
          refine q_iconst (pc := 21) dX8_takesCloud_21 ?_
          refine q_iadd (pc := 22) dX8_takesCloud_22 ?_
          refine q_iastore (pc := 23) dX8_takesCloud_23 (by assumption) (by omega) ?_
          refine q_aload_n (pc := 24) dX8_takesCloud_24 rfl rfl ?_
          refine q_bipush (pc := 25) (by decide) dX8_takesCloud_25 ?_
          refine q_iload_n (pc := 27) dX8_takesCloud_27 rfl ?_
          refine q_iadd (pc := 28) dX8_takesCloud_28 ?_
          refine q_iconst (pc := 29) dX8_takesCloud_29 ?_
          refine q_bipush (pc := 30) (by decide) dX8_takesCloud_30 ?_
          refine q_invokevirtual (pc := 32) (d' := d - 1) (mc' := 0) (ms' := 0) (As := [_, _, _]) (TX8, 26) cl_X8_168 dX8_takesCloud_32 rfl rfl (by assumption) rfl (by omega) rfl 0 0 (Nat.le_refl 0) (Nat.le_refl 0) ?_
          refine c_X8_takes (by omega) ⟨(zup_ne (by decide)).trans h72, zup_at, (zup_ne (by decide)).trans h76⟩ hT hp (by omega) (by omega) (by omega) (fun w1 hs1 hM1 => ?_)
          rw [if_pos h1] at hM1
          obtain ⟨h721, h771, h761⟩ := id hM1
          refine q_ifb_eq (pc := 35) 56 dX8_takesCloud_35 rfl (fun c35 => ?_) (fun c35 => ?_)
          · refine q_iconst (pc := 56) dX8_takesCloud_56 ?_
            exact q_zreturn0 (pc := 57) (show ¬ (false = true) by decide) dX8_takesCloud_57 rfl (by first | exact k _ _ _ false ((zS2.o77 (zSame.up (by omega))).tr (hs1.tr hs2)) hM2 hx2 (fun z => by cases z) (fun _ => ⟨rfl, rfl⟩) | exact absurd h1 (by assumption))
          refine q_aload_n (pc := 38) dX8_takesCloud_38 rfl rfl ?_
          refine q_bipush (pc := 39) (by decide) dX8_takesCloud_39 ?_
          refine q_iload_n (pc := 41) dX8_takesCloud_41 rfl ?_
          refine q_iadd (pc := 42) dX8_takesCloud_42 ?_
          refine q_iconst (pc := 43) dX8_takesCloud_43 ?_
          refine q_bipush (pc := 44) (by decide) dX8_takesCloud_44 ?_
          refine q_invokevirtual (pc := 46) (d' := d - 1) (mc' := 0) (ms' := 0) (As := [_, _, _]) (TX8, 26) cl_X8_168 dX8_takesCloud_46 rfl rfl (by assumption) rfl (by omega) rfl 0 0 (Nat.le_refl 0) (Nat.le_refl 0) ?_
          refine c_X8_takes (by omega) hM1 hT hx1 (by omega) (by omega) (by omega) (fun w2 hs2 hM2 => ?_)
          rw [if_neg h2] at hM2
          obtain ⟨h722, h772, h762⟩ := id hM2
          refine q_ifb_eq (pc := 49) 56 dX8_takesCloud_49 rfl (fun c49 => ?_) (fun c49 => ?_)
          · refine q_iconst (pc := 56) dX8_takesCloud_56 ?_
            exact q_zreturn0 (pc := 57) (show ¬ (false = true) by decide) dX8_takesCloud_57 rfl (by first | exact k _ _ _ false ((zS2.o77 (zSame.up (by omega))).tr (hs1.tr hs2)) hM2 hx2 (fun z => by cases z) (fun _ => ⟨rfl, rfl⟩) | exact absurd h1 (by assumption))
          exact absurd (by assumption) h2
        exfalso; omega
    · rw [if_neg h1] at k
      refine zenter [some _, none] pn_X8 rfl (Nat.le_of_ble_eq_true rfl) ?_
      refine q_aload_n (pc := 0) dX8_takesCloud_0 rfl rfl ?_
      refine q_getfield (pc := 1) gf_X8_26 dX8_takesCloud_1 (by assumption) rfl ?_
      refine q_iconst (pc := 4) dX8_takesCloud_4 ?_
      refine q_iaload (pc := 5) dX8_takesCloud_5 (by assumption) (by omega) ?_
      refine q_istore_n (pc := 6) [some _, some _] dX8_takesCloud_6 rfl (Nat.le_of_ble_eq_true rfl) rfl ?_
      refine q_iload_n (pc := 7) dX8_takesCloud_7 rfl ?_
      refine q_iconst (pc := 8) dX8_takesCloud_8 ?_
      refine q_icmp_ne (pc := 9) (by omega) (by omega) 14 dX8_takesCloud_9 rfl (fun c9 => ?_) (fun c9 => ?_)
      · refine q_aload_n (pc := 14) dX8_takesCloud_14 rfl rfl ?_
        refine q_getfield (pc := 15) gf_X8_26 dX8_takesCloud_15 (by assumption) rfl ?_
        refine q_iconst (pc := 18) dX8_takesCloud_18 ?_
        refine q_dup2 (pc := 19) rfl rfl dX8_takesCloud_19 ?_
        refine q_iaload (pc := 20) dX8_takesCloud_20 (by assumption) (by omega) ?_
        refine q_iconst (pc := 21) dX8_takesCloud_21 ?_
        refine q_iadd (pc := 22) dX8_takesCloud_22 ?_
        refine q_iastore (pc := 23) dX8_takesCloud_23 (by assumption) (by omega) ?_
        refine q_aload_n (pc := 24) dX8_takesCloud_24 rfl rfl ?_
        refine q_bipush (pc := 25) (by decide) dX8_takesCloud_25 ?_
        refine q_iload_n (pc := 27) dX8_takesCloud_27 rfl ?_
        refine q_iadd (pc := 28) dX8_takesCloud_28 ?_
        refine q_iconst (pc := 29) dX8_takesCloud_29 ?_
        refine q_bipush (pc := 30) (by decide) dX8_takesCloud_30 ?_
        refine q_invokevirtual (pc := 32) (d' := d - 1) (mc' := 0) (ms' := 0) (As := [_, _, _]) (TX8, 26) cl_X8_168 dX8_takesCloud_32 rfl rfl (by assumption) rfl (by omega) rfl 0 0 (Nat.le_refl 0) (Nat.le_refl 0) ?_
        refine c_X8_takes (by omega) ⟨(zup_ne (by decide)).trans h72, zup_at, (zup_ne (by decide)).trans h76⟩ hT hp (by omega) (by omega) (by omega) (fun w1 hs1 hM1 => ?_)
        rw [if_neg h1] at hM1
        obtain ⟨h721, h771, h761⟩ := id hM1
        refine q_ifb_eq (pc := 35) 56 dX8_takesCloud_35 rfl (fun c35 => ?_) (fun c35 => ?_)
        · refine q_iconst (pc := 56) dX8_takesCloud_56 ?_
          exact q_zreturn0 (pc := 57) (show ¬ (false = true) by decide) dX8_takesCloud_57 rfl (k _ _ _ false ((zS2.o77 (zSame.up (by omega))).tr hs1) hM1 hx1 (fun z => by cases z) (fun _ => ⟨rfl, rfl⟩))
        exact absurd (by assumption) h1
      exfalso; omega
set_option maxRecDepth 100000 in
set_option maxHeartbeats 8000000 in
theorem c_X8_takesWeeks (hd : 3 ≤ d) (hM : zRM g ab be u len it sm T w N p) (hT : zTx T len) (hp : 0 ≤ p ∧ p ≤ len) (hO : zOK N) (k : ∀ w' N' p' (b : Bool), zS2 w w' → zRM g ab be u len it sm T w' N' p' → 0 ≤ p' ∧ p' ≤ len → (b = true → ziwks T len N p = zfin T len N' (znxt T len p')) → (b = false → (ziwks T len N p).1 = false ∧ (ziwks T len N p).2.2 = p') → K (some (zI (zb (b = true)))) w') : zCall g d 0 0 mX8_takesWeeks [zR g 72] w K := by
  have hx := znx (T := T) hp
  obtain ⟨h720, h770, h760⟩ := id hM
  have hq := znumM (T := T) (lo := 1) (hi := 99) hx (by omega)
  have hm := zmn_b hT hx
  have ht := ztok_b (zbyte T len (zsrt T len (znxt T len p)))
  have e1 : zt0 T len (znxt T len p) = ztok (zbyte T len (zsrt T len (znxt T len p))) := rfl
  unfold ziwks at k
  by_cases h : znum T len 1 99 (znxt T len p)
  · rw [if_pos h] at k
    have ev := zmn_v hx h.1
    obtain ⟨hz, hl1, hl2⟩ := hq.mpr h
    rw [← ev] at k
    have L : ∀ (q m : Nat) (w1 : zWd), (m : Int) + (q : Int) = zmn T len (znxt T len p) → zS2 w w1 → zRM g ab be u len it sm T w1 (zweeks N m) (znxt T len p) → zRuns g d mX8_takesWeeks 0 0 35 [some (zR g 72), some (zI 1), some (zI (m : Int))] [] w1 K := by
      intro q
      induction q with
      | zero =>
        intro m w1 h1 hs hM1
        obtain ⟨h72, h77, h76⟩ := id hM1
        have em : (zmn T len (znxt T len p)).toNat = m := by omega
        rw [em] at k
        refine q_iload_n (pc := 35) dX8_takesWeeks_35 rfl ?_
        refine q_if_eq (pc := 36) (by omega) 72 dX8_takesWeeks_36 rfl (fun c36 => ?_) (fun c36 => ?_)
        · refine q_iload_n (pc := 72) dX8_takesWeeks_72 rfl ?_
          refine q_zreturn1 (P := true = true) rfl (pc := 73) dX8_takesWeeks_73 rfl ?_
          first | (exfalso; omega; done) | exact k _ _ _ true hs hM1 hx (fun _ => rfl) (fun z => by cases z)
        refine q_iload_n (pc := 39) dX8_takesWeeks_39 rfl ?_
        refine q_aload_n (pc := 40) dX8_takesWeeks_40 rfl rfl ?_
        refine q_getfield (pc := 41) gf_X8_157 dX8_takesWeeks_41 (by assumption) rfl ?_
        refine q_icmp_ge (pc := 44) (by omega) (by omega) 72 dX8_takesWeeks_44 rfl (fun c44 => ?_) (fun c44 => ?_)
        · refine q_iload_n (pc := 72) dX8_takesWeeks_72 rfl ?_
          refine q_zreturn1 (P := true = true) rfl (pc := 73) dX8_takesWeeks_73 rfl ?_
          first | (exfalso; omega; done) | exact k _ _ _ true hs hM1 hx (fun _ => rfl) (fun z => by cases z)
        exfalso; omega
      | succ q ih =>
        intro m w1 h1 hs hM1
        obtain ⟨h72, h77, h76⟩ := id hM1
        have hih := ih (m + 1)
        have hO1 := zweeks_ok hO m
        have hH1 := hO1.1
        refine q_iload_n (pc := 35) dX8_takesWeeks_35 rfl ?_
        refine q_if_eq (pc := 36) (by omega) 72 dX8_takesWeeks_36 rfl (fun c36 => ?_) (fun c36 => ?_)
        · refine q_iload_n (pc := 72) dX8_takesWeeks_72 rfl ?_
          refine q_zreturn1 (P := true = true) rfl (pc := 73) dX8_takesWeeks_73 rfl ?_
          first | (exfalso; omega; done) | (have e9 := zweeks_stop (N := N) (m := m) (by omega) (q + 1); rw [show (zmn T len (znxt T len p)).toNat = m + (q + 1) by omega, e9] at k; exact k _ _ _ true hs hM1 hx (fun _ => rfl) (fun z => by cases z))
        refine q_iload_n (pc := 39) dX8_takesWeeks_39 rfl ?_
        refine q_aload_n (pc := 40) dX8_takesWeeks_40 rfl rfl ?_
        refine q_getfield (pc := 41) gf_X8_157 dX8_takesWeeks_41 (by assumption) rfl ?_
        refine q_icmp_ge (pc := 44) (by omega) (by omega) 72 dX8_takesWeeks_44 rfl (fun c44 => ?_) (fun c44 => ?_)
        · refine q_iload_n (pc := 72) dX8_takesWeeks_72 rfl ?_
          refine q_zreturn1 (P := true = true) rfl (pc := 73) dX8_takesWeeks_73 rfl ?_
          first | (exfalso; omega; done) | (have e9 := zweeks_stop (N := N) (m := m) (by omega) (q + 1); rw [show (zmn T len (znxt T len p)).toNat = m + (q + 1) by omega, e9] at k; exact k _ _ _ true hs hM1 hx (fun _ => rfl) (fun z => by cases z))
        refine q_aload_n (pc := 47) dX8_takesWeeks_47 rfl rfl ?_
        refine q_getfield (pc := 48) gf_X8_26 dX8_takesWeeks_48 (by assumption) rfl ?_
        refine q_iconst (pc := 51) dX8_takesWeeks_51 ?_
        refine q_iaload (pc := 52) dX8_takesWeeks_52 (by assumption) (by omega) ?_
        refine q_sipush (pc := 53) (by decide) dX8_takesWeeks_53 ?_
        refine q_icmp_ge (pc := 56) (by omega) (by omega) 72 dX8_takesWeeks_56 rfl (fun c56 => ?_) (fun c56 => ?_)
        · refine q_iload_n (pc := 72) dX8_takesWeeks_72 rfl ?_
          refine q_zreturn1 (P := true = true) rfl (pc := 73) dX8_takesWeeks_73 rfl ?_
          first | (exfalso; omega; done) | (have e9 := zweeks_stop (N := N) (m := m) (by omega) (q + 1); rw [show (zmn T len (znxt T len p)).toNat = m + (q + 1) by omega, e9] at k; exact k _ _ _ true hs hM1 hx (fun _ => rfl) (fun z => by cases z))
        refine q_aload_n (pc := 59) dX8_takesWeeks_59 rfl rfl ?_
        refine q_getfield (pc := 60) gf_X8_26 dX8_takesWeeks_60 (by assumption) rfl ?_
        refine q_invokestatic (pc := 63) (d' := d - 1) (mc' := 0) (ms' := 0) (As := [_]) cl_X8_172 dX8_takesWeeks_63 rfl rfl (by omega) rfl 0 0 (Nat.le_refl 0) (Nat.le_refl 0) ?_
        refine c_X8_passWeek (by omega) h77 hO1 (fun w2 hs2 h772 => ?_)
        refine q_iinc (pc := 66) [some _, some _, some _] dX8_takesWeeks_66 rfl rfl rfl ?_
        refine q_goto (pc := 69) 35 dX8_takesWeeks_69 rfl ?_
        have e9 : zweeks N (m + 1) = zweek (zweeks N m) := by rw [zweeks, if_pos (by omega)]
        exact hih _ (by omega) (hs.tr (.o77 hs2)) ⟨(hs2.2 72 (by omega)).trans h72, by rw [e9]; exact h772, (hs2.2 76 (by omega)).trans h76⟩
    refine zenter [some _, none, none] pn_X8 rfl (Nat.le_of_ble_eq_true rfl) ?_
    refine q_aload_n (pc := 0) dX8_takesWeeks_0 rfl rfl ?_
    refine q_invokevirtual (pc := 1) (d' := d - 1) (mc' := 0) (ms' := 0) (As := []) (TX8, 26) cl_X8_165 dX8_takesWeeks_1 rfl rfl (by assumption) rfl (by omega) rfl 0 0 (Nat.le_refl 0) (Nat.le_refl 0) ?_
    refine t_next (by omega) hM hT hp (fun w1 hs1 hM1 => ?_)
    obtain ⟨h72, h77, h76⟩ := id hM1
    refine q_aload_n (pc := 4) dX8_takesWeeks_4 rfl rfl ?_
    refine q_getfield (pc := 5) gf_X8_154 dX8_takesWeeks_5 (by assumption) rfl ?_
    refine q_iconst (pc := 8) dX8_takesWeeks_8 ?_
    refine q_icmp_ne (pc := 9) (by omega) (by omega) 31 dX8_takesWeeks_9 rfl (fun c9 => ?_) (fun c9 => ?_)
    · exfalso; omega
    refine q_aload_n (pc := 12) dX8_takesWeeks_12 rfl rfl ?_
    refine q_getfield (pc := 13) gf_X8_157 dX8_takesWeeks_13 (by assumption) rfl ?_
    refine q_i2l (pc := 16) dX8_takesWeeks_16 (by omega) ?_
    refine q_lconst (pc := 17) (v := 1) dX8_takesWeeks_17 rfl ?_
    refine q_ldc2_w (pc := 18) tw_5_108 dX8_takesWeeks_18 ?_
    refine q_invokestatic (pc := 21) (d' := d - 1) (mc' := 0) (ms' := 0) (As := [_, _, _]) cl_X8_60 dX8_takesWeeks_21 rfl rfl (by omega) rfl 0 0 (Nat.le_refl 0) (Nat.le_refl 0) ?_
    refine c_X8_in (by omega) (by omega) (by omega) ?_
    refine q_ifb_eq (pc := 24) 31 dX8_takesWeeks_24 rfl (fun c24 => ?_) (fun c24 => ?_)
    · exfalso; omega
    refine q_iconst (pc := 27) dX8_takesWeeks_27 ?_
    refine q_goto (pc := 28) 32 dX8_takesWeeks_28 rfl ?_
    refine q_istore_n (pc := 32) [some _, some _, none] dX8_takesWeeks_32 rfl (Nat.le_of_ble_eq_true rfl) rfl ?_
    refine q_iconst (pc := 33) dX8_takesWeeks_33 ?_
    refine q_istore_n (pc := 34) [some _, some _, some _] dX8_takesWeeks_34 rfl (Nat.le_of_ble_eq_true rfl) rfl ?_
    exact L (zmn T len (znxt T len p)).toNat 0 _ (by omega) hs1 hM1
  · rw [if_neg h] at k
    have hz := fun z => h (hq.mp z)
    refine zenter [some _, none, none] pn_X8 rfl (Nat.le_of_ble_eq_true rfl) ?_
    refine q_aload_n (pc := 0) dX8_takesWeeks_0 rfl rfl ?_
    refine q_invokevirtual (pc := 1) (d' := d - 1) (mc' := 0) (ms' := 0) (As := []) (TX8, 26) cl_X8_165 dX8_takesWeeks_1 rfl rfl (by assumption) rfl (by omega) rfl 0 0 (Nat.le_refl 0) (Nat.le_refl 0) ?_
    refine t_next (by omega) hM hT hp (fun w1 hs1 hM1 => ?_)
    obtain ⟨h72, h77, h76⟩ := id hM1
    refine q_aload_n (pc := 4) dX8_takesWeeks_4 rfl rfl ?_
    refine q_getfield (pc := 5) gf_X8_154 dX8_takesWeeks_5 (by assumption) rfl ?_
    refine q_iconst (pc := 8) dX8_takesWeeks_8 ?_
    refine q_icmp_ne (pc := 9) (by omega) (by omega) 31 dX8_takesWeeks_9 rfl (fun c9 => ?_) (fun c9 => ?_)
    · refine q_iconst (pc := 31) dX8_takesWeeks_31 ?_
      refine q_istore_n (pc := 32) [some _, some _, none] dX8_takesWeeks_32 rfl (Nat.le_of_ble_eq_true rfl) rfl ?_
      refine q_iconst (pc := 33) dX8_takesWeeks_33 ?_
      refine q_istore_n (pc := 34) [some _, some _, some _] dX8_takesWeeks_34 rfl (Nat.le_of_ble_eq_true rfl) rfl ?_
      refine q_iload_n (pc := 35) dX8_takesWeeks_35 rfl ?_
      refine q_if_eq (pc := 36) (by omega) 72 dX8_takesWeeks_36 rfl (fun c36 => ?_) (fun c36 => ?_)
      · refine q_iload_n (pc := 72) dX8_takesWeeks_72 rfl ?_
        refine q_zreturn0 (P := false = true) (by decide) (pc := 73) dX8_takesWeeks_73 rfl ?_
        exact k _ _ _ false hs1 hM1 hx (fun z => by cases z) (fun _ => ⟨rfl, rfl⟩)
      exfalso; omega
    refine q_aload_n (pc := 12) dX8_takesWeeks_12 rfl rfl ?_
    refine q_getfield (pc := 13) gf_X8_157 dX8_takesWeeks_13 (by assumption) rfl ?_
    refine q_i2l (pc := 16) dX8_takesWeeks_16 (by omega) ?_
    refine q_lconst (pc := 17) (v := 1) dX8_takesWeeks_17 rfl ?_
    refine q_ldc2_w (pc := 18) tw_5_108 dX8_takesWeeks_18 ?_
    refine q_invokestatic (pc := 21) (d' := d - 1) (mc' := 0) (ms' := 0) (As := [_, _, _]) cl_X8_60 dX8_takesWeeks_21 rfl rfl (by omega) rfl 0 0 (Nat.le_refl 0) (Nat.le_refl 0) ?_
    refine c_X8_in (by omega) (by omega) (by omega) ?_
    refine q_ifb_eq (pc := 24) 31 dX8_takesWeeks_24 rfl (fun c24 => ?_) (fun c24 => ?_)
    · refine q_iconst (pc := 31) dX8_takesWeeks_31 ?_
      refine q_istore_n (pc := 32) [some _, some _, none] dX8_takesWeeks_32 rfl (Nat.le_of_ble_eq_true rfl) rfl ?_
      refine q_iconst (pc := 33) dX8_takesWeeks_33 ?_
      refine q_istore_n (pc := 34) [some _, some _, some _] dX8_takesWeeks_34 rfl (Nat.le_of_ble_eq_true rfl) rfl ?_
      refine q_iload_n (pc := 35) dX8_takesWeeks_35 rfl ?_
      refine q_if_eq (pc := 36) (by omega) 72 dX8_takesWeeks_36 rfl (fun c36 => ?_) (fun c36 => ?_)
      · refine q_iload_n (pc := 72) dX8_takesWeeks_72 rfl ?_
        refine q_zreturn0 (P := false = true) (by decide) (pc := 73) dX8_takesWeeks_73 rfl ?_
        exact k _ _ _ false hs1 hM1 hx (fun z => by cases z) (fun _ => ⟨rfl, rfl⟩)
      exfalso; omega
    exact absurd ⟨c9, c24⟩ hz
set_option maxRecDepth 100000 in
set_option maxHeartbeats 8000000 in
theorem c_X8_takesCellar (hd : 4 ≤ d) (hM : zRM g ab be u len it sm T w N p) (hT : zTx T len) (hp : 0 ≤ p ∧ p ≤ len) (hO : zOK N) (k : ∀ w' N' p' (b : Bool), zS2 w w' → zRM g ab be u len it sm T w' N' p' → 0 ≤ p' ∧ p' ≤ len → (b = true → zicel T len N p = zfin T len N' p') → (b = false → (zicel T len N p).1 = false ∧ (zicel T len N p).2.2 = p') → K (some (zI (zb (b = true)))) w') : zCall g d 0 0 mX8_takesCellar [zR g 72] w K := by
  have hH := hO.1
  have hx1 := znx (T := T) hp
  have hx2 := znx (T := T) hx1
  have hx3 := znx (T := T) hx2
  obtain ⟨h72, h77, h76⟩ := id hM
  unfold zicel at k
  by_cases h0 : N 0 = 5
  · rw [if_pos h0] at k
    refine zenter [some _, none, none, none] pn_X8 rfl (Nat.le_of_ble_eq_true rfl) ?_
    refine q_aload_n (pc := 0) dX8_takesCellar_0 rfl rfl ?_
    refine q_getfield (pc := 1) gf_X8_26 dX8_takesCellar_1 (by assumption) rfl ?_
    refine q_iconst (pc := 4) dX8_takesCellar_4 ?_
    refine q_iaload (pc := 5) dX8_takesCellar_5 (by assumption) (by omega) ?_
    refine q_istore_n (pc := 6) [some _, some _, none, none] dX8_takesCellar_6 rfl (Nat.le_of_ble_eq_true rfl) rfl ?_
    refine q_iload_n (pc := 7) dX8_takesCellar_7 rfl ?_
    refine q_iconst (pc := 8) dX8_takesCellar_8 ?_
    refine q_icmp_ne (pc := 9) (by omega) (by omega) 14 dX8_takesCellar_9 rfl (fun c9 => ?_) (fun c9 => ?_)
    · exfalso; omega
    refine q_iconst (pc := 12) dX8_takesCellar_12 ?_
    exact q_zreturn0 (pc := 13) (show ¬ (false = true) by decide) dX8_takesCellar_13 rfl (k w N p false .rf hM hp (fun z => by cases z) (fun _ => ⟨rfl, rfl⟩))
  · rw [if_neg h0] at k
    by_cases h1 : znum T len 0 5 (znxt T len p)
    · rw [if_pos h1] at k
      by_cases h2 : znum T len 0 9 (znxt T len (znxt T len p))
      · rw [if_pos h2, ← znewc_c (by omega)] at k
        generalize hz : zcst T len (N 0) 9 1 (zfu (zfu (zfu N 0 (N 0 + 1)) (8 + N 0) (znv T len (znxt T len p))) (13 + N 0) (znv T len (znxt T len (znxt T len p)))) (znxt T len (znxt T len (znxt T len p))) = Z at k
        obtain ⟨NF, pF⟩ := Z
        have k : ∀ w' N' p' (b : Bool), zS2 w w' → zRM g ab be u len it sm T w' N' p' → 0 ≤ p' ∧ p' ≤ len → (b = true → zfin T len NF pF = zfin T len N' p') → (b = false → (zfin T len NF pF).1 = false ∧ (zfin T len NF pF).2.2 = p') → K (some (zI (zb (b = true)))) w' := k
        have J132 : ∀ (w1 : zWd) (r : Int) (N1 : Int → Int), 1 ≤ r ∧ r ≤ 9 → zS2 w w1 → zRM g ab be u len it sm T w1 N1 pF → 0 ≤ pF ∧ pF ≤ len → ¬ zt0 T len pF = 3 → zRuns g d mX8_takesCellar 0 0 132 [some (zR g 72), some (zI (N 0)), some (zI 0), some (zI r)] [] w1 K := by
          intro w1 r N1 hr hs hM1 hp1 h3
          refine q_iinc (pc := 132) [some _, some _, some _, some _] dX8_takesCellar_132 rfl rfl rfl ?_
          refine q_goto (pc := 135) 67 dX8_takesCellar_135 rfl ?_
          refine q_iload_n (pc := 67) dX8_takesCellar_67 rfl ?_
          refine q_bipush (pc := 68) (by decide) dX8_takesCellar_68 ?_
          refine q_icmp_ge (pc := 70) (by omega) (by omega) 138 dX8_takesCellar_70 rfl (fun c70 => ?_) (fun c70 => ?_)
          · refine q_iload_n (pc := 138) dX8_takesCellar_138 rfl ?_
            refine q_zreturn0 (P := false = true) (by decide) (pc := 139) dX8_takesCellar_139 rfl ?_
            exact k _ _ _ false hs hM1 hp1 (fun z => by cases z) (fun _ => by rw [zfin_n h3]; exact ⟨rfl, rfl⟩)
          refine q_iload_n (pc := 73) dX8_takesCellar_73 rfl ?_
          refine q_if_eq (pc := 74) (by omega) 138 dX8_takesCellar_74 rfl (fun c74 => ?_) (fun c74 => ?_)
          · refine q_iload_n (pc := 138) dX8_takesCellar_138 rfl ?_
            refine q_zreturn0 (P := false = true) (by decide) (pc := 139) dX8_takesCellar_139 rfl ?_
            exact k _ _ _ false hs hM1 hp1 (fun z => by cases z) (fun _ => by rw [zfin_n h3]; exact ⟨rfl, rfl⟩)
          exfalso; omega
        have L : ∀ (q : Nat) (r : Int) (N1 : Int → Int) (p1 : Int) (w1 : zWd), r + q = 10 → 1 ≤ r → zS2 w w1 → zRM g ab be u len it sm T w1 N1 p1 → 0 ≤ p1 ∧ p1 ≤ len → zcst T len (N 0) q r N1 p1 = (NF, pF) → zRuns g d mX8_takesCellar 0 0 67 [some (zR g 72), some (zI (N 0)), some (zI 1), some (zI r)] [] w1 K := by
          intro q
          induction q with
          | zero =>
            intro r N1 p1 w1 hr h1 hs hM1 hp1 ez
            obtain ⟨rfl, rfl⟩ := Prod.mk.inj (show (N1, p1) = (NF, pF) from ez)
            refine q_iload_n (pc := 67) dX8_takesCellar_67 rfl ?_
            refine q_bipush (pc := 68) (by decide) dX8_takesCellar_68 ?_
            refine q_icmp_ge (pc := 70) (by omega) (by omega) 138 dX8_takesCellar_70 rfl (fun c70 => ?_) (fun c70 => ?_)
            · refine q_iload_n (pc := 138) dX8_takesCellar_138 rfl ?_
              refine q_zreturn1 (P := true = true) rfl (pc := 139) dX8_takesCellar_139 rfl ?_
              exact k _ _ _ true hs hM1 hp1 (fun _ => rfl) (fun z => by cases z)
            exfalso; omega
          | succ q ih =>
            intro r N1 p1 w1 hr h1 hs hM1 hp1 ez
            obtain ⟨h721, h771, h761⟩ := id hM1
            have hm := zmn_b hT hp1
            have ht := ztok_b (zbyte T len (zsrt T len p1))
            have e1 : zt0 T len p1 = ztok (zbyte T len (zsrt T len p1)) := rfl
            rw [zcst] at ez
            by_cases t2 : zt0 T len p1 = 2
            · by_cases t4 : 2 < znxt T len p1 - zsrt T len p1
              · have t5 := ztk_4 t2 t4
                have e4 := zmn_4 t2 t4
                rw [if_neg (by omega)] at ez
                obtain ⟨rfl, rfl⟩ := Prod.mk.inj ez
                refine q_iload_n (pc := 67) dX8_takesCellar_67 rfl ?_
                refine q_bipush (pc := 68) (by decide) dX8_takesCellar_68 ?_
                refine q_icmp_ge (pc := 70) (by omega) (by omega) 138 dX8_takesCellar_70 rfl (fun c70 => ?_) (fun c70 => ?_)
                · exfalso; omega
                refine q_iload_n (pc := 73) dX8_takesCellar_73 rfl ?_
                refine q_if_eq (pc := 74) (by omega) 138 dX8_takesCellar_74 rfl (fun c74 => ?_) (fun c74 => ?_)
                · exfalso; omega
                refine q_aload_n (pc := 77) dX8_takesCellar_77 rfl rfl ?_
                refine q_getfield (pc := 78) gf_X8_154 dX8_takesCellar_78 (by assumption) rfl ?_
                refine q_iconst (pc := 81) dX8_takesCellar_81 ?_
                refine q_icmp_ne (pc := 82) (by omega) (by omega) 138 dX8_takesCellar_82 rfl (fun c82 => ?_) (fun c82 => ?_)
                · exfalso; omega
                refine q_aload_n (pc := 85) dX8_takesCellar_85 rfl rfl ?_
                refine q_getfield (pc := 86) gf_X8_157 dX8_takesCellar_86 (by assumption) rfl ?_
                refine q_i2l (pc := 89) dX8_takesCellar_89 (by omega) ?_
                refine q_lconst (pc := 90) (v := 0) dX8_takesCellar_90 rfl ?_
                refine q_ldc2_w (pc := 91) tw_5_108 dX8_takesCellar_91 ?_
                refine q_invokestatic (pc := 94) (d' := d - 1) (mc' := 0) (ms' := 0) (As := [_, _, _]) cl_X8_60 dX8_takesCellar_94 rfl rfl (by omega) rfl 0 0 (Nat.le_refl 0) (Nat.le_refl 0) ?_
                refine c_X8_in (by omega) (by omega) (by omega) ?_
                rw [zb_f (by omega)]
                refine q_istore_n (pc := 97) [some _, some _, some _, some _] dX8_takesCellar_97 rfl (Nat.le_of_ble_eq_true rfl) rfl ?_
                refine q_aload_n (pc := 98) dX8_takesCellar_98 rfl rfl ?_
                refine q_getfield (pc := 99) gf_X8_26 dX8_takesCellar_99 (by assumption) rfl ?_
                refine q_bipush (pc := 102) (by decide) dX8_takesCellar_102 ?_
                refine q_bipush (pc := 104) (by decide) dX8_takesCellar_104 ?_
                refine q_iload_n (pc := 106) dX8_takesCellar_106 rfl ?_
                refine q_imul (pc := 107) dX8_takesCellar_107 ?_
                refine q_iadd (pc := 108) dX8_takesCellar_108 ?_
                refine q_iload_n (pc := 109) dX8_takesCellar_109 rfl ?_
                refine q_iadd (pc := 110) dX8_takesCellar_110 ?_
                refine q_iload_n (pc := 111) dX8_takesCellar_111 rfl ?_
                refine q_if_eq (pc := 112) (by omega) 122 dX8_takesCellar_112 rfl (fun c112 => ?_) (fun c112 => ?_)
                · refine q_iconst (pc := 122) dX8_takesCellar_122 ?_
                  refine q_iastore (pc := 123) dX8_takesCellar_123 (by assumption) (by omega) ?_
                  refine q_iload_n (pc := 124) dX8_takesCellar_124 rfl ?_
                  refine q_if_eq (pc := 125) (by omega) 132 dX8_takesCellar_125 rfl (fun c125 => ?_) (fun c125 => ?_)
                  · exact J132 _ _ _ (by omega) (hs.tr (.o77 (zSame.up (by omega)))) ⟨(zup_ne (by decide)).trans h721, zup_at, (zup_ne (by decide)).trans h761⟩ hp1 (by omega)
                  exfalso; omega
                exfalso; omega
              · have t5 := ztk_2 t2 t4
                have e4 := zmn_v hp1 t5
                have hv := znv_b hT hp1 t5
                rw [if_pos t5, ← e4] at ez
                have hih := ih (r + 1)
                refine q_iload_n (pc := 67) dX8_takesCellar_67 rfl ?_
                refine q_bipush (pc := 68) (by decide) dX8_takesCellar_68 ?_
                refine q_icmp_ge (pc := 70) (by omega) (by omega) 138 dX8_takesCellar_70 rfl (fun c70 => ?_) (fun c70 => ?_)
                · exfalso; omega
                refine q_iload_n (pc := 73) dX8_takesCellar_73 rfl ?_
                refine q_if_eq (pc := 74) (by omega) 138 dX8_takesCellar_74 rfl (fun c74 => ?_) (fun c74 => ?_)
                · exfalso; omega
                refine q_aload_n (pc := 77) dX8_takesCellar_77 rfl rfl ?_
                refine q_getfield (pc := 78) gf_X8_154 dX8_takesCellar_78 (by assumption) rfl ?_
                refine q_iconst (pc := 81) dX8_takesCellar_81 ?_
                refine q_icmp_ne (pc := 82) (by omega) (by omega) 138 dX8_takesCellar_82 rfl (fun c82 => ?_) (fun c82 => ?_)
                · exfalso; omega
                refine q_aload_n (pc := 85) dX8_takesCellar_85 rfl rfl ?_
                refine q_getfield (pc := 86) gf_X8_157 dX8_takesCellar_86 (by assumption) rfl ?_
                refine q_i2l (pc := 89) dX8_takesCellar_89 (by omega) ?_
                refine q_lconst (pc := 90) (v := 0) dX8_takesCellar_90 rfl ?_
                refine q_ldc2_w (pc := 91) tw_5_108 dX8_takesCellar_91 ?_
                refine q_invokestatic (pc := 94) (d' := d - 1) (mc' := 0) (ms' := 0) (As := [_, _, _]) cl_X8_60 dX8_takesCellar_94 rfl rfl (by omega) rfl 0 0 (Nat.le_refl 0) (Nat.le_refl 0) ?_
                refine c_X8_in (by omega) (by omega) (by omega) ?_
                rw [zb_t (by omega)]
                refine q_istore_n (pc := 97) [some _, some _, some _, some _] dX8_takesCellar_97 rfl (Nat.le_of_ble_eq_true rfl) rfl ?_
                refine q_aload_n (pc := 98) dX8_takesCellar_98 rfl rfl ?_
                refine q_getfield (pc := 99) gf_X8_26 dX8_takesCellar_99 (by assumption) rfl ?_
                refine q_bipush (pc := 102) (by decide) dX8_takesCellar_102 ?_
                refine q_bipush (pc := 104) (by decide) dX8_takesCellar_104 ?_
                refine q_iload_n (pc := 106) dX8_takesCellar_106 rfl ?_
                refine q_imul (pc := 107) dX8_takesCellar_107 ?_
                refine q_iadd (pc := 108) dX8_takesCellar_108 ?_
                refine q_iload_n (pc := 109) dX8_takesCellar_109 rfl ?_
                refine q_iadd (pc := 110) dX8_takesCellar_110 ?_
                refine q_iload_n (pc := 111) dX8_takesCellar_111 rfl ?_
                refine q_if_eq (pc := 112) (by omega) 122 dX8_takesCellar_112 rfl (fun c112 => ?_) (fun c112 => ?_)
                · exfalso; omega
                refine q_aload_n (pc := 115) dX8_takesCellar_115 rfl rfl ?_
                refine q_getfield (pc := 116) gf_X8_157 dX8_takesCellar_116 (by assumption) rfl ?_
                refine q_goto (pc := 119) 123 dX8_takesCellar_119 rfl ?_
                refine q_iastore (pc := 123) dX8_takesCellar_123 (by assumption) (by omega) ?_
                refine q_iload_n (pc := 124) dX8_takesCellar_124 rfl ?_
                refine q_if_eq (pc := 125) (by omega) 132 dX8_takesCellar_125 rfl (fun c125 => ?_) (fun c125 => ?_)
                · refine q_iinc (pc := 132) [some _, some _, some _, some _] dX8_takesCellar_132 rfl rfl rfl ?_
                  refine q_goto (pc := 135) 67 dX8_takesCellar_135 rfl ?_
                  first | (exfalso; omega; done) | exact hih _ _ _ (by omega) (by omega) (hs.tr ((zS2.o77 (zSame.up (by omega))).tr hs2)) hM2 (znx hp1) ez
                refine q_aload_n (pc := 128) dX8_takesCellar_128 rfl rfl ?_
                refine q_invokevirtual (pc := 129) (d' := d - 1) (mc' := 0) (ms' := 0) (As := []) (TX8, 26) cl_X8_165 dX8_takesCellar_129 rfl rfl (by assumption) rfl (by omega) rfl 0 0 (Nat.le_refl 0) (Nat.le_refl 0) ?_
                refine t_next (w := zup w1 77 (.inr (false, 168, zfu N1 (18 + 10 * N 0 + r) (zmn T len p1)))) (by omega) ⟨(zup_ne (by decide)).trans h721, zup_at, (zup_ne (by decide)).trans h761⟩ hT hp1 (fun w2 hs2 hM2 => ?_)
                refine q_iinc (pc := 132) [some _, some _, some _, some _] dX8_takesCellar_132 rfl rfl rfl ?_
                refine q_goto (pc := 135) 67 dX8_takesCellar_135 rfl ?_
                first | (exfalso; omega; done) | exact hih _ _ _ (by omega) (by omega) (hs.tr ((zS2.o77 (zSame.up (by omega))).tr hs2)) hM2 (znx hp1) ez
            · rw [if_neg (fun z => t2 (ztk_eq z).1)] at ez
              obtain ⟨rfl, rfl⟩ := Prod.mk.inj ez
              refine q_iload_n (pc := 67) dX8_takesCellar_67 rfl ?_
              refine q_bipush (pc := 68) (by decide) dX8_takesCellar_68 ?_
              refine q_icmp_ge (pc := 70) (by omega) (by omega) 138 dX8_takesCellar_70 rfl (fun c70 => ?_) (fun c70 => ?_)
              · refine q_iload_n (pc := 138) dX8_takesCellar_138 rfl ?_
                refine q_zreturn1 (P := true = true) rfl (pc := 139) dX8_takesCellar_139 rfl ?_
                exact k _ _ _ true hs hM1 hp1 (fun _ => rfl) (fun z => by cases z)
              refine q_iload_n (pc := 73) dX8_takesCellar_73 rfl ?_
              refine q_if_eq (pc := 74) (by omega) 138 dX8_takesCellar_74 rfl (fun c74 => ?_) (fun c74 => ?_)
              · refine q_iload_n (pc := 138) dX8_takesCellar_138 rfl ?_
                refine q_zreturn1 (P := true = true) rfl (pc := 139) dX8_takesCellar_139 rfl ?_
                exact k _ _ _ true hs hM1 hp1 (fun _ => rfl) (fun z => by cases z)
              refine q_aload_n (pc := 77) dX8_takesCellar_77 rfl rfl ?_
              refine q_getfield (pc := 78) gf_X8_154 dX8_takesCellar_78 (by assumption) rfl ?_
              refine q_iconst (pc := 81) dX8_takesCellar_81 ?_
              refine q_icmp_ne (pc := 82) (by omega) (by omega) 138 dX8_takesCellar_82 rfl (fun c82 => ?_) (fun c82 => ?_)
              · refine q_iload_n (pc := 138) dX8_takesCellar_138 rfl ?_
                refine q_zreturn1 (P := true = true) rfl (pc := 139) dX8_takesCellar_139 rfl ?_
                exact k _ _ _ true hs hM1 hp1 (fun _ => rfl) (fun z => by cases z)
              exfalso; omega
        refine zenter [some _, none, none, none] pn_X8 rfl (Nat.le_of_ble_eq_true rfl) ?_
        refine q_aload_n (pc := 0) dX8_takesCellar_0 rfl rfl ?_
        refine q_getfield (pc := 1) gf_X8_26 dX8_takesCellar_1 (by assumption) rfl ?_
        refine q_iconst (pc := 4) dX8_takesCellar_4 ?_
        refine q_iaload (pc := 5) dX8_takesCellar_5 (by assumption) (by omega) ?_
        refine q_istore_n (pc := 6) [some _, some _, none, none] dX8_takesCellar_6 rfl (Nat.le_of_ble_eq_true rfl) rfl ?_
        refine q_iload_n (pc := 7) dX8_takesCellar_7 rfl ?_
        refine q_iconst (pc := 8) dX8_takesCellar_8 ?_
        refine q_icmp_ne (pc := 9) (by omega) (by omega) 14 dX8_takesCellar_9 rfl (fun c9 => ?_) (fun c9 => ?_)
        · refine q_aload_n (pc := 14) dX8_takesCellar_14 rfl rfl ?_
          refine q_getfield (pc := 15) gf_X8_26 dX8_takesCellar_15 (by assumption) rfl ?_
          refine q_iconst (pc := 18) dX8_takesCellar_18 ?_
          refine q_dup2 (pc := 19) rfl rfl dX8_takesCellar_19 ?_
          refine q_iaload (pc := 20) dX8_takesCellar_20 (by assumption) (by omega) ?_
          refine q_iconst (pc := 21) dX8_takesCellar_21 ?_
          refine q_iadd (pc := 22) dX8_takesCellar_22 ?_
          refine q_iastore (pc := 23) dX8_takesCellar_23 (by assumption) (by omega) ?_
          refine q_aload_n (pc := 24) dX8_takesCellar_24 rfl rfl ?_
          refine q_bipush (pc := 25) (by decide) dX8_takesCellar_25 ?_
          refine q_iload_n (pc := 27) dX8_takesCellar_27 rfl ?_
          refine q_iadd (pc := 28) dX8_takesCellar_28 ?_
          refine q_iconst (pc := 29) dX8_takesCellar_29 ?_
          refine q_iconst (pc := 30) dX8_takesCellar_30 ?_
          refine q_invokevirtual (pc := 31) (d' := d - 1) (mc' := 0) (ms' := 0) (As := [_, _, _]) (TX8, 26) cl_X8_168 dX8_takesCellar_31 rfl rfl (by assumption) rfl (by omega) rfl 0 0 (Nat.le_refl 0) (Nat.le_refl 0) ?_
          refine c_X8_takes (by omega) ⟨(zup_ne (by decide)).trans h72, zup_at, (zup_ne (by decide)).trans h76⟩ hT hp (by omega) (by omega) (by omega) (fun w1 hs1 hM1 => ?_)
          rw [if_pos h1] at hM1
          obtain ⟨h721, h771, h761⟩ := id hM1
          refine q_ifb_eq (pc := 34) 55 dX8_takesCellar_34 rfl (fun c34 => ?_) (fun c34 => ?_)
          · first | exact absurd h1 (by assumption) | exact absurd h2 (by assumption)
          refine q_aload_n (pc := 37) dX8_takesCellar_37 rfl rfl ?_
          refine q_bipush (pc := 38) (by decide) dX8_takesCellar_38 ?_
          refine q_iload_n (pc := 40) dX8_takesCellar_40 rfl ?_
          refine q_iadd (pc := 41) dX8_takesCellar_41 ?_
          refine q_iconst (pc := 42) dX8_takesCellar_42 ?_
          refine q_bipush (pc := 43) (by decide) dX8_takesCellar_43 ?_
          refine q_invokevirtual (pc := 45) (d' := d - 1) (mc' := 0) (ms' := 0) (As := [_, _, _]) (TX8, 26) cl_X8_168 dX8_takesCellar_45 rfl rfl (by assumption) rfl (by omega) rfl 0 0 (Nat.le_refl 0) (Nat.le_refl 0) ?_
          refine c_X8_takes (by omega) hM1 hT hx1 (by omega) (by omega) (by omega) (fun w2 hs2 hM2 => ?_)
          rw [if_pos h2] at hM2
          obtain ⟨h722, h772, h762⟩ := id hM2
          refine q_ifb_eq (pc := 48) 55 dX8_takesCellar_48 rfl (fun c48 => ?_) (fun c48 => ?_)
          · first | exact absurd h1 (by assumption) | exact absurd h2 (by assumption)
          refine q_iconst (pc := 51) dX8_takesCellar_51 ?_
          refine q_goto (pc := 52) 56 dX8_takesCellar_52 rfl ?_
          refine q_istore_n (pc := 56) [some _, some _, some _, none] dX8_takesCellar_56 rfl (Nat.le_of_ble_eq_true rfl) rfl ?_
          refine q_iload_n (pc := 57) dX8_takesCellar_57 rfl ?_
          refine q_if_eq (pc := 58) (by omega) 65 dX8_takesCellar_58 rfl (fun c58 => ?_) (fun c58 => ?_)
          · refine q_iconst (pc := 65) dX8_takesCellar_65 ?_
            refine q_istore_n (pc := 66) [some _, some _, some _, some _] dX8_takesCellar_66 rfl (Nat.le_of_ble_eq_true rfl) rfl ?_
            first | (exfalso; omega; done) | exact L 9 1 _ _ _ (by omega) (by omega) ((zS2.o77 (zSame.up (by omega))).tr (hs1.tr (hs2.tr hs3))) hM3 hx3 hz
          refine q_aload_n (pc := 61) dX8_takesCellar_61 rfl rfl ?_
          refine q_invokevirtual (pc := 62) (d' := d - 1) (mc' := 0) (ms' := 0) (As := []) (TX8, 26) cl_X8_165 dX8_takesCellar_62 rfl rfl (by assumption) rfl (by omega) rfl 0 0 (Nat.le_refl 0) (Nat.le_refl 0) ?_
          refine t_next (by omega) hM2 hT hx2 (fun w3 hs3 hM3 => ?_)
          refine q_iconst (pc := 65) dX8_takesCellar_65 ?_
          refine q_istore_n (pc := 66) [some _, some _, some _, some _] dX8_takesCellar_66 rfl (Nat.le_of_ble_eq_true rfl) rfl ?_
          first | (exfalso; omega; done) | exact L 9 1 _ _ _ (by omega) (by omega) ((zS2.o77 (zSame.up (by omega))).tr (hs1.tr (hs2.tr hs3))) hM3 hx3 hz
        exfalso; omega
      · rw [if_neg h2] at k
        refine zenter [some _, none, none, none] pn_X8 rfl (Nat.le_of_ble_eq_true rfl) ?_
        refine q_aload_n (pc := 0) dX8_takesCellar_0 rfl rfl ?_
        refine q_getfield (pc := 1) gf_X8_26 dX8_takesCellar_1 (by assumption) rfl ?_
        refine q_iconst (pc := 4) dX8_takesCellar_4 ?_
        refine q_iaload (pc := 5) dX8_takesCellar_5 (by assumption) (by omega) ?_
        refine q_istore_n (pc := 6) [some _, some _, none, none] dX8_takesCellar_6 rfl (Nat.le_of_ble_eq_true rfl) rfl ?_
        refine q_iload_n (pc := 7) dX8_takesCellar_7 rfl ?_
        refine q_iconst (pc := 8) dX8_takesCellar_8 ?_
        refine q_icmp_ne (pc := 9) (by omega) (by omega) 14 dX8_takesCellar_9 rfl (fun c9 => ?_) (fun c9 => ?_)
        · refine q_aload_n (pc := 14) dX8_takesCellar_14 rfl rfl ?_
          refine q_getfield (pc := 15) gf_X8_26 dX8_takesCellar_15 (by assumption) rfl ?_
          refine q_iconst (pc := 18) dX8_takesCellar_18 ?_
          refine q_dup2 (pc := 19) rfl rfl dX8_takesCellar_19 ?_
          refine q_iaload (pc := 20) dX8_takesCellar_20 (by assumption) (by omega) ?_
          refine q_iconst (pc := 21) dX8_takesCellar_21 ?_
          refine q_iadd (pc := 22) dX8_takesCellar_22 ?_
          refine q_iastore (pc := 23) dX8_takesCellar_23 (by assumption) (by omega) ?_
          refine q_aload_n (pc := 24) dX8_takesCellar_24 rfl rfl ?_
          refine q_bipush (pc := 25) (by decide) dX8_takesCellar_25 ?_
          refine q_iload_n (pc := 27) dX8_takesCellar_27 rfl ?_
          refine q_iadd (pc := 28) dX8_takesCellar_28 ?_
          refine q_iconst (pc := 29) dX8_takesCellar_29 ?_
          refine q_iconst (pc := 30) dX8_takesCellar_30 ?_
          refine q_invokevirtual (pc := 31) (d' := d - 1) (mc' := 0) (ms' := 0) (As := [_, _, _]) (TX8, 26) cl_X8_168 dX8_takesCellar_31 rfl rfl (by assumption) rfl (by omega) rfl 0 0 (Nat.le_refl 0) (Nat.le_refl 0) ?_
          refine c_X8_takes (by omega) ⟨(zup_ne (by decide)).trans h72, zup_at, (zup_ne (by decide)).trans h76⟩ hT hp (by omega) (by omega) (by omega) (fun w1 hs1 hM1 => ?_)
          rw [if_pos h1] at hM1
          obtain ⟨h721, h771, h761⟩ := id hM1
          refine q_ifb_eq (pc := 34) 55 dX8_takesCellar_34 rfl (fun c34 => ?_) (fun c34 => ?_)
          · refine q_iconst (pc := 55) dX8_takesCellar_55 ?_
            refine q_istore_n (pc := 56) [some _, some _, some _, none] dX8_takesCellar_56 rfl (Nat.le_of_ble_eq_true rfl) rfl ?_
            refine q_iload_n (pc := 57) dX8_takesCellar_57 rfl ?_
            refine q_if_eq (pc := 58) (by omega) 65 dX8_takesCellar_58 rfl (fun c58 => ?_) (fun c58 => ?_)
            · refine q_iconst (pc := 65) dX8_takesCellar_65 ?_
              refine q_istore_n (pc := 66) [some _, some _, some _, some _] dX8_takesCellar_66 rfl (Nat.le_of_ble_eq_true rfl) rfl ?_
              refine q_iload_n (pc := 67) dX8_takesCellar_67 rfl ?_
              refine q_bipush (pc := 68) (by decide) dX8_takesCellar_68 ?_
              refine q_icmp_ge (pc := 70) (by omega) (by omega) 138 dX8_takesCellar_70 rfl (fun c70 => ?_) (fun c70 => ?_)
              · refine q_iload_n (pc := 138) dX8_takesCellar_138 rfl ?_
                refine q_zreturn0 (P := false = true) (by decide) (pc := 139) dX8_takesCellar_139 rfl ?_
                first | exact k _ _ _ false ((zS2.o77 (zSame.up (by omega))).tr (hs1.tr hs2)) hM2 hx2 (fun z => by cases z) (fun _ => ⟨rfl, rfl⟩) | exact absurd h1 (by assumption)
              refine q_iload_n (pc := 73) dX8_takesCellar_73 rfl ?_
              refine q_if_eq (pc := 74) (by omega) 138 dX8_takesCellar_74 rfl (fun c74 => ?_) (fun c74 => ?_)
              · refine q_iload_n (pc := 138) dX8_takesCellar_138 rfl ?_
                refine q_zreturn0 (P := false = true) (by decide) (pc := 139) dX8_takesCellar_139 rfl ?_
                first | exact k _ _ _ false ((zS2.o77 (zSame.up (by omega))).tr (hs1.tr hs2)) hM2 hx2 (fun z => by cases z) (fun _ => ⟨rfl, rfl⟩) | exact absurd h1 (by assumption)
              exfalso; omega
            exfalso; omega
          refine q_aload_n (pc := 37) dX8_takesCellar_37 rfl rfl ?_
          refine q_bipush (pc := 38) (by decide) dX8_takesCellar_38 ?_
          refine q_iload_n (pc := 40) dX8_takesCellar_40 rfl ?_
          refine q_iadd (pc := 41) dX8_takesCellar_41 ?_
          refine q_iconst (pc := 42) dX8_takesCellar_42 ?_
          refine q_bipush (pc := 43) (by decide) dX8_takesCellar_43 ?_
          refine q_invokevirtual (pc := 45) (d' := d - 1) (mc' := 0) (ms' := 0) (As := [_, _, _]) (TX8, 26) cl_X8_168 dX8_takesCellar_45 rfl rfl (by assumption) rfl (by omega) rfl 0 0 (Nat.le_refl 0) (Nat.le_refl 0) ?_
          refine c_X8_takes (by omega) hM1 hT hx1 (by omega) (by omega) (by omega) (fun w2 hs2 hM2 => ?_)
          rw [if_neg h2] at hM2
          obtain ⟨h722, h772, h762⟩ := id hM2
          refine q_ifb_eq (pc := 48) 55 dX8_takesCellar_48 rfl (fun c48 => ?_) (fun c48 => ?_)
          · refine q_iconst (pc := 55) dX8_takesCellar_55 ?_
            refine q_istore_n (pc := 56) [some _, some _, some _, none] dX8_takesCellar_56 rfl (Nat.le_of_ble_eq_true rfl) rfl ?_
            refine q_iload_n (pc := 57) dX8_takesCellar_57 rfl ?_
            refine q_if_eq (pc := 58) (by omega) 65 dX8_takesCellar_58 rfl (fun c58 => ?_) (fun c58 => ?_)
            · refine q_iconst (pc := 65) dX8_takesCellar_65 ?_
              refine q_istore_n (pc := 66) [some _, some _, some _, some _] dX8_takesCellar_66 rfl (Nat.le_of_ble_eq_true rfl) rfl ?_
              refine q_iload_n (pc := 67) dX8_takesCellar_67 rfl ?_
              refine q_bipush (pc := 68) (by decide) dX8_takesCellar_68 ?_
              refine q_icmp_ge (pc := 70) (by omega) (by omega) 138 dX8_takesCellar_70 rfl (fun c70 => ?_) (fun c70 => ?_)
              · refine q_iload_n (pc := 138) dX8_takesCellar_138 rfl ?_
                refine q_zreturn0 (P := false = true) (by decide) (pc := 139) dX8_takesCellar_139 rfl ?_
                first | exact k _ _ _ false ((zS2.o77 (zSame.up (by omega))).tr (hs1.tr hs2)) hM2 hx2 (fun z => by cases z) (fun _ => ⟨rfl, rfl⟩) | exact absurd h1 (by assumption)
              refine q_iload_n (pc := 73) dX8_takesCellar_73 rfl ?_
              refine q_if_eq (pc := 74) (by omega) 138 dX8_takesCellar_74 rfl (fun c74 => ?_) (fun c74 => ?_)
              · refine q_iload_n (pc := 138) dX8_takesCellar_138 rfl ?_
                refine q_zreturn0 (P := false = true) (by decide) (pc := 139) dX8_takesCellar_139 rfl ?_
                first | exact k _ _ _ false ((zS2.o77 (zSame.up (by omega))).tr (hs1.tr hs2)) hM2 hx2 (fun z => by cases z) (fun _ => ⟨rfl, rfl⟩) | exact absurd h1 (by assumption)
              exfalso; omega
            exfalso; omega
          exact absurd (by assumption) h2
        exfalso; omega
    · rw [if_neg h1] at k
      refine zenter [some _, none, none, none] pn_X8 rfl (Nat.le_of_ble_eq_true rfl) ?_
      refine q_aload_n (pc := 0) dX8_takesCellar_0 rfl rfl ?_
      refine q_getfield (pc := 1) gf_X8_26 dX8_takesCellar_1 (by assumption) rfl ?_
      refine q_iconst (pc := 4) dX8_takesCellar_4 ?_
      refine q_iaload (pc := 5) dX8_takesCellar_5 (by assumption) (by omega) ?_
      refine q_istore_n (pc := 6) [some _, some _, none, none] dX8_takesCellar_6 rfl (Nat.le_of_ble_eq_true rfl) rfl ?_
      refine q_iload_n (pc := 7) dX8_takesCellar_7 rfl ?_
      refine q_iconst (pc := 8) dX8_takesCellar_8 ?_
      refine q_icmp_ne (pc := 9) (by omega) (by omega) 14 dX8_takesCellar_9 rfl (fun c9 => ?_) (fun c9 => ?_)
      · refine q_aload_n (pc := 14) dX8_takesCellar_14 rfl rfl ?_
        refine q_getfield (pc := 15) gf_X8_26 dX8_takesCellar_15 (by assumption) rfl ?_
        refine q_iconst (pc := 18) dX8_takesCellar_18 ?_
        refine q_dup2 (pc := 19) rfl rfl dX8_takesCellar_19 ?_
        refine q_iaload (pc := 20) dX8_takesCellar_20 (by assumption) (by omega) ?_
        refine q_iconst (pc := 21) dX8_takesCellar_21 ?_
        refine q_iadd (pc := 22) dX8_takesCellar_22 ?_
        refine q_iastore (pc := 23) dX8_takesCellar_23 (by assumption) (by omega) ?_
        refine q_aload_n (pc := 24) dX8_takesCellar_24 rfl rfl ?_
        refine q_bipush (pc := 25) (by decide) dX8_takesCellar_25 ?_
        refine q_iload_n (pc := 27) dX8_takesCellar_27 rfl ?_
        refine q_iadd (pc := 28) dX8_takesCellar_28 ?_
        refine q_iconst (pc := 29) dX8_takesCellar_29 ?_
        refine q_iconst (pc := 30) dX8_takesCellar_30 ?_
        refine q_invokevirtual (pc := 31) (d' := d - 1) (mc' := 0) (ms' := 0) (As := [_, _, _]) (TX8, 26) cl_X8_168 dX8_takesCellar_31 rfl rfl (by assumption) rfl (by omega) rfl 0 0 (Nat.le_refl 0) (Nat.le_refl 0) ?_
        refine c_X8_takes (by omega) ⟨(zup_ne (by decide)).trans h72, zup_at, (zup_ne (by decide)).trans h76⟩ hT hp (by omega) (by omega) (by omega) (fun w1 hs1 hM1 => ?_)
        rw [if_neg h1] at hM1
        obtain ⟨h721, h771, h761⟩ := id hM1
        refine q_ifb_eq (pc := 34) 55 dX8_takesCellar_34 rfl (fun c34 => ?_) (fun c34 => ?_)
        · refine q_iconst (pc := 55) dX8_takesCellar_55 ?_
          refine q_istore_n (pc := 56) [some _, some _, some _, none] dX8_takesCellar_56 rfl (Nat.le_of_ble_eq_true rfl) rfl ?_
          refine q_iload_n (pc := 57) dX8_takesCellar_57 rfl ?_
          refine q_if_eq (pc := 58) (by omega) 65 dX8_takesCellar_58 rfl (fun c58 => ?_) (fun c58 => ?_)
          · refine q_iconst (pc := 65) dX8_takesCellar_65 ?_
            refine q_istore_n (pc := 66) [some _, some _, some _, some _] dX8_takesCellar_66 rfl (Nat.le_of_ble_eq_true rfl) rfl ?_
            refine q_iload_n (pc := 67) dX8_takesCellar_67 rfl ?_
            refine q_bipush (pc := 68) (by decide) dX8_takesCellar_68 ?_
            refine q_icmp_ge (pc := 70) (by omega) (by omega) 138 dX8_takesCellar_70 rfl (fun c70 => ?_) (fun c70 => ?_)
            · refine q_iload_n (pc := 138) dX8_takesCellar_138 rfl ?_
              refine q_zreturn0 (P := false = true) (by decide) (pc := 139) dX8_takesCellar_139 rfl ?_
              exact k _ _ _ false ((zS2.o77 (zSame.up (by omega))).tr hs1) hM1 hx1 (fun z => by cases z) (fun _ => ⟨rfl, rfl⟩)
            refine q_iload_n (pc := 73) dX8_takesCellar_73 rfl ?_
            refine q_if_eq (pc := 74) (by omega) 138 dX8_takesCellar_74 rfl (fun c74 => ?_) (fun c74 => ?_)
            · refine q_iload_n (pc := 138) dX8_takesCellar_138 rfl ?_
              refine q_zreturn0 (P := false = true) (by decide) (pc := 139) dX8_takesCellar_139 rfl ?_
              exact k _ _ _ false ((zS2.o77 (zSame.up (by omega))).tr hs1) hM1 hx1 (fun z => by cases z) (fun _ => ⟨rfl, rfl⟩)
            exfalso; omega
          exfalso; omega
        exact absurd (by assumption) h1
      exfalso; omega
end X8I
