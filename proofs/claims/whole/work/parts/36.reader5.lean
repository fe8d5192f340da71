/-! the Reader's cellar; the whole text -/
def zitem (T : Int → Int) (len : Int) (N : Int → Int) (p : Int) : Bool × (Int → Int) × Int :=
  if zword T len p 1 then zicel T len N p else if zword T len p 2 then zislg T len N p else if zword T len p 3 then zicld T len N p else if zword T len p 4 then ziwks T len N p else (false, N, p)
def zrd (T : Int → Int) (len : Int) : Nat → Int → (Int → Int) → Int → Int × (Int → Int)
  | 0, it, N, _ => (it, N)
  | q + 1, it, N, p => if ztk T len p = 0 then (it, N) else if (zitem T len N p).1 = true then zrd T len q (it + 1) (zitem T len N p).2.1 (zitem T len N p).2.2 else (-10 - zsrt T len (zitem T len N p).2.2, N)
def zread (T : Int → Int) (len : Int) : Int × (Int → Int) :=
  if zword T len 0 0 then (if (zistore T len (zempty 0) 0).1 = true then zrd T len 151 1 (zistore T len (zempty 0) 0).2.1 (zistore T len (zempty 0) 0).2.2 else (-10 - zsrt T len (zistore T len (zempty 0) 0).2.2, zempty 0)) else (-10 - zsrt T len 0, zempty 0)
/-- what an item leaves -/
def zGd (len p : Int) (r : Bool × (Int → Int) × Int) : Prop := zOK r.2.1 ∧ p ≤ r.2.2 ∧ r.2.2 ≤ len ∧ (r.1 = true → p < r.2.2)
theorem znx_le {T : Int → Int} {len p : Int} (h : 0 ≤ p ∧ p ≤ len) : p ≤ znxt T len p := by
  have h1 := zsrt_b (T := T) h.2
  have h2 := znxt_b (T := T) h.2
  omega
theorem zfin_gd {T : Int → Int} {len p0 p : Int} {N : Int → Int} (hO : zOK N) (h0 : p0 ≤ p) (hp : 0 ≤ p ∧ p ≤ len) : zGd len p0 (zfin T len N p) := by
  have h1 := znx (T := T) hp
  have h2 := zsrt_b (T := T) hp.2
  unfold zfin
  by_cases h : ztk T len p = 3
  · have h3 := znxt_up (T := T) hp.2 hp.1 (ztk_0 (by omega))
    rw [if_pos h]; exact ⟨hO, by show p0 ≤ znxt T len p; omega, h1.2, fun _ => by show p0 < znxt T len p; omega⟩
  · rw [if_neg h]; exact ⟨hO, h0, hp.2, fun z => by cases z⟩
theorem zno_gd {len p0 p : Int} {N : Int → Int} (hO : zOK N) (h0 : p0 ≤ p) (hp : p ≤ len) : zGd len p0 (false, N, p) := ⟨hO, h0, hp, fun z => by cases z⟩
theorem zempty_ok {v : Int} (hv : 0 ≤ v ∧ v ≤ 9) : zOK (zempty v) := by
  have e : ∀ j, j ≠ 4 → zempty v j = 0 := fun j hj => if_neg hj
  have e4 : zempty v 4 = v := if_pos rfl
  refine ⟨?_, fun c a b => ?_, fun c r a b a2 b2 => ?_, fun s a b => ?_, fun s a b => ?_, fun i a b => ?_, fun i a b => ?_, fun i a b => ?_⟩
  · rw [zHd, e 0 (by omega), e 1 (by omega), e 2 (by omega), e 3 (by omega), e4, e 5 (by omega), e 6 (by omega), e 7 (by omega)]
    omega
  · rw [e 0 (by omega)] at b; omega
  · rw [e _ (by omega)]; omega
  · rw [e 1 (by omega)] at b; omega
  · rw [e 2 (by omega)] at b; omega
  · rw [e 5 (by omega)] at b; omega
  · rw [e 6 (by omega)] at b; omega
  · rw [e 7 (by omega)] at b; omega
section ZGD
variable {T N : Int → Int} {len p : Int}
theorem zistore_gd (hT : zTx T len) (hO : zOK N) (hp : 0 ≤ p ∧ p ≤ len) : zGd len p (zistore T len N p) := by
  have h1 := znx (T := T) hp
  have h2 := znx (T := T) h1
  have g1 := znx_le (T := T) hp
  have g2 := znx_le (T := T) h1
  unfold zistore
  by_cases h : znum T len 0 9 (znxt T len p)
  · rw [if_pos h]; exact zfin_gd (zfu4_ok hO h.2) (by omega) h2
  · rw [if_neg h]; exact zno_gd hO g1 h1.2
theorem ziwks_gd (hT : zTx T len) (hO : zOK N) (hp : 0 ≤ p ∧ p ≤ len) : zGd len p (ziwks T len N p) := by
  have h1 := znx (T := T) hp
  have h2 := znx (T := T) h1
  have g1 := znx_le (T := T) hp
  have g2 := znx_le (T := T) h1
  unfold ziwks
  by_cases h : znum T len 1 99 (znxt T len p)
  · rw [if_pos h]; exact zfin_gd (zweeks_ok hO _) (by omega) h2
  · rw [if_neg h]; exact zno_gd hO g1 h1.2
theorem zislg_gd (hT : zTx T len) (hO : zOK N) (hp : 0 ≤ p ∧ p ≤ len) : zGd len p (zislg T len N p) := by
  have hH := hO.1
  have h1 := znx (T := T) hp
  have h2 := znx (T := T) h1
  have h3 := znx (T := T) h2
  have g1 := znx_le (T := T) hp
  have g2 := znx_le (T := T) h1
  have g3 := znx_le (T := T) h2
  unfold zislg zitwo
  by_cases h0 : N 1 = 6
  · rw [if_pos h0]; exact zno_gd hO (by omega) hp.2
  · rw [if_neg h0]
    by_cases h : znum T len 0 5 (znxt T len p)
    · rw [if_pos h]
      by_cases h4 : znum T len 0 9 (znxt T len (znxt T len p))
      · rw [if_pos h4]; exact zfin_gd (znews_ok hO (by omega) h.2 h4.2) (by omega) h3
      · rw [if_neg h4]; exact zno_gd hO (by omega) h2.2
    · rw [if_neg h]; exact zno_gd hO g1 h1.2
theorem zicld_gd (hT : zTx T len) (hO : zOK N) (hp : 0 ≤ p ∧ p ≤ len) : zGd len p (zicld T len N p) := by
  have hH := hO.1
  have h1 := znx (T := T) hp
  have h2 := znx (T := T) h1
  have h3 := znx (T := T) h2
  have g1 := znx_le (T := T) hp
  have g2 := znx_le (T := T) h1
  have g3 := znx_le (T := T) h2
  unfold zicld zitwo
  by_cases h0 : N 2 = 4
  · rw [if_pos h0]; exact zno_gd hO (by omega) hp.2
  · rw [if_neg h0]
    by_cases h : znum T len 1 30 (znxt T len p)
    · rw [if_pos h]
      by_cases h4 : znum T len 1 40 (znxt T len (znxt T len p))
      · rw [if_pos h4]; exact zfin_gd (znewk_ok hO (by omega) h.2 h4.2) (by omega) h3
      · rw [if_neg h4]; exact zno_gd hO (by omega) h2.2
    · rw [if_neg h]; exact zno_gd hO g1 h1.2
theorem zcst_gd (hT : zTx T len) {c : Int} : ∀ (q : Nat) (r : Int) (N : Int → Int) (p : Int), zOK N → 0 ≤ c → c < N 0 → 1 ≤ r → r + q ≤ 10 → 0 ≤ p ∧ p ≤ len → zOK (zcst T len c q r N p).1 ∧ p ≤ (zcst T len c q r N p).2 ∧ (zcst T len c q r N p).2 ≤ len
  | 0, r, N, p, hO, _, _, _, _, hp => ⟨hO, Int.le_refl _, hp.2⟩
  | q + 1, r, N, p, hO, h0, h1, h2, h3, hp => by
    rw [zcst]
    by_cases h : ztk T len p = 2
    · rw [if_pos h]
      have hH := hO.1
      have hv := znv_b hT hp h
      have e0 : zfu N (18 + 10 * c + r) (znv T len p) 0 = N 0 := if_neg (by omega)
      have h4 := zcst_gd hT (c := c) q (r + 1) (zfu N (18 + 10 * c + r) (znv T len p)) (znxt T len p) (zput_ok hO ⟨h0, h1⟩ (by omega) hv) h0 (by rw [e0]; exact h1) (by omega) (by omega) (znx hp)
      have g1 := znx_le (T := T) hp
      exact ⟨h4.1, by omega, h4.2.2⟩
    · rw [if_neg h]; exact ⟨hO, Int.le_refl _, hp.2⟩
theorem zicel_gd (hT : zTx T len) (hO : zOK N) (hp : 0 ≤ p ∧ p ≤ len) : zGd len p (zicel T len N p) := by
  have hH := hO.1
  have h1 := znx (T := T) hp
  have h2 := znx (T := T) h1
  have h3 := znx (T := T) h2
  have g1 := znx_le (T := T) hp
  have g2 := znx_le (T := T) h1
  have g3 := znx_le (T := T) h2
  unfold zicel
  by_cases h0 : N 0 = 5
  · rw [if_pos h0]; exact zno_gd hO (by omega) hp.2
  · rw [if_neg h0]
    by_cases h : znum T len 0 5 (znxt T len p)
    · rw [if_pos h]
      by_cases h4 : znum T len 0 9 (znxt T len (znxt T len p))
      · rw [if_pos h4]
        have h5 := zcst_gd hT (c := N 0) 9 1 (znewc N (znv T len (znxt T len p)) (znv T len (znxt T len (znxt T len p)))) (znxt T len (znxt T len (znxt T len p))) (znewc_ok hO (by omega) h.2 h4.2) (by omega) (by rw [znewc_0]; omega) (by omega) (by omega) h3
        exact zfin_gd h5.1 (by omega) ⟨by omega, h5.2.2⟩
      · rw [if_neg h4]; exact zno_gd hO (by omega) h2.2
    · rw [if_neg h]; exact zno_gd hO g1 h1.2
theorem zitem_gd (hT : zTx T len) (hO : zOK N) (hp : 0 ≤ p ∧ p ≤ len) : zGd len p (zitem T len N p) := by
  unfold zitem
  split
  · exact zicel_gd hT hO hp
  · split
    · exact zislg_gd hT hO hp
    · split
      · exact zicld_gd hT hO hp
      · split
        · exact ziwks_gd hT hO hp
        · exact zno_gd hO (by omega) hp.2
theorem zrd_ok (hT : zTx T len) : ∀ (q : Nat) (it : Int) (N : Int → Int) (p : Int), zOK N → 0 ≤ p ∧ p ≤ len → 1 ≤ it → it ≤ p → len - p < q → ((0 ≤ (zrd T len q it N p).1 → zOK (zrd T len q it N p).2) ∧ -160 ≤ (zrd T len q it N p).1 ∧ (zrd T len q it N p).1 ≤ 150)
  | 0, it, N, p, hO, hp, h1, h2, h3 => by omega
  | q + 1, it, N, p, hO, hp, h1, h2, h3 => by
    have hl := hT.1
    have hg := zitem_gd hT hO hp
    have hs := zsrt_b (T := T) hg.2.2.1
    rw [zrd]
    by_cases h : ztk T len p = 0
    · rw [if_pos h]; exact ⟨fun _ => hO, by show -160 ≤ it; omega, by show it ≤ 150; omega⟩
    · rw [if_neg h]
      by_cases h4 : (zitem T len N p).1 = true
      · rw [if_pos h4]
        have h5 := hg.2.2.2 h4
        exact zrd_ok hT q (it + 1) _ _ hg.1 ⟨by omega, hg.2.2.1⟩ (by omega) (by omega) (by omega)
      · rw [if_neg h4]
        have h6 := hg.2.1
        have h7 := hg.2.2.1
        refine ⟨fun z => ?_, ?_, ?_⟩
        · have z : 0 ≤ -10 - zsrt T len (zitem T len N p).2.2 := z
          omega
        · show -160 ≤ -10 - zsrt T len (zitem T len N p).2.2
          omega
        · show -10 - zsrt T len (zitem T len N p).2.2 ≤ 150
          omega
theorem zread_ok (hT : zTx T len) : ((0 ≤ (zread T len).1 → zOK (zread T len).2) ∧ -160 ≤ (zread T len).1 ∧ (zread T len).1 ≤ 150) := by
  have hl := hT.1
  have hg := zistore_gd (p := 0) hT (zempty_ok (v := 0) (by omega)) (by omega)
  have hs := zsrt_b (T := T) hg.2.2.1
  have hs0 := zsrt_b (T := T) (nx := 0) (len := len) (by omega)
  have h6 := hg.2.1
  have h7 := hg.2.2.1
  unfold zread
  split
  · split
    · rename_i h5
      have h8 := hg.2.2.2 h5
      exact zrd_ok hT 151 1 _ _ hg.1 ⟨by omega, h7⟩ (by omega) (by omega) (by omega)
    · refine ⟨fun z => ?_, ?_, ?_⟩
      · have z : 0 ≤ -10 - zsrt T len (zistore T len (zempty 0) 0).2.2 := z
        omega
      · show -160 ≤ -10 - zsrt T len (zistore T len (zempty 0) 0).2.2
        omega
      · show -10 - zsrt T len (zistore T len (zempty 0) 0).2.2 ≤ 150
        omega
  · refine ⟨fun z => ?_, ?_, ?_⟩
    · have z : 0 ≤ -10 - zsrt T len 0 := z
      omega
    · show -160 ≤ -10 - zsrt T len 0
      omega
    · show -10 - zsrt T len 0 ≤ 150
      omega
end ZGD
section X3E
variable {g : zG} {d : Nat} {w : zWd} {K : Option Value → zWd → Prop} {db : Nat} {T N P : Int → Int} {len p : Int}
set_option maxRecDepth 100000 in
set_option maxHeartbeats 4000000 in
theorem c_X3_cellarItem (hd : 4 ≤ d) (hF : zRS g w db T len p) (hT : w.1 (db + 16) = some (.inr (false, 150, T))) (hb : zTx T len) (hp : 0 ≤ p ∧ p ≤ len) (hS : zSto g w db N 0 P) (hO : zOK N) (k : ∀ w', zSame w w' db 16 → zIt g w' db T len P (zicel T len N p) → K (some (zI (zb ((zicel T len N p).1 = true)))) w') : zCall g d 0 0 mX3_cellarItem [zR g (db + 15)] w K := by
  have hF0 := hF
  obtain ⟨nm, hR, hv, hm⟩ := hF
  have hH := hO.1
  have hx1 := znx (T := T) hp
  have hx2 := znx (T := T) hx1
  have hx3 := znx (T := T) hx2
  unfold zicel at k
  by_cases h0 : N 0 = 5
  · rw [if_pos h0] at k
    refine zenter [some _, none, none, none, none] pn_X3 rfl (Nat.le_of_ble_eq_true rfl) ?_
    refine q_aload_n (pc := 0) dX3_cellarItem_0 rfl rfl ?_
    refine q_getfield (pc := 1) gf_X3_15 dX3_cellarItem_1 (by assumption) rfl ?_
    refine q_getfield (pc := 4) gf_X3_81 dX3_cellarItem_4 hS.o rfl ?_
    refine q_invokevirtual (pc := 7) (d' := d - 1) (mc' := 0) (ms' := 0) (As := []) (TX4, 4) cl_X3_85 dX3_cellarItem_7 rfl rfl hS.s0 rfl (by omega) rfl 0 0 (Nat.le_refl 0) (Nat.le_refl 0) ?_
    refine s_full0 hS hO.1 ?_
    refine q_ifb_eq (pc := 10) 15 dX3_cellarItem_10 rfl (fun c10 => ?_) (fun c10 => ?_)
    · exfalso; omega
    refine q_iconst (pc := 13) dX3_cellarItem_13 ?_
    exact q_zreturn0 (pc := 14) (fun z => by cases z) dX3_cellarItem_14 rfl (k _ zSame.rf ⟨hF0, hS⟩)
  · rw [if_neg h0] at k
    by_cases h1 : znum T len 0 5 (znxt T len p)
    · have h1' := h1
      unfold znum at h1'
      rw [if_pos h1] at k
      by_cases h2 : znum T len 0 9 (znxt T len (znxt T len p))
      · have h2' := h2
        unfold znum at h2'
        rw [if_pos h2] at k
        have hgd := zcst_gd hb (c := N 0) 9 1 (znewc N (znv T len (znxt T len p)) (znv T len (znxt T len (znxt T len p)))) (znxt T len (znxt T len (znxt T len p))) (znewc_ok hO (by omega) h1.2 h2.2) (by omega) (by rw [znewc_0]; omega) (by omega) (by omega) hx3
        generalize hz : zcst T len (N 0) 9 1 (znewc N (znv T len (znxt T len p)) (znv T len (znxt T len (znxt T len p)))) (znxt T len (znxt T len (znxt T len p))) = Z at k hgd
        obtain ⟨NF, pF⟩ := Z
        rw [zfin_b] at k
        have hgd : zOK NF ∧ znxt T len (znxt T len (znxt T len p)) ≤ pF ∧ pF ≤ len := hgd
        have k : ∀ w', zSame w w' db 16 → zIt g w' db T len P (zfin T len NF pF) → K (some (zI (zb (ztk T len pF = 3)))) w' := k
        have J101 : ∀ (w1 : zWd) (x1 x2 x3 x4 : Option Value), zSame w w1 db 16 → zRS g w1 db T len pF → zSto g w1 db NF 0 P → zRuns g d mX3_cellarItem 0 0 101 [some (zR g (db + 15)), x1, x2, x3, x4] [] w1 K := by
          intro w1 x1 x2 x3 x4 hs hF hS
          have hT1 := (hs.2 (db + 16) (by omega)).trans hT
          obtain ⟨nm1, hR1, hv1, hm1⟩ := id hF
          refine q_aload_n (pc := 101) dX3_cellarItem_101 rfl rfl ?_
          refine q_invokevirtual (pc := 102) (d' := d - 1) (mc' := 0) (ms' := 0) (As := []) (TX3, 7) cl_X3_78 dX3_cellarItem_102 rfl rfl (by assumption) rfl (by omega) rfl 0 0 (Nat.le_refl 0) (Nat.le_refl 0) ?_
          refine c_X3_itemEnds (by omega) hF hT1 hb (by omega) (fun w5 hs5 hF5 => ?_)
          refine q_zreturn (pc := 105) dX3_cellarItem_105 rfl ?_
          exact k _ (hs.tr (hs5.wide (by omega) (by omega))) (zfin_it hF5 (hS.keep hs5 (by omega)))
        have L : ∀ (q : Nat) (r : Int) (N1 : Int → Int) (p1 : Int) (w1 : zWd) (x1 x2 : Option Value), r + q = 10 → 1 ≤ r → zSame w w1 db 16 → zRS g w1 db T len p1 → zSto g w1 db N1 0 P → zOK N1 → N 0 < N1 0 → 0 ≤ p1 ∧ p1 ≤ len → zcst T len (N 0) q r N1 p1 = (NF, pF) → zRuns g d mX3_cellarItem 0 0 63 [some (zR g (db + 15)), x1, x2, some (zI (N 0)), some (zI r)] [] w1 K := by
          intro q
          induction q with
          | zero =>
            intro r N1 p1 w1 x1 x2 hr h1 hs hF hS hO1 hc hp1 ez
            obtain ⟨rfl, rfl⟩ := Prod.mk.inj (show (N1, p1) = (NF, pF) from ez)
            refine q_iload (pc := 63) dX3_cellarItem_63 rfl ?_
            refine q_bipush (pc := 65) (by decide) dX3_cellarItem_65 ?_
            refine q_icmp_gt (pc := 67) (by omega) (by omega) 101 dX3_cellarItem_67 rfl (fun c67 => ?_) (fun c67 => ?_)
            · exact J101 _ _ _ _ _ hs hF hS
            exfalso; omega
          | succ q ih =>
            intro r N1 p1 w1 x1 x2 hr h1 hs hF hS hO1 hc hp1 ez
            have hT1 := (hs.2 (db + 16) (by omega)).trans hT
            obtain ⟨nm1, hR1, hv1, hm1⟩ := id hF
            have ht := ztk_b (T := T) (len := len) (p := p1)
            have hH1 := hO1.1
            rw [zcst] at ez
            by_cases h3 : ztk T len p1 = 2
            · rw [if_pos h3] at ez
              have hv3 := znv_b hb hp1 h3
              have hn3 : znum T len 0 99 p1 := ⟨h3, hv3⟩
              have e0 : zfu N1 (18 + 10 * N 0 + r) (znv T len p1) 0 = N1 0 := if_neg (by omega)
              have hih := ih (r + 1) (zfu N1 (18 + 10 * N 0 + r) (znv T len p1)) (znxt T len p1)
              refine q_iload (pc := 63) dX3_cellarItem_63 rfl ?_
              refine q_bipush (pc := 65) (by decide) dX3_cellarItem_65 ?_
              refine q_icmp_gt (pc := 67) (by omega) (by omega) 101 dX3_cellarItem_67 rfl (fun c67 => ?_) (fun c67 => ?_)
              · exfalso; omega
              refine q_aload_n (pc := 70) dX3_cellarItem_70 rfl rfl ?_
              refine q_getfield (pc := 71) gf_X3_45 dX3_cellarItem_71 (by assumption) rfl ?_
              refine q_iconst (pc := 74) dX3_cellarItem_74 ?_
              refine q_icmp_ne (pc := 75) (by omega) (by omega) 101 dX3_cellarItem_75 rfl (fun c75 => ?_) (fun c75 => ?_)
              · exfalso; omega
              refine q_aload_n (pc := 78) dX3_cellarItem_78 rfl rfl ?_
              refine q_getfield (pc := 79) gf_X3_15 dX3_cellarItem_79 (by assumption) rfl ?_
              refine q_iload_n (pc := 82) dX3_cellarItem_82 rfl ?_
              refine q_iload (pc := 83) dX3_cellarItem_83 rfl ?_
              refine q_aload_n (pc := 85) dX3_cellarItem_85 rfl rfl ?_
              refine q_iconst (pc := 86) dX3_cellarItem_86 ?_
              refine q_bipush (pc := 87) (by decide) dX3_cellarItem_87 ?_
              refine q_invokevirtual (pc := 89) (d' := d - 1) (mc' := 0) (ms' := 0) (As := [_, _]) (TX3, 7) cl_X3_71 dX3_cellarItem_89 rfl rfl (by assumption) rfl (by omega) rfl 0 0 (Nat.le_refl 0) (Nat.le_refl 0) ?_
              refine c_X3_takeNumber (by omega) hF hT1 hb hp1 (by omega) (by omega) (fun w2 hs2 hF2 => ?_)
              rw [if_pos hn3] at hF2 ⊢
              have hS2 := hS.keep hs2 (by omega)
              refine q_invokevirtual (pc := 92) (d' := d - 1) (mc' := 0) (ms' := 0) (As := [_, _, _]) (TX6, 9) cl_X3_93 dX3_cellarItem_92 rfl rfl hS2.o rfl (by omega) rfl 0 0 (Nat.le_refl 0) (Nat.le_refl 0) ?_
              refine c_X6_putStones (by omega) hS2 hH1 (by omega) (by omega) (fun w3 hs3 hS3 => ?_)
              refine q_iinc (pc := 95) [some _, _, _, some _, some _] dX3_cellarItem_95 rfl rfl rfl ?_
              refine q_goto (pc := 98) 63 dX3_cellarItem_98 rfl ?_
              exact hih _ _ _ (by omega) (by omega) (hs.tr ((hs2.wide (by omega) (by omega)).tr (hs3.wide (by omega) (by omega)))) (hF2.keep hs3 (by omega)) hS3 (zput_ok hO1 (by omega) (by omega) hv3) (by rw [e0]; exact hc) (znx hp1) ez
            · rw [if_neg h3] at ez
              obtain ⟨rfl, rfl⟩ := Prod.mk.inj ez
              refine q_iload (pc := 63) dX3_cellarItem_63 rfl ?_
              refine q_bipush (pc := 65) (by decide) dX3_cellarItem_65 ?_
              refine q_icmp_gt (pc := 67) (by omega) (by omega) 101 dX3_cellarItem_67 rfl (fun c67 => ?_) (fun c67 => ?_)
              · exact J101 _ _ _ _ _ hs hF hS
              refine q_aload_n (pc := 70) dX3_cellarItem_70 rfl rfl ?_
              refine q_getfield (pc := 71) gf_X3_45 dX3_cellarItem_71 (by assumption) rfl ?_
              refine q_iconst (pc := 74) dX3_cellarItem_74 ?_
              refine q_icmp_ne (pc := 75) (by omega) (by omega) 101 dX3_cellarItem_75 rfl (fun c75 => ?_) (fun c75 => ?_)
              · exact J101 _ _ _ _ _ hs hF hS
              exfalso; omega
        refine zenter [some _, none, none, none, none] pn_X3 rfl (Nat.le_of_ble_eq_true rfl) ?_
        refine q_aload_n (pc := 0) dX3_cellarItem_0 rfl rfl ?_
        refine q_getfield (pc := 1) gf_X3_15 dX3_cellarItem_1 (by assumption) rfl ?_
        refine q_getfield (pc := 4) gf_X3_81 dX3_cellarItem_4 hS.o rfl ?_
        refine q_invokevirtual (pc := 7) (d' := d - 1) (mc' := 0) (ms' := 0) (As := []) (TX4, 4) cl_X3_85 dX3_cellarItem_7 rfl rfl hS.s0 rfl (by omega) rfl 0 0 (Nat.le_refl 0) (Nat.le_refl 0) ?_
        refine s_full0 hS hO.1 ?_
        refine q_ifb_eq (pc := 10) 15 dX3_cellarItem_10 rfl (fun c10 => ?_) (fun c10 => ?_)
        · refine q_aload_n (pc := 15) dX3_cellarItem_15 rfl rfl ?_
          refine q_invokevirtual (pc := 16) (d' := d - 1) (mc' := 0) (ms' := 0) (As := []) (TX3, 7) cl_X3_32 dX3_cellarItem_16 rfl rfl (by assumption) rfl (by omega) rfl 0 0 (Nat.le_refl 0) (Nat.le_refl 0) ?_
          refine r_advance (by omega) hR hT hb (by omega) hm (fun w1 hs1 hF1 => ?_)
          obtain ⟨nm1, hR1, hv1, hm1⟩ := id hF1
          have hT1 := (hs1.2 (db + 16) (by omega)).trans hT
          have hS1 := hS.keep hs1 (by omega)
          refine q_aload_n (pc := 19) dX3_cellarItem_19 rfl rfl ?_
          refine q_iconst (pc := 20) dX3_cellarItem_20 ?_
          refine q_iconst (pc := 21) dX3_cellarItem_21 ?_
          refine q_invokevirtual (pc := 22) (d' := d - 1) (mc' := 0) (ms' := 0) (As := [_, _]) (TX3, 7) cl_X3_71 dX3_cellarItem_22 rfl rfl (by assumption) rfl (by omega) rfl 0 0 (Nat.le_refl 0) (Nat.le_refl 0) ?_
          refine c_X3_takeNumber (by omega) hF1 hT1 hb (by omega) (by omega) (by omega) (fun w2 hs2 hF2 => ?_)
          rw [if_pos h1] at hF2 ⊢
          obtain ⟨nm2, hR2, hv2, hm2⟩ := id hF2
          have hT2 := (hs2.2 (db + 16) (by omega)).trans hT1
          have hS2 := hS1.keep hs2 (by omega)
          refine q_istore_n (pc := 25) [some _, some _, none, none, none] dX3_cellarItem_25 rfl (Nat.le_of_ble_eq_true rfl) rfl ?_
          refine q_iload_n (pc := 26) dX3_cellarItem_26 rfl ?_
          refine q_iconst (pc := 27) dX3_cellarItem_27 ?_
          refine q_icmp_ne (pc := 28) (by omega) (by omega) 35 dX3_cellarItem_28 rfl (fun c28 => ?_) (fun c28 => ?_)
          · refine q_aload_n (pc := 35) dX3_cellarItem_35 rfl rfl ?_
            refine q_iconst (pc := 36) dX3_cellarItem_36 ?_
            refine q_bipush (pc := 37) (by decide) dX3_cellarItem_37 ?_
            refine q_invokevirtual (pc := 39) (d' := d - 1) (mc' := 0) (ms' := 0) (As := [_, _]) (TX3, 7) cl_X3_71 dX3_cellarItem_39 rfl rfl (by assumption) rfl (by omega) rfl 0 0 (Nat.le_refl 0) (Nat.le_refl 0) ?_
            refine c_X3_takeNumber (by omega) hF2 hT2 hb (by omega) (by omega) (by omega) (fun w3 hs3 hF3 => ?_)
            rw [if_pos h2] at hF3 ⊢
            obtain ⟨nm3, hR3, hv3, hm3⟩ := id hF3
            have hS3 := hS2.keep hs3 (by omega)
            refine q_istore_n (pc := 42) [some _, some _, some _, none, none] dX3_cellarItem_42 rfl (Nat.le_of_ble_eq_true rfl) rfl ?_
            refine q_iload_n (pc := 43) dX3_cellarItem_43 rfl ?_
            refine q_iconst (pc := 44) dX3_cellarItem_44 ?_
            refine q_icmp_ne (pc := 45) (by omega) (by omega) 50 dX3_cellarItem_45 rfl (fun c45 => ?_) (fun c45 => ?_)
            · refine q_aload_n (pc := 50) dX3_cellarItem_50 rfl rfl ?_
              refine q_getfield (pc := 51) gf_X3_15 dX3_cellarItem_51 (by assumption) rfl ?_
              refine q_iload_n (pc := 54) dX3_cellarItem_54 rfl ?_
              refine q_iload_n (pc := 55) dX3_cellarItem_55 rfl ?_
              refine q_invokevirtual (pc := 56) (d' := d - 1) (mc' := 0) (ms' := 0) (As := [_, _]) (TX6, 9) cl_X3_90 dX3_cellarItem_56 rfl rfl hS3.o rfl (by omega) rfl 0 0 (Nat.le_refl 0) (Nat.le_refl 0) ?_
              refine c_X6_addCellar (by omega) hS3 hO (by omega) (fun w4 hs4 hS4 => ?_)
              refine q_istore_n (pc := 59) [some _, some _, some _, some _, none] dX3_cellarItem_59 rfl (Nat.le_of_ble_eq_true rfl) rfl ?_
              refine q_iconst (pc := 60) dX3_cellarItem_60 ?_
              refine q_istore (pc := 61) [some _, some _, some _, some _, some _] dX3_cellarItem_61 rfl (Nat.le_of_ble_eq_true rfl) rfl ?_
              exact L 9 1 _ _ _ _ _ (by omega) (by omega) (((hs1.wide (by omega) (by omega)).tr (hs2.wide (by omega) (by omega))).tr ((hs3.wide (by omega) (by omega)).tr (hs4.wide (by omega) (by omega)))) (hF3.keep hs4 (by omega)) hS4 (znewc_ok hO (by omega) h1.2 h2.2) (by rw [znewc_0]; omega) hx3 hz
            exfalso; omega
          exfalso; omega
        exfalso; omega
      · rw [if_neg h2] at k
        refine zenter [some _, none, none, none, none] pn_X3 rfl (Nat.le_of_ble_eq_true rfl) ?_
        refine q_aload_n (pc := 0) dX3_cellarItem_0 rfl rfl ?_
        refine q_getfield (pc := 1) gf_X3_15 dX3_cellarItem_1 (by assumption) rfl ?_
        refine q_getfield (pc := 4) gf_X3_81 dX3_cellarItem_4 hS.o rfl ?_
        refine q_invokevirtual (pc := 7) (d' := d - 1) (mc' := 0) (ms' := 0) (As := []) (TX4, 4) cl_X3_85 dX3_cellarItem_7 rfl rfl hS.s0 rfl (by omega) rfl 0 0 (Nat.le_refl 0) (Nat.le_refl 0) ?_
        refine s_full0 hS hO.1 ?_
        refine q_ifb_eq (pc := 10) 15 dX3_cellarItem_10 rfl (fun c10 => ?_) (fun c10 => ?_)
        · refine q_aload_n (pc := 15) dX3_cellarItem_15 rfl rfl ?_
          refine q_invokevirtual (pc := 16) (d' := d - 1) (mc' := 0) (ms' := 0) (As := []) (TX3, 7) cl_X3_32 dX3_cellarItem_16 rfl rfl (by assumption) rfl (by omega) rfl 0 0 (Nat.le_refl 0) (Nat.le_refl 0) ?_
          refine r_advance (by omega) hR hT hb (by omega) hm (fun w1 hs1 hF1 => ?_)
          obtain ⟨nm1, hR1, hv1, hm1⟩ := id hF1
          have hT1 := (hs1.2 (db + 16) (by omega)).trans hT
          have hS1 := hS.keep hs1 (by omega)
          refine q_aload_n (pc := 19) dX3_cellarItem_19 rfl rfl ?_
          refine q_iconst (pc := 20) dX3_cellarItem_20 ?_
          refine q_iconst (pc := 21) dX3_cellarItem_21 ?_
          refine q_invokevirtual (pc := 22) (d' := d - 1) (mc' := 0) (ms' := 0) (As := [_, _]) (TX3, 7) cl_X3_71 dX3_cellarItem_22 rfl rfl (by assumption) rfl (by omega) rfl 0 0 (Nat.le_refl 0) (Nat.le_refl 0) ?_
          refine c_X3_takeNumber (by omega) hF1 hT1 hb (by omega) (by omega) (by omega) (fun w2 hs2 hF2 => ?_)
          rw [if_pos h1] at hF2 ⊢
          obtain ⟨nm2, hR2, hv2, hm2⟩ := id hF2
          have hT2 := (hs2.2 (db + 16) (by omega)).trans hT1
          have hS2 := hS1.keep hs2 (by omega)
          refine q_istore_n (pc := 25) [some _, some _, none, none, none] dX3_cellarItem_25 rfl (Nat.le_of_ble_eq_true rfl) rfl ?_
          refine q_iload_n (pc := 26) dX3_cellarItem_26 rfl ?_
          refine q_iconst (pc := 27) dX3_cellarItem_27 ?_
          refine q_icmp_ne (pc := 28) (by omega) (by omega) 35 dX3_cellarItem_28 rfl (fun c28 => ?_) (fun c28 => ?_)
          · refine q_aload_n (pc := 35) dX3_cellarItem_35 rfl rfl ?_
            refine q_iconst (pc := 36) dX3_cellarItem_36 ?_
            refine q_bipush (pc := 37) (by decide) dX3_cellarItem_37 ?_
            refine q_invokevirtual (pc := 39) (d' := d - 1) (mc' := 0) (ms' := 0) (As := [_, _]) (TX3, 7) cl_X3_71 dX3_cellarItem_39 rfl rfl (by assumption) rfl (by omega) rfl 0 0 (Nat.le_refl 0) (Nat.le_refl 0) ?_
            refine c_X3_takeNumber (by omega) hF2 hT2 hb (by omega) (by omega) (by omega) (fun w3 hs3 hF3 => ?_)
            rw [if_neg h2] at hF3 ⊢
            have hS3 := hS2.keep hs3 (by omega)
            refine q_istore_n (pc := 42) [some _, some _, some _, none, none] dX3_cellarItem_42 rfl (Nat.le_of_ble_eq_true rfl) rfl ?_
            refine q_iload_n (pc := 43) dX3_cellarItem_43 rfl ?_
            refine q_iconst (pc := 44) dX3_cellarItem_44 ?_
            refine q_icmp_ne (pc := 45) (by omega) (by omega) 50 dX3_cellarItem_45 rfl (fun c45 => ?_) (fun c45 => ?_)
            · exfalso; omega
            refine q_iconst (pc := 48) dX3_cellarItem_48 ?_
            exact q_zreturn0 (pc := 49) (fun z => by cases z) dX3_cellarItem_49 rfl (k _ (((hs1.wide (by omega) (by omega)).tr (hs2.wide (by omega) (by omega))).tr (hs3.wide (by omega) (by omega))) ⟨hF3, hS3⟩)
          exfalso; omega
        exfalso; omega
    · rw [if_neg h1] at k
      refine zenter [some _, none, none, none, none] pn_X3 rfl (Nat.le_of_ble_eq_true rfl) ?_
      refine q_aload_n (pc := 0) dX3_cellarItem_0 rfl rfl ?_
      refine q_getfield (pc := 1) gf_X3_15 dX3_cellarItem_1 (by assumption) rfl ?_
      refine q_getfield (pc := 4) gf_X3_81 dX3_cellarItem_4 hS.o rfl ?_
      refine q_invokevirtual (pc := 7) (d' := d - 1) (mc' := 0) (ms' := 0) (As := []) (TX4, 4) cl_X3_85 dX3_cellarItem_7 rfl rfl hS.s0 rfl (by omega) rfl 0 0 (Nat.le_refl 0) (Nat.le_refl 0) ?_
      refine s_full0 hS hO.1 ?_
      refine q_ifb_eq (pc := 10) 15 dX3_cellarItem_10 rfl (fun c10 => ?_) (fun c10 => ?_)
      · refine q_aload_n (pc := 15) dX3_cellarItem_15 rfl rfl ?_
        refine q_invokevirtual (pc := 16) (d' := d - 1) (mc' := 0) (ms' := 0) (As := []) (TX3, 7) cl_X3_32 dX3_cellarItem_16 rfl rfl (by assumption) rfl (by omega) rfl 0 0 (Nat.le_refl 0) (Nat.le_refl 0) ?_
        refine r_advance (by omega) hR hT hb (by omega) hm (fun w1 hs1 hF1 => ?_)
        obtain ⟨nm1, hR1, hv1, hm1⟩ := id hF1
        have hT1 := (hs1.2 (db + 16) (by omega)).trans hT
        have hS1 := hS.keep hs1 (by omega)
        refine q_aload_n (pc := 19) dX3_cellarItem_19 rfl rfl ?_
        refine q_iconst (pc := 20) dX3_cellarItem_20 ?_
        refine q_iconst (pc := 21) dX3_cellarItem_21 ?_
        refine q_invokevirtual (pc := 22) (d' := d - 1) (mc' := 0) (ms' := 0) (As := [_, _]) (TX3, 7) cl_X3_71 dX3_cellarItem_22 rfl rfl (by assumption) rfl (by omega) rfl 0 0 (Nat.le_refl 0) (Nat.le_refl 0) ?_
        refine c_X3_takeNumber (by omega) hF1 hT1 hb (by omega) (by omega) (by omega) (fun w2 hs2 hF2 => ?_)
        rw [if_neg h1] at hF2 ⊢
        have hS2 := hS1.keep hs2 (by omega)
        refine q_istore_n (pc := 25) [some _, some _, none, none, none] dX3_cellarItem_25 rfl (Nat.le_of_ble_eq_true rfl) rfl ?_
        refine q_iload_n (pc := 26) dX3_cellarItem_26 rfl ?_
        refine q_iconst (pc := 27) dX3_cellarItem_27 ?_
        refine q_icmp_ne (pc := 28) (by omega) (by omega) 35 dX3_cellarItem_28 rfl (fun c28 => ?_) (fun c28 => ?_)
        · exfalso; omega
        refine q_iconst (pc := 31) dX3_cellarItem_31 ?_
        refine q_goto (pc := 32) 42 dX3_cellarItem_32 rfl ?_
        refine q_istore_n (pc := 42) [some _, some _, some _, none, none] dX3_cellarItem_42 rfl (Nat.le_of_ble_eq_true rfl) rfl ?_
        refine q_iload_n (pc := 43) dX3_cellarItem_43 rfl ?_
        refine q_iconst (pc := 44) dX3_cellarItem_44 ?_
        refine q_icmp_ne (pc := 45) (by omega) (by omega) 50 dX3_cellarItem_45 rfl (fun c45 => ?_) (fun c45 => ?_)
        · exfalso; omega
        refine q_iconst (pc := 48) dX3_cellarItem_48 ?_
        exact q_zreturn0 (pc := 49) (fun z => by cases z) dX3_cellarItem_49 rfl (k _ ((hs1.wide (by omega) (by omega)).tr (hs2.wide (by omega) (by omega))) ⟨hF2, hS2⟩)
      exfalso; omega
set_option maxRecDepth 100000 in
set_option maxHeartbeats 4000000 in
theorem c_X3_readStore {nx st tk nm : Int} (hd : 5 ≤ d) (hR : w.1 (db + 15) = some (zRd g (db + 15) db len nx st tk nm)) (hm : zR32 nm) (hT : w.1 (db + 16) = some (.inr (false, 150, T))) (hb : zTx T len) (hD : zShp g w db) (k : ∀ w' nx st tk nm, zSame w w' db 16 → w'.1 (db + 15) = some (zRd g (db + 15) db len nx st tk nm) → zR32 nm → zShp g w' db → (0 ≤ (zread T len).1 → zSto g w' db (zread T len).2 0 P) → K (some (zI (zread T len).1)) w') : zCall g d 0 0 mX3_readStore [zR g (db + 15)] w K := by
  have hl := hb.1
  have J41f : ∀ (w1 : zWd) (it p1 : Int), zSame w w1 db 16 → zRS g w1 db T len p1 → zShp g w1 db → 0 ≤ p1 ∧ p1 ≤ len → (zread T len).1 = -10 - zsrt T len p1 → zRuns g d mX3_readStore 0 0 41 [some (zR g (db + 15)), some (zI 0), some (zI it)] [] w1 K := by
    intro w1 it p1 hs hF hS hp e
    obtain ⟨nm1, hR1, hv1, hm1⟩ := id hF
    have h1 := zsrt_b (T := T) hp.2
    rw [e] at k
    refine q_iload_n (pc := 41) dX3_readStore_41 rfl ?_
    refine q_if_eq (pc := 42) (by omega) 135 dX3_readStore_42 rfl (fun c42 => ?_) (fun c42 => ?_)
    · refine q_iload_n (pc := 135) dX3_readStore_135 rfl ?_
      refine q_if_eq (pc := 136) (by omega) 143 dX3_readStore_136 rfl (fun c136 => ?_) (fun c136 => ?_)
      · refine q_bipush (pc := 143) (by decide) dX3_readStore_143 ?_
        refine q_aload_n (pc := 145) dX3_readStore_145 rfl rfl ?_
        refine q_getfield (pc := 146) gf_X3_68 dX3_readStore_146 (by assumption) rfl ?_
        refine q_isub (pc := 149) dX3_readStore_149 ?_
        refine q_ireturn (pc := 150) dX3_readStore_150 rfl ?_
        exact k _ _ _ _ _ hs hR1 hm1 hS (fun z => by omega)
      exfalso; omega
    exfalso; omega
  have L : ∀ (q : Nat) (it : Int) (N1 : Int → Int) (p1 : Int) (w1 : zWd), zOK N1 → 0 ≤ p1 ∧ p1 ≤ len → 1 ≤ it → it ≤ p1 → len - p1 < q → zSame w w1 db 16 → zIt g w1 db T len P (true, N1, p1) → zread T len = zrd T len q it N1 p1 → zRuns g d mX3_readStore 0 0 41 [some (zR g (db + 15)), some (zI 1), some (zI it)] [] w1 K := by
    intro q
    induction q with
    | zero => intro it N1 p1 w1 hO hp h1 h2 h3; omega
    | succ q ih =>
      intro it N1 p1 w1 hO hp h1 h2 h3 hs hI ez
      obtain ⟨hF, hS⟩ := hI
      have hF : zRS g w1 db T len p1 := hF
      have hS : zSto g w1 db N1 0 P := hS
      obtain ⟨nm1, hR1, hv1, hm1⟩ := id hF
      have ht := ztk_b (T := T) (len := len) (p := p1)
      have hT1 := (hs.2 (db + 16) (by omega)).trans hT
      have hg := zitem_gd hb hO hp
      have hg2 := hg.2.1
      have hg3 := hg.2.2.1
      rw [zrd] at ez
      by_cases h0 : ztk T len p1 = 0
      · rw [if_pos h0] at ez
        rw [ez] at k
        refine q_iload_n (pc := 41) dX3_readStore_41 rfl ?_
        refine q_if_eq (pc := 42) (by omega) 135 dX3_readStore_42 rfl (fun c42 => ?_) (fun c42 => ?_)
        · refine q_iload_n (pc := 135) dX3_readStore_135 rfl ?_
          refine q_if_eq (pc := 136) (by omega) 143 dX3_readStore_136 rfl (fun c136 => ?_) (fun c136 => ?_)
          · exfalso; omega
          refine q_iload_n (pc := 139) dX3_readStore_139 rfl ?_
          refine q_goto (pc := 140) 150 dX3_readStore_140 rfl ?_
          refine q_ireturn (pc := 150) dX3_readStore_150 rfl ?_
          first | (exfalso; omega; done) | exact k _ _ _ _ _ hs hR1 hm1 hS.shp (fun _ => hS)
        refine q_aload_n (pc := 45) dX3_readStore_45 rfl rfl ?_
        refine q_getfield (pc := 46) gf_X3_45 dX3_readStore_46 (by assumption) rfl ?_
        refine q_if_eq (pc := 49) (by omega) 135 dX3_readStore_49 rfl (fun c49 => ?_) (fun c49 => ?_)
        · refine q_iload_n (pc := 135) dX3_readStore_135 rfl ?_
          refine q_if_eq (pc := 136) (by omega) 143 dX3_readStore_136 rfl (fun c136 => ?_) (fun c136 => ?_)
          · exfalso; omega
          refine q_iload_n (pc := 139) dX3_readStore_139 rfl ?_
          refine q_goto (pc := 140) 150 dX3_readStore_140 rfl ?_
          refine q_ireturn (pc := 150) dX3_readStore_150 rfl ?_
          first | (exfalso; omega; done) | exact k _ _ _ _ _ hs hR1 hm1 hS.shp (fun _ => hS)
        exfalso; omega
      · rw [if_neg h0] at ez
        have hlt := zt0_0 (T := T) hp.2 hp.1 (ztk_0 h0)
        have hle := zsrt_b (T := T) hp.2
        have J128 : ∀ (w2 : zWd) (X : Bool × (Int → Int) × Int) (x : Option Value), X = zitem T len N1 p1 → zSame w1 w2 db 16 → zIt g w2 db T len P X → zRuns g d mX3_readStore 0 0 128 [some (zR g (db + 15)), x, some (zI it)] [zI (zb (X.1 = true))] w2 K := by
          intro w2 X x eX hs2 hI2
          rw [← eX] at ez hg hg2 hg3
          by_cases h4 : X.1 = true
          · rw [if_pos h4] at ez
            rw [zb_t h4]
            have h5 := hg.2.2.2 h4
            refine q_istore_n (pc := 128) [some _, some _, some _] dX3_readStore_128 rfl (Nat.le_of_ble_eq_true rfl) rfl ?_
            refine q_iinc (pc := 129) [some _, some _, some _] dX3_readStore_129 rfl rfl rfl ?_
            refine q_goto (pc := 132) 41 dX3_readStore_132 rfl ?_
            exact ih (it + 1) X.2.1 X.2.2 w2 hg.1 (by omega) (by omega) (by omega) (by omega) (hs.tr hs2) hI2 ez
          · rw [if_neg h4] at ez
            rw [zb_f h4]
            refine q_istore_n (pc := 128) [some _, some _, some _] dX3_readStore_128 rfl (Nat.le_of_ble_eq_true rfl) rfl ?_
            refine q_iinc (pc := 129) [some _, some _, some _] dX3_readStore_129 rfl rfl rfl ?_
            refine q_goto (pc := 132) 41 dX3_readStore_132 rfl ?_
            exact J41f w2 _ X.2.2 (hs.tr hs2) hI2.1 hI2.2.shp (by omega) (by rw [ez])
        have J127 : ∀ (w2 : zWd) (X : Bool × (Int → Int) × Int) (x : Option Value), X = zitem T len N1 p1 → ¬ X.1 = true → zSame w1 w2 db 16 → zIt g w2 db T len P X → zRuns g d mX3_readStore 0 0 127 [some (zR g (db + 15)), x, some (zI it)] [] w2 K := by
          intro w2 X x eX h4 hs2 hI2
          have h5 := J128 w2 X x eX hs2 hI2
          rw [zb_f h4] at h5
          exact q_iconst (pc := 127) dX3_readStore_127 h5
        refine q_iload_n (pc := 41) dX3_readStore_41 rfl ?_
        refine q_if_eq (pc := 42) (by omega) 135 dX3_readStore_42 rfl (fun c42 => ?_) (fun c42 => ?_)
        · exfalso; omega
        refine q_aload_n (pc := 45) dX3_readStore_45 rfl rfl ?_
        refine q_getfield (pc := 46) gf_X3_45 dX3_readStore_46 (by assumption) rfl ?_
        refine q_if_eq (pc := 49) (by omega) 135 dX3_readStore_49 rfl (fun c49 => ?_) (fun c49 => ?_)
        · exfalso; omega
        refine q_iload_n (pc := 52) dX3_readStore_52 rfl ?_
        refine q_sipush (pc := 53) (by decide) dX3_readStore_53 ?_
        refine q_icmp_gt (pc := 56) (by omega) (by omega) 135 dX3_readStore_56 rfl (fun c56 => ?_) (fun c56 => ?_)
        · exfalso; omega
        refine q_aload_n (pc := 59) dX3_readStore_59 rfl rfl ?_
        refine q_ldcS (pc := 60) (i := 1) rfl (by decide) rfl dX3_readStore_60 ?_
        refine q_invokevirtual (pc := 62) (d' := d - 1) (mc' := 0) (ms' := 0) (As := [_]) (TX3, 7) cl_X3_37 dX3_readStore_62 rfl rfl (by assumption) rfl (by omega) rfl 0 0 (Nat.le_refl 0) (Nat.le_refl 0) ?_
        refine c_X3_atWord (by omega) (by decide) hF hT1 hb hp ?_
        refine q_ifb_eq (pc := 65) 75 dX3_readStore_65 rfl (fun c65 => ?_) (fun c65 => ?_)
        · refine q_aload_n (pc := 75) dX3_readStore_75 rfl rfl ?_
          refine q_ldcS (pc := 76) (i := 2) rfl (by decide) rfl dX3_readStore_76 ?_
          refine q_invokevirtual (pc := 78) (d' := d - 1) (mc' := 0) (ms' := 0) (As := [_]) (TX3, 7) cl_X3_37 dX3_readStore_78 rfl rfl (by assumption) rfl (by omega) rfl 0 0 (Nat.le_refl 0) (Nat.le_refl 0) ?_
          refine c_X3_atWord (by omega) (by decide) hF hT1 hb hp ?_
          refine q_ifb_eq (pc := 81) 91 dX3_readStore_81 rfl (fun c81 => ?_) (fun c81 => ?_)
          · refine q_aload_n (pc := 91) dX3_readStore_91 rfl rfl ?_
            refine q_ldcS (pc := 92) (i := 3) rfl (by decide) rfl dX3_readStore_92 ?_
            refine q_invokevirtual (pc := 94) (d' := d - 1) (mc' := 0) (ms' := 0) (As := [_]) (TX3, 7) cl_X3_37 dX3_readStore_94 rfl rfl (by assumption) rfl (by omega) rfl 0 0 (Nat.le_refl 0) (Nat.le_refl 0) ?_
            refine c_X3_atWord (by omega) (by decide) hF hT1 hb hp ?_
            refine q_ifb_eq (pc := 97) 107 dX3_readStore_97 rfl (fun c97 => ?_) (fun c97 => ?_)
            · refine q_aload_n (pc := 107) dX3_readStore_107 rfl rfl ?_
              refine q_ldcS (pc := 108) (i := 4) rfl (by decide) rfl dX3_readStore_108 ?_
              refine q_invokevirtual (pc := 110) (d' := d - 1) (mc' := 0) (ms' := 0) (As := [_]) (TX3, 7) cl_X3_37 dX3_readStore_110 rfl rfl (by assumption) rfl (by omega) rfl 0 0 (Nat.le_refl 0) (Nat.le_refl 0) ?_
              refine c_X3_atWord (by omega) (by decide) hF hT1 hb hp ?_
              refine q_ifb_eq (pc := 113) 127 dX3_readStore_113 rfl (fun c113 => ?_) (fun c113 => ?_)
              · first | exact J127 _ (ziwks T len N1 p1) _ (by rw [zitem, if_neg c65, if_neg c81, if_neg c97, if_pos c113]) c120 hs2 hI2 | exact J127 _ (false, N1, p1) _ (by rw [zitem, if_neg c65, if_neg c81, if_neg c97, if_neg c113]) (fun z => by cases z) zSame.rf ⟨hF, hS⟩
              refine q_aload_n (pc := 116) dX3_readStore_116 rfl rfl ?_
              refine q_invokevirtual (pc := 117) (d' := d - 1) (mc' := 0) (ms' := 0) (As := []) (TX3, 7) cl_X3_65 dX3_readStore_117 rfl rfl (by assumption) rfl (by omega) rfl 0 0 (Nat.le_refl 0) (Nat.le_refl 0) ?_
              refine c_X3_weeksItem (by omega) hF hT1 hb hp hS hO (fun w2 hs2 hI2 => ?_)
              refine q_ifb_eq (pc := 120) 127 dX3_readStore_120 rfl (fun c120 => ?_) (fun c120 => ?_)
              · first | exact J127 _ (ziwks T len N1 p1) _ (by rw [zitem, if_neg c65, if_neg c81, if_neg c97, if_pos c113]) c120 hs2 hI2 | exact J127 _ (false, N1, p1) _ (by rw [zitem, if_neg c65, if_neg c81, if_neg c97, if_neg c113]) (fun z => by cases z) zSame.rf ⟨hF, hS⟩
              refine q_iconst (pc := 123) dX3_readStore_123 ?_
              refine q_goto (pc := 124) 128 dX3_readStore_124 rfl ?_
              have h9 := J128 w2 (ziwks T len N1 p1) (some (zI 1)) (by rw [zitem, if_neg c65, if_neg c81, if_neg c97, if_pos c113]) hs2 hI2
              rw [zb_t c120] at h9
              exact h9
            refine q_aload_n (pc := 100) dX3_readStore_100 rfl rfl ?_
            refine q_invokevirtual (pc := 101) (d' := d - 1) (mc' := 0) (ms' := 0) (As := []) (TX3, 7) cl_X3_60 dX3_readStore_101 rfl rfl (by assumption) rfl (by omega) rfl 0 0 (Nat.le_refl 0) (Nat.le_refl 0) ?_
            refine c_X3_cloudItem (by omega) hF hT1 hb hp hS hO (fun w2 hs2 hI2 => ?_)
            refine q_goto (pc := 104) 128 dX3_readStore_104 rfl ?_
            first | exact J128 _ (zicel T len N1 p1) _ (by rw [zitem, if_pos c65]) hs2 hI2 | exact J128 _ (zislg T len N1 p1) _ (by rw [zitem, if_neg c65, if_pos c81]) hs2 hI2 | exact J128 _ (zicld T len N1 p1) _ (by rw [zitem, if_neg c65, if_neg c81, if_pos c97]) hs2 hI2
          refine q_aload_n (pc := 84) dX3_readStore_84 rfl rfl ?_
          refine q_invokevirtual (pc := 85) (d' := d - 1) (mc' := 0) (ms' := 0) (As := []) (TX3, 7) cl_X3_55 dX3_readStore_85 rfl rfl (by assumption) rfl (by omega) rfl 0 0 (Nat.le_refl 0) (Nat.le_refl 0) ?_
          refine c_X3_slingerItem (by omega) hF hT1 hb hp hS hO (fun w2 hs2 hI2 => ?_)
          refine q_goto (pc := 88) 128 dX3_readStore_88 rfl ?_
          first | exact J128 _ (zicel T len N1 p1) _ (by rw [zitem, if_pos c65]) hs2 hI2 | exact J128 _ (zislg T len N1 p1) _ (by rw [zitem, if_neg c65, if_pos c81]) hs2 hI2 | exact J128 _ (zicld T len N1 p1) _ (by rw [zitem, if_neg c65, if_neg c81, if_pos c97]) hs2 hI2
        refine q_aload_n (pc := 68) dX3_readStore_68 rfl rfl ?_
        refine q_invokevirtual (pc := 69) (d' := d - 1) (mc' := 0) (ms' := 0) (As := []) (TX3, 7) cl_X3_50 dX3_readStore_69 rfl rfl (by assumption) rfl (by omega) rfl 0 0 (Nat.le_refl 0) (Nat.le_refl 0) ?_
        refine c_X3_cellarItem (by omega) hF hT1 hb hp hS hO (fun w2 hs2 hI2 => ?_)
        refine q_goto (pc := 72) 128 dX3_readStore_72 rfl ?_
        first | exact J128 _ (zicel T len N1 p1) _ (by rw [zitem, if_pos c65]) hs2 hI2 | exact J128 _ (zislg T len N1 p1) _ (by rw [zitem, if_neg c65, if_pos c81]) hs2 hI2 | exact J128 _ (zicld T len N1 p1) _ (by rw [zitem, if_neg c65, if_neg c81, if_pos c97]) hs2 hI2
  have J38 : ∀ (w2 : zWd) (v : Int), zRuns g d mX3_readStore 0 0 41 [some (zR g (db + 15)), some (zI v), some (zI 1)] [] w2 K → zRuns g d mX3_readStore 0 0 38 [some (zR g (db + 15)), none, none] [zI v] w2 K := by
    intro w2 v h9
    refine q_istore_n (pc := 38) [some _, some _, none] dX3_readStore_38 rfl (Nat.le_of_ble_eq_true rfl) rfl ?_
    refine q_iconst (pc := 39) dX3_readStore_39 ?_
    refine q_istore_n (pc := 40) [some _, some _, some _] dX3_readStore_40 rfl (Nat.le_of_ble_eq_true rfl) rfl ?_
    exact h9
  obtain ⟨a3, a4, n0, n1, n2, n3, n4, n5, n6, C0, C1, C2, C3, C4, C5, C6, hS7⟩ := hD.s7
  have hO0 : zOK (zempty 0) := zempty_ok (by omega)
  have hg := zistore_gd (p := 0) hb hO0 (by omega)
  have hg2 := hg.2.1
  have hg3 := hg.2.2.1
  refine zenter [some _, none, none] pn_X3 rfl (Nat.le_of_ble_eq_true rfl) ?_
  refine q_aload_n (pc := 0) dX3_readStore_0 rfl rfl ?_
  refine q_getfield (pc := 1) gf_X3_15 dX3_readStore_1 (by assumption) rfl ?_
  refine q_iconst (pc := 4) dX3_readStore_4 ?_
  refine q_invokevirtual (pc := 5) (d' := d - 1) (mc' := 0) (ms' := 0) (As := [_]) (TX6, 9) cl_X3_23 dX3_readStore_5 rfl rfl hS7.o rfl (by omega) rfl 0 0 (Nat.le_refl 0) (Nat.le_refl 0) ?_
  refine c_X6_reset (by omega) hD (fun w1 hs1 hS1 => ?_)
  have hS1 := hS1 P
  have hR1 := (hs1.2 (db + 15) (by omega)).trans hR
  have hT1 := (hs1.2 (db + 16) (by omega)).trans hT
  refine q_aload_n (pc := 8) dX3_readStore_8 rfl rfl ?_
  refine q_iconst (pc := 9) dX3_readStore_9 ?_
  refine q_putfield2 (pc := 10) [_, _, _, _, _, _, _] pf_X3_29 dX3_readStore_10 (by assumption) rfl rfl (Nat.le_of_ble_eq_true rfl) rfl ?_
  refine q_aload_n (pc := 13) dX3_readStore_13 rfl rfl ?_
  refine q_invokevirtual (pc := 14) (d' := d - 1) (mc' := 0) (ms' := 0) (As := []) (TX3, 7) cl_X3_32 dX3_readStore_14 rfl rfl (by simp only [zup]; rw [if_pos trivial]) rfl (by omega) rfl 0 0 (Nat.le_refl 0) (Nat.le_refl 0) ?_
  refine r_advance (nx := 0) (st := st) (tk := tk) (nm := nm) (by omega) (by simp only [zup]; rw [if_pos trivial]) (by simp only [zup]; rw [if_neg (by omega)]; exact hT1) hb (by omega) hm (fun w2 hs2 hF2 => ?_)
  obtain ⟨nm2, hR2, hv2, hm2⟩ := id hF2
  have hS2 := (hS1.keep (zSame.up (k := db + 15) (b := db + 15) (len := 1) (by omega)) (by omega)).keep hs2 (by omega)
  have hs2 := (hs1.wide (b' := db) (len' := 16) (by omega) (by omega)).tr ((zSame.up (by omega)).tr (hs2.wide (by omega) (by omega)))
  have hT2 := (hs2.2 (db + 16) (by omega)).trans hT
  refine q_aload_n (pc := 17) dX3_readStore_17 rfl rfl ?_
  refine q_ldcS (pc := 18) (i := 0) rfl (by decide) rfl dX3_readStore_18 ?_
  refine q_invokevirtual (pc := 20) (d' := d - 1) (mc' := 0) (ms' := 0) (As := [_]) (TX3, 7) cl_X3_37 dX3_readStore_20 rfl rfl (by assumption) rfl (by omega) rfl 0 0 (Nat.le_refl 0) (Nat.le_refl 0) ?_
  refine c_X3_atWord (by omega) (by decide) hF2 hT2 hb (by omega) ?_
  refine q_ifb_eq (pc := 23) 37 dX3_readStore_23 rfl (fun c23 => ?_) (fun c23 => ?_)
  · first | exact q_iconst (pc := 37) dX3_readStore_37 (J38 _ _ (J41f w3 _ _ (hs2.tr hs3) hI3.1 hI3.2.shp (by omega) (by unfold zread; rw [if_pos c23, if_neg c30]))) | exact q_iconst (pc := 37) dX3_readStore_37 (J38 _ _ (J41f w2 _ 0 hs2 hF2 hS2.shp (by omega) (by unfold zread; rw [if_neg c23])))
  refine q_aload_n (pc := 26) dX3_readStore_26 rfl rfl ?_
  refine q_invokevirtual (pc := 27) (d' := d - 1) (mc' := 0) (ms' := 0) (As := []) (TX3, 7) cl_X3_41 dX3_readStore_27 rfl rfl (by assumption) rfl (by omega) rfl 0 0 (Nat.le_refl 0) (Nat.le_refl 0) ?_
  refine c_X3_storeItem (by omega) hF2 hT2 hb (by omega) hS2 (fun w3 hs3 hI3 => ?_)
  refine q_ifb_eq (pc := 30) 37 dX3_readStore_30 rfl (fun c30 => ?_) (fun c30 => ?_)
  · first | exact q_iconst (pc := 37) dX3_readStore_37 (J38 _ _ (J41f w3 _ _ (hs2.tr hs3) hI3.1 hI3.2.shp (by omega) (by unfold zread; rw [if_pos c23, if_neg c30]))) | exact q_iconst (pc := 37) dX3_readStore_37 (J38 _ _ (J41f w2 _ 0 hs2 hF2 hS2.shp (by omega) (by unfold zread; rw [if_neg c23])))
  refine q_iconst (pc := 33) dX3_readStore_33 ?_
  refine q_goto (pc := 34) 38 dX3_readStore_34 rfl ?_
  have h5 := hg.2.2.2 c30
  exact J38 _ _ (L 151 1 (zistore T len (zempty 0) 0).2.1 (zistore T len (zempty 0) 0).2.2 w3 hg.1 (by omega) (by omega) (by omega) (by omega) (hs2.tr hs3) ⟨hI3.1, hI3.2⟩ (by unfold zread; rw [if_pos c23, if_pos c30]))
end X3E
