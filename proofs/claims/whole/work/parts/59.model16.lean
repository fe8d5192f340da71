/-! the reference reads: the text -/
section X8J
variable {g : zG} {d : Nat} {w : zWd} {K : Option Value → zWd → Prop} {T N : Int → Int} {len p ab be u it sm : Int}
set_option maxRecDepth 100000 in
set_option maxHeartbeats 8000000 in
theorem c_X8_takesItem {X : Bool × (Int → Int) × Int} (hX : X = (if it = 0 then (if zword T len p 0 then zistore T len N p else (false, N, p)) else zitem T len N p)) (hd : 5 ≤ d) (hM : zRM g ab be u len it sm T w N p) (hT : zTx T len) (hp : 0 ≤ p ∧ p ≤ len) (hO : zOK N) (hi : 0 ≤ it ∧ it ≤ 200) (h8 : ∀ j, 88 ≤ j → N j = 0) (k : ∀ w' N' p', zS2 w w' → zRM g ab be u len it sm T w' N' p' → 0 ≤ p' ∧ p' ≤ len → (X.1 = true → X = (true, N', znxt T len p')) → (X.1 = false → X.2.2 = p') → K (some (zI (zb (X.1 = true)))) w') : zCall g d 0 0 mX8_takesItem [zR g 72] w K := by
  have hH := hO.1
  have hx1 := znx (T := T) hp
  obtain ⟨h72, h77, h76⟩ := id hM
  have ht : ∀ q, 0 ≤ zt0 T len q ∧ zt0 T len q ≤ 4 := fun q => ztok_b _
  have ht1 := ht p
  have J177 : ∀ (w1 : zWd) (N' : Int → Int) (p' : Int) (x1 x2 x3 : Option Value), zS2 w w1 → zRM g ab be u len it sm T w1 N' p' → 0 ≤ p' ∧ p' ≤ len → X = zfin T len N' p' → zRuns g d mX8_takesItem 0 0 177 [some (zR g 72), x1, x2, x3, some (zI 1)] [] w1 K := by
    intro w1 N' p' x1 x2 x3 hs hM1 hp1 h3
    have ht2 := ht p'
    obtain ⟨h721, h771, h761⟩ := id hM1
    by_cases t3 : zt0 T len p' = 3
    · rw [zfin_3 t3] at h3
      have h4 : X.1 = true := by rw [h3]
      refine q_iload (pc := 177) dX8_takesItem_177 rfl ?_
      refine q_if_eq (pc := 179) (by omega) 194 dX8_takesItem_179 rfl (fun c179 => ?_) (fun c179 => ?_)
      · exfalso; omega
      refine q_aload_n (pc := 182) dX8_takesItem_182 rfl rfl ?_
      refine q_getfield (pc := 183) gf_X8_154 dX8_takesItem_183 (by assumption) rfl ?_
      refine q_iconst (pc := 186) dX8_takesItem_186 ?_
      refine q_icmp_ne (pc := 187) (by omega) (by omega) 194 dX8_takesItem_187 rfl (fun c187 => ?_) (fun c187 => ?_)
      · exfalso; omega
      refine q_iconst (pc := 190) dX8_takesItem_190 ?_
      refine q_goto (pc := 191) 195 dX8_takesItem_191 rfl ?_
      exact q_zreturn1 (pc := 195) h4 dX8_takesItem_195 rfl (k _ _ _ hs hM1 hp1 (fun _ => h3) (fun z => by rw [h3] at z; cases z))
    · rw [zfin_n t3] at h3
      have h4 : X.1 = false := by rw [h3]
      refine q_iload (pc := 177) dX8_takesItem_177 rfl ?_
      refine q_if_eq (pc := 179) (by omega) 194 dX8_takesItem_179 rfl (fun c179 => ?_) (fun c179 => ?_)
      · refine q_iconst (pc := 194) dX8_takesItem_194 ?_
        exact q_zreturn0 (pc := 195) (by rw [h4]; decide) dX8_takesItem_195 rfl (k _ _ _ hs hM1 hp1 (fun z => by rw [h3] at z; cases z) (fun _ => by rw [h3]))
      refine q_aload_n (pc := 182) dX8_takesItem_182 rfl rfl ?_
      refine q_getfield (pc := 183) gf_X8_154 dX8_takesItem_183 (by assumption) rfl ?_
      refine q_iconst (pc := 186) dX8_takesItem_186 ?_
      refine q_icmp_ne (pc := 187) (by omega) (by omega) 194 dX8_takesItem_187 rfl (fun c187 => ?_) (fun c187 => ?_)
      · refine q_iconst (pc := 194) dX8_takesItem_194 ?_
        exact q_zreturn0 (pc := 195) (by rw [h4]; decide) dX8_takesItem_195 rfl (k _ _ _ hs hM1 hp1 (fun z => by rw [h3] at z; cases z) (fun _ => by rw [h3]))
      exfalso; omega
  have J168 : ∀ (w1 : zWd) (N' : Int → Int) (p' v : Int) (b : Bool) (x1 x2 x3 : Option Value), v = zb (b = true) → zS2 w w1 → zRM g ab be u len it sm T w1 N' p' → 0 ≤ p' ∧ p' ≤ len → (b = true → X = zfin T len N' (znxt T len p')) → (b = false → X.1 = false ∧ X.2.2 = p') → zRuns g d mX8_takesItem 0 0 168 [some (zR g 72), x1, x2, x3, some (zI v)] [] w1 K := by
    intro w1 N' p' v b x1 x2 x3 hv hs hM1 hp1 h1 h2
    subst hv
    obtain ⟨h721, h771, h761⟩ := id hM1
    cases b with
    | false =>
      obtain ⟨h3, h4⟩ := h2 rfl
      rw [zb_f (by decide)]
      refine q_iload (pc := 168) dX8_takesItem_168 rfl ?_
      refine q_if_eq (pc := 170) (by omega) 177 dX8_takesItem_170 rfl (fun c170 => ?_) (fun c170 => ?_)
      · refine q_iload (pc := 177) dX8_takesItem_177 rfl ?_
        refine q_if_eq (pc := 179) (by omega) 194 dX8_takesItem_179 rfl (fun c179 => ?_) (fun c179 => ?_)
        · refine q_iconst (pc := 194) dX8_takesItem_194 ?_
          exact q_zreturn0 (pc := 195) (by rw [h3]; decide) dX8_takesItem_195 rfl (k _ _ _ hs hM1 hp1 (fun z => by rw [h3] at z; cases z) (fun _ => h4))
        exfalso; omega
      exfalso; omega
    | true =>
      have h3 := h1 rfl
      rw [zb_t rfl]
      refine q_iload (pc := 168) dX8_takesItem_168 rfl ?_
      refine q_if_eq (pc := 170) (by omega) 177 dX8_takesItem_170 rfl (fun c170 => ?_) (fun c170 => ?_)
      · first | (exfalso; omega; done) | exact J177 _ _ _ _ _ _ (hs.tr hs2) hM2 (znx hp1) h3
      refine q_aload_n (pc := 173) dX8_takesItem_173 rfl rfl ?_
      refine q_invokevirtual (pc := 174) (d' := d - 1) (mc' := 0) (ms' := 0) (As := []) (TX8, 26) cl_X8_165 dX8_takesItem_174 rfl rfl (by assumption) rfl (by omega) rfl 0 0 (Nat.le_refl 0) (Nat.le_refl 0) ?_
      refine t_next (by omega) hM1 hT hp1 (fun w2 hs2 hM2 => ?_)
      first | (exfalso; omega; done) | exact J177 _ _ _ _ _ _ (hs.tr hs2) hM2 (znx hp1) h3
  have J68 : ∀ (w1 : zWd) (N' : Int → Int) (p' : Int) (x1 x2 x3 : Option Value), zS2 w w1 → zRM g ab be u len it sm T w1 N' p' → 0 ≤ p' ∧ p' ≤ len → X = zfin T len N' p' → zRuns g d mX8_takesItem 0 0 68 [some (zR g 72), x1, x2, x3, some (zI 1)] [] w1 K := by
    intro w1 N' p' x1 x2 x3 hs hM1 hp1 h3
    have ht2 := ht p'
    obtain ⟨h721, h771, h761⟩ := id hM1
    by_cases t3 : zt0 T len p' = 3
    · rw [zfin_3 t3] at h3
      have h4 : X.1 = true := by rw [h3]
      refine q_iload (pc := 68) dX8_takesItem_68 rfl ?_
      refine q_if_eq (pc := 70) (by omega) 85 dX8_takesItem_70 rfl (fun c70 => ?_) (fun c70 => ?_)
      · exfalso; omega
      refine q_aload_n (pc := 73) dX8_takesItem_73 rfl rfl ?_
      refine q_getfield (pc := 74) gf_X8_154 dX8_takesItem_74 (by assumption) rfl ?_
      refine q_iconst (pc := 77) dX8_takesItem_77 ?_
      refine q_icmp_ne (pc := 78) (by omega) (by omega) 85 dX8_takesItem_78 rfl (fun c78 => ?_) (fun c78 => ?_)
      · exfalso; omega
      refine q_iconst (pc := 81) dX8_takesItem_81 ?_
      refine q_goto (pc := 82) 86 dX8_takesItem_82 rfl ?_
      exact q_zreturn1 (pc := 86) h4 dX8_takesItem_86 rfl (k _ _ _ hs hM1 hp1 (fun _ => h3) (fun z => by rw [h3] at z; cases z))
    · rw [zfin_n t3] at h3
      have h4 : X.1 = false := by rw [h3]
      refine q_iload (pc := 68) dX8_takesItem_68 rfl ?_
      refine q_if_eq (pc := 70) (by omega) 85 dX8_takesItem_70 rfl (fun c70 => ?_) (fun c70 => ?_)
      · refine q_iconst (pc := 85) dX8_takesItem_85 ?_
        exact q_zreturn0 (pc := 86) (by rw [h4]; decide) dX8_takesItem_86 rfl (k _ _ _ hs hM1 hp1 (fun z => by rw [h3] at z; cases z) (fun _ => by rw [h3]))
      refine q_aload_n (pc := 73) dX8_takesItem_73 rfl rfl ?_
      refine q_getfield (pc := 74) gf_X8_154 dX8_takesItem_74 (by assumption) rfl ?_
      refine q_iconst (pc := 77) dX8_takesItem_77 ?_
      refine q_icmp_ne (pc := 78) (by omega) (by omega) 85 dX8_takesItem_78 rfl (fun c78 => ?_) (fun c78 => ?_)
      · refine q_iconst (pc := 85) dX8_takesItem_85 ?_
        exact q_zreturn0 (pc := 86) (by rw [h4]; decide) dX8_takesItem_86 rfl (k _ _ _ hs hM1 hp1 (fun z => by rw [h3] at z; cases z) (fun _ => by rw [h3]))
      exfalso; omega
  have J59 : ∀ (w1 : zWd) (N' : Int → Int) (p' v : Int) (b : Bool) (x1 x2 x3 : Option Value), v = zb (b = true) → zS2 w w1 → zRM g ab be u len it sm T w1 N' p' → 0 ≤ p' ∧ p' ≤ len → (b = true → X = zfin T len N' (znxt T len p')) → (b = false → X.1 = false ∧ X.2.2 = p') → zRuns g d mX8_takesItem 0 0 59 [some (zR g 72), x1, x2, x3, some (zI v)] [] w1 K := by
    intro w1 N' p' v b x1 x2 x3 hv hs hM1 hp1 h1 h2
    subst hv
    obtain ⟨h721, h771, h761⟩ := id hM1
    cases b with
    | false =>
      obtain ⟨h3, h4⟩ := h2 rfl
      rw [zb_f (by decide)]
      refine q_iload (pc := 59) dX8_takesItem_59 rfl ?_
      refine q_if_eq (pc := 61) (by omega) 68 dX8_takesItem_61 rfl (fun c61 => ?_) (fun c61 => ?_)
      · refine q_iload (pc := 68) dX8_takesItem_68 rfl ?_
        refine q_if_eq (pc := 70) (by omega) 85 dX8_takesItem_70 rfl (fun c70 => ?_) (fun c70 => ?_)
        · refine q_iconst (pc := 85) dX8_takesItem_85 ?_
          exact q_zreturn0 (pc := 86) (by rw [h3]; decide) dX8_takesItem_86 rfl (k _ _ _ hs hM1 hp1 (fun z => by rw [h3] at z; cases z) (fun _ => h4))
        exfalso; omega
      exfalso; omega
    | true =>
      have h3 := h1 rfl
      rw [zb_t rfl]
      refine q_iload (pc := 59) dX8_takesItem_59 rfl ?_
      refine q_if_eq (pc := 61) (by omega) 68 dX8_takesItem_61 rfl (fun c61 => ?_) (fun c61 => ?_)
      · first | (exfalso; omega; done) | exact J68 _ _ _ _ _ _ (hs.tr hs2) hM2 (znx hp1) h3
      refine q_aload_n (pc := 64) dX8_takesItem_64 rfl rfl ?_
      refine q_invokevirtual (pc := 65) (d' := d - 1) (mc' := 0) (ms' := 0) (As := []) (TX8, 26) cl_X8_165 dX8_takesItem_65 rfl rfl (by assumption) rfl (by omega) rfl 0 0 (Nat.le_refl 0) (Nat.le_refl 0) ?_
      refine t_next (by omega) hM1 hT hp1 (fun w2 hs2 hM2 => ?_)
      first | (exfalso; omega; done) | exact J68 _ _ _ _ _ _ (hs.tr hs2) hM2 (znx hp1) h3
  by_cases t1 : zt0 T len p = 1
  · have hw0 := zwdM_0 hp t1
    have hw1 := zwdM_1 hp t1
    have hw2 := zwdM_2 hp t1
    have hw3 := zwdM_3 hp t1
    have hw4 := zwdM_4 hp t1
    have hl := zletters hp t1
    have hE := znxt_b (T := T) hp.2
    have hb := zwv_b (T := T) (s := zsrt T len p) (znxt T len p - zsrt T len p).toNat (fun j hj => hl j (by omega))
    generalize hV : zwv T (zsrt T len p) (znxt T len p - zsrt T len p).toNat = V at hw0 hw1 hw2 hw3 hw4 hb
    by_cases h0 : it = 0
    · rw [if_pos h0] at hX
      by_cases q0 : V = 10502465
      · rw [if_pos (hw0.mp q0)] at hX
        unfold zistore at hX
        refine zenter [some _, none, none, none, none] pn_X8 rfl (Nat.le_of_ble_eq_true rfl) ?_
        by_cases h1 : znum T len 0 9 (znxt T len p)
        · rw [if_pos h1] at hX
          refine q_aload_n (pc := 0) dX8_takesItem_0 rfl rfl ?_
          refine q_invokevirtual (pc := 1) (d' := d - 1) (mc' := 0) (ms' := 0) (As := []) (TX8, 26) cl_X8_176 dX8_takesItem_1 rfl rfl (by assumption) rfl (by omega) rfl 0 0 (Nat.le_refl 0) (Nat.le_refl 0) ?_
          refine c_X8_wordNow h72 h76 hT hp ?_
          rw [if_pos t1, hV]
          refine q_lstore_n (pc := 4) [some _, some _, none, none, none] dX8_takesItem_4 rfl (Nat.le_of_ble_eq_true rfl) rfl ?_
          refine q_aload_n (pc := 5) dX8_takesItem_5 rfl rfl ?_
          refine q_getfield (pc := 6) gf_X8_180 dX8_takesItem_6 (by assumption) rfl ?_
          refine q_if_ne (pc := 9) (by omega) 16 dX8_takesItem_9 rfl (fun c9 => ?_) (fun c9 => ?_)
          · exfalso; omega
          refine q_iconst (pc := 12) dX8_takesItem_12 ?_
          refine q_goto (pc := 13) 17 dX8_takesItem_13 rfl ?_
          refine q_istore_n (pc := 17) [some _, some _, none, some _, none] dX8_takesItem_17 rfl (Nat.le_of_ble_eq_true rfl) rfl ?_
          refine q_aload_n (pc := 18) dX8_takesItem_18 rfl rfl ?_
          refine q_getfield (pc := 19) gf_X8_154 dX8_takesItem_19 (by assumption) rfl ?_
          refine q_iconst (pc := 22) dX8_takesItem_22 ?_
          refine q_icmp_ne (pc := 23) (by omega) (by omega) 43 dX8_takesItem_23 rfl (fun c23 => ?_) (fun c23 => ?_)
          · exfalso; omega
          refine q_iload_n (pc := 26) dX8_takesItem_26 rfl ?_
          refine q_lload_n (pc := 27) dX8_takesItem_27 rfl ?_
          refine q_ldc2_w (pc := 28) tw_5_163 dX8_takesItem_28 ?_
          refine q_lcmp (pc := 31) dX8_takesItem_31 (by omega) (by omega) ?_
          refine q_ifc_ne (pc := 32) 39 dX8_takesItem_32 rfl (fun c32 => ?_) (fun c32 => ?_)
          · exfalso; omega
          refine q_iconst (pc := 35) dX8_takesItem_35 ?_
          refine q_goto (pc := 36) 40 dX8_takesItem_36 rfl ?_
          refine q_icmp_eq (pc := 40) (by omega) (by omega) 45 dX8_takesItem_40 rfl (fun c40 => ?_) (fun c40 => ?_)
          · refine q_iload_n (pc := 45) dX8_takesItem_45 rfl ?_
            refine q_if_eq (pc := 46) (by omega) 87 dX8_takesItem_46 rfl (fun c46 => ?_) (fun c46 => ?_)
            · exfalso; omega
            refine q_aload_n (pc := 49) dX8_takesItem_49 rfl rfl ?_
            refine q_iconst (pc := 50) dX8_takesItem_50 ?_
            refine q_iconst (pc := 51) dX8_takesItem_51 ?_
            refine q_bipush (pc := 52) (by decide) dX8_takesItem_52 ?_
            refine q_invokevirtual (pc := 54) (d' := d - 1) (mc' := 0) (ms' := 0) (As := [_, _, _]) (TX8, 26) cl_X8_168 dX8_takesItem_54 rfl rfl (by assumption) rfl (by omega) rfl 0 0 (Nat.le_refl 0) (Nat.le_refl 0) ?_
            refine c_X8_takes (by omega) hM hT hp (by omega) (by omega) (by omega) (fun w1 hs1 hM1 => ?_)
            rw [if_pos h1] at hM1
            refine q_istore (pc := 57) [some _, some _, none, some _, some _] dX8_takesItem_57 rfl (Nat.le_of_ble_eq_true rfl) rfl ?_
            exact J59 _ _ _ _ true _ _ _ ((zb_t h1).trans (zb_t rfl).symm) hs1 hM1 hx1 (fun _ => hX) (fun z => by cases z)
          exfalso; omega
        · rw [if_neg h1] at hX
          refine q_aload_n (pc := 0) dX8_takesItem_0 rfl rfl ?_
          refine q_invokevirtual (pc := 1) (d' := d - 1) (mc' := 0) (ms' := 0) (As := []) (TX8, 26) cl_X8_176 dX8_takesItem_1 rfl rfl (by assumption) rfl (by omega) rfl 0 0 (Nat.le_refl 0) (Nat.le_refl 0) ?_
          refine c_X8_wordNow h72 h76 hT hp ?_
          rw [if_pos t1, hV]
          refine q_lstore_n (pc := 4) [some _, some _, none, none, none] dX8_takesItem_4 rfl (Nat.le_of_ble_eq_true rfl) rfl ?_
          refine q_aload_n (pc := 5) dX8_takesItem_5 rfl rfl ?_
          refine q_getfield (pc := 6) gf_X8_180 dX8_takesItem_6 (by assumption) rfl ?_
          refine q_if_ne (pc := 9) (by omega) 16 dX8_takesItem_9 rfl (fun c9 => ?_) (fun c9 => ?_)
          · exfalso; omega
          refine q_iconst (pc := 12) dX8_takesItem_12 ?_
          refine q_goto (pc := 13) 17 dX8_takesItem_13 rfl ?_
          refine q_istore_n (pc := 17) [some _, some _, none, some _, none] dX8_takesItem_17 rfl (Nat.le_of_ble_eq_true rfl) rfl ?_
          refine q_aload_n (pc := 18) dX8_takesItem_18 rfl rfl ?_
          refine q_getfield (pc := 19) gf_X8_154 dX8_takesItem_19 (by assumption) rfl ?_
          refine q_iconst (pc := 22) dX8_takesItem_22 ?_
          refine q_icmp_ne (pc := 23) (by omega) (by omega) 43 dX8_takesItem_23 rfl (fun c23 => ?_) (fun c23 => ?_)
          · exfalso; omega
          refine q_iload_n (pc := 26) dX8_takesItem_26 rfl ?_
          refine q_lload_n (pc := 27) dX8_takesItem_27 rfl ?_
          refine q_ldc2_w (pc := 28) tw_5_163 dX8_takesItem_28 ?_
          refine q_lcmp (pc := 31) dX8_takesItem_31 (by omega) (by omega) ?_
          refine q_ifc_ne (pc := 32) 39 dX8_takesItem_32 rfl (fun c32 => ?_) (fun c32 => ?_)
          · exfalso; omega
          refine q_iconst (pc := 35) dX8_takesItem_35 ?_
          refine q_goto (pc := 36) 40 dX8_takesItem_36 rfl ?_
          refine q_icmp_eq (pc := 40) (by omega) (by omega) 45 dX8_takesItem_40 rfl (fun c40 => ?_) (fun c40 => ?_)
          · refine q_iload_n (pc := 45) dX8_takesItem_45 rfl ?_
            refine q_if_eq (pc := 46) (by omega) 87 dX8_takesItem_46 rfl (fun c46 => ?_) (fun c46 => ?_)
            · exfalso; omega
            refine q_aload_n (pc := 49) dX8_takesItem_49 rfl rfl ?_
            refine q_iconst (pc := 50) dX8_takesItem_50 ?_
            refine q_iconst (pc := 51) dX8_takesItem_51 ?_
            refine q_bipush (pc := 52) (by decide) dX8_takesItem_52 ?_
            refine q_invokevirtual (pc := 54) (d' := d - 1) (mc' := 0) (ms' := 0) (As := [_, _, _]) (TX8, 26) cl_X8_168 dX8_takesItem_54 rfl rfl (by assumption) rfl (by omega) rfl 0 0 (Nat.le_refl 0) (Nat.le_refl 0) ?_
            refine c_X8_takes (by omega) hM hT hp (by omega) (by omega) (by omega) (fun w1 hs1 hM1 => ?_)
            rw [if_neg h1] at hM1
            refine q_istore (pc := 57) [some _, some _, none, some _, some _] dX8_takesItem_57 rfl (Nat.le_of_ble_eq_true rfl) rfl ?_
            exact J59 _ _ _ _ false _ _ _ ((zb_f h1).trans (zb_f (by decide)).symm) hs1 hM1 hx1 (fun z => by cases z) (fun _ => by rw [hX]; exact ⟨rfl, rfl⟩)
          exfalso; omega
      · rw [if_neg (fun z => q0 (hw0.mpr z))] at hX
        have hX1 : X.1 = false := by rw [hX]
        refine zenter [some _, none, none, none, none] pn_X8 rfl (Nat.le_of_ble_eq_true rfl) ?_
        refine q_aload_n (pc := 0) dX8_takesItem_0 rfl rfl ?_
        refine q_invokevirtual (pc := 1) (d' := d - 1) (mc' := 0) (ms' := 0) (As := []) (TX8, 26) cl_X8_176 dX8_takesItem_1 rfl rfl (by assumption) rfl (by omega) rfl 0 0 (Nat.le_refl 0) (Nat.le_refl 0) ?_
        refine c_X8_wordNow h72 h76 hT hp ?_
        rw [if_pos t1, hV]
        refine q_lstore_n (pc := 4) [some _, some _, none, none, none] dX8_takesItem_4 rfl (Nat.le_of_ble_eq_true rfl) rfl ?_
        refine q_aload_n (pc := 5) dX8_takesItem_5 rfl rfl ?_
        refine q_getfield (pc := 6) gf_X8_180 dX8_takesItem_6 (by assumption) rfl ?_
        refine q_if_ne (pc := 9) (by omega) 16 dX8_takesItem_9 rfl (fun c9 => ?_) (fun c9 => ?_)
        · exfalso; omega
        refine q_iconst (pc := 12) dX8_takesItem_12 ?_
        refine q_goto (pc := 13) 17 dX8_takesItem_13 rfl ?_
        refine q_istore_n (pc := 17) [some _, some _, none, some _, none] dX8_takesItem_17 rfl (Nat.le_of_ble_eq_true rfl) rfl ?_
        refine q_aload_n (pc := 18) dX8_takesItem_18 rfl rfl ?_
        refine q_getfield (pc := 19) gf_X8_154 dX8_takesItem_19 (by assumption) rfl ?_
        refine q_iconst (pc := 22) dX8_takesItem_22 ?_
        refine q_icmp_ne (pc := 23) (by omega) (by omega) 43 dX8_takesItem_23 rfl (fun c23 => ?_) (fun c23 => ?_)
        · refine q_iconst (pc := 43) dX8_takesItem_43 ?_
          exact q_zreturn0 (pc := 44) (by rw [hX1]; decide) dX8_takesItem_44 rfl (k w N p .rf hM hp (fun z => by rw [hX] at z; cases z) (fun _ => by rw [hX]))
        refine q_iload_n (pc := 26) dX8_takesItem_26 rfl ?_
        refine q_lload_n (pc := 27) dX8_takesItem_27 rfl ?_
        refine q_ldc2_w (pc := 28) tw_5_163 dX8_takesItem_28 ?_
        refine q_lcmp (pc := 31) dX8_takesItem_31 (by omega) (by omega) ?_
        refine q_ifc_ne (pc := 32) 39 dX8_takesItem_32 rfl (fun c32 => ?_) (fun c32 => ?_)
        · refine q_iconst (pc := 39) dX8_takesItem_39 ?_
          refine q_icmp_eq (pc := 40) (by omega) (by omega) 45 dX8_takesItem_40 rfl (fun c40 => ?_) (fun c40 => ?_)
          · exfalso; omega
          refine q_iconst (pc := 43) dX8_takesItem_43 ?_
          exact q_zreturn0 (pc := 44) (by rw [hX1]; decide) dX8_takesItem_44 rfl (k w N p .rf hM hp (fun z => by rw [hX] at z; cases z) (fun _ => by rw [hX]))
        exfalso; omega
    · rw [if_neg h0] at hX
      unfold zitem at hX
      by_cases q0 : V = 10502465
      · rw [if_neg (fun z => absurd (hw1.mpr z) (by omega)), if_neg (fun z => absurd (hw2.mpr z) (by omega)), if_neg (fun z => absurd (hw3.mpr z) (by omega)), if_neg (fun z => absurd (hw4.mpr z) (by omega))] at hX
        have hX1 : X.1 = false := by rw [hX]
        refine zenter [some _, none, none, none, none] pn_X8 rfl (Nat.le_of_ble_eq_true rfl) ?_
        refine q_aload_n (pc := 0) dX8_takesItem_0 rfl rfl ?_
        refine q_invokevirtual (pc := 1) (d' := d - 1) (mc' := 0) (ms' := 0) (As := []) (TX8, 26) cl_X8_176 dX8_takesItem_1 rfl rfl (by assumption) rfl (by omega) rfl 0 0 (Nat.le_refl 0) (Nat.le_refl 0) ?_
        refine c_X8_wordNow h72 h76 hT hp ?_
        rw [if_pos t1, hV]
        refine q_lstore_n (pc := 4) [some _, some _, none, none, none] dX8_takesItem_4 rfl (Nat.le_of_ble_eq_true rfl) rfl ?_
        refine q_aload_n (pc := 5) dX8_takesItem_5 rfl rfl ?_
        refine q_getfield (pc := 6) gf_X8_180 dX8_takesItem_6 (by assumption) rfl ?_
        refine q_if_ne (pc := 9) (by omega) 16 dX8_takesItem_9 rfl (fun c9 => ?_) (fun c9 => ?_)
        · refine q_iconst (pc := 16) dX8_takesItem_16 ?_
          refine q_istore_n (pc := 17) [some _, some _, none, some _, none] dX8_takesItem_17 rfl (Nat.le_of_ble_eq_true rfl) rfl ?_
          refine q_aload_n (pc := 18) dX8_takesItem_18 rfl rfl ?_
          refine q_getfield (pc := 19) gf_X8_154 dX8_takesItem_19 (by assumption) rfl ?_
          refine q_iconst (pc := 22) dX8_takesItem_22 ?_
          refine q_icmp_ne (pc := 23) (by omega) (by omega) 43 dX8_takesItem_23 rfl (fun c23 => ?_) (fun c23 => ?_)
          · refine q_iconst (pc := 43) dX8_takesItem_43 ?_
            exact q_zreturn0 (pc := 44) (by rw [hX1]; decide) dX8_takesItem_44 rfl (k w N p .rf hM hp (fun z => by rw [hX] at z; cases z) (fun _ => by rw [hX]))
          refine q_iload_n (pc := 26) dX8_takesItem_26 rfl ?_
          refine q_lload_n (pc := 27) dX8_takesItem_27 rfl ?_
          refine q_ldc2_w (pc := 28) tw_5_163 dX8_takesItem_28 ?_
          refine q_lcmp (pc := 31) dX8_takesItem_31 (by omega) (by omega) ?_
          refine q_ifc_ne (pc := 32) 39 dX8_takesItem_32 rfl (fun c32 => ?_) (fun c32 => ?_)
          · exfalso; omega
          refine q_iconst (pc := 35) dX8_takesItem_35 ?_
          refine q_goto (pc := 36) 40 dX8_takesItem_36 rfl ?_
          refine q_icmp_eq (pc := 40) (by omega) (by omega) 45 dX8_takesItem_40 rfl (fun c40 => ?_) (fun c40 => ?_)
          · exfalso; omega
          refine q_iconst (pc := 43) dX8_takesItem_43 ?_
          exact q_zreturn0 (pc := 44) (by rw [hX1]; decide) dX8_takesItem_44 rfl (k w N p .rf hM hp (fun z => by rw [hX] at z; cases z) (fun _ => by rw [hX]))
        exfalso; omega
      · have J87 : zRuns g d mX8_takesItem 0 0 87 [some (zR g 72), some (zJ V), none, some (zI 0), none] [] w K := by
          by_cases q1 : V = 45948915
          · rw [if_pos (hw1.mp q1)] at hX
            refine q_lload_n (pc := 87) dX8_takesItem_87 rfl ?_
            refine q_ldc2_w (pc := 88) tw_5_168 dX8_takesItem_88 ?_
            refine q_lcmp (pc := 91) dX8_takesItem_91 (by omega) (by omega) ?_
            refine q_ifc_ne (pc := 92) 116 dX8_takesItem_92 rfl (fun c92 => ?_) (fun c92 => ?_)
            · exfalso; omega
            refine q_aload_n (pc := 95) dX8_takesItem_95 rfl rfl ?_
            refine q_invokevirtual (pc := 96) (d' := d - 1) (mc' := 0) (ms' := 0) (As := []) (TX8, 26) cl_X8_187 dX8_takesItem_96 rfl rfl (by assumption) rfl (by omega) rfl 0 0 (Nat.le_refl 0) (Nat.le_refl 0) ?_
            refine c_X8_takesCellar (by omega) hM hT hp hO (fun w1 N' p' b hs1 hM1 hp1 hb1 hb2 => ?_)
            obtain ⟨h721, h771, h761⟩ := id hM1
            have ht2 := ht p'
            refine q_ifb_eq (pc := 99) 114 dX8_takesItem_99 rfl (fun c99 => ?_) (fun c99 => ?_)
            · have hX0 : X.1 = false ∧ X.2.2 = p' := by
                rw [hX]
                first
                | exact hb2 (Bool.eq_false_iff.mpr c99)
                | (rw [hb1 (by assumption), zfin_n (by omega)]; exact ⟨rfl, rfl⟩)
              refine q_iconst (pc := 114) dX8_takesItem_114 ?_
              exact q_zreturn0 (pc := 115) (by first | exact (show X.1 = true from congrArg Prod.fst hX1) | exact (show ¬ (X.1 = true) from fun z => Bool.noConfusion (hX0.1.symm.trans z))) dX8_takesItem_115 rfl (by first | exact k _ _ _ hs1 hM1 hp1 (fun _ => hX1) (fun z => by rw [hX1] at z; cases z) | exact k _ _ _ hs1 hM1 hp1 (fun z => by rw [hX0.1] at z; cases z) (fun _ => hX0.2))
            refine q_aload_n (pc := 102) dX8_takesItem_102 rfl rfl ?_
            refine q_getfield (pc := 103) gf_X8_154 dX8_takesItem_103 (by assumption) rfl ?_
            refine q_iconst (pc := 106) dX8_takesItem_106 ?_
            refine q_icmp_ne (pc := 107) (by omega) (by omega) 114 dX8_takesItem_107 rfl (fun c107 => ?_) (fun c107 => ?_)
            · have hX0 : X.1 = false ∧ X.2.2 = p' := by
                rw [hX]
                first
                | exact hb2 (Bool.eq_false_iff.mpr c99)
                | (rw [hb1 (by assumption), zfin_n (by omega)]; exact ⟨rfl, rfl⟩)
              refine q_iconst (pc := 114) dX8_takesItem_114 ?_
              exact q_zreturn0 (pc := 115) (by first | exact (show X.1 = true from congrArg Prod.fst hX1) | exact (show ¬ (X.1 = true) from fun z => Bool.noConfusion (hX0.1.symm.trans z))) dX8_takesItem_115 rfl (by first | exact k _ _ _ hs1 hM1 hp1 (fun _ => hX1) (fun z => by rw [hX1] at z; cases z) | exact k _ _ _ hs1 hM1 hp1 (fun z => by rw [hX0.1] at z; cases z) (fun _ => hX0.2))
            have hX1 : X = (true, N', znxt T len p') := hX.trans ((hb1 c99).trans (zfin_3 (by omega)))
            refine q_iconst (pc := 110) dX8_takesItem_110 ?_
            refine q_goto (pc := 111) 115 dX8_takesItem_111 rfl ?_
            exact q_zreturn1 (pc := 115) (by first | exact (show X.1 = true from congrArg Prod.fst hX1) | exact (show ¬ (X.1 = true) from fun z => Bool.noConfusion (hX0.1.symm.trans z))) dX8_takesItem_115 rfl (by first | exact k _ _ _ hs1 hM1 hp1 (fun _ => hX1) (fun z => by rw [hX1] at z; cases z) | exact k _ _ _ hs1 hM1 hp1 (fun z => by rw [hX0.1] at z; cases z) (fun _ => hX0.2))
          · rw [if_neg (fun z => q1 (hw1.mpr z))] at hX
            by_cases q2 : V = 7538239962
            · rw [if_pos (hw2.mp q2)] at hX
              refine q_lload_n (pc := 87) dX8_takesItem_87 rfl ?_
              refine q_ldc2_w (pc := 88) tw_5_168 dX8_takesItem_88 ?_
              refine q_lcmp (pc := 91) dX8_takesItem_91 (by omega) (by omega) ?_
              refine q_ifc_ne (pc := 92) 116 dX8_takesItem_92 rfl (fun c92 => ?_) (fun c92 => ?_)
              · refine q_lload_n (pc := 116) dX8_takesItem_116 rfl ?_
                refine q_ldc2_w (pc := 117) tw_5_173 dX8_takesItem_117 ?_
                refine q_lcmp (pc := 120) dX8_takesItem_120 (by omega) (by omega) ?_
                refine q_ifc_ne (pc := 121) 131 dX8_takesItem_121 rfl (fun c121 => ?_) (fun c121 => ?_)
                · exfalso; omega
                refine q_aload_n (pc := 124) dX8_takesItem_124 rfl rfl ?_
                refine q_invokevirtual (pc := 125) (d' := d - 1) (mc' := 0) (ms' := 0) (As := []) (TX8, 26) cl_X8_193 dX8_takesItem_125 rfl rfl (by assumption) rfl (by omega) rfl 0 0 (Nat.le_refl 0) (Nat.le_refl 0) ?_
                refine c_X8_takesSlinger (by omega) hM hT hp hO (fun w1 N' p' b hs1 hM1 hp1 hb1 hb2 => ?_)
                refine q_goto (pc := 128) 166 dX8_takesItem_128 rfl ?_
                refine q_istore (pc := 166) [some _, some _, none, some _, some _] dX8_takesItem_166 rfl (Nat.le_of_ble_eq_true rfl) rfl ?_
                exact J168 _ _ _ _ b _ _ _ rfl hs1 hM1 hp1 (fun z => hX.trans (hb1 z)) (fun z => by rw [hX]; exact hb2 z)
              exfalso; omega
            · rw [if_neg (fun z => q2 (hw2.mpr z))] at hX
              by_cases q3 : V = 1842025
              · rw [if_pos (hw3.mp q3)] at hX
                refine q_lload_n (pc := 87) dX8_takesItem_87 rfl ?_
                refine q_ldc2_w (pc := 88) tw_5_168 dX8_takesItem_88 ?_
                refine q_lcmp (pc := 91) dX8_takesItem_91 (by omega) (by omega) ?_
                refine q_ifc_ne (pc := 92) 116 dX8_takesItem_92 rfl (fun c92 => ?_) (fun c92 => ?_)
                · refine q_lload_n (pc := 116) dX8_takesItem_116 rfl ?_
                  refine q_ldc2_w (pc := 117) tw_5_173 dX8_takesItem_117 ?_
                  refine q_lcmp (pc := 120) dX8_takesItem_120 (by omega) (by omega) ?_
                  refine q_ifc_ne (pc := 121) 131 dX8_takesItem_121 rfl (fun c121 => ?_) (fun c121 => ?_)
                  · refine q_lload_n (pc := 131) dX8_takesItem_131 rfl ?_
                    refine q_ldc2_w (pc := 132) tw_5_178 dX8_takesItem_132 ?_
                    refine q_lcmp (pc := 135) dX8_takesItem_135 (by omega) (by omega) ?_
                    refine q_ifc_ne (pc := 136) 146 dX8_takesItem_136 rfl (fun c136 => ?_) (fun c136 => ?_)
                    · exfalso; omega
                    refine q_aload_n (pc := 139) dX8_takesItem_139 rfl rfl ?_
                    refine q_invokevirtual (pc := 140) (d' := d - 1) (mc' := 0) (ms' := 0) (As := []) (TX8, 26) cl_X8_198 dX8_takesItem_140 rfl rfl (by assumption) rfl (by omega) rfl 0 0 (Nat.le_refl 0) (Nat.le_refl 0) ?_
                    refine c_X8_takesCloud (by omega) hM hT hp hO (h8 _ (by omega)) (fun w1 N' p' b hs1 hM1 hp1 hb1 hb2 => ?_)
                    refine q_goto (pc := 143) 166 dX8_takesItem_143 rfl ?_
                    refine q_istore (pc := 166) [some _, some _, none, some _, some _] dX8_takesItem_166 rfl (Nat.le_of_ble_eq_true rfl) rfl ?_
                    exact J168 _ _ _ _ b _ _ _ rfl hs1 hM1 hp1 (fun z => hX.trans (hb1 z)) (fun z => by rw [hX]; exact hb2 z)
                  exfalso; omega
                exfalso; omega
              · rw [if_neg (fun z => q3 (hw3.mpr z))] at hX
                by_cases q4 : V = 12325519
                · rw [if_pos (hw4.mp q4)] at hX
                  refine q_lload_n (pc := 87) dX8_takesItem_87 rfl ?_
                  refine q_ldc2_w (pc := 88) tw_5_168 dX8_takesItem_88 ?_
                  refine q_lcmp (pc := 91) dX8_takesItem_91 (by omega) (by omega) ?_
                  refine q_ifc_ne (pc := 92) 116 dX8_takesItem_92 rfl (fun c92 => ?_) (fun c92 => ?_)
                  · refine q_lload_n (pc := 116) dX8_takesItem_116 rfl ?_
                    refine q_ldc2_w (pc := 117) tw_5_173 dX8_takesItem_117 ?_
                    refine q_lcmp (pc := 120) dX8_takesItem_120 (by omega) (by omega) ?_
                    refine q_ifc_ne (pc := 121) 131 dX8_takesItem_121 rfl (fun c121 => ?_) (fun c121 => ?_)
                    · refine q_lload_n (pc := 131) dX8_takesItem_131 rfl ?_
                      refine q_ldc2_w (pc := 132) tw_5_178 dX8_takesItem_132 ?_
                      refine q_lcmp (pc := 135) dX8_takesItem_135 (by omega) (by omega) ?_
                      refine q_ifc_ne (pc := 136) 146 dX8_takesItem_136 rfl (fun c136 => ?_) (fun c136 => ?_)
                      · refine q_lload_n (pc := 146) dX8_takesItem_146 rfl ?_
                        refine q_ldc2_w (pc := 147) tw_5_183 dX8_takesItem_147 ?_
                        refine q_lcmp (pc := 150) dX8_takesItem_150 (by omega) (by omega) ?_
                        refine q_ifc_ne (pc := 151) 165 dX8_takesItem_151 rfl (fun c151 => ?_) (fun c151 => ?_)
                        · refine q_iconst (pc := 165) dX8_takesItem_165 ?_
                          refine q_istore (pc := 166) [some _, some _, none, some _, some _] dX8_takesItem_166 rfl (Nat.le_of_ble_eq_true rfl) rfl ?_
                          first | (exfalso; omega; done) | exact J168 _ _ _ _ b _ _ _ (zb_t c158).symm hs1 hM1 hp1 (fun z => hX.trans (hb1 z)) (fun z => by rw [hX]; exact hb2 z) | exact J168 _ _ _ _ b _ _ _ (zb_f c158).symm hs1 hM1 hp1 (fun z => hX.trans (hb1 z)) (fun z => by rw [hX]; exact hb2 z)
                        refine q_aload_n (pc := 154) dX8_takesItem_154 rfl rfl ?_
                        refine q_invokevirtual (pc := 155) (d' := d - 1) (mc' := 0) (ms' := 0) (As := []) (TX8, 26) cl_X8_203 dX8_takesItem_155 rfl rfl (by assumption) rfl (by omega) rfl 0 0 (Nat.le_refl 0) (Nat.le_refl 0) ?_
                        refine c_X8_takesWeeks (by omega) hM hT hp hO (fun w1 N' p' b hs1 hM1 hp1 hb1 hb2 => ?_)
                        refine q_ifb_eq (pc := 158) 165 dX8_takesItem_158 rfl (fun c158 => ?_) (fun c158 => ?_)
                        · refine q_iconst (pc := 165) dX8_takesItem_165 ?_
                          refine q_istore (pc := 166) [some _, some _, none, some _, some _] dX8_takesItem_166 rfl (Nat.le_of_ble_eq_true rfl) rfl ?_
                          first | (exfalso; omega; done) | exact J168 _ _ _ _ b _ _ _ (zb_t c158).symm hs1 hM1 hp1 (fun z => hX.trans (hb1 z)) (fun z => by rw [hX]; exact hb2 z) | exact J168 _ _ _ _ b _ _ _ (zb_f c158).symm hs1 hM1 hp1 (fun z => hX.trans (hb1 z)) (fun z => by rw [hX]; exact hb2 z)
                        refine q_iconst (pc := 161) dX8_takesItem_161 ?_
                        refine q_goto (pc := 162) 166 dX8_takesItem_162 rfl ?_
                        refine q_istore (pc := 166) [some _, some _, none, some _, some _] dX8_takesItem_166 rfl (Nat.le_of_ble_eq_true rfl) rfl ?_
                        first | (exfalso; omega; done) | exact J168 _ _ _ _ b _ _ _ (zb_t c158).symm hs1 hM1 hp1 (fun z => hX.trans (hb1 z)) (fun z => by rw [hX]; exact hb2 z) | exact J168 _ _ _ _ b _ _ _ (zb_f c158).symm hs1 hM1 hp1 (fun z => hX.trans (hb1 z)) (fun z => by rw [hX]; exact hb2 z)
                      exfalso; omega
                    exfalso; omega
                  exfalso; omega
                · rw [if_neg (fun z => q4 (hw4.mpr z))] at hX
                  refine q_lload_n (pc := 87) dX8_takesItem_87 rfl ?_
                  refine q_ldc2_w (pc := 88) tw_5_168 dX8_takesItem_88 ?_
                  refine q_lcmp (pc := 91) dX8_takesItem_91 (by omega) (by omega) ?_
                  refine q_ifc_ne (pc := 92) 116 dX8_takesItem_92 rfl (fun c92 => ?_) (fun c92 => ?_)
                  · refine q_lload_n (pc := 116) dX8_takesItem_116 rfl ?_
                    refine q_ldc2_w (pc := 117) tw_5_173 dX8_takesItem_117 ?_
                    refine q_lcmp (pc := 120) dX8_takesItem_120 (by omega) (by omega) ?_
                    refine q_ifc_ne (pc := 121) 131 dX8_takesItem_121 rfl (fun c121 => ?_) (fun c121 => ?_)
                    · refine q_lload_n (pc := 131) dX8_takesItem_131 rfl ?_
                      refine q_ldc2_w (pc := 132) tw_5_178 dX8_takesItem_132 ?_
                      refine q_lcmp (pc := 135) dX8_takesItem_135 (by omega) (by omega) ?_
                      refine q_ifc_ne (pc := 136) 146 dX8_takesItem_136 rfl (fun c136 => ?_) (fun c136 => ?_)
                      · refine q_lload_n (pc := 146) dX8_takesItem_146 rfl ?_
                        refine q_ldc2_w (pc := 147) tw_5_183 dX8_takesItem_147 ?_
                        refine q_lcmp (pc := 150) dX8_takesItem_150 (by omega) (by omega) ?_
                        refine q_ifc_ne (pc := 151) 165 dX8_takesItem_151 rfl (fun c151 => ?_) (fun c151 => ?_)
                        · refine q_iconst (pc := 165) dX8_takesItem_165 ?_
                          refine q_istore (pc := 166) [some _, some _, none, some _, some _] dX8_takesItem_166 rfl (Nat.le_of_ble_eq_true rfl) rfl ?_
                          exact J168 _ _ _ _ false _ _ _ (zb_f (by decide)).symm .rf hM hp (fun z => by cases z) (fun _ => by rw [hX]; exact ⟨rfl, rfl⟩)
                        exfalso; omega
                      exfalso; omega
                    exfalso; omega
                  exfalso; omega
        refine zenter [some _, none, none, none, none] pn_X8 rfl (Nat.le_of_ble_eq_true rfl) ?_
        refine q_aload_n (pc := 0) dX8_takesItem_0 rfl rfl ?_
        refine q_invokevirtual (pc := 1) (d' := d - 1) (mc' := 0) (ms' := 0) (As := []) (TX8, 26) cl_X8_176 dX8_takesItem_1 rfl rfl (by assumption) rfl (by omega) rfl 0 0 (Nat.le_refl 0) (Nat.le_refl 0) ?_
        refine c_X8_wordNow h72 h76 hT hp ?_
        rw [if_pos t1, hV]
        refine q_lstore_n (pc := 4) [some _, some _, none, none, none] dX8_takesItem_4 rfl (Nat.le_of_ble_eq_true rfl) rfl ?_
        refine q_aload_n (pc := 5) dX8_takesItem_5 rfl rfl ?_
        refine q_getfield (pc := 6) gf_X8_180 dX8_takesItem_6 (by assumption) rfl ?_
        refine q_if_ne (pc := 9) (by omega) 16 dX8_takesItem_9 rfl (fun c9 => ?_) (fun c9 => ?_)
        · refine q_iconst (pc := 16) dX8_takesItem_16 ?_
          refine q_istore_n (pc := 17) [some _, some _, none, some _, none] dX8_takesItem_17 rfl (Nat.le_of_ble_eq_true rfl) rfl ?_
          refine q_aload_n (pc := 18) dX8_takesItem_18 rfl rfl ?_
          refine q_getfield (pc := 19) gf_X8_154 dX8_takesItem_19 (by assumption) rfl ?_
          refine q_iconst (pc := 22) dX8_takesItem_22 ?_
          refine q_icmp_ne (pc := 23) (by omega) (by omega) 43 dX8_takesItem_23 rfl (fun c23 => ?_) (fun c23 => ?_)
          · exfalso; omega
          refine q_iload_n (pc := 26) dX8_takesItem_26 rfl ?_
          refine q_lload_n (pc := 27) dX8_takesItem_27 rfl ?_
          refine q_ldc2_w (pc := 28) tw_5_163 dX8_takesItem_28 ?_
          refine q_lcmp (pc := 31) dX8_takesItem_31 (by omega) (by omega) ?_
          refine q_ifc_ne (pc := 32) 39 dX8_takesItem_32 rfl (fun c32 => ?_) (fun c32 => ?_)
          · refine q_iconst (pc := 39) dX8_takesItem_39 ?_
            refine q_icmp_eq (pc := 40) (by omega) (by omega) 45 dX8_takesItem_40 rfl (fun c40 => ?_) (fun c40 => ?_)
            · refine q_iload_n (pc := 45) dX8_takesItem_45 rfl ?_
              refine q_if_eq (pc := 46) (by omega) 87 dX8_takesItem_46 rfl (fun c46 => ?_) (fun c46 => ?_)
              · exact J87
              exfalso; omega
            exfalso; omega
          exfalso; omega
        exfalso; omega
  · have ez : ∀ i, ¬ zword T len p i := fun i z => t1 (ztk1.mp z.1)
    have hX : X = (false, N, p) := by
      rw [hX]
      unfold zitem
      rw [if_neg (ez _), if_neg (ez _), if_neg (ez _), if_neg (ez _), if_neg (ez _)]
      split <;> rfl
    have hX1 : X.1 = false := by rw [hX]
    refine zenter [some _, none, none, none, none] pn_X8 rfl (Nat.le_of_ble_eq_true rfl) ?_
    refine q_aload_n (pc := 0) dX8_takesItem_0 rfl rfl ?_
    refine q_invokevirtual (pc := 1) (d' := d - 1) (mc' := 0) (ms' := 0) (As := []) (TX8, 26) cl_X8_176 dX8_takesItem_1 rfl rfl (by assumption) rfl (by omega) rfl 0 0 (Nat.le_refl 0) (Nat.le_refl 0) ?_
    refine c_X8_wordNow h72 h76 hT hp ?_
    rw [if_neg t1]
    refine q_lstore_n (pc := 4) [some _, some _, none, none, none] dX8_takesItem_4 rfl (Nat.le_of_ble_eq_true rfl) rfl ?_
    refine q_aload_n (pc := 5) dX8_takesItem_5 rfl rfl ?_
    refine q_getfield (pc := 6) gf_X8_180 dX8_takesItem_6 (by assumption) rfl ?_
    refine q_if_ne (pc := 9) (by omega) 16 dX8_takesItem_9 rfl (fun c9 => ?_) (fun c9 => ?_)
    · refine q_iconst (pc := 16) dX8_takesItem_16 ?_
      refine q_istore_n (pc := 17) [some _, some _, none, some _, none] dX8_takesItem_17 rfl (Nat.le_of_ble_eq_true rfl) rfl ?_
      refine q_aload_n (pc := 18) dX8_takesItem_18 rfl rfl ?_
      refine q_getfield (pc := 19) gf_X8_154 dX8_takesItem_19 (by assumption) rfl ?_
      refine q_iconst (pc := 22) dX8_takesItem_22 ?_
      refine q_icmp_ne (pc := 23) (by omega) (by omega) 43 dX8_takesItem_23 rfl (fun c23 => ?_) (fun c23 => ?_)
      · refine q_iconst (pc := 43) dX8_takesItem_43 ?_
        exact q_zreturn0 (pc := 44) (by rw [hX1]; decide) dX8_takesItem_44 rfl (k w N p .rf hM hp (fun z => by rw [hX] at z; cases z) (fun _ => by rw [hX]))
      exfalso; omega
    refine q_iconst (pc := 12) dX8_takesItem_12 ?_
    refine q_goto (pc := 13) 17 dX8_takesItem_13 rfl ?_
    refine q_istore_n (pc := 17) [some _, some _, none, some _, none] dX8_takesItem_17 rfl (Nat.le_of_ble_eq_true rfl) rfl ?_
    refine q_aload_n (pc := 18) dX8_takesItem_18 rfl rfl ?_
    refine q_getfield (pc := 19) gf_X8_154 dX8_takesItem_19 (by assumption) rfl ?_
    refine q_iconst (pc := 22) dX8_takesItem_22 ?_
    refine q_icmp_ne (pc := 23) (by omega) (by omega) 43 dX8_takesItem_23 rfl (fun c23 => ?_) (fun c23 => ?_)
    · refine q_iconst (pc := 43) dX8_takesItem_43 ?_
      exact q_zreturn0 (pc := 44) (by rw [hX1]; decide) dX8_takesItem_44 rfl (k w N p .rf hM hp (fun z => by rw [hX] at z; cases z) (fun _ => by rw [hX]))
    exfalso; omega
theorem zfin_r : (zfin T len N p).2.1 = N := by unfold zfin; split <;> rfl
theorem zcst_88 {c : Int} (hc : 0 ≤ c ∧ c ≤ 4) : ∀ (q : Nat) (r : Int) (N : Int → Int) (p : Int), 1 ≤ r → r + q ≤ 10 → (∀ j, 88 ≤ j → N j = 0) → ∀ j, 88 ≤ j → (zcst T len c q r N p).1 j = 0
  | 0, r, N, p, h1, h2, h, j, hj => h j hj
  | q + 1, r, N, p, h1, h2, h, j, hj => by
    rw [zcst]
    split
    · refine zcst_88 hc q (r + 1) _ _ (by omega) (by omega) (fun i hi => ?_) j hj
      rw [zfu_ne (by omega)]; exact h i hi
    · exact h j hj
theorem zitwo_88 {l1 h1 l2 h2 : Int} {F : Int → Int → Int → Int} (h : ∀ j, 88 ≤ j → N j = 0) (hF : ∀ a b j, 88 ≤ j → F a b j = 0) : ∀ j, 88 ≤ j → (zitwo T len l1 h1 l2 h2 F N p).2.1 j = 0 := fun j hj => by
  unfold zitwo
  split
  · split
    · rw [zfin_r]; exact hF _ _ j hj
    · exact h j hj
  · exact h j hj
theorem zistore_88 (h : ∀ j, 88 ≤ j → N j = 0) : ∀ j, 88 ≤ j → (zistore T len N p).2.1 j = 0 := fun j hj => by
  unfold zistore
  split
  · rw [zfin_r, zfu_ne (by omega)]; exact h j hj
  · exact h j hj
theorem zitem_88 (hO : zOK N) (h : ∀ j, 88 ≤ j → N j = 0) : ∀ j, 88 ≤ j → (zitem T len N p).2.1 j = 0 := fun j hj => by
  have hH := hO.1
  unfold zitem
  split
  · unfold zicel
    split
    · exact h j hj
    · split
      · split
        · rw [zfin_r]
          refine zcst_88 (by omega) 9 1 _ _ (by omega) (by omega) (fun i hi => ?_) j hj
          rw [znewc_e (by omega)]; exact h i hi
        · exact h j hj
      · exact h j hj
  · split
    · unfold zislg
      split
      · exact h j hj
      · exact zitwo_88 h (fun a b i hi => by rw [znews_e (by omega)]; exact h i hi) j hj
    · split
      · unfold zicld
        split
        · exact h j hj
        · refine zitwo_88 h (fun a b i hi => ?_) j hj
          by_cases q : i = 88 + N 2
          · rw [q]; simp only [znewk, zfu]; rw [if_neg (by omega), if_pos trivial]
          · rw [znewk_e (by omega)]; exact h i hi
      · split
        · unfold ziwks
          split
          · rw [zfin_r, zweeks_out hO (by omega) (by omega)]; exact h j hj
          · exact h j hj
        · exact h j hj
theorem zMo.rd {w' : zWd} {S : zSt} (h : zMo g w S) (hs : zS2 w w') {p0 p1 p2 p3 p4 it sm : Int} (e72 : w'.1 72 = some (zMO g S.2.2.2.1.1 S.2.2.2.1.2 S.1.2.1 S.2.1.2 p0 p1 p2 p3 p4 it sm)) {f : Int → Int} (e77 : w'.1 77 = some (.inr (false, 168, f))) : zMo g w' S := by
  obtain ⟨-, h2, h3, h4, h5, h6, h7, h8, h9, h10⟩ := h
  obtain ⟨-, ⟨f4, g4⟩, ⟨f5, g5⟩, ⟨f6, g6⟩, ⟨f7, g7⟩, ⟨f8, g8⟩, f9, g9⟩ := h6
  exact ⟨⟨_, _, _, _, _, _, _, e72⟩, (hs.2 73 (by decide) (by decide)).trans h2, (hs.2 74 (by decide) (by decide)).trans h3, (hs.2 75 (by decide) (by decide)).trans h4, (hs.2 76 (by decide) (by decide)).trans h5, ⟨⟨f, e77⟩, ⟨f4, (hs.2 78 (by decide) (by decide)).trans g4⟩, ⟨f5, (hs.2 79 (by decide) (by decide)).trans g5⟩, ⟨f6, (hs.2 80 (by decide) (by decide)).trans g6⟩, ⟨f7, (hs.2 81 (by decide) (by decide)).trans g7⟩, ⟨f8, (hs.2 82 (by decide) (by decide)).trans g8⟩, f9, (hs.2 83 (by decide) (by decide)).trans g9⟩, (hs.2 84 (by decide) (by decide)).trans h7, (hs.2 85 (by decide) (by decide)).trans h8, (hs.2 86 (by decide) (by decide)).trans h9, (hs.2 87 (by decide) (by decide)).trans h10⟩
def zcT (N x : Int → Int) (m : Int) : Int → Int := fun j => if 0 ≤ j ∧ j < m then x j else N j
theorem zcT_0 {x : Int → Int} : zcT N x 0 = N := by funext j; simp only [zcT]; rw [if_neg (by omega)]
theorem zcT_s {x : Int → Int} {m : Int} (hm : 0 ≤ m) : zfu (zcT N x m) m (x m) = zcT N x (m + 1) := by
  funext j
  simp only [zfu, zcT]
  by_cases h1 : j = m
  · rw [if_pos h1, if_pos (by omega), h1]
  · rw [if_neg h1]
    by_cases h2 : 0 ≤ j ∧ j < m
    · rw [if_pos h2, if_pos (by omega)]
    · rw [if_neg h2, if_neg (by omega)]
set_option maxRecDepth 100000 in
set_option maxHeartbeats 8000000 in
theorem c_X8_read {S : zSt} (hd : 6 ≤ d) (hC : zMo g w S) (hO : zOKS S) (k : ∀ w', zSame w w' 72 16 → zMo g w' (o_read S).2 → K (some (zI (o_read S).1)) w') : zCall g d 0 0 mX8_read [zR g 72] w K := by
  have hT := hO.2.1
  obtain ⟨⟨p0, p1, p2, p3, p4, it0, sm, h72⟩, h73, h74, h75, h76, ⟨⟨f77, h77⟩, -⟩, -⟩ := id hC
  obtain ⟨len, hlen⟩ : ∃ len, len = S.2.1.2 := ⟨_, rfl⟩
  obtain ⟨T, hTe⟩ : ∃ T, T = S.2.1.1 := ⟨_, rfl⟩
  rw [← hlen] at h72 hT
  rw [← hTe] at hT h76
  have hz := zread_ok hT
  have hl := hT.1
  have eo : o_read S = if 0 ≤ (zread T len).1 then ((zread T len).1, sN0 S (zread T len).2 0) else ((zread T len).1, S) := by rw [hTe, hlen]; rfl
  have JF : ∀ (it : Int) (w1 : zWd) (N1 : Int → Int) (p1 : Int), zS2 w w1 → zRM g S.2.2.2.1.1 S.2.2.2.1.2 S.1.2.1 len it sm T w1 N1 p1 → 0 ≤ p1 ∧ p1 ≤ len → (zread T len).1 = -10 - zsrt T len p1 → zRuns g d mX8_read 0 0 49 [some (zR g 72), some (zI 0), none] [] w1 K := by
    intro it w1 N1 p1 hs hM1 hp1 ez
    obtain ⟨h721, h771, h761⟩ := id hM1
    have hs1 := zsrt_b (T := T) hp1.2
    refine q_iload_n (pc := 49) dX8_read_49 rfl ?_
    refine q_if_eq (pc := 50) (by omega) 86 dX8_read_50 rfl (fun c50 => ?_) (fun c50 => ?_)
    · refine q_iload_n (pc := 86) dX8_read_86 rfl ?_
      refine q_if_ne (pc := 87) (by omega) 98 dX8_read_87 rfl (fun c87 => ?_) (fun c87 => ?_)
      · exfalso; omega
      refine q_bipush (pc := 90) (by decide) dX8_read_90 ?_
      refine q_aload_n (pc := 92) dX8_read_92 rfl rfl ?_
      refine q_getfield (pc := 93) gf_X8_142 dX8_read_93 (by assumption) rfl ?_
      refine q_isub (pc := 96) dX8_read_96 ?_
      refine q_ireturn (pc := 97) dX8_read_97 rfl ?_
      exact zgm k (by rw [eo, if_neg (by omega), ez]) hs.same (hC.rd hs (by rw [← hlen]; exact h721) h771)
    exfalso; omega
  have JS : ∀ (it : Int) (w1 : zWd) (N1 : Int → Int) (p1 : Int), 0 ≤ it → it ≤ 150 → zS2 w w1 → zRM g S.2.2.2.1.1 S.2.2.2.1.2 S.1.2.1 len it sm T w1 N1 p1 → 0 ≤ p1 ∧ p1 ≤ len → zt0 T len p1 = 0 → zread T len = (it, N1) → zRuns g d mX8_read 0 0 49 [some (zR g 72), some (zI 1), none] [] w1 K := by
    intro it w1 N1 p1 hi1 hi2 hs hM1 hp1 et ez
    obtain ⟨h721, h771, h761⟩ := id hM1
    have hM2 := hC.rd hs (by rw [← hlen]; exact h721) h771
    have L : ∀ (q m : Nat) (w2 : zWd), m + q = 168 → zSame w w2 72 16 → zMo g w2 (sN S (zcT S.1.1 N1 (m : Int))) → w2.1 72 = some (zMT g S.2.2.2.1.1 S.2.2.2.1.2 S.1.2.1 len it sm T p1) → w2.1 77 = some (.inr (false, 168, N1)) → zRuns g d mX8_read 0 0 100 [some (zR g 72), some (zI 1), some (zI (m : Int))] [] w2 K := by
      intro q
      induction q with
      | zero =>
        intro m w2 h4 hs2 hM3 h72 h77
        obtain rfl : m = 168 := by omega
        have h73 : w2.1 73 = some (.inr (false, 168, zcT S.1.1 N1 168)) := hM3.2.1
        have e : ∀ j, 0 ≤ j → j < ((168 : Nat) : Int) → zcT S.1.1 N1 168 j = N1 j := fun j a b => by simp only [zcT]; rw [if_pos (by omega)]
        have e72 : (zup (zup w2 73 (.inr (false, 168, N1))) 72 (zMO g S.2.2.2.1.1 S.2.2.2.1.2 0 len (znxt T len p1) (zt0 T len p1) (zsrt T len p1) (zte T len p1) (zmn T len p1) it sm)).1 72 = some (zMO g S.2.2.2.1.1 S.2.2.2.1.2 0 S.2.1.2 (znxt T len p1) (zt0 T len p1) (zsrt T len p1) (zte T len p1) (zmn T len p1) it sm) := by rw [← hlen]; exact zup_at
        refine q_iload_n (pc := 100) dX8_read_100 rfl ?_
        refine q_sipush (pc := 101) (by decide) dX8_read_101 ?_
        refine q_icmp_ge (pc := 104) (by omega) (by omega) 125 dX8_read_104 rfl (fun c104 => ?_) (fun c104 => ?_)
        · refine q_norm (k := 73) N1 h73 e ?_
          refine q_aload_n (pc := 125) dX8_read_125 rfl rfl ?_
          refine q_iconst (pc := 126) dX8_read_126 ?_
          refine q_putfield2 (pc := 127) [_, _, _, _, _, _, _, _, _, _, _, _, _, _, _, _, _, _, _, _, _, _, _, _, _, _] pf_X8_94 dX8_read_127 (by first | assumption | exact zup_at | exact (zup_ne (by decide)).trans (zup_at) | exact (zup_ne (by decide)).trans (by assumption) | exact (zup_ne (by decide)).trans ((zup_ne (by decide)).trans (zup_at)) | exact (zup_ne (by decide)).trans ((zup_ne (by decide)).trans (by assumption)) | exact (zup_ne (by decide)).trans ((zup_ne (by decide)).trans ((zup_ne (by decide)).trans (zup_at))) | exact (zup_ne (by decide)).trans ((zup_ne (by decide)).trans ((zup_ne (by decide)).trans (by assumption))) | exact (zup_ne (by decide)).trans ((zup_ne (by decide)).trans ((zup_ne (by decide)).trans ((zup_ne (by decide)).trans (zup_at)))) | exact (zup_ne (by decide)).trans ((zup_ne (by decide)).trans ((zup_ne (by decide)).trans ((zup_ne (by decide)).trans (by assumption)))) | exact (zup_ne (by decide)).trans ((zup_ne (by decide)).trans ((zup_ne (by decide)).trans ((zup_ne (by decide)).trans ((zup_ne (by decide)).trans (zup_at))))) | exact (zup_ne (by decide)).trans ((zup_ne (by decide)).trans ((zup_ne (by decide)).trans ((zup_ne (by decide)).trans ((zup_ne (by decide)).trans (by assumption)))))) rfl rfl (Nat.le_of_ble_eq_true rfl) rfl ?_
          refine q_aload_n (pc := 130) dX8_read_130 rfl rfl ?_
          refine q_getfield (pc := 131) gf_X8_180 dX8_read_131 (by first | assumption | exact zup_at | exact (zup_ne (by decide)).trans (zup_at) | exact (zup_ne (by decide)).trans (by assumption) | exact (zup_ne (by decide)).trans ((zup_ne (by decide)).trans (zup_at)) | exact (zup_ne (by decide)).trans ((zup_ne (by decide)).trans (by assumption)) | exact (zup_ne (by decide)).trans ((zup_ne (by decide)).trans ((zup_ne (by decide)).trans (zup_at))) | exact (zup_ne (by decide)).trans ((zup_ne (by decide)).trans ((zup_ne (by decide)).trans (by assumption))) | exact (zup_ne (by decide)).trans ((zup_ne (by decide)).trans ((zup_ne (by decide)).trans ((zup_ne (by decide)).trans (zup_at)))) | exact (zup_ne (by decide)).trans ((zup_ne (by decide)).trans ((zup_ne (by decide)).trans ((zup_ne (by decide)).trans (by assumption)))) | exact (zup_ne (by decide)).trans ((zup_ne (by decide)).trans ((zup_ne (by decide)).trans ((zup_ne (by decide)).trans ((zup_ne (by decide)).trans (zup_at))))) | exact (zup_ne (by decide)).trans ((zup_ne (by decide)).trans ((zup_ne (by decide)).trans ((zup_ne (by decide)).trans ((zup_ne (by decide)).trans (by assumption)))))) rfl ?_
          refine q_ireturn (pc := 134) dX8_read_134 rfl ?_
          exact zgm k (by rw [eo, ez, if_pos hi1]) (hs2.tr ((zSame.up (by omega)).tr (zSame.up (by omega)))) (by have h9 := (hM3.o73 (N := N1) (zSame.up (by omega)) zup_at).o72 (zSame.up (by omega)) e72; exact h9)
        exfalso; omega
      | succ q ih =>
        intro m w2 h4 hs2 hM3 h72 h77
        have hih := ih (m + 1)
        have h73 : w2.1 73 = some (.inr (false, 168, zcT S.1.1 N1 (m : Int))) := hM3.2.1
        have hzs := zcT_s (N := S.1.1) (x := N1) (m := (m : Int)) (by omega)
        refine q_iload_n (pc := 100) dX8_read_100 rfl ?_
        refine q_sipush (pc := 101) (by decide) dX8_read_101 ?_
        refine q_icmp_ge (pc := 104) (by omega) (by omega) 125 dX8_read_104 rfl (fun c104 => ?_) (fun c104 => ?_)
        · exfalso; omega
        refine q_aload_n (pc := 107) dX8_read_107 rfl rfl ?_
        refine q_getfield (pc := 108) gf_X8_7 dX8_read_108 (by assumption) rfl ?_
        refine q_iload_n (pc := 111) dX8_read_111 rfl ?_
        refine q_aload_n (pc := 112) dX8_read_112 rfl rfl ?_
        refine q_getfield (pc := 113) gf_X8_26 dX8_read_113 (by assumption) rfl ?_
        refine q_iload_n (pc := 116) dX8_read_116 rfl ?_
        refine q_iaload (pc := 117) dX8_read_117 (by assumption) (by omega) ?_
        refine q_iastore (pc := 118) dX8_read_118 (by assumption) (by omega) ?_
        refine q_iinc (pc := 119) [some _, some _, some _] dX8_read_119 rfl rfl rfl ?_
        refine q_goto (pc := 122) 100 dX8_read_122 rfl ?_
        exact hih _ (by omega) (hs2.tr (zSame.up (by omega))) (by have h9 := hM3.o73 (zSame.up (by omega)) (zup_at (w := w2) (k := 73) (e := .inr (false, 168, zfu (zcT S.1.1 N1 (m : Int)) (m : Int) (N1 (m : Int))))); rw [hzs] at h9 ⊢; exact h9) ((zup_ne (by decide)).trans h72) ((zup_ne (by decide)).trans h77)
    refine q_iload_n (pc := 49) dX8_read_49 rfl ?_
    refine q_if_eq (pc := 50) (by omega) 86 dX8_read_50 rfl (fun c50 => ?_) (fun c50 => ?_)
    · refine q_iload_n (pc := 86) dX8_read_86 rfl ?_
      refine q_if_ne (pc := 87) (by omega) 98 dX8_read_87 rfl (fun c87 => ?_) (fun c87 => ?_)
      · refine q_iconst (pc := 98) dX8_read_98 ?_
        refine q_istore_n (pc := 99) [some _, some _, some _] dX8_read_99 rfl (Nat.le_of_ble_eq_true rfl) rfl ?_
        exact L 168 0 _ (by omega) hs.same (by rw [show ((0 : Nat) : Int) = 0 from rfl, zcT_0]; exact hM2) h721 h771
      exfalso; omega
    refine q_aload_n (pc := 53) dX8_read_53 rfl rfl ?_
    refine q_getfield (pc := 54) gf_X8_154 dX8_read_54 (by assumption) rfl ?_
    refine q_if_eq (pc := 57) (by omega) 86 dX8_read_57 rfl (fun c57 => ?_) (fun c57 => ?_)
    · refine q_iload_n (pc := 86) dX8_read_86 rfl ?_
      refine q_if_ne (pc := 87) (by omega) 98 dX8_read_87 rfl (fun c87 => ?_) (fun c87 => ?_)
      · refine q_iconst (pc := 98) dX8_read_98 ?_
        refine q_istore_n (pc := 99) [some _, some _, some _] dX8_read_99 rfl (Nat.le_of_ble_eq_true rfl) rfl ?_
        exact L 168 0 _ (by omega) hs.same (by rw [show ((0 : Nat) : Int) = 0 from rfl, zcT_0]; exact hM2) h721 h771
      exfalso; omega
    exfalso; omega
  have J49 : ∀ (it : Int) (w1 : zWd) (N : Int → Int) (p : Int) (X : Bool × (Int → Int) × Int), X = (if it = 0 then (if zword T len p 0 then zistore T len N p else (false, N, p)) else zitem T len N p) → 0 ≤ it → it ≤ 150 → zS2 w w1 → zRM g S.2.2.2.1.1 S.2.2.2.1.2 S.1.2.1 len it sm T w1 N p → 0 ≤ p ∧ p ≤ len → zOK N → (∀ j, 88 ≤ j → N j = 0) → zt0 T len p ≠ 0 → (∀ (w2 : zWd) (N' : Int → Int) (p' : Int), X = (true, N', znxt T len p') → zS2 w w2 → zRM g S.2.2.2.1.1 S.2.2.2.1.2 S.1.2.1 len (it + 1) sm T w2 N' (znxt T len p') → 0 ≤ p' ∧ p' ≤ len → zRuns g d mX8_read 0 0 49 [some (zR g 72), some (zI 1), none] [] w2 K) → (∀ (w2 : zWd) (N' : Int → Int) (p' : Int), X.1 = false → X.2.2 = p' → zS2 w w2 → zRM g S.2.2.2.1.1 S.2.2.2.1.2 S.1.2.1 len it sm T w2 N' p' → 0 ≤ p' ∧ p' ≤ len → zRuns g d mX8_read 0 0 49 [some (zR g 72), some (zI 0), none] [] w2 K) → zRuns g d mX8_read 0 0 49 [some (zR g 72), some (zI 1), none] [] w1 K := by
    intro it w1 N p X hX hi1 hi2 hs hM1 hp1 hO1 h8 et kt kf
    obtain ⟨h721, h771, h761⟩ := id hM1
    have ht := ztok_b (zbyte T len (zsrt T len p))
    have e1 : zt0 T len p = ztok (zbyte T len (zsrt T len p)) := rfl
    by_cases hx : X.1 = true
    · refine q_iload_n (pc := 49) dX8_read_49 rfl ?_
      refine q_if_eq (pc := 50) (by omega) 86 dX8_read_50 rfl (fun c50 => ?_) (fun c50 => ?_)
      · exfalso; omega
      refine q_aload_n (pc := 53) dX8_read_53 rfl rfl ?_
      refine q_getfield (pc := 54) gf_X8_154 dX8_read_54 (by first | assumption | exact zup_at | exact (zup_ne (by decide)).trans (zup_at) | exact (zup_ne (by decide)).trans (by assumption) | exact (zup_ne (by decide)).trans ((zup_ne (by decide)).trans (zup_at)) | exact (zup_ne (by decide)).trans ((zup_ne (by decide)).trans (by assumption)) | exact (zup_ne (by decide)).trans ((zup_ne (by decide)).trans ((zup_ne (by decide)).trans (zup_at))) | exact (zup_ne (by decide)).trans ((zup_ne (by decide)).trans ((zup_ne (by decide)).trans (by assumption))) | exact (zup_ne (by decide)).trans ((zup_ne (by decide)).trans ((zup_ne (by decide)).trans ((zup_ne (by decide)).trans (zup_at)))) | exact (zup_ne (by decide)).trans ((zup_ne (by decide)).trans ((zup_ne (by decide)).trans ((zup_ne (by decide)).trans (by assumption)))) | exact (zup_ne (by decide)).trans ((zup_ne (by decide)).trans ((zup_ne (by decide)).trans ((zup_ne (by decide)).trans ((zup_ne (by decide)).trans (zup_at))))) | exact (zup_ne (by decide)).trans ((zup_ne (by decide)).trans ((zup_ne (by decide)).trans ((zup_ne (by decide)).trans ((zup_ne (by decide)).trans (by assumption)))))) rfl ?_
      refine q_if_eq (pc := 57) (by omega) 86 dX8_read_57 rfl (fun c57 => ?_) (fun c57 => ?_)
      · exfalso; omega
      refine q_aload_n (pc := 60) dX8_read_60 rfl rfl ?_
      refine q_invokevirtual (pc := 61) (d' := d - 1) (mc' := 0) (ms' := 0) (As := []) (TX8, 26) cl_X8_206 dX8_read_61 rfl rfl (by first | assumption | exact zup_at | exact (zup_ne (by decide)).trans (zup_at) | exact (zup_ne (by decide)).trans (by assumption) | exact (zup_ne (by decide)).trans ((zup_ne (by decide)).trans (zup_at)) | exact (zup_ne (by decide)).trans ((zup_ne (by decide)).trans (by assumption)) | exact (zup_ne (by decide)).trans ((zup_ne (by decide)).trans ((zup_ne (by decide)).trans (zup_at))) | exact (zup_ne (by decide)).trans ((zup_ne (by decide)).trans ((zup_ne (by decide)).trans (by assumption))) | exact (zup_ne (by decide)).trans ((zup_ne (by decide)).trans ((zup_ne (by decide)).trans ((zup_ne (by decide)).trans (zup_at)))) | exact (zup_ne (by decide)).trans ((zup_ne (by decide)).trans ((zup_ne (by decide)).trans ((zup_ne (by decide)).trans (by assumption)))) | exact (zup_ne (by decide)).trans ((zup_ne (by decide)).trans ((zup_ne (by decide)).trans ((zup_ne (by decide)).trans ((zup_ne (by decide)).trans (zup_at))))) | exact (zup_ne (by decide)).trans ((zup_ne (by decide)).trans ((zup_ne (by decide)).trans ((zup_ne (by decide)).trans ((zup_ne (by decide)).trans (by assumption)))))) rfl (by omega) rfl 0 0 (Nat.le_refl 0) (Nat.le_refl 0) ?_
      refine c_X8_takesItem hX (by omega) hM1 hT hp1 hO1 (by omega) h8 (fun w2 N' p' hs2 hM2 hp2 ha hb => ?_)
      obtain ⟨h722, h772, h762⟩ := id hM2
      rw [zb_t hx]
      refine q_istore_n (pc := 64) [some _, some _, none] dX8_read_64 rfl (Nat.le_of_ble_eq_true rfl) rfl ?_
      refine q_iload_n (pc := 65) dX8_read_65 rfl ?_
      refine q_if_eq (pc := 66) (by omega) 49 dX8_read_66 rfl (fun c66 => ?_) (fun c66 => ?_)
      · first | (exfalso; omega; done) | exact kt _ _ _ (ha hx) (hs.tr (hs2.tr ((zS2.o72 (zSame.up (by omega))).tr hs3))) hM3 hp2
      refine q_aload_n (pc := 69) dX8_read_69 rfl rfl ?_
      refine q_dup (pc := 70) rfl dX8_read_70 ?_
      refine q_getfield (pc := 71) gf_X8_180 dX8_read_71 (by first | assumption | exact zup_at | exact (zup_ne (by decide)).trans (zup_at) | exact (zup_ne (by decide)).trans (by assumption) | exact (zup_ne (by decide)).trans ((zup_ne (by decide)).trans (zup_at)) | exact (zup_ne (by decide)).trans ((zup_ne (by decide)).trans (by assumption)) | exact (zup_ne (by decide)).trans ((zup_ne (by decide)).trans ((zup_ne (by decide)).trans (zup_at))) | exact (zup_ne (by decide)).trans ((zup_ne (by decide)).trans ((zup_ne (by decide)).trans (by assumption))) | exact (zup_ne (by decide)).trans ((zup_ne (by decide)).trans ((zup_ne (by decide)).trans ((zup_ne (by decide)).trans (zup_at)))) | exact (zup_ne (by decide)).trans ((zup_ne (by decide)).trans ((zup_ne (by decide)).trans ((zup_ne (by decide)).trans (by assumption)))) | exact (zup_ne (by decide)).trans ((zup_ne (by decide)).trans ((zup_ne (by decide)).trans ((zup_ne (by decide)).trans ((zup_ne (by decide)).trans (zup_at))))) | exact (zup_ne (by decide)).trans ((zup_ne (by decide)).trans ((zup_ne (by decide)).trans ((zup_ne (by decide)).trans ((zup_ne (by decide)).trans (by assumption)))))) rfl ?_
      refine q_iconst (pc := 74) dX8_read_74 ?_
      refine q_iadd (pc := 75) dX8_read_75 ?_
      refine q_putfield2 (pc := 76) [_, _, _, _, _, _, _, _, _, _, _, _, _, _, _, _, _, _, _, _, _, _, _, _, _, _] pf_X8_180 dX8_read_76 (by first | assumption | exact zup_at | exact (zup_ne (by decide)).trans (zup_at) | exact (zup_ne (by decide)).trans (by assumption) | exact (zup_ne (by decide)).trans ((zup_ne (by decide)).trans (zup_at)) | exact (zup_ne (by decide)).trans ((zup_ne (by decide)).trans (by assumption)) | exact (zup_ne (by decide)).trans ((zup_ne (by decide)).trans ((zup_ne (by decide)).trans (zup_at))) | exact (zup_ne (by decide)).trans ((zup_ne (by decide)).trans ((zup_ne (by decide)).trans (by assumption))) | exact (zup_ne (by decide)).trans ((zup_ne (by decide)).trans ((zup_ne (by decide)).trans ((zup_ne (by decide)).trans (zup_at)))) | exact (zup_ne (by decide)).trans ((zup_ne (by decide)).trans ((zup_ne (by decide)).trans ((zup_ne (by decide)).trans (by assumption)))) | exact (zup_ne (by decide)).trans ((zup_ne (by decide)).trans ((zup_ne (by decide)).trans ((zup_ne (by decide)).trans ((zup_ne (by decide)).trans (zup_at))))) | exact (zup_ne (by decide)).trans ((zup_ne (by decide)).trans ((zup_ne (by decide)).trans ((zup_ne (by decide)).trans ((zup_ne (by decide)).trans (by assumption)))))) rfl rfl (Nat.le_of_ble_eq_true rfl) rfl ?_
      refine q_aload_n (pc := 79) dX8_read_79 rfl rfl ?_
      refine q_invokevirtual (pc := 80) (d' := d - 1) (mc' := 0) (ms' := 0) (As := []) (TX8, 26) cl_X8_165 dX8_read_80 rfl rfl (by first | assumption | exact zup_at | exact (zup_ne (by decide)).trans (zup_at) | exact (zup_ne (by decide)).trans (by assumption) | exact (zup_ne (by decide)).trans ((zup_ne (by decide)).trans (zup_at)) | exact (zup_ne (by decide)).trans ((zup_ne (by decide)).trans (by assumption)) | exact (zup_ne (by decide)).trans ((zup_ne (by decide)).trans ((zup_ne (by decide)).trans (zup_at))) | exact (zup_ne (by decide)).trans ((zup_ne (by decide)).trans ((zup_ne (by decide)).trans (by assumption))) | exact (zup_ne (by decide)).trans ((zup_ne (by decide)).trans ((zup_ne (by decide)).trans ((zup_ne (by decide)).trans (zup_at)))) | exact (zup_ne (by decide)).trans ((zup_ne (by decide)).trans ((zup_ne (by decide)).trans ((zup_ne (by decide)).trans (by assumption)))) | exact (zup_ne (by decide)).trans ((zup_ne (by decide)).trans ((zup_ne (by decide)).trans ((zup_ne (by decide)).trans ((zup_ne (by decide)).trans (zup_at))))) | exact (zup_ne (by decide)).trans ((zup_ne (by decide)).trans ((zup_ne (by decide)).trans ((zup_ne (by decide)).trans ((zup_ne (by decide)).trans (by assumption)))))) rfl (by omega) rfl 0 0 (Nat.le_refl 0) (Nat.le_refl 0) ?_
      refine t_next (N := N') (p := p') (it := it + 1) (by omega) ⟨zup_at, (zup_ne (by decide)).trans h772, (zup_ne (by decide)).trans h762⟩ hT hp2 (fun w3 hs3 hM3 => ?_)
      refine q_goto (pc := 83) 49 dX8_read_83 rfl ?_
      first | (exfalso; omega; done) | exact kt _ _ _ (ha hx) (hs.tr (hs2.tr ((zS2.o72 (zSame.up (by omega))).tr hs3))) hM3 hp2
    · have hx : X.1 = false := Bool.eq_false_iff.mpr hx
      refine q_iload_n (pc := 49) dX8_read_49 rfl ?_
      refine q_if_eq (pc := 50) (by omega) 86 dX8_read_50 rfl (fun c50 => ?_) (fun c50 => ?_)
      · exfalso; omega
      refine q_aload_n (pc := 53) dX8_read_53 rfl rfl ?_
      refine q_getfield (pc := 54) gf_X8_154 dX8_read_54 (by assumption) rfl ?_
      refine q_if_eq (pc := 57) (by omega) 86 dX8_read_57 rfl (fun c57 => ?_) (fun c57 => ?_)
      · exfalso; omega
      refine q_aload_n (pc := 60) dX8_read_60 rfl rfl ?_
      refine q_invokevirtual (pc := 61) (d' := d - 1) (mc' := 0) (ms' := 0) (As := []) (TX8, 26) cl_X8_206 dX8_read_61 rfl rfl (by assumption) rfl (by omega) rfl 0 0 (Nat.le_refl 0) (Nat.le_refl 0) ?_
      refine c_X8_takesItem hX (by omega) hM1 hT hp1 hO1 (by omega) h8 (fun w2 N' p' hs2 hM2 hp2 ha hb => ?_)
      rw [zb_f (fun z => Bool.noConfusion (hx.symm.trans z))]
      refine q_istore_n (pc := 64) [some _, some _, none] dX8_read_64 rfl (Nat.le_of_ble_eq_true rfl) rfl ?_
      refine q_iload_n (pc := 65) dX8_read_65 rfl ?_
      refine q_if_eq (pc := 66) (by omega) 49 dX8_read_66 rfl (fun c66 => ?_) (fun c66 => ?_)
      · exact kf _ _ _ hx (hb hx) (hs.tr hs2) hM2 hp2
      exfalso; omega
  have L : ∀ (q : Nat) (it : Int) (N : Int → Int) (p : Int) (w1 : zWd), 1 ≤ it → it ≤ p → zS2 w w1 → zRM g S.2.2.2.1.1 S.2.2.2.1.2 S.1.2.1 len it sm T w1 N p → 0 ≤ p ∧ p ≤ len → zOK N → (∀ j, 88 ≤ j → N j = 0) → len - p < q → zrd T len q it N p = zread T len → zRuns g d mX8_read 0 0 49 [some (zR g 72), some (zI 1), none] [] w1 K := by
    intro q
    induction q with
    | zero => intro it N p w1 h1 h2 hs hM1 hp1 hO1 h8 hq; omega
    | succ q ih =>
      intro it N p w1 h1 h2 hs hM1 hp1 hO1 h8 hq ez
      have ht := ztok_b (zbyte T len (zsrt T len p))
      have e1 : zt0 T len p = ztok (zbyte T len (zsrt T len p)) := rfl
      rw [zrd] at ez
      by_cases t0 : zt0 T len p = 0
      · rw [if_pos (by unfold ztk; split <;> omega)] at ez
        exact JS it w1 N p (by omega) (by omega) hs hM1 hp1 t0 ez.symm
      · rw [if_neg (fun z => t0 (by unfold ztk at z; split at z <;> omega))] at ez
        have hg := zitem_gd hT hO1 hp1
        have h88 := zitem_88 (T := T) (len := len) (p := p) hO1 h8
        generalize hX : zitem T len N p = X at ez hg h88
        refine J49 it w1 N p X (by rw [if_neg (by omega)]; exact hX.symm) (by omega) (by omega) hs hM1 hp1 hO1 h8 t0 (fun w2 N' p' hx hs2 hM2 hp2 => ?_) (fun w2 N' p' hx hx2 hs2 hM2 hp2 => ?_)
        · subst hx
          rw [if_pos rfl] at ez
          have h5 := hg.2.2.2 rfl
          exact ih (it + 1) N' (znxt T len p') w2 (by omega) (by have h5 : p < znxt T len p' := h5; omega) hs2 hM2 (znx hp2) hg.1 h88 (by have h5 : p < znxt T len p' := h5; omega) ez
        · rw [if_neg (by rw [hx]; decide), hx2] at ez
          exact JF it w2 N' p' hs2 hM2 hp2 (by rw [← ez])
  have J36 : ∀ (w1 : zWd) (x : Option Value), zS2 w w1 → zRM g S.2.2.2.1.1 S.2.2.2.1.2 S.1.2.1 len 0 sm T w1 (zempty 0) 0 → zRuns g d mX8_read 0 0 36 [some (zR g 72), x, none] [] w1 K := by
    intro w1 x hs hM1
    obtain ⟨h721, h771, h761⟩ := id hM1
    have ht := ztok_b (zbyte T len (zsrt T len 0))
    have e1 : zt0 T len 0 = ztok (zbyte T len (zsrt T len 0)) := rfl
    have e8 : ∀ j, 88 ≤ j → zempty 0 j = 0 := fun j hj => if_neg (by omega)
    have hx0 := zempty_ok (v := 0) (by omega)
    by_cases t0 : zt0 T len 0 = 0
    · have hw : ¬ zword T len 0 0 := fun z => by have := ztk1.mp z.1; omega
      have ez : (zread T len).1 = -10 - zsrt T len 0 := by unfold zread; rw [if_neg hw]
      refine q_aload_n (pc := 36) dX8_read_36 rfl rfl ?_
      refine q_getfield (pc := 37) gf_X8_154 dX8_read_37 (by assumption) rfl ?_
      refine q_if_eq (pc := 40) (by omega) 47 dX8_read_40 rfl (fun c40 => ?_) (fun c40 => ?_)
      · refine q_iconst (pc := 47) dX8_read_47 ?_
        refine q_istore_n (pc := 48) [some _, some _, none] dX8_read_48 rfl (Nat.le_of_ble_eq_true rfl) rfl ?_
        exact JF 0 w1 _ 0 hs hM1 (by omega) ez
      exfalso; omega
    · have kt : zRuns g d mX8_read 0 0 49 [some (zR g 72), some (zI 1), none] [] w1 K := by
        have hg := zistore_gd hT hx0 (p := 0) (by omega)
        have h88 := zistore_88 (T := T) (len := len) (p := 0) e8
        generalize hX : (if zword T len 0 0 then zistore T len (zempty 0) 0 else (false, zempty 0, 0)) = X
        refine J49 0 w1 (zempty 0) 0 X (by rw [if_pos rfl]; exact hX.symm) (by omega) (by omega) hs hM1 (by omega) hx0 e8 t0 (fun w2 N' p' hx hs2 hM2 hp2 => ?_) (fun w2 N' p' hx hx2 hs2 hM2 hp2 => ?_)
        · by_cases hw : zword T len 0 0
          · rw [if_pos hw] at hX
            rw [hX.trans hx] at hg h88
            have h5 : 0 < znxt T len p' := hg.2.2.2 rfl
            have ez : zrd T len 151 1 N' (znxt T len p') = zread T len := by unfold zread; rw [if_pos hw, hX.trans hx, if_pos rfl]
            exact L 151 1 N' (znxt T len p') w2 (by omega) (by omega) hs2 hM2 (znx hp2) hg.1 h88 (by omega) ez
          · rw [if_neg hw] at hX
            exact Bool.noConfusion (show false = true from congrArg Prod.fst (hX.trans hx))
        · refine JF 0 w2 N' p' hs2 hM2 hp2 ?_
          unfold zread
          by_cases hw : zword T len 0 0
          · rw [if_pos hw] at hX
            rw [if_pos hw, hX, if_neg (by rw [hx]; decide), hx2]
          · rw [if_neg hw] at hX
            rw [if_neg hw]
            subst hX
            show -10 - zsrt T len 0 = _
            rw [show p' = 0 from hx2.symm]
      refine q_aload_n (pc := 36) dX8_read_36 rfl rfl ?_
      refine q_getfield (pc := 37) gf_X8_154 dX8_read_37 (by assumption) rfl ?_
      refine q_if_eq (pc := 40) (by omega) 47 dX8_read_40 rfl (fun c40 => ?_) (fun c40 => ?_)
      · exfalso; omega
      refine q_iconst (pc := 43) dX8_read_43 ?_
      refine q_goto (pc := 44) 48 dX8_read_44 rfl ?_
      refine q_istore_n (pc := 48) [some _, some _, none] dX8_read_48 rfl (Nat.le_of_ble_eq_true rfl) rfl ?_
      exact kt
  have L0 : ∀ (q m : Nat) (w1 : zWd), m + q = 168 → zS2 w w1 → w1.1 72 = some (zMO g S.2.2.2.1.1 S.2.2.2.1.2 S.1.2.1 len p0 p1 p2 p3 p4 it0 sm) → w1.1 77 = some (.inr (false, 168, zeT f77 (m : Int))) → zRuns g d mX8_read 0 0 2 [some (zR g 72), some (zI (m : Int)), none] [] w1 K := by
    intro q
    induction q with
    | zero =>
      intro m w1 h4 hs h72 h77
      have h76 := (hs.2 76 (by decide) (by decide)).trans h76
      obtain rfl : m = 168 := by omega
      have e : ∀ j, 0 ≤ j → j < ((168 : Nat) : Int) → zeT f77 168 j = zempty 0 j := fun j a b => by
        simp only [zeT, zempty]
        rw [if_pos (by omega)]; split <;> rfl
      refine q_iload_n (pc := 2) dX8_read_2 rfl ?_
      refine q_sipush (pc := 3) (by decide) dX8_read_3 ?_
      refine q_icmp_ge (pc := 6) (by omega) (by omega) 22 dX8_read_6 rfl (fun c6 => ?_) (fun c6 => ?_)
      · refine q_norm (k := 77) (zempty 0) h77 e ?_
        refine q_aload_n (pc := 22) dX8_read_22 rfl rfl ?_
        refine q_iconst (pc := 23) dX8_read_23 ?_
        refine q_putfield2 (pc := 24) [_, _, _, _, _, _, _, _, _, _, _, _, _, _, _, _, _, _, _, _, _, _, _, _, _, _] pf_X8_180 dX8_read_24 (by first | assumption | exact zup_at | exact (zup_ne (by decide)).trans (zup_at) | exact (zup_ne (by decide)).trans (by assumption) | exact (zup_ne (by decide)).trans ((zup_ne (by decide)).trans (zup_at)) | exact (zup_ne (by decide)).trans ((zup_ne (by decide)).trans (by assumption)) | exact (zup_ne (by decide)).trans ((zup_ne (by decide)).trans ((zup_ne (by decide)).trans (zup_at))) | exact (zup_ne (by decide)).trans ((zup_ne (by decide)).trans ((zup_ne (by decide)).trans (by assumption))) | exact (zup_ne (by decide)).trans ((zup_ne (by decide)).trans ((zup_ne (by decide)).trans ((zup_ne (by decide)).trans (zup_at)))) | exact (zup_ne (by decide)).trans ((zup_ne (by decide)).trans ((zup_ne (by decide)).trans ((zup_ne (by decide)).trans (by assumption)))) | exact (zup_ne (by decide)).trans ((zup_ne (by decide)).trans ((zup_ne (by decide)).trans ((zup_ne (by decide)).trans ((zup_ne (by decide)).trans (zup_at))))) | exact (zup_ne (by decide)).trans ((zup_ne (by decide)).trans ((zup_ne (by decide)).trans ((zup_ne (by decide)).trans ((zup_ne (by decide)).trans (by assumption)))))) rfl rfl (Nat.le_of_ble_eq_true rfl) rfl ?_
        refine q_aload_n (pc := 27) dX8_read_27 rfl rfl ?_
        refine q_iconst (pc := 28) dX8_read_28 ?_
        refine q_putfield2 (pc := 29) [_, _, _, _, _, _, _, _, _, _, _, _, _, _, _, _, _, _, _, _, _, _, _, _, _, _] pf_X8_139 dX8_read_29 (by first | assumption | exact zup_at | exact (zup_ne (by decide)).trans (zup_at) | exact (zup_ne (by decide)).trans (by assumption) | exact (zup_ne (by decide)).trans ((zup_ne (by decide)).trans (zup_at)) | exact (zup_ne (by decide)).trans ((zup_ne (by decide)).trans (by assumption)) | exact (zup_ne (by decide)).trans ((zup_ne (by decide)).trans ((zup_ne (by decide)).trans (zup_at))) | exact (zup_ne (by decide)).trans ((zup_ne (by decide)).trans ((zup_ne (by decide)).trans (by assumption))) | exact (zup_ne (by decide)).trans ((zup_ne (by decide)).trans ((zup_ne (by decide)).trans ((zup_ne (by decide)).trans (zup_at)))) | exact (zup_ne (by decide)).trans ((zup_ne (by decide)).trans ((zup_ne (by decide)).trans ((zup_ne (by decide)).trans (by assumption)))) | exact (zup_ne (by decide)).trans ((zup_ne (by decide)).trans ((zup_ne (by decide)).trans ((zup_ne (by decide)).trans ((zup_ne (by decide)).trans (zup_at))))) | exact (zup_ne (by decide)).trans ((zup_ne (by decide)).trans ((zup_ne (by decide)).trans ((zup_ne (by decide)).trans ((zup_ne (by decide)).trans (by assumption)))))) rfl rfl (Nat.le_of_ble_eq_true rfl) rfl ?_
        refine q_aload_n (pc := 32) dX8_read_32 rfl rfl ?_
        refine q_invokevirtual (pc := 33) (d' := d - 1) (mc' := 0) (ms' := 0) (As := []) (TX8, 26) cl_X8_165 dX8_read_33 rfl rfl (by first | assumption | exact zup_at | exact (zup_ne (by decide)).trans (zup_at) | exact (zup_ne (by decide)).trans (by assumption) | exact (zup_ne (by decide)).trans ((zup_ne (by decide)).trans (zup_at)) | exact (zup_ne (by decide)).trans ((zup_ne (by decide)).trans (by assumption)) | exact (zup_ne (by decide)).trans ((zup_ne (by decide)).trans ((zup_ne (by decide)).trans (zup_at))) | exact (zup_ne (by decide)).trans ((zup_ne (by decide)).trans ((zup_ne (by decide)).trans (by assumption))) | exact (zup_ne (by decide)).trans ((zup_ne (by decide)).trans ((zup_ne (by decide)).trans ((zup_ne (by decide)).trans (zup_at)))) | exact (zup_ne (by decide)).trans ((zup_ne (by decide)).trans ((zup_ne (by decide)).trans ((zup_ne (by decide)).trans (by assumption)))) | exact (zup_ne (by decide)).trans ((zup_ne (by decide)).trans ((zup_ne (by decide)).trans ((zup_ne (by decide)).trans ((zup_ne (by decide)).trans (zup_at))))) | exact (zup_ne (by decide)).trans ((zup_ne (by decide)).trans ((zup_ne (by decide)).trans ((zup_ne (by decide)).trans ((zup_ne (by decide)).trans (by assumption)))))) rfl (by omega) rfl 0 0 (Nat.le_refl 0) (Nat.le_refl 0) ?_
        refine c_X8_nextToken (by omega) zup_at ((zup_ne (by decide)).trans ((zup_ne (by decide)).trans ((zup_ne (by decide)).trans h76))) hT (by omega) (fun w2 hs2 h722 => ?_)
        exact J36 w2 _ (hs.tr ((zS2.o77 (zSame.up (by omega))).tr ((zS2.o72 (zSame.up (by omega))).tr ((zS2.o72 (zSame.up (by omega))).tr (.o72 hs2))))) ⟨h722, (hs2.2 77 (by omega)).trans ((zup_ne (by decide)).trans ((zup_ne (by decide)).trans zup_at)), (hs2.2 76 (by omega)).trans ((zup_ne (by decide)).trans ((zup_ne (by decide)).trans ((zup_ne (by decide)).trans h76)))⟩
      exfalso; omega
    | succ q ih =>
      intro m w1 h4 hs h72 h77
      have hih := ih (m + 1)
      have hzs := zeT_s (N := f77) (m := (m : Int)) (by omega)
      refine q_iload_n (pc := 2) dX8_read_2 rfl ?_
      refine q_sipush (pc := 3) (by decide) dX8_read_3 ?_
      refine q_icmp_ge (pc := 6) (by omega) (by omega) 22 dX8_read_6 rfl (fun c6 => ?_) (fun c6 => ?_)
      · exfalso; omega
      refine q_aload_n (pc := 9) dX8_read_9 rfl rfl ?_
      refine q_getfield (pc := 10) gf_X8_26 dX8_read_10 (by assumption) rfl ?_
      refine q_iload_n (pc := 13) dX8_read_13 rfl ?_
      refine q_iconst (pc := 14) dX8_read_14 ?_
      refine q_iastore (pc := 15) dX8_read_15 (by assumption) (by omega) ?_
      refine q_iinc (pc := 16) [some _, some _, none] dX8_read_16 rfl rfl rfl ?_
      refine q_goto (pc := 19) 2 dX8_read_19 rfl ?_
      exact hih _ (by omega) (hs.tr (.o77 (zSame.up (by omega)))) ((zup_ne (by decide)).trans h72) (zup_at.trans (by rw [hzs]; rfl))
  refine zenter [some _, none, none] pn_X8 rfl (Nat.le_of_ble_eq_true rfl) ?_
  refine q_iconst (pc := 0) dX8_read_0 ?_
  refine q_istore_n (pc := 1) [some _, some _, none] dX8_read_1 rfl (Nat.le_of_ble_eq_true rfl) rfl ?_
  exact L0 168 0 _ (by omega) .rf h72 (by rw [show ((0 : Nat) : Int) = 0 from rfl, zeT_0]; exact h77)
end X8J
