/-! the reference reads: the text -/
section X8J
variable {g : zG} {d : Nat} {w : zWd} {K : Option Value → zWd → Prop} {T N : Int → Int} {len p ab be u it sm : Int}
set_option maxRecDepth 100000 in
set_option maxHeartbeats 8000000 in
theorem c_X8_takesItem {X : Bool × (Int → Int) × Int} (hX : X = (if it = 0 then (if zword T len p 0 then zistore T len N p else (false, N, p)) else zitem T len N p)) (hd : 5 ≤ d) (hM : zRM g ab be u len it sm T w N p) (hT : zTx T len) (hp : 0 ≤ p ∧ p ≤ len) (hO : zOK N) (hi : 0 ≤ it ∧ it ≤ 200) (h8 : ∀ j, 88 ≤ j → N j = 0) (k : ∀ w' N' p', zS2 w w' → zRM g ab be u len it sm T w' N' p' → 0 ≤ p' ∧ p' ≤ len → (X.1 = true → X = (true, N', znxt T len p')) → (X.1 = false → X.2.2 = p') → K (some (zI (zb (X.1 = true)))) w') : zCall g d 0 0 mX8_takesItem [zR g 72] w K := by
  have hH := hO.1
  have hx1 := znx (T := T) hp
  obtain ⟨h72, h77, h76⟩ := id hM
  have ht : ∀ q, 0 ≤ zt0 T len q ∧ zt0 T len q ≤ 4 := fun q => ztok_b _
  have ht1 := ht p
  have J177 : ∀ (w1 : zWd) (N' : Int → Int) (p' : Int) (x1 x2 x3 : Option Value), zS2 w w1 → zRM g ab be u len it sm T w1 N' p' → 0 ≤ p' ∧ p' ≤ len → X = zfin T len N' p' → zRuns g d mX8_takesItem 0 0 177 [some (zR g 72), x1, x2, x3, some (zI 1)] [] w1 K := by
    intro w1 N' p' x1 x2 x3 hs hM1 hp1 h3
    have ht2 := ht p'
    obtain ⟨h721, h771, h761⟩ := id hM1
    by_cases t3 : zt0 T len p' = 3
    · rw [zfin_3 t3] at h3
      have h4 : X.1 = true := by rw [h3]
      refine q_iload (pc := 177) dX8_takesItem_177 rfl ?_
      refine q_if_eq (pc := 179) (by omega) 194 dX8_takesItem_179 rfl (fun c179 => ?_) (fun c179 => ?_)
      · exfalso; omega
      refine q_aload_n (pc := 182) dX8_takesItem_182 rfl rfl ?_
      refine q_getfield (pc := 183) gf_X8_154 dX8_takesItem_183 (by assumption) rfl ?_
      refine q_iconst (pc := 186) dX8_takesItem_186 ?_
      refine q_icmp_ne (pc := 187) (by omega) (by omega) 194 dX8_takesItem_187 rfl (fun c187 => ?_) (fun c187 => ?_)
      · exfalso; omega
      refine q_iconst (pc := 190) dX8_takesItem_190 ?_
      refine q_goto (pc := 191) 195 dX8_takesItem_191 rfl ?_
      exact q_zreturn1 (pc := 195) h4 dX8_takesItem_195 rfl (k _ _ _ hs hM1 hp1 (fun _ => h3) (fun z => by rw [h3] at z; cases z))
    · rw [zfin_n t3] at h3
      have h4 : X.1 = false := by rw [h3]
      refine q_iload (pc := 177) dX8_takesItem_177 rfl ?_
      refine q_if_eq (pc := 179) (by omega) 194 dX8_takesItem_179 rfl (fun c179 => ?_) (fun c179 => ?_)
      · refine q_iconst (pc := 194) dX8_takesItem_194 ?_
        exact q_zreturn0 (pc := 195) (by rw [h4]; decide) dX8_takesItem_195 rfl (k _ _ _ hs hM1 hp1 (fun z => by rw [h3] at z; cases z) (fun _ => by rw [h3]))
      refine q_aload_n (pc := 182) dX8_takesItem_182 rfl rfl ?_
      refine q_getfield (pc := 183) gf_X8_154 dX8_takesItem_183 (by assumption) rfl ?_
      refine q_iconst (pc := 186) dX8_takesItem_186 ?_
      refine q_icmp_ne (pc := 187) (by omega) (by omega) 194 dX8_takesItem_187 rfl (fun c187 => ?_) (fun c187 => ?_)
      · refine q_iconst (pc := 194) dX8_takesItem_194 ?_
        exact q_zreturn0 (pc := 195) (by rw [h4]; decide) dX8_takesItem_195 rfl (k _ _ _ hs hM1 hp1 (fun z => by rw [h3] at z; cases z) (fun _ => by rw [h3]))
      exfalso; omega
  have J168 : ∀ (w1 : zWd) (N' : Int → Int) (p' v : Int) (b : Bool) (x1 x2 x3 : Option Value), v = zb (b = true) → zS2 w w1 → zRM g ab be u len it sm T w1 N' p' → 0 ≤ p' ∧ p' ≤ len → (b = true → X = zfin T len N' (znxt T len p')) → (b = false → X.1 = false ∧ X.2.2 = p') → zRuns g d mX8_takesItem 0 0 168 [some (zR g 72), x1, x2, x3, some (zI v)] [] w1 K := by
    intro w1 N' p' v b x1 x2 x3 hv hs hM1 hp1 h1 h2
    subst hv
    obtain ⟨h721, h771, h761⟩ := id hM1
    cases b with
    | false =>
      obtain ⟨h3, h4⟩ := h2 rfl
      rw [zb_f (by decide)]
      refine q_iload (pc := 168) dX8_takesItem_168 rfl ?_
      refine q_if_eq (pc := 170) (by omega) 177 dX8_takesItem_170 rfl (fun c170 => ?_) (fun c170 => ?_)
      · refine q_iload (pc := 177) dX8_takesItem_177 rfl ?_
        refine q_if_eq (pc := 179) (by omega) 194 dX8_takesItem_179 rfl (fun c179 => ?_) (fun c179 => ?_)
        · refine q_iconst (pc := 194) dX8_takesItem_194 ?_
          exact q_zreturn0 (pc := 195) (by rw [h3]; decide) dX8_takesItem_195 rfl (k _ _ _ hs hM1 hp1 (fun z => by rw [h3] at z; cases z) (fun _ => h4))
        exfalso; omega
      exfalso; omega
    | true =>
      have h3 := h1 rfl
      rw [zb_t rfl]
      refine q_iload (pc := 168) dX8_takesItem_168 rfl ?_
      refine q_if_eq (pc := 170) (by omega) 177 dX8_takesItem_170 rfl (fun c170 => ?_) (fun c170 => ?_)
      · first | (exfalso; omega; done) | exact J177 _ _ _ _ _ _ (hs.tr hs2) hM2 (znx hp1) h3
      refine q_aload_n (pc := 173) dX8_takesItem_173 rfl rfl ?_
      refine q_invokevirtual (pc := 174) (d' := d - 1) (mc' := 0) (ms' := 0) (As := []) (TX8, 26) cl_X8_165 dX8_takesItem_174 rfl rfl (by assumption) rfl (by omega) rfl 0 0 (Nat.le_refl 0) (Nat.le_refl 0) ?_
      refine t_next (by omega) hM1 hT hp1 (fun w2 hs2 hM2 => ?_)
      first | (exfalso; omega; done) | exact J177 _ _ _ _ _ _ (hs.tr hs2) hM2 (znx hp1) h3
  have J68 : ∀ (w1 : zWd) (N' : Int → Int) (p' : Int) (x1 x2 x3 : Option Value), zS2 w w1 → zRM g ab be u len it sm T w1 N' p' → 0 ≤ p' ∧ p' ≤ len → X = zfin T len N' p' → zRuns g d mX8_takesItem 0 0 68 [some (zR g 72), x1, x2, x3, some (zI 1)] [] w1 K := by
    intro w1 N' p' x1 x2 x3 hs hM1 hp1 h3
    have ht2 := ht p'
    obtain ⟨h721, h771, h761⟩ := id hM1
    by_cases t3 : zt0 T len p' = 3
    · rw [zfin_3 t3] at h3
      have h4 : X.1 = true := by rw [h3]
      refine q_iload (pc := 68) dX8_takesItem_68 rfl ?_
      refine q_if_eq (pc := 70) (by omega) 85 dX8_takesItem_70 rfl (fun c70 => ?_) (fun c70 => ?_)
      · exfalso; omega
      refine q_aload_n (pc := 73) dX8_takesItem_73 rfl rfl ?_
      refine q_getfield (pc := 74) gf_X8_154 dX8_takesItem_74 (by assumption) rfl ?_
      refine q_iconst (pc := 77) dX8_takesItem_77 ?_
      refine q_icmp_ne (pc := 78) (by omega) (by omega) 85 dX8_takesItem_78 rfl (fun c78 => ?_) (fun c78 => ?_)
      · exfalso; omega
      refine q_iconst (pc := 81) dX8_takesItem_81 ?_
      refine q_goto (pc := 82) 86 dX8_takesItem_82 rfl ?_
      exact q_zreturn1 (pc := 86) h4 dX8_takesItem_86 rfl (k _ _ _ hs hM1 hp1 (fun _ => h3) (fun z => by rw [h3] at z; cases z))
    · rw [zfin_n t3] at h3
      have h4 : X.1 = false := by rw [h3]
      refine q_iload (pc := 68) dX8_takesItem_68 rfl ?_
      refine q_if_eq (pc := 70) (by omega) 85 dX8_takesItem_70 rfl (fun c70 => ?_) (fun c70 => ?_)
      · refine q_iconst (pc := 85) dX8_takesItem_85 ?_
        exact q_zreturn0 (pc := 86) (by rw [h4]; decide) dX8_takesItem_86 rfl (k _ _ _ hs hM1 hp1 (fun z => by rw [h3] at z; cases z) (fun _ => by rw [h3]))
      refine q_aload_n (pc := 73) dX8_takesItem_73 rfl rfl ?_
      refine q_getfield (pc := 74) gf_X8_154 dX8_takesItem_74 (by assumption) rfl ?_
      refine q_iconst (pc := 77) dX8_takesItem_77 ?_
      refine q_icmp_ne (pc := 78) (by omega) (by omega) 85 dX8_takesItem_78 rfl (fun c78 => ?_) (fun c78 => ?_)
      · refine q_iconst (pc := 85) dX8_takesItem_85 ?_
        exact q_zreturn0 (pc := 86) (by rw [h4]; decide) dX8_takesItem_86 rfl (k _ _ _ hs hM1 hp1 (fun z => by rw [h3] at z; cases z) (fun _ => by rw [h3]))
      exfalso; omega
  have J59 : ∀ (w1 : zWd) (N' : Int → Int) (p' v : Int) (b : Bool) (x1 x2 x3 : Option Value), v = zb (b = true) → zS2 w w1 → zRM g ab be u len it sm T w1 N' p' → 0 ≤ p' ∧ p' ≤ len → (b = true → X = zfin T len N' (znxt T len p')) → (b = false → X.1 = false ∧ X.2.2 = p') → zRuns g d mX8_takesItem 0 0 59 [some (zR g 72), x1, x2, x3, some (zI v)] [] w1 K := by
    intro w1 N' p' v b x1 x2 x3 hv hs hM1 hp1 h1 h2
    subst hv
    obtain ⟨h721, h771, h761⟩ := id hM1
    cases b with
    | false =>
      obtain ⟨h3, h4⟩ := h2 rfl
      rw [zb_f (by decide)]
      refine q_iload (pc := 59) dX8_takesItem_59 rfl ?_
      refine q_if_eq (pc := 61) (by omega) 68 dX8_takesItem_61 rfl (fun c61 => ?_) (fun c61 => ?_)
      · refine q_iload (pc := 68) dX8_takesItem_68 rfl ?_
        refine q_if_eq (pc := 70) (by omega) 85 dX8_takesItem_70 rfl (fun c70 => ?_) (fun c70 => ?_)
        · refine q_iconst (pc := 85) dX8_takesItem_85 ?_
          exact q_zreturn0 (pc := 86) (by rw [h3]; decide) dX8_takesItem_86 rfl (k _ _ _ hs hM1 hp1 (fun z => by rw [h3] at z; cases z) (fun _ => h4))
        exfalso; omega
      exfalso; omega
    | true =>
      have h3 := h1 rfl
      rw [zb_t rfl]
      refine q_iload (pc := 59) dX8_takesItem_59 rfl ?_
      refine q_if_eq (pc := 61) (by omega) 68 dX8_takesItem_61 rfl (fun c61 => ?_) (fun c61 => ?_)
      · first | (exfalso; omega; done) | exact J68 _ _ _ _ _ _ (hs.tr hs2) hM2 (znx hp1) h3
      refine q_aload_n (pc := 64) dX8_takesItem_64 rfl rfl ?_
      refine q_invokevirtual (pc := 65) (d' := d - 1) (mc' := 0) (ms' := 0) (As := []) (TX8, 26) cl_X8_165 dX8_takesItem_65 rfl rfl (by assumption) rfl (by omega) rfl 0 0 (Nat.le_refl 0) (Nat.le_refl 0) ?_
      refine t_next (by omega) hM1 hT hp1 (fun w2 hs2 hM2 => ?_)
      first | (exfalso; omega; done) | exact J68 _ _ _ _ _ _ (hs.tr hs2) hM2 (znx hp1) h3
  by_cases t1 : zt0 T len p = 1
  · have hw0 := zwdM_0 hp t1
    have hw1 := zwdM_1 hp t1
    have hw2 := zwdM_2 hp t1
    have hw3 := zwdM_3 hp t1
    have hw4 := zwdM_4 hp t1
    have hl := zletters hp t1
    have hE := znxt_b (T := T) hp.2
    have hb := zwv_b (T := T) (s := zsrt T len p) (znxt T len p - zsrt T len p).toNat (fun j hj => hl j (by omega))
    generalize hV : zwv T (zsrt T len p) (znxt T len p - zsrt T len p).toNat = V at hw0 hw1 hw2 hw3 hw4 hb
    by_cases h0 : it = 0
    · rw [if_pos h0] at hX
      by_cases q0 : V = 10502465
      · rw [if_pos (hw0.mp q0)] at hX
        unfold zistore at hX
        refine zenter [some _, none, none, none, none] pn_X8 rfl (Nat.le_of_ble_eq_true rfl) ?_
        by_cases h1 : znum T len 0 9 (znxt T len p)
        · rw [if_pos h1] at hX
          refine q_aload_n (pc := 0) dX8_takesItem_0 rfl rfl ?_
          refine q_invokevirtual (pc := 1) (d' := d - 1) (mc' := 0) (ms' := 0) (As := []) (TX8, 26) cl_X8_176 dX8_takesItem_1 rfl rfl (by assumption) rfl (by omega) rfl 0 0 (Nat.le_refl 0) (Nat.le_refl 0) ?_
          refine c_X8_wordNow h72 h76 hT hp ?_
          rw [if_pos t1, hV]
          refine q_lstore_n (pc := 4) [some _, some _, none, none, none] dX8_takesItem_4 rfl (Nat.le_of_ble_eq_true rfl) rfl ?_
          refine q_aload_n (pc := 5) dX8_takesItem_5 rfl rfl ?_
          refine q_getfield (pc := 6) gf_X8_180 dX8_takesItem_6 (by assumption) rfl ?_
          refine q_if_ne (pc := 9) (by omega) 16 dX8_takesItem_9 rfl (fun c9 => ?_) (fun c9 => ?_)
          · exfalso; omega
          refine q_iconst (pc := 12) dX8_takesItem_12 ?_
          refine q_goto (pc := 13) 17 dX8_takesItem_13 rfl ?_
          refine q_istore_n (pc := 17) [some _, some _, none, some _, none] dX8_takesItem_17 rfl (Nat.le_of_ble_eq_true rfl) rfl ?_
          refine q_aload_n (pc := 18) dX8_takesItem_18 rfl rfl ?_
          refine q_getfield (pc := 19) gf_X8_154 dX8_takesItem_19 (by assumption) rfl ?_
          refine q_iconst (pc := 22) dX8_takesItem_22 ?_
          refine q_icmp_ne (pc := 23) (by omega) (by omega) 43 dX8_takesItem_23 rfl (fun c23 => ?_) (fun c23 => ?_)
          · exfalso; omega
          refine q_iload_n (pc := 26) dX8_takesItem_26 rfl ?_
          refine q_lload_n (pc := 27) dX8_takesItem_27 rfl ?_
          refine q_ldc2_w (pc := 28) tw_5_163 dX8_takesItem_28 ?_
          refine q_lcmp (pc := 31) dX8_takesItem_31 (by omega) (by omega) ?_
          refine q_ifc_ne (pc := 32) 39 dX8_takesItem_32 rfl (fun c32 => ?_) (fun c32 => ?_)
          · exfalso; omega
          refine q_iconst (pc := 35) dX8_takesItem_35 ?_
          refine q_goto (pc := 36) 40 dX8_takesItem_36 rfl ?_
          refine q_icmp_eq (pc := 40) (by omega) (by omega) 45 dX8_takesItem_40 rfl (fun c40 => ?_) (fun c40 => ?_)
          · refine q_iload_n (pc := 45) dX8_takesItem_45 rfl ?_
            refine q_if_eq (pc := 46) (by omega) 87 dX8_takesItem_46 rfl (fun c46 => ?_) (fun c46 => ?_)
            · exfalso; omega
            refine q_aload_n (pc := 49) dX8_takesItem_49 rfl rfl ?_
            refine q_iconst (pc := 50) dX8_takesItem_50 ?_
            refine q_iconst (pc := 51) dX8_takesItem_51 ?_
            refine q_bipush (pc := 52) (by decide) dX8_takesItem_52 ?_
            refine q_invokevirtual (pc := 54) (d' := d - 1) (mc' := 0) (ms' := 0) (As := [_, _, _]) (TX8, 26) cl_X8_168 dX8_takesItem_54 rfl rfl (by assumption) rfl (by omega) rfl 0 0 (Nat.le_refl 0) (Nat.le_refl 0) ?_
            refine c_X8_takes (by omega) hM hT hp (by omega) (by omega) (by omega) (fun w1 hs1 hM1 => ?_)
            rw [if_pos h1] at hM1
            refine q_istore (pc := 57) [some _, some _, none, some _, some _] dX8_takesItem_57 rfl (Nat.le_of_ble_eq_true rfl) rfl ?_
            exact J59 _ _ _ _ true _ _ _ ((zb_t h1).trans (zb_t rfl).symm) hs1 hM1 hx1 (fun _ => hX) (fun z => by cases z)
          exfalso; omega
        · rw [if_neg h1] at hX
          refine q_aload_n (pc := 0) dX8_takesItem_0 rfl rfl ?_
          refine q_invokevirtual (pc := 1) (d' := d - 1) (mc' := 0) (ms' := 0) (As := []) (TX8, 26) cl_X8_176 dX8_takesItem_1 rfl rfl (by assumption) rfl (by omega) rfl 0 0 (Nat.le_refl 0) (Nat.le_refl 0) ?_
          refine c_X8_wordNow h72 h76 hT hp ?_
          rw [if_pos t1, hV]
          refine q_lstore_n (pc := 4) [some _, some _, none, none, none] dX8_takesItem_4 rfl (Nat.le_of_ble_eq_true rfl) rfl ?_
          refine q_aload_n (pc := 5) dX8_takesItem_5 rfl rfl ?_
          refine q_getfield (pc := 6) gf_X8_180 dX8_takesItem_6 (by assumption) rfl ?_
          refine q_if_ne (pc := 9) (by omega) 16 dX8_takesItem_9 rfl (fun c9 => ?_) (fun c9 => ?_)
          · exfalso; omega
          refine q_iconst (pc := 12) dX8_takesItem_12 ?_
          refine q_goto (pc := 13) 17 dX8_takesItem_13 rfl ?_
          refine q_istore_n (pc := 17) [some _, some _, none, some _, none] dX8_takesItem_17 rfl (Nat.le_of_ble_eq_true rfl) rfl ?_
          refine q_aload_n (pc := 18) dX8_takesItem_18 rfl rfl ?_
          refine q_getfield (pc := 19) gf_X8_154 dX8_takesItem_19 (by assumption) rfl ?_
          refine q_iconst (pc := 22) dX8_takesItem_22 ?_
          refine q_icmp_ne (pc := 23) (by omega) (by omega) 43 dX8_takesItem_23 rfl (fun c23 => ?_) (fun c23 => ?_)
          · exfalso; omega
          refine q_iload_n (pc := 26) dX8_takesItem_26 rfl ?_
          refine q_lload_n (pc := 27) dX8_takesItem_27 rfl ?_
          refine q_ldc2_w (pc := 28) tw_5_163 dX8_takesItem_28 ?_
          refine q_lcmp (pc := 31) dX8_takesItem_31 (by omega) (by omega) ?_
          refine q_ifc_ne (pc := 32) 39 dX8_takesItem_32 rfl (fun c32 => ?_) (fun c32 => ?_)
          · exfalso; omega
          refine q_iconst (pc := 35) dX8_takesItem_35 ?_
          refine q_goto (pc := 36) 40 dX8_takesItem_36 rfl ?_
          refine q_icmp_eq (pc := 40) (by omega) (by omega) 45 dX8_takesItem_40 rfl (fun c40 => ?_) (fun c40 => ?_)
          · refine q_iload_n (pc := 45) dX8_takesItem_45 rfl ?_
            refine q_if_eq (pc := 46) (by omega) 87 dX8_takesItem_46 rfl (fun c46 => ?_) (fun c46 => ?_)
            · exfalso; omega
            refine q_aload_n (pc := 49) dX8_takesItem_49 rfl rfl ?_
            refine q_iconst (pc := 50) dX8_takesItem_50 ?_
            refine q_iconst (pc := 51) dX8_takesItem_51 ?_
            refine q_bipush (pc := 52) (by decide) dX8_takesItem_52 ?_
            refine q_invokevirtual (pc := 54) (d' := d - 1) (mc' := 0) (ms' := 0) (As := [_, _, _]) (TX8, 26) cl_X8_168 dX8_takesItem_54 rfl rfl (by assumption) rfl (by omega) rfl 0 0 (Nat.le_refl 0) (Nat.le_refl 0) ?_
            refine c_X8_takes (by omega) hM hT hp (by omega) (by omega) (by omega) (fun w1 hs1 hM1 => ?_)
            rw [if_neg h1] at hM1
            refine q_istore (pc := 57) [some _, some _, none, some _, some _] dX8_takesItem_57 rfl (Nat.le_of_ble_eq_true rfl) rfl ?_
            exact J59 _ _ _ _ false _ _ _ ((zb_f h1).trans (zb_f (by decide)).symm) hs1 hM1 hx1 (fun z => by cases z) (fun _ => by rw [hX]; exact ⟨rfl, rfl⟩)
          exfalso; omega
      · rw [if_neg (fun z => q0 (hw0.mpr z))] at hX
        have hX1 : X.1 = false := by rw [hX]
        refine zenter [some _, none, none, none, none] pn_X8 rfl (Nat.le_of_ble_eq_true rfl) ?_
        refine q_aload_n (pc := 0) dX8_takesItem_0 rfl rfl ?_
        refine q_invokevirtual (pc := 1) (d' := d - 1) (mc' := 0) (ms' := 0) (As := []) (TX8, 26) cl_X8_176 dX8_takesItem_1 rfl rfl (by assumption) rfl (by omega) rfl 0 0 (Nat.le_refl 0) (Nat.le_refl 0) ?_
        refine c_X8_wordNow h72 h76 hT hp ?_
        rw [if_pos t1, hV]
        refine q_lstore_n (pc := 4) [some _, some _, none, none, none] dX8_takesItem_4 rfl (Nat.le_of_ble_eq_true rfl) rfl ?_
        refine q_aload_n (pc := 5) dX8_takesItem_5 rfl rfl ?_
        refine q_getfield (pc := 6) gf_X8_180 dX8_takesItem_6 (by assumption) rfl ?_
        refine q_if_ne (pc := 9) (by omega) 16 dX8_takesItem_9 rfl (fun c9 => ?_) (fun c9 => ?_)
        · exfalso; omega
        refine q_iconst (pc := 12) dX8_takesItem_12 ?_
        refine q_goto (pc := 13) 17 dX8_takesItem_13 rfl ?_
        refine q_istore_n (pc := 17) [some _, some _, none, some _, none] dX8_takesItem_17 rfl (Nat.le_of_ble_eq_true rfl) rfl ?_
        refine q_aload_n (pc := 18) dX8_takesItem_18 rfl rfl ?_
        refine q_getfield (pc := 19) gf_X8_154 dX8_takesItem_19 (by assumption) rfl ?_
        refine q_iconst (pc := 22) dX8_takesItem_22 ?_
        refine q_icmp_ne (pc := 23) (by omega) (by omega) 43 dX8_takesItem_23 rfl (fun c23 => ?_) (fun c23 => ?_)
        · refine q_iconst (pc := 43) dX8_takesItem_43 ?_
          exact q_zreturn0 (pc := 44) (by rw [hX1]; decide) dX8_takesItem_44 rfl (k w N p .rf hM hp (fun z => by rw [hX] at z; cases z) (fun _ => by rw [hX]))
        refine q_iload_n (pc := 26) dX8_takesItem_26 rfl ?_
        refine q_lload_n (pc := 27) dX8_takesItem_27 rfl ?_
        refine q_ldc2_w (pc := 28) tw_5_163 dX8_takesItem_28 ?_
        refine q_lcmp (pc := 31) dX8_takesItem_31 (by omega) (by omega) ?_
        refine q_ifc_ne (pc := 32) 39 dX8_takesItem_32 rfl (fun c32 => ?_) (fun c32 => ?_)
        · refine q_iconst (pc := 39) dX8_takesItem_39 ?_
          refine q_icmp_eq (pc := 40) (by omega) (by omega) 45 dX8_takesItem_40 rfl (fun c40 => ?_) (fun c40 => ?_)
          · exfalso; omega
          refine q_iconst (pc := 43) dX8_takesItem_43 ?_
          exact q_zreturn0 (pc := 44) (by rw [hX1]; decide) dX8_takesItem_44 rfl (k w N p .rf hM hp (fun z => by rw [hX] at z; cases z) (fun _ => by rw [hX]))
        exfalso; omega
    · rw [if_neg h0] at hX
      unfold zitem at hX
      by_cases q0 : V = 10502465
      · rw [if_neg (fun z => absurd (hw1.mpr z) (by omega)), if_neg (fun z => absurd (hw2.mpr z) (by omega)), if_neg (fun z => absurd (hw3.mpr z) (by omega)), if_neg (fun z => absurd (hw4.mpr z) (by omega))] at hX
        have hX1 : X.1 = false := by rw [hX]
        refine zenter [some _, none, none, none, none] pn_X8 rfl (Nat.le_of_ble_eq_true rfl) ?_
        refine q_aload_n (pc := 0) dX8_takesItem_0 rfl rfl ?_
        refine q_invokevirtual (pc := 1) (d' := d - 1) (mc' := 0) (ms' := 0) (As := []) (TX8, 26) cl_X8_176 dX8_takesItem_1 rfl rfl (by assumption) rfl (by omega) rfl 0 0 (Nat.le_refl 0) (Nat.le_refl 0) ?_
        refine c_X8_wordNow h72 h76 hT hp ?_
        rw [if_pos t1, hV]
        refine q_lstore_n (pc := 4) [some _, some _, none, none, none] dX8_takesItem_4 rfl (Nat.le_of_ble_eq_true rfl) rfl ?_
        refine q_aload_n (pc := 5) dX8_takesItem_5 rfl rfl ?_
        refine q_getfield (pc := 6) gf_X8_180 dX8_takesItem_6 (by assumption) rfl ?_
        refine q_if_ne (pc := 9) (by omega) 16 dX8_takesItem_9 rfl (fun c9 => ?_) (fun c9 => ?_)
        · refine q_iconst (pc := 16) dX8_takesItem_16 ?_
          refine q_istore_n (pc := 17) [some _, some _, none, some _, none] dX8_takesItem_17 rfl (Nat.le_of_ble_eq_true rfl) rfl ?_
          refine q_aload_n (pc := 18) dX8_takesItem_18 rfl rfl ?_
          refine q_getfield (pc := 19) gf_X8_154 dX8_takesItem_19 (by assumption) rfl ?_
          refine q_iconst (pc := 22) dX8_takesItem_22 ?_
          refine q_icmp_ne (pc := 23) (by omega) (by omega) 43 dX8_takesItem_23 rfl (fun c23 => ?_) (fun c23 => ?_)
          · refine q_iconst (pc := 43) dX8_takesItem_43 ?_
            exact q_zreturn0 (pc := 44) (by rw [hX1]; decide) dX8_takesItem_44 rfl (k w N p .rf hM hp (fun z => by rw [hX] at z; cases z) (fun _ => by rw [hX]))
          refine q_iload_n (pc := 26) dX8_takesItem_26 rfl ?_
          refine q_lload_n (pc := 27) dX8_takesItem_27 rfl ?_
          refine q_ldc2_w (pc := 28) tw_5_163 dX8_takesItem_28 ?_
          refine q_lcmp (pc := 31) dX8_takesItem_31 (by omega) (by omega) ?_
          refine q_ifc_ne (pc := 32) 39 dX8_takesItem_32 rfl (fun c32 => ?_) (fun c32 => ?_)
          · exfalso; omega
          refine q_iconst (pc := 35) dX8_takesItem_35 ?_
          refine q_goto (pc := 36) 40 dX8_takesItem_36 rfl ?_
          refine q_icmp_eq (pc := 40) (by omega) (by omega) 45 dX8_takesItem_40 rfl (fun c40 => ?_) (fun c40 => ?_)
          · exfalso; omega
          refine q_iconst (pc := 43) dX8_takesItem_43 ?_
          exact q_zreturn0 (pc := 44) (by rw [hX1]; decide) dX8_takesItem_44 rfl (k w N p .rf hM hp (fun z => by rw [hX] at z; cases z) (fun _ => by rw [hX]))
        exfalso; omega
      · have J87 : zRuns g d mX8_takesItem 0 0 87 [some (zR g 72), some (zJ V), none, some (zI 0), none] [] w K := by
          by_cases q1 : V = 45948915
          · rw [if_pos (hw1.mp q1)] at hX
            refine q_lload_n (pc := 87) dX8_takesItem_87 rfl ?_
            refine q_ldc2_w (pc := 88) tw_5_168 dX8_takesItem_88 ?_
            refine q_lcmp (pc := 91) dX8_takesItem_91 (by omega) (by omega) ?_
            refine q_ifc_ne (pc := 92) 116 dX8_takesItem_92 rfl (fun c92 => ?_) (fun c92 => ?_)
            · exfalso; omega
            refine q_aload_n (pc := 95) dX8_takesItem_95 rfl rfl ?_
            refine q_invokevirtual (pc := 96) (d' := d - 1) (mc' := 0) (ms' := 0) (As := []) (TX8, 26) cl_X8_187 dX8_takesItem_96 rfl rfl (by assumption) rfl (by omega) rfl 0 0 (Nat.le_refl 0) (Nat.le_refl 0) ?_
            refine c_X8_takesCellar (by omega) hM hT hp hO (fun w1 N' p' b hs1 hM1 hp1 hb1 hb2 => ?_)
            obtain ⟨h721, h771, h761⟩ := id hM1
            have ht2 := ht p'
            refine q_ifb_eq (pc := 99) 114 dX8_takesItem_99 rfl (fun c99 => ?_) (fun c99 => ?_)
            · have hX0 : X.1 = false ∧ X.2.2 = p' := by
                rw [hX]
                first
                | exact hb2 (Bool.eq_false_iff.mpr c99)
                | (rw [hb1 (by assumption), zfin_n (by omega)]; exact ⟨rfl, rfl⟩)
              refine q_iconst (pc := 114) dX8_takesItem_114 ?_
              exact q_zreturn0 (pc := 115) (by first | exact (show X.1 = true from congrArg Prod.fst hX1) | exact (show ¬ (X.1 = true) from fun z => Bool.noConfusion (hX0.1.symm.trans z))) dX8_takesItem_115 rfl (by first | exact k _ _ _ hs1 hM1 hp1 (fun _ => hX1) (fun z => by rw [hX1] at z; cases z) | exact k _ _ _ hs1 hM1 hp1 (fun z => by rw [hX0.1] at z; cases z) (fun _ => hX0.2))
            refine q_aload_n (pc := 102) dX8_takesItem_102 rfl rfl ?_
            refine q_getfield (pc := 103) gf_X8_154 dX8_takesItem_103 (by assumption) rfl ?_
            refine q_iconst (pc := 106) dX8_takesItem_106 ?_
            refine q_icmp_ne (pc := 107) (by omega) (by omega) 114 dX8_takesItem_107 rfl (fun c107 => ?_) (fun c107 => ?_)
            · have hX0 : X.1 = false ∧ X.2.2 = p' := by
                rw [hX]
                first
                | exact hb2 (Bool.eq_false_iff.mpr c99)
                | (rw [hb1 (by assumption), zfin_n (by omega)]; exact ⟨rfl, rfl⟩)
              refine q_iconst (pc := 114) dX8_takesItem_114 ?_
              exact q_zreturn0 (pc := 115) (by first | exact (show X.1 = true from congrArg Prod.fst hX1) | exact (show ¬ (X.1 = true) from fun z => Bool.noConfusion (hX0.1.symm.trans z))) dX8_takesItem_115 rfl (by first | exact k _ _ _ hs1 hM1 hp1 (fun _ => hX1) (fun z => by rw [hX1] at z; cases z) | exact k _ _ _ hs1 hM1 hp1 (fun z => by rw [hX0.1] at z; cases z) (fun _ => hX0.2))
            have hX1 : X = (true, N', znxt T len p') := hX.trans ((hb1 c99).trans (zfin_3 (by omega)))
            refine q_iconst (pc := 110) dX8_takesItem_110 ?_
            refine q_goto (pc := 111) 115 dX8_takesItem_111 rfl ?_
            exact q_zreturn1 (pc := 115) (by first | exact (show X.1 = true from congrArg Prod.fst hX1) | exact (show ¬ (X.1 = true) from fun z => Bool.noConfusion (hX0.1.symm.trans z))) dX8_takesItem_115 rfl (by first | exact k _ _ _ hs1 hM1 hp1 (fun _ => hX1) (fun z => by rw [hX1] at z; cases z) | exact k _ _ _ hs1 hM1 hp1 (fun z => by rw [hX0.1] at z; cases z) (fun _ => hX0.2))
          · rw [if_neg (fun z => q1 (hw1.mpr z))] at hX
            by_cases q2 : V = 7538239962
            · rw [if_pos (hw2.mp q2)] at hX
              refine q_lload_n (pc := 87) dX8_takesItem_87 rfl ?_
              refine q_ldc2_w (pc := 88) tw_5_168 dX8_takesItem_88 ?_
              refine q_lcmp (pc := 91) dX8_takesItem_91 (by omega) (by omega) ?_
              refine q_ifc_ne (pc := 92) 116 dX8_takesItem_92 rfl (fun c92 => ?_) (fun c92 => ?_)
              · refine q_lload_n (pc := 116) dX8_takesItem_116 rfl ?_
                refine q_ldc2_w (pc := 117) tw_5_173 dX8_takesItem_117 ?_
                refine q_lcmp (pc := 120) dX8_takesItem_120 (by omega) (by omega) ?_
                refine q_ifc_ne (pc := 121) 131 dX8_takesItem_121 rfl (fun c121 => ?_) (fun c121 => ?_)
                · exfalso; omega
                refine q_aload_n (pc := 124) dX8_takesItem_124 rfl rfl ?_
                refine q_invokevirtual (pc := 125) (d' := d - 1) (mc' := 0) (ms' := 0) (As := []) (TX8, 26) cl_X8_193 dX8_takesItem_125 rfl rfl (by assumption) rfl (by omega) rfl 0 0 (Nat.le_refl 0) (Nat.le_refl 0) ?_
                refine c_X8_takesSlinger (by omega) hM hT hp hO (fun w1 N' p' b hs1 hM1 hp1 hb1 hb2 => ?_)
                refine q_goto (pc := 128) 166 dX8_takesItem_128 rfl ?_
                refine q_istore (pc := 166) [some _, some _, none, some _, some _] dX8_takesItem_166 rfl (Nat.le_of_ble_eq_true rfl) rfl ?_
                exact J168 _ _ _ _ b _ _ _ rfl hs1 hM1 hp1 (fun z => hX.trans (hb1 z)) (fun z => by rw [hX]; exact hb2 z)
              exfalso; omega
            · rw [if_neg (fun z => q2 (hw2.mpr z))] at hX
              by_cases q3 : V = 1842025
              · rw [if_pos (hw3.mp q3)] at hX
                refine q_lload_n (pc := 87) dX8_takesItem_87 rfl ?_
                refine q_ldc2_w (pc := 88) tw_5_168 dX8_takesItem_88 ?_
                refine q_lcmp (pc := 91) dX8_takesItem_91 (by omega) (by omega) ?_
                refine q_ifc_ne (pc := 92) 116 dX8_takesItem_92 rfl (fun c92 => ?_) (fun c92 => ?_)
                · refine q_lload_n (pc := 116) dX8_takesItem_116 rfl ?_
                  refine q_ldc2_w (pc := 117) tw_5_173 dX8_takesItem_117 ?_
                  refine q_lcmp (pc := 120) dX8_takesItem_120 (by omega) (by omega) ?_
                  refine q_ifc_ne (pc := 121) 131 dX8_takesItem_121 rfl (fun c121 => ?_) (fun c121 => ?_)
                  · refine q_lload_n (pc := 131) dX8_takesItem_131 rfl ?_
                    refine q_ldc2_w (pc := 132) tw_5_178 dX8_takesItem_132 ?_
                    refine q_lcmp (pc := 135) dX8_takesItem_135 (by omega) (by omega) ?_
                    refine q_ifc_ne (pc := 136) 146 dX8_takesItem_136 rfl (fun c136 => ?_) (fun c136 => ?_)
                    · exfalso; omega
                    refine q_aload_n (pc := 139) dX8_takesItem_139 rfl rfl ?_
                    refine q_invokevirtual (pc := 140) (d' := d - 1) (mc' := 0) (ms' := 0) (As := []) (TX8, 26) cl_X8_198 dX8_takesItem_140 rfl rfl (by assumption) rfl (by omega) rfl 0 0 (Nat.le_refl 0) (Nat.le_refl 0) ?_
                    refine c_X8_takesCloud (by omega) hM hT hp hO (h8 _ (by omega)) (fun w1 N' p' b hs1 hM1 hp1 hb1 hb2 => ?_)
                    refine q_goto (pc := 143) 166 dX8_takesItem_143 rfl ?_
                    refine q_istore (pc := 166) [some _, some _, none, some _, some _] dX8_takesItem_166 rfl (Nat.le_of_ble_eq_true rfl) rfl ?_
                    exact J168 _ _ _ _ b _ _ _ rfl hs1 hM1 hp1 (fun z => hX.trans (hb1 z)) (fun z => by rw [hX]; exact hb2 z)
                  exfalso; omega
                exfalso; omega
              · rw [if_neg (fun z => q3 (hw3.mpr z))] at hX
                by_cases q4 : V = 12325519
                · rw [if_pos (hw4.mp q4)] at hX
                  refine q_lload_n (pc := 87) dX8_takesItem_87 rfl ?_
                  refine q_ldc2_w (pc := 88) tw_5_168 dX8_takesItem_88 ?_
                  refine q_lcmp (pc := 91) dX8_takesItem_91 (by omega) (by omega) ?_
                  refine q_ifc_ne (pc := 92) 116 dX8_takesItem_92 rfl (fun c92 => ?_) (fun c92 => ?_)
                  · refine q_lload_n (pc := 116) dX8_takesItem_116 rfl ?_
                    refine q_ldc2_w (pc := 117) tw_5_173 dX8_takesItem_117 ?_
                    refine q_lcmp (pc := 120) dX8_takesItem_120 (by omega) (by omega) ?_
                    refine q_ifc_ne (pc := 121) 131 dX8_takesItem_121 rfl (fun c121 => ?_) (fun c121 => ?_)
                    · refine q_lload_n (pc := 131) dX8_takesItem_131 rfl ?_
                      refine q_ldc2_w (pc := 132) tw_5_178 dX8_takesItem_132 ?_
                      refine q_lcmp (pc := 135) dX8_takesItem_135 (by omega) (by omega) ?_
                      refine q_ifc_ne (pc := 136) 146 dX8_takesItem_136 rfl (fun c136 => ?_) (fun c136 => ?_)
                      · refine q_lload_n (pc := 146) dX8_takesItem_146 rfl ?_
                        refine q_ldc2_w (pc := 147) tw_5_183 dX8_takesItem_147 ?_
                        refine q_lcmp (pc := 150) dX8_takesItem_150 (by omega) (by omega) ?_
                        refine q_ifc_ne (pc := 151) 165 dX8_takesItem_151 rfl (fun c151 => ?_) (fun c151 => ?_)
                        · refine q_iconst (pc := 165) dX8_takesItem_165 ?_
                          refine q_istore (pc := 166) [some _, some _, none, some _, some _] dX8_takesItem_166 rfl (Nat.le_of_ble_eq_true rfl) rfl ?_
                          first | (exfalso; omega; done) | exact J168 _ _ _ _ b _ _ _ (zb_t c158).symm hs1 hM1 hp1 (fun z => hX.trans (hb1 z)) (fun z => by rw [hX]; exact hb2 z) | exact J168 _ _ _ _ b _ _ _ (zb_f c158).symm hs1 hM1 hp1 (fun z => hX.trans (hb1 z)) (fun z => by rw [hX]; exact hb2 z)
                        refine q_aload_n (pc := 154) dX8_takesItem_154 rfl rfl ?_
                        refine q_invokevirtual (pc := 155) (d' := d - 1) (mc' := 0) (ms' := 0) (As := []) (TX8, 26) cl_X8_203 dX8_takesItem_155 rfl rfl (by assumption) rfl (by omega) rfl 0 0 (Nat.le_refl 0) (Nat.le_refl 0) ?_
                        refine c_X8_takesWeeks (by omega) hM hT hp hO (fun w1 N' p' b hs1 hM1 hp1 hb1 hb2 => ?_)
                        refine q_ifb_eq (pc := 158) 165 dX8_takesItem_158 rfl (fun c158 => ?_) (fun c158 => ?_)
                        · refine q_iconst (pc := 165) dX8_takesItem_165 ?_
                          refine q_istore (pc := 166) [some _, some _, none, some _, some _] dX8_takesItem_166 rfl (Nat.le_of_ble_eq_true rfl) rfl ?_
                          first | (exfalso; omega; done) | exact J168 _ _ _ _ b _ _ _ (zb_t c158).symm hs1 hM1 hp1 (fun z => hX.trans (hb1 z)) (fun z => by rw [hX]; exact hb2 z) | exact J168 _ _ _ _ b _ _ _ (zb_f c158).symm hs1 hM1 hp1 (fun z => hX.trans (hb1 z)) (fun z => by rw [hX]; exact hb2 z)
                        refine q_iconst (pc := 161) dX8_takesItem_161 ?_
                        refine q_goto (pc := 162) 166 dX8_takesItem_162 rfl ?_
                        refine q_istore (pc := 166) [some _, some _, none, some _, some _] dX8_takesItem_166 rfl (Nat.le_of_ble_eq_true rfl) rfl ?_
                        first | (exfalso; omega; done) | exact J168 _ _ _ _ b _ _ _ (zb_t c158).symm hs1 hM1 hp1 (fun z => hX.trans (hb1 z)) (fun z => by rw [hX]; exact hb2 z) | exact J168 _ _ _ _ b _ _ _ (zb_f c158).symm hs1 hM1 hp1 (fun z => hX.trans (hb1 z)) (fun z => by rw [hX]; exact hb2 z)
                      exfalso; omega
                    exfalso; omega
                  exfalso; omega
                · rw [if_neg (fun z => q4 (hw4.mpr z))] at hX
                  refine q_lload_n (pc := 87) dX8_takesItem_87 rfl ?_
                  refine q_ldc2_w (pc := 88) tw_5_168 dX8_takesItem_88 ?_
                  refine q_lcmp (pc := 91) dX8_takesItem_91 (by omega) (by omega) ?_
                  refine q_ifc_ne (pc := 92) 116 dX8_takesItem_92 rfl (fun c92 => ?_) (fun c92 => ?_)
                  · refine q_lload_n (pc := 116) dX8_takesItem_116 rfl ?_
                    refine q_ldc2_w (pc := 117) tw_5_173 dX8_takesItem_117 ?_
                    refine q_lcmp (pc := 120) dX8_takesItem_120 (by omega) (by omega) ?_
                    refine q_ifc_ne (pc := 121) 131 dX8_takesItem_121 rfl (fun c121 => ?_) (fun c121 => ?_)
                    · refine q_lload_n (pc := 131) dX8_takesItem_131 rfl ?_
                      refine q_ldc2_w (pc := 132) tw_5_178 dX8_takesItem_132 ?_
                      refine q_lcmp (pc := 135) dX8_takesItem_135 (by omega) (by omega) ?_
                      refine q_ifc_ne (pc := 136) 146 dX8_takesItem_136 rfl (fun c136 => ?_) (fun c136 => ?_)
                      · refine q_lload_n (pc := 146) dX8_takesItem_146 rfl ?_
                        refine q_ldc2_w (pc := 147) tw_5_183 dX8_takesItem_147 ?_
                        refine q_lcmp (pc := 150) dX8_takesItem_150 (by omega) (by omega) ?_
                        refine q_ifc_ne (pc := 151) 165 dX8_takesItem_151 rfl (fun c151 => ?_) (fun c151 => ?_)
                        · refine q_iconst (pc := 165) dX8_takesItem_165 ?_
                          refine q_istore (pc := 166) [some _, some _, none, some _, some _] dX8_takesItem_166 rfl (Nat.le_of_ble_eq_true rfl) rfl ?_
                          exact J168 _ _ _ _ false _ _ _ (zb_f (by decide)).symm .rf hM hp (fun z => by cases z) (fun _ => by rw [hX]; exact ⟨rfl, rfl⟩)
                        exfalso; omega
                      exfalso; omega
                    exfalso; omega
                  exfalso; omega
        refine zenter [some _, none, none, none, none] pn_X8 rfl (Nat.le_of_ble_eq_true rfl) ?_
        refine q_aload_n (pc := 0) dX8_takesItem_0 rfl rfl ?_
        refine q_invokevirtual (pc := 1) (d' := d - 1) (mc' := 0) (ms' := 0) (As := []) (TX8, 26) cl_X8_176 dX8_takesItem_1 rfl rfl (by assumption) rfl (by omega) rfl 0 0 (Nat.le_refl 0) (Nat.le_refl 0) ?_
        refine c_X8_wordNow h72 h76 hT hp ?_
        rw [if_pos t1, hV]
        refine q_lstore_n (pc := 4) [some _, some _, none, none, none] dX8_takesItem_4 rfl (Nat.le_of_ble_eq_true rfl) rfl ?_
        refine q_aload_n (pc := 5) dX8_takesItem_5 rfl rfl ?_
        refine q_getfield (pc := 6) gf_X8_180 dX8_takesItem_6 (by assumption) rfl ?_
        refine q_if_ne (pc := 9) (by omega) 16 dX8_takesItem_9 rfl (fun c9 => ?_) (fun c9 => ?_)
        · refine q_iconst (pc := 16) dX8_takesItem_16 ?_
          refine q_istore_n (pc := 17) [some _, some _, none, some _, none] dX8_takesItem_17 rfl (Nat.le_of_ble_eq_true rfl) rfl ?_
          refine q_aload_n (pc := 18) dX8_takesItem_18 rfl rfl ?_
          refine q_getfield (pc := 19) gf_X8_154 dX8_takesItem_19 (by assumption) rfl ?_
          refine q_iconst (pc := 22) dX8_takesItem_22 ?_
          refine q_icmp_ne (pc := 23) (by omega) (by omega) 43 dX8_takesItem_23 rfl (fun c23 => ?_) (fun c23 => ?_)
          · exfalso; omega
          refine q_iload_n (pc := 26) dX8_takesItem_26 rfl ?_
          refine q_lload_n (pc := 27) dX8_takesItem_27 rfl ?_
          refine q_ldc2_w (pc := 28) tw_5_163 dX8_takesItem_28 ?_
          refine q_lcmp (pc := 31) dX8_takesItem_31 (by omega) (by omega) ?_
          refine q_ifc_ne (pc := 32) 39 dX8_takesItem_32 rfl (fun c32 => ?_) (fun c32 => ?_)
          · refine q_iconst (pc := 39) dX8_takesItem_39 ?_
            refine q_icmp_eq (pc := 40) (by omega) (by omega) 45 dX8_takesItem_40 rfl (fun c40 => ?_) (fun c40 => ?_)
            · refine q_iload_n (pc := 45) dX8_takesItem_45 rfl ?_
              refine q_if_eq (pc := 46) (by omega) 87 dX8_takesItem_46 rfl (fun c46 => ?_) (fun c46 => ?_)
              · exact J87
              exfalso; omega
            exfalso; omega
          exfalso; omega
        exfalso; omega
  · have ez : ∀ i, ¬ zword T len p i := fun i z => t1 (ztk1.mp z.1)
    have hX : X = (false, N, p) := by
      rw [hX]
      unfold zitem
      rw [if_neg (ez _), if_neg (ez _), if_neg (ez _), if_neg (ez _), if_neg (ez _)]
      split <;> rfl
    have hX1 : X.1 = false := by rw [hX]
    refine zenter [some _, none, none, none, none] pn_X8 rfl (Nat.le_of_ble_eq_true rfl) ?_
    refine q_aload_n (pc := 0) dX8_takesItem_0 rfl rfl ?_
    refine q_invokevirtual (pc := 1) (d' := d - 1) (mc' := 0) (ms' := 0) (As := []) (TX8, 26) cl_X8_176 dX8_takesItem_1 rfl rfl (by assumption) rfl (by omega) rfl 0 0 (Nat.le_refl 0) (Nat.le_refl 0) ?_
    refine c_X8_wordNow h72 h76 hT hp ?_
    rw [if_neg t1]
    refine q_lstore_n (pc := 4) [some _, some _, none, none, none] dX8_takesItem_4 rfl (Nat.le_of_ble_eq_true rfl) rfl ?_
    refine q_aload_n (pc := 5) dX8_takesItem_5 rfl rfl ?_
    refine q_getfield (pc := 6) gf_X8_180 dX8_takesItem_6 (by assumption) rfl ?_
    refine q_if_ne (pc := 9) (by omega) 16 dX8_takesItem_9 rfl (fun c9 => ?_) (fun c9 => ?_)
    · refine q_iconst (pc := 16) dX8_takesItem_16 ?_
      refine q_istore_n (pc := 17) [some _, some _, none, some _, none] dX8_takesItem_17 rfl (Nat.le_of_ble_eq_true rfl) rfl ?_
      refine q_aload_n (pc := 18) dX8_takesItem_18 rfl rfl ?_
      refine q_getfield (pc := 19) gf_X8_154 dX8_takesItem_19 (by assumption) rfl ?_
      refine q_iconst (pc := 22) dX8_takesItem_22 ?_
      refine q_icmp_ne (pc := 23) (by omega) (by omega) 43 dX8_takesItem_23 rfl (fun c23 => ?_) (fun c23 => ?_)
      · refine q_iconst (pc := 43) dX8_takesItem_43 ?_
        exact q_zreturn0 (pc := 44) (by rw [hX1]; decide) dX8_takesItem_44 rfl (k w N p .rf hM hp (fun z => by rw [hX] at z; cases z) (fun _ => by rw [hX]))
      exfalso; omega
    refine q_iconst (pc := 12) dX8_takesItem_12 ?_
    refine q_goto (pc := 13) 17 dX8_takesItem_13 rfl ?_
    refine q_istore_n (pc := 17) [some _, some _, none, some _, none] dX8_takesItem_17 rfl (Nat.le_of_ble_eq_true rfl) rfl ?_
    refine q_aload_n (pc := 18) dX8_takesItem_18 rfl rfl ?_
    refine q_getfield (pc := 19) gf_X8_154 dX8_takesItem_19 (by assumption) rfl ?_
    refine q_iconst (pc := 22) dX8_takesItem_22 ?_
    refine q_icmp_ne (pc := 23) (by omega) (by omega) 43 dX8_takesItem_23 rfl (fun c23 => ?_) (fun c23 => ?_)
    · refine q_iconst (pc := 43) dX8_takesItem_43 ?_
      exact q_zreturn0 (pc := 44) (by rw [hX1]; decide) dX8_takesItem_44 rfl (k w N p .rf hM hp (fun z => by rw [hX] at z; cases z) (fun _ => by rw [hX]))
    exfalso; omega
end X8J
