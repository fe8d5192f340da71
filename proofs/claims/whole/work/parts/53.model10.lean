theorem zMo.o84 {g : zG} {w w' : zWd} {S : zSt} (h : zMo g w S) (hs : zSame w w' 84 1) {f : Int → Int} (e : w'.1 84 = some (.inr (false, 336, f))) : zMo g w' (S.1, S.2.1, S.2.2.1, S.2.2.2.1, (f, S.2.2.2.2.2)) := by
  obtain ⟨⟨p0, p1, p2, p3, p4, it, sm, h1⟩, h2, h3, h4, h5, h6, h7, h8, h9, h10⟩ := h
  exact ⟨⟨p0, p1, p2, p3, p4, it, sm, by rw [hs.2 _ (by omega)]; exact h1⟩, by rw [hs.2 _ (by omega)]; exact h2, by rw [hs.2 _ (by omega)]; exact h3, by rw [hs.2 _ (by omega)]; exact h4, by rw [hs.2 _ (by omega)]; exact h5, h6.keep hs (by omega), e, by rw [hs.2 _ (by omega)]; exact h8, by rw [hs.2 _ (by omega)]; exact h9, by rw [hs.2 _ (by omega)]; exact h10⟩
theorem zMo.o85 {g : zG} {w w' : zWd} {S : zSt} (h : zMo g w S) (hs : zSame w w' 85 1) {f : Int → Int} (e : w'.1 85 = some (.inr (true, 2, f))) : zMo g w' (S.1, S.2.1, S.2.2.1, S.2.2.2.1, (S.2.2.2.2.1, f, S.2.2.2.2.2.2)) := by
  obtain ⟨⟨p0, p1, p2, p3, p4, it, sm, h1⟩, h2, h3, h4, h5, h6, h7, h8, h9, h10⟩ := h
  exact ⟨⟨p0, p1, p2, p3, p4, it, sm, by rw [hs.2 _ (by omega)]; exact h1⟩, by rw [hs.2 _ (by omega)]; exact h2, by rw [hs.2 _ (by omega)]; exact h3, by rw [hs.2 _ (by omega)]; exact h4, by rw [hs.2 _ (by omega)]; exact h5, h6.keep hs (by omega), by rw [hs.2 _ (by omega)]; exact h7, e, by rw [hs.2 _ (by omega)]; exact h9, by rw [hs.2 _ (by omega)]; exact h10⟩
theorem zMo.o86 {g : zG} {w w' : zWd} {S : zSt} (h : zMo g w S) (hs : zSame w w' 86 1) {f : Int → Int} (e : w'.1 86 = some (.inr (false, 2, f))) : zMo g w' (S.1, S.2.1, S.2.2.1, S.2.2.2.1, (S.2.2.2.2.1, S.2.2.2.2.2.1, f, S.2.2.2.2.2.2.2)) := by
  obtain ⟨⟨p0, p1, p2, p3, p4, it, sm, h1⟩, h2, h3, h4, h5, h6, h7, h8, h9, h10⟩ := h
  exact ⟨⟨p0, p1, p2, p3, p4, it, sm, by rw [hs.2 _ (by omega)]; exact h1⟩, by rw [hs.2 _ (by omega)]; exact h2, by rw [hs.2 _ (by omega)]; exact h3, by rw [hs.2 _ (by omega)]; exact h4, by rw [hs.2 _ (by omega)]; exact h5, h6.keep hs (by omega), by rw [hs.2 _ (by omega)]; exact h7, by rw [hs.2 _ (by omega)]; exact h8, e, by rw [hs.2 _ (by omega)]; exact h10⟩
theorem zMo.o87 {g : zG} {w w' : zWd} {S : zSt} (h : zMo g w S) (hs : zSame w w' 87 1) {f : Int → Int} (e : w'.1 87 = some (.inr (false, 960, f))) : zMo g w' (S.1, S.2.1, S.2.2.1, S.2.2.2.1, (S.2.2.2.2.1, S.2.2.2.2.2.1, S.2.2.2.2.2.2.1, f)) := by
  obtain ⟨⟨p0, p1, p2, p3, p4, it, sm, h1⟩, h2, h3, h4, h5, h6, h7, h8, h9, h10⟩ := h
  exact ⟨⟨p0, p1, p2, p3, p4, it, sm, by rw [hs.2 _ (by omega)]; exact h1⟩, by rw [hs.2 _ (by omega)]; exact h2, by rw [hs.2 _ (by omega)]; exact h3, by rw [hs.2 _ (by omega)]; exact h4, by rw [hs.2 _ (by omega)]; exact h5, h6.keep hs (by omega), by rw [hs.2 _ (by omega)]; exact h7, by rw [hs.2 _ (by omega)]; exact h8, by rw [hs.2 _ (by omega)]; exact h9, e⟩
def zcpT (f x : Int → Int) (b m : Int) : Int → Int := fun j => if b ≤ j ∧ j < b + m then x (j - b) else f j
theorem zcpT_0 {f x : Int → Int} {b : Int} : zcpT f x b 0 = f := by funext j; simp only [zcpT]; rw [if_neg (by omega)]
theorem zcpT_s {f x : Int → Int} {b m : Int} (hm : 0 ≤ m) : zfu (zcpT f x b m) (b + m) (x m) = zcpT f x b (m + 1) := by
  funext j
  simp only [zfu, zcpT]
  by_cases h1 : j = b + m
  · rw [if_pos h1, if_pos (by omega)]; congr 1; omega
  · rw [if_neg h1]
    by_cases h2 : b ≤ j ∧ j < b + m
    · rw [if_pos h2, if_pos (by omega)]
    · rw [if_neg h2, if_neg (by omega)]
theorem zcpT_img {f x : Int → Int} {n i : Int} : zcpT f x (n * i) n = zimg f x n i := rfl
theorem zgust_m {N : Int → Int} {s q r n c : Int} : n * ((10 - c) * zhat N s q r (N 4) + c * zhat N s q r (min 9 (N 4 + 4))) = zgust N s q r n c := by
  unfold zgust; rw [Int.add_comm]
/-! the reference's own calls, the rest -/
section X8J
variable {g : zG} {d : Nat} {w : zWd} {K : Option Value → zWd → Prop} {S : zSt}
set_option maxRecDepth 100000 in
set_option maxHeartbeats 8000000 in
theorem c_X8_part {x : Int} (hd : 6 ≤ d) (hC : zMo g w S) (hO : zOKS S) (h_x : zR32 x) (k : ∀ w', zSame w w' 72 16 → zMo g w' (o_part S x).2 → K (some (zJ (o_part S x).1)) w') : zCall g d 0 0 mX8_part [zR g 72, zI x] w K := by
  obtain ⟨⟨p0, p1, p2, p3, p4, it, sm, h72⟩, h73, h74, h75, h76, hScr, h84, h85, h86, h87⟩ := id hC
  have hO1 := hO.1
  have hO2 := hO1.1
  have hO3 := hO2.1
  refine zenter [some _, some _] pn_X8 rfl (Nat.le_of_ble_eq_true rfl) ?_
  refine q_iload_n (pc := 0) dX8_part_0 rfl ?_
  refine q_if_ne (pc := 1) (by omega) 11 dX8_part_1 rfl (fun c1 => ?_) (fun c1 => ?_)
  · refine q_iload_n (pc := 11) dX8_part_11 rfl ?_
    refine q_iconst (pc := 12) dX8_part_12 ?_
    refine q_icmp_ne (pc := 13) (by omega) (by omega) 23 dX8_part_13 rfl (fun c13 => ?_) (fun c13 => ?_)
    · refine q_aload_n (pc := 23) dX8_part_23 rfl rfl ?_
      refine q_invokevirtual (pc := 24) (d' := d - 1) (mc' := 0) (ms' := 0) (As := []) (TX8, 26) cl_X8_103 dX8_part_24 rfl rfl (by first | assumption | exact zup_at | exact (zup_ne (by decide)).trans (zup_at) | exact (zup_ne (by decide)).trans (by assumption) | exact (zup_ne (by decide)).trans ((zup_ne (by decide)).trans (zup_at)) | exact (zup_ne (by decide)).trans ((zup_ne (by decide)).trans (by assumption)) | exact (zup_ne (by decide)).trans ((zup_ne (by decide)).trans ((zup_ne (by decide)).trans (zup_at))) | exact (zup_ne (by decide)).trans ((zup_ne (by decide)).trans ((zup_ne (by decide)).trans (by assumption))) | exact (zup_ne (by decide)).trans ((zup_ne (by decide)).trans ((zup_ne (by decide)).trans ((zup_ne (by decide)).trans (zup_at)))) | exact (zup_ne (by decide)).trans ((zup_ne (by decide)).trans ((zup_ne (by decide)).trans ((zup_ne (by decide)).trans (by assumption)))) | exact (zup_ne (by decide)).trans ((zup_ne (by decide)).trans ((zup_ne (by decide)).trans ((zup_ne (by decide)).trans ((zup_ne (by decide)).trans (zup_at))))) | exact (zup_ne (by decide)).trans ((zup_ne (by decide)).trans ((zup_ne (by decide)).trans ((zup_ne (by decide)).trans ((zup_ne (by decide)).trans (by assumption)))))) rfl (by omega) rfl 0 0 (Nat.le_refl 0) (Nat.le_refl 0) ?_
      refine c_X8_bad hC (fun w9 hs9 hC9 => ?_)
      refine q_i2l (pc := 27) dX8_part_27 (by omega) ?_
      refine q_lreturn (pc := 28) dX8_part_28 rfl ?_
      first | exact zgmJ k (by unfold o_part; exact ((if_pos (by omega)).trans rfl)) zSame.rf hC | exact zgmJ k (by unfold o_part; exact ((if_neg (by omega)).trans ((if_pos (by omega)).trans rfl))) zSame.rf hC | exact zgmJ k (by unfold o_part; exact ((if_neg (by omega)).trans ((if_neg (by omega)).trans rfl))) hs9 hC9
    refine q_aload_n (pc := 16) dX8_part_16 rfl rfl ?_
    refine q_getfield (pc := 17) gf_X8_16 dX8_part_17 (by first | assumption | exact zup_at | exact (zup_ne (by decide)).trans (zup_at) | exact (zup_ne (by decide)).trans (by assumption) | exact (zup_ne (by decide)).trans ((zup_ne (by decide)).trans (zup_at)) | exact (zup_ne (by decide)).trans ((zup_ne (by decide)).trans (by assumption)) | exact (zup_ne (by decide)).trans ((zup_ne (by decide)).trans ((zup_ne (by decide)).trans (zup_at))) | exact (zup_ne (by decide)).trans ((zup_ne (by decide)).trans ((zup_ne (by decide)).trans (by assumption))) | exact (zup_ne (by decide)).trans ((zup_ne (by decide)).trans ((zup_ne (by decide)).trans ((zup_ne (by decide)).trans (zup_at)))) | exact (zup_ne (by decide)).trans ((zup_ne (by decide)).trans ((zup_ne (by decide)).trans ((zup_ne (by decide)).trans (by assumption)))) | exact (zup_ne (by decide)).trans ((zup_ne (by decide)).trans ((zup_ne (by decide)).trans ((zup_ne (by decide)).trans ((zup_ne (by decide)).trans (zup_at))))) | exact (zup_ne (by decide)).trans ((zup_ne (by decide)).trans ((zup_ne (by decide)).trans ((zup_ne (by decide)).trans ((zup_ne (by decide)).trans (by assumption)))))) rfl ?_
    refine q_goto (pc := 20) 28 dX8_part_20 rfl ?_
    refine q_lreturn (pc := 28) dX8_part_28 rfl ?_
    first | exact zgmJ k (by unfold o_part; exact ((if_pos (by omega)).trans rfl)) zSame.rf hC | exact zgmJ k (by unfold o_part; exact ((if_neg (by omega)).trans ((if_pos (by omega)).trans rfl))) zSame.rf hC | exact zgmJ k (by unfold o_part; exact ((if_neg (by omega)).trans ((if_neg (by omega)).trans rfl))) hs9 hC9
  refine q_aload_n (pc := 4) dX8_part_4 rfl rfl ?_
  refine q_getfield (pc := 5) gf_X8_303 dX8_part_5 (by first | assumption | exact zup_at | exact (zup_ne (by decide)).trans (zup_at) | exact (zup_ne (by decide)).trans (by assumption) | exact (zup_ne (by decide)).trans ((zup_ne (by decide)).trans (zup_at)) | exact (zup_ne (by decide)).trans ((zup_ne (by decide)).trans (by assumption)) | exact (zup_ne (by decide)).trans ((zup_ne (by decide)).trans ((zup_ne (by decide)).trans (zup_at))) | exact (zup_ne (by decide)).trans ((zup_ne (by decide)).trans ((zup_ne (by decide)).trans (by assumption))) | exact (zup_ne (by decide)).trans ((zup_ne (by decide)).trans ((zup_ne (by decide)).trans ((zup_ne (by decide)).trans (zup_at)))) | exact (zup_ne (by decide)).trans ((zup_ne (by decide)).trans ((zup_ne (by decide)).trans ((zup_ne (by decide)).trans (by assumption)))) | exact (zup_ne (by decide)).trans ((zup_ne (by decide)).trans ((zup_ne (by decide)).trans ((zup_ne (by decide)).trans ((zup_ne (by decide)).trans (zup_at))))) | exact (zup_ne (by decide)).trans ((zup_ne (by decide)).trans ((zup_ne (by decide)).trans ((zup_ne (by decide)).trans ((zup_ne (by decide)).trans (by assumption)))))) rfl ?_
  refine q_goto (pc := 8) 28 dX8_part_8 rfl ?_
  refine q_lreturn (pc := 28) dX8_part_28 rfl ?_
  first | exact zgmJ k (by unfold o_part; exact ((if_pos (by omega)).trans rfl)) zSame.rf hC | exact zgmJ k (by unfold o_part; exact ((if_neg (by omega)).trans ((if_pos (by omega)).trans rfl))) zSame.rf hC | exact zgmJ k (by unfold o_part; exact ((if_neg (by omega)).trans ((if_neg (by omega)).trans rfl))) hs9 hC9
set_option maxRecDepth 100000 in
set_option maxHeartbeats 8000000 in
theorem c_X8_status {x : Int} (hd : 6 ≤ d) (hC : zMo g w S) (hO : zOKS S) (h_x : zR32 x) (k : ∀ w', zSame w w' 72 16 → zMo g w' (o_status S x).2 → K (some (zI (o_status S x).1)) w') : zCall g d 0 0 mX8_status [zR g 72, zI x] w K := by
  obtain ⟨⟨p0, p1, p2, p3, p4, it, sm, h72⟩, h73, h74, h75, h76, hScr, h84, h85, h86, h87⟩ := id hC
  have hO1 := hO.1
  have hO2 := hO1.1
  have hO3 := hO2.1
  refine zenter [some _, some _] pn_X8 rfl (Nat.le_of_ble_eq_true rfl) ?_
  refine q_iload_n (pc := 0) dX8_status_0 rfl ?_
  refine q_i2l (pc := 1) dX8_status_1 (by omega) ?_
  refine q_lconst (pc := 2) (v := 0) dX8_status_2 rfl ?_
  refine q_ldc2_w (pc := 3) tw_6_163 dX8_status_3 ?_
  refine q_invokestatic (pc := 6) (d' := d - 1) (mc' := 0) (ms' := 0) (As := [_, _, _]) cl_X8_60 dX8_status_6 rfl rfl (by omega) rfl 0 0 (Nat.le_refl 0) (Nat.le_refl 0) ?_
  refine c_X8_in (by omega) (by omega) (by omega) ?_
  refine q_ifb_eq (pc := 9) 19 dX8_status_9 rfl (fun c9 => ?_) (fun c9 => ?_)
  · refine q_aload_n (pc := 19) dX8_status_19 rfl rfl ?_
    refine q_getfield (pc := 20) gf_X8_13 dX8_status_20 (by first | assumption | exact zup_at | exact (zup_ne (by decide)).trans (zup_at) | exact (zup_ne (by decide)).trans (by assumption) | exact (zup_ne (by decide)).trans ((zup_ne (by decide)).trans (zup_at)) | exact (zup_ne (by decide)).trans ((zup_ne (by decide)).trans (by assumption)) | exact (zup_ne (by decide)).trans ((zup_ne (by decide)).trans ((zup_ne (by decide)).trans (zup_at))) | exact (zup_ne (by decide)).trans ((zup_ne (by decide)).trans ((zup_ne (by decide)).trans (by assumption))) | exact (zup_ne (by decide)).trans ((zup_ne (by decide)).trans ((zup_ne (by decide)).trans ((zup_ne (by decide)).trans (zup_at)))) | exact (zup_ne (by decide)).trans ((zup_ne (by decide)).trans ((zup_ne (by decide)).trans ((zup_ne (by decide)).trans (by assumption)))) | exact (zup_ne (by decide)).trans ((zup_ne (by decide)).trans ((zup_ne (by decide)).trans ((zup_ne (by decide)).trans ((zup_ne (by decide)).trans (zup_at))))) | exact (zup_ne (by decide)).trans ((zup_ne (by decide)).trans ((zup_ne (by decide)).trans ((zup_ne (by decide)).trans ((zup_ne (by decide)).trans (by assumption)))))) rfl ?_
    refine q_iconst (pc := 23) dX8_status_23 ?_
    refine q_dup2 (pc := 24) rfl rfl dX8_status_24 ?_
    refine q_iaload (pc := 25) dX8_status_25 (by first | assumption | exact zup_at | exact (zup_ne (by decide)).trans (zup_at) | exact (zup_ne (by decide)).trans (by assumption) | exact (zup_ne (by decide)).trans ((zup_ne (by decide)).trans (zup_at)) | exact (zup_ne (by decide)).trans ((zup_ne (by decide)).trans (by assumption)) | exact (zup_ne (by decide)).trans ((zup_ne (by decide)).trans ((zup_ne (by decide)).trans (zup_at))) | exact (zup_ne (by decide)).trans ((zup_ne (by decide)).trans ((zup_ne (by decide)).trans (by assumption))) | exact (zup_ne (by decide)).trans ((zup_ne (by decide)).trans ((zup_ne (by decide)).trans ((zup_ne (by decide)).trans (zup_at)))) | exact (zup_ne (by decide)).trans ((zup_ne (by decide)).trans ((zup_ne (by decide)).trans ((zup_ne (by decide)).trans (by assumption)))) | exact (zup_ne (by decide)).trans ((zup_ne (by decide)).trans ((zup_ne (by decide)).trans ((zup_ne (by decide)).trans ((zup_ne (by decide)).trans (zup_at))))) | exact (zup_ne (by decide)).trans ((zup_ne (by decide)).trans ((zup_ne (by decide)).trans ((zup_ne (by decide)).trans ((zup_ne (by decide)).trans (by assumption)))))) (by omega) ?_
    refine q_iconst (pc := 26) dX8_status_26 ?_
    refine q_iadd (pc := 27) dX8_status_27 ?_
    refine q_iastore (pc := 28) dX8_status_28 (by first | assumption | exact zup_at | exact (zup_ne (by decide)).trans (zup_at) | exact (zup_ne (by decide)).trans (by assumption) | exact (zup_ne (by decide)).trans ((zup_ne (by decide)).trans (zup_at)) | exact (zup_ne (by decide)).trans ((zup_ne (by decide)).trans (by assumption)) | exact (zup_ne (by decide)).trans ((zup_ne (by decide)).trans ((zup_ne (by decide)).trans (zup_at))) | exact (zup_ne (by decide)).trans ((zup_ne (by decide)).trans ((zup_ne (by decide)).trans (by assumption))) | exact (zup_ne (by decide)).trans ((zup_ne (by decide)).trans ((zup_ne (by decide)).trans ((zup_ne (by decide)).trans (zup_at)))) | exact (zup_ne (by decide)).trans ((zup_ne (by decide)).trans ((zup_ne (by decide)).trans ((zup_ne (by decide)).trans (by assumption)))) | exact (zup_ne (by decide)).trans ((zup_ne (by decide)).trans ((zup_ne (by decide)).trans ((zup_ne (by decide)).trans ((zup_ne (by decide)).trans (zup_at))))) | exact (zup_ne (by decide)).trans ((zup_ne (by decide)).trans ((zup_ne (by decide)).trans ((zup_ne (by decide)).trans ((zup_ne (by decide)).trans (by assumption)))))) (by omega) ?_
    refine q_iconst (pc := 29) dX8_status_29 ?_
    refine q_ireturn (pc := 30) dX8_status_30 rfl ?_
    first | exact zgm k (by unfold o_status; exact ((if_pos (by omega)).trans rfl)) zSame.rf hC | exact zgm k (by unfold o_status; exact ((if_neg (by omega)).trans rfl)) (zSame.up (by omega)) (hC.o74 (zSame.up (by omega)) zup_at)
  refine q_aload_n (pc := 12) dX8_status_12 rfl rfl ?_
  refine q_getfield (pc := 13) gf_X8_13 dX8_status_13 (by first | assumption | exact zup_at | exact (zup_ne (by decide)).trans (zup_at) | exact (zup_ne (by decide)).trans (by assumption) | exact (zup_ne (by decide)).trans ((zup_ne (by decide)).trans (zup_at)) | exact (zup_ne (by decide)).trans ((zup_ne (by decide)).trans (by assumption)) | exact (zup_ne (by decide)).trans ((zup_ne (by decide)).trans ((zup_ne (by decide)).trans (zup_at))) | exact (zup_ne (by decide)).trans ((zup_ne (by decide)).trans ((zup_ne (by decide)).trans (by assumption))) | exact (zup_ne (by decide)).trans ((zup_ne (by decide)).trans ((zup_ne (by decide)).trans ((zup_ne (by decide)).trans (zup_at)))) | exact (zup_ne (by decide)).trans ((zup_ne (by decide)).trans ((zup_ne (by decide)).trans ((zup_ne (by decide)).trans (by assumption)))) | exact (zup_ne (by decide)).trans ((zup_ne (by decide)).trans ((zup_ne (by decide)).trans ((zup_ne (by decide)).trans ((zup_ne (by decide)).trans (zup_at))))) | exact (zup_ne (by decide)).trans ((zup_ne (by decide)).trans ((zup_ne (by decide)).trans ((zup_ne (by decide)).trans ((zup_ne (by decide)).trans (by assumption)))))) rfl ?_
  refine q_iload_n (pc := 16) dX8_status_16 rfl ?_
  refine q_iaload (pc := 17) dX8_status_17 (by first | assumption | exact zup_at | exact (zup_ne (by decide)).trans (zup_at) | exact (zup_ne (by decide)).trans (by assumption) | exact (zup_ne (by decide)).trans ((zup_ne (by decide)).trans (zup_at)) | exact (zup_ne (by decide)).trans ((zup_ne (by decide)).trans (by assumption)) | exact (zup_ne (by decide)).trans ((zup_ne (by decide)).trans ((zup_ne (by decide)).trans (zup_at))) | exact (zup_ne (by decide)).trans ((zup_ne (by decide)).trans ((zup_ne (by decide)).trans (by assumption))) | exact (zup_ne (by decide)).trans ((zup_ne (by decide)).trans ((zup_ne (by decide)).trans ((zup_ne (by decide)).trans (zup_at)))) | exact (zup_ne (by decide)).trans ((zup_ne (by decide)).trans ((zup_ne (by decide)).trans ((zup_ne (by decide)).trans (by assumption)))) | exact (zup_ne (by decide)).trans ((zup_ne (by decide)).trans ((zup_ne (by decide)).trans ((zup_ne (by decide)).trans ((zup_ne (by decide)).trans (zup_at))))) | exact (zup_ne (by decide)).trans ((zup_ne (by decide)).trans ((zup_ne (by decide)).trans ((zup_ne (by decide)).trans ((zup_ne (by decide)).trans (by assumption)))))) (by omega) ?_
  refine q_ireturn (pc := 18) dX8_status_18 rfl ?_
  first | exact zgm k (by unfold o_status; exact ((if_pos (by omega)).trans rfl)) zSame.rf hC | exact zgm k (by unfold o_status; exact ((if_neg (by omega)).trans rfl)) (zSame.up (by omega)) (hC.o74 (zSame.up (by omega)) zup_at)
set_option maxRecDepth 100000 in
set_option maxHeartbeats 8000000 in
theorem c_X8_turnedNow {N : Int → Int} {ab be u len p0 p1 p2 p3 p4 it sm : Int} (hd : 1 ≤ d) (h72 : w.1 72 = some (zMO g ab be u len p0 p1 p2 p3 p4 it sm)) (h73 : w.1 73 = some (.inr (false, 168, N))) (hO : zOK N) (k : K (some (zI (zturned N))) w) : zCall g d 0 0 mX8_turnedNow [zR g 72] w K := by
  have hh := hO.1
  unfold zturned at k
  have L : ∀ (q m : Nat), (m : Int) + (q : Int) = N 2 → zRuns g d mX8_turnedNow 0 0 4 [some (zR g 72), some (zI (zsg (fun k => zb (zTn N k)) m 0)), some (zI (m : Int))] [] w K := by
    intro q
    induction q with
    | zero =>
      intro m h1
      have e : m = (N 2).toNat := by omega
      refine q_iload_n (pc := 4) dX8_turnedNow_4 rfl ?_
      refine q_aload_n (pc := 5) dX8_turnedNow_5 rfl rfl ?_
      refine q_getfield (pc := 6) gf_X8_7 dX8_turnedNow_6 (by assumption) rfl ?_
      refine q_iconst (pc := 9) dX8_turnedNow_9 ?_
      refine q_iaload (pc := 10) dX8_turnedNow_10 (by assumption) (by omega) ?_
      refine q_icmp_ge (pc := 11) (by omega) (by omega) 36 dX8_turnedNow_11 rfl (fun c11 => ?_) (fun c11 => ?_)
      · refine q_iload_n (pc := 36) dX8_turnedNow_36 rfl ?_
        refine q_ireturn (pc := 37) dX8_turnedNow_37 rfl ?_
        rw [e]; exact k
      exfalso; omega
    | succ q ih =>
      intro m h1
      have hih := ih (m + 1) (by omega)
      rw [zsg, Int.zero_add] at hih
      refine q_iload_n (pc := 4) dX8_turnedNow_4 rfl ?_
      refine q_aload_n (pc := 5) dX8_turnedNow_5 rfl rfl ?_
      refine q_getfield (pc := 6) gf_X8_7 dX8_turnedNow_6 (by assumption) rfl ?_
      refine q_iconst (pc := 9) dX8_turnedNow_9 ?_
      refine q_iaload (pc := 10) dX8_turnedNow_10 (by assumption) (by omega) ?_
      refine q_icmp_ge (pc := 11) (by omega) (by omega) 36 dX8_turnedNow_11 rfl (fun c11 => ?_) (fun c11 => ?_)
      · exfalso; omega
      refine q_iload_n (pc := 14) dX8_turnedNow_14 rfl ?_
      refine q_aload_n (pc := 15) dX8_turnedNow_15 rfl rfl ?_
      refine q_iload_n (pc := 16) dX8_turnedNow_16 rfl ?_
      refine q_invokevirtual (pc := 17) (d' := d - 1) (mc' := 0) (ms' := 0) (As := [_]) (TX8, 26) cl_X8_239 dX8_turnedNow_17 rfl rfl (by assumption) rfl (by omega) rfl 0 0 (Nat.le_refl 0) (Nat.le_refl 0) ?_
      refine c_X8_isTurned h72 h73 hO (by omega) ?_
      refine q_ifb_eq (pc := 20) 27 dX8_turnedNow_20 rfl (fun c20 => ?_) (fun c20 => ?_)
      · refine q_iconst (pc := 27) dX8_turnedNow_27 ?_
        refine q_iadd (pc := 28) dX8_turnedNow_28 ?_
        refine q_istore_n (pc := 29) [some _, some _, some _] dX8_turnedNow_29 rfl (Nat.le_of_ble_eq_true rfl) rfl ?_
        refine q_iinc (pc := 30) [some _, some _, some _] dX8_turnedNow_30 rfl rfl rfl ?_
        refine q_goto (pc := 33) 4 dX8_turnedNow_33 rfl ?_
        first | (rw [zb_t c20] at hih; exact hih) | (rw [zb_f c20] at hih; exact hih)
      refine q_iconst (pc := 23) dX8_turnedNow_23 ?_
      refine q_goto (pc := 24) 28 dX8_turnedNow_24 rfl ?_
      refine q_iadd (pc := 28) dX8_turnedNow_28 ?_
      refine q_istore_n (pc := 29) [some _, some _, some _] dX8_turnedNow_29 rfl (Nat.le_of_ble_eq_true rfl) rfl ?_
      refine q_iinc (pc := 30) [some _, some _, some _] dX8_turnedNow_30 rfl rfl rfl ?_
      refine q_goto (pc := 33) 4 dX8_turnedNow_33 rfl ?_
      first | (rw [zb_t c20] at hih; exact hih) | (rw [zb_f c20] at hih; exact hih)
  refine zenter [some _, none, none] pn_X8 rfl (Nat.le_of_ble_eq_true rfl) ?_
  refine q_iconst (pc := 0) dX8_turnedNow_0 ?_
  refine q_istore_n (pc := 1) [some _, some _, none] dX8_turnedNow_1 rfl (Nat.le_of_ble_eq_true rfl) rfl ?_
  refine q_iconst (pc := 2) dX8_turnedNow_2 ?_
  refine q_istore_n (pc := 3) [some _, some _, some _] dX8_turnedNow_3 rfl (Nat.le_of_ble_eq_true rfl) rfl ?_
  exact L (N 2).toNat 0 (by omega)
set_option maxRecDepth 100000 in
set_option maxHeartbeats 8000000 in
theorem c_X8_countOf {x : Int} (hd : 2 ≤ d) (hC : zMo g w S) (hO : zOKS S) (hx : 0 ≤ x ∧ x ≤ 11) (k : K (some (zI (zcnt S x))) w) : zCall g d 0 0 mX8_countOf [zR g 72, zI x] w K := by
  obtain ⟨⟨p0, p1, p2, p3, p4, it, sm, h72⟩, h73, h74, h75, h76, hScr, h84, h85, h86, h87⟩ := id hC
  have hO2 := hO.1.1
  have hO3 := hO2.1
  refine zenter [some _, some _] pn_X8 rfl (Nat.le_of_ble_eq_true rfl) ?_
  refine q_iload_n (pc := 0) dX8_countOf_0 rfl ?_
  refine q_top (fun x1 hx1 => ?_)
  by_cases c1_0 : x1 = 0
  · refine q_tableIn (pc := 1) 60 dX8_countOf_1 c1_0 (by omega) (by decide) (by decide) rfl rfl ?_
    refine q_aload_n (pc := 60) dX8_countOf_60 rfl rfl ?_
    refine q_getfield (pc := 61) gf_X8_7 dX8_countOf_61 (by assumption) rfl ?_
    refine q_iconst (pc := 64) dX8_countOf_64 ?_
    refine q_iaload (pc := 65) dX8_countOf_65 (by assumption) (by omega) ?_
    refine q_ireturn (pc := 66) dX8_countOf_66 rfl ?_
    exact zK_eq k (by unfold zcnt; rw [if_pos (by omega)])
  by_cases c1_1 : x1 = 1
  · refine q_tableIn (pc := 1) 67 dX8_countOf_1 c1_1 (by omega) (by decide) (by decide) rfl rfl ?_
    refine q_aload_n (pc := 67) dX8_countOf_67 rfl rfl ?_
    refine q_getfield (pc := 68) gf_X8_7 dX8_countOf_68 (by assumption) rfl ?_
    refine q_iconst (pc := 71) dX8_countOf_71 ?_
    refine q_iaload (pc := 72) dX8_countOf_72 (by assumption) (by omega) ?_
    refine q_ireturn (pc := 73) dX8_countOf_73 rfl ?_
    exact zK_eq k (by unfold zcnt; rw [if_neg (by omega), if_pos (by omega)])
  by_cases c1_2 : x1 = 2
  · refine q_tableIn (pc := 1) 74 dX8_countOf_1 c1_2 (by omega) (by decide) (by decide) rfl rfl ?_
    refine q_aload_n (pc := 74) dX8_countOf_74 rfl rfl ?_
    refine q_getfield (pc := 75) gf_X8_7 dX8_countOf_75 (by assumption) rfl ?_
    refine q_iconst (pc := 78) dX8_countOf_78 ?_
    refine q_iaload (pc := 79) dX8_countOf_79 (by assumption) (by omega) ?_
    refine q_ireturn (pc := 80) dX8_countOf_80 rfl ?_
    exact zK_eq k (by unfold zcnt; rw [if_neg (by omega), if_neg (by omega), if_pos (by omega)])
  by_cases c1_3 : x1 = 3
  · refine q_tableIn (pc := 1) 81 dX8_countOf_1 c1_3 (by omega) (by decide) (by decide) rfl rfl ?_
    refine q_aload_n (pc := 81) dX8_countOf_81 rfl rfl ?_
    refine q_getfield (pc := 82) gf_X8_7 dX8_countOf_82 (by assumption) rfl ?_
    refine q_iconst (pc := 85) dX8_countOf_85 ?_
    refine q_iaload (pc := 86) dX8_countOf_86 (by assumption) (by omega) ?_
    refine q_ireturn (pc := 87) dX8_countOf_87 rfl ?_
    exact zK_eq k (by unfold zcnt; rw [if_neg (by omega), if_neg (by omega), if_neg (by omega), if_pos (by omega)])
  by_cases c1_4 : x1 = 4
  · refine q_tableIn (pc := 1) 88 dX8_countOf_1 c1_4 (by omega) (by decide) (by decide) rfl rfl ?_
    refine q_aload_n (pc := 88) dX8_countOf_88 rfl rfl ?_
    refine q_getfield (pc := 89) gf_X8_7 dX8_countOf_89 (by assumption) rfl ?_
    refine q_iconst (pc := 92) dX8_countOf_92 ?_
    refine q_iaload (pc := 93) dX8_countOf_93 (by assumption) (by omega) ?_
    refine q_ireturn (pc := 94) dX8_countOf_94 rfl ?_
    exact zK_eq k (by unfold zcnt; rw [if_neg (by omega), if_neg (by omega), if_neg (by omega), if_neg (by omega), if_pos (by omega)])
  by_cases c1_5 : x1 = 5
  · refine q_tableIn (pc := 1) 95 dX8_countOf_1 c1_5 (by omega) (by decide) (by decide) rfl rfl ?_
    refine q_aload_n (pc := 95) dX8_countOf_95 rfl rfl ?_
    refine q_invokevirtual (pc := 96) (d' := d - 1) (mc' := 0) (ms' := 0) (As := []) (TX8, 26) cl_X8_214 dX8_countOf_96 rfl rfl (by assumption) rfl (by omega) rfl 0 0 (Nat.le_refl 0) (Nat.le_refl 0) ?_
    refine c_X8_allStones (by omega) h72 h73 hO3 ?_
    refine q_ireturn (pc := 99) dX8_countOf_99 rfl ?_
    exact zK_eq k (by unfold zcnt; rw [if_neg (by omega), if_neg (by omega), if_neg (by omega), if_neg (by omega), if_neg (by omega), if_pos (by omega)])
  by_cases c1_6 : x1 = 6
  · refine q_tableIn (pc := 1) 100 dX8_countOf_1 c1_6 (by omega) (by decide) (by decide) rfl rfl ?_
    refine q_aload_n (pc := 100) dX8_countOf_100 rfl rfl ?_
    refine q_invokevirtual (pc := 101) (d' := d - 1) (mc' := 0) (ms' := 0) (As := []) (TX8, 26) cl_X8_319 dX8_countOf_101 rfl rfl (by assumption) rfl (by omega) rfl 0 0 (Nat.le_refl 0) (Nat.le_refl 0) ?_
    refine c_X8_turnedNow (by omega) h72 h73 hO2 ?_
    refine q_ireturn (pc := 104) dX8_countOf_104 rfl ?_
    exact zK_eq k (by unfold zcnt; rw [if_neg (by omega), if_neg (by omega), if_neg (by omega), if_neg (by omega), if_neg (by omega), if_neg (by omega), if_pos (by omega)])
  by_cases c1_7 : x1 = 7
  · refine q_tableIn (pc := 1) 105 dX8_countOf_1 c1_7 (by omega) (by decide) (by decide) rfl rfl ?_
    refine q_aload_n (pc := 105) dX8_countOf_105 rfl rfl ?_
    refine q_getfield (pc := 106) gf_X8_7 dX8_countOf_106 (by assumption) rfl ?_
    refine q_iconst (pc := 109) dX8_countOf_109 ?_
    refine q_iaload (pc := 110) dX8_countOf_110 (by assumption) (by omega) ?_
    refine q_ireturn (pc := 111) dX8_countOf_111 rfl ?_
    exact zK_eq k (by unfold zcnt; rw [if_neg (by omega), if_neg (by omega), if_neg (by omega), if_neg (by omega), if_neg (by omega), if_neg (by omega), if_neg (by omega), if_pos (by omega)])
  by_cases c1_8 : x1 = 8
  · refine q_tableIn (pc := 1) 112 dX8_countOf_1 c1_8 (by omega) (by decide) (by decide) rfl rfl ?_
    refine q_aload_n (pc := 112) dX8_countOf_112 rfl rfl ?_
    refine q_getfield (pc := 113) gf_X8_7 dX8_countOf_113 (by assumption) rfl ?_
    refine q_bipush (pc := 116) (by decide) dX8_countOf_116 ?_
    refine q_iaload (pc := 118) dX8_countOf_118 (by assumption) (by omega) ?_
    refine q_ireturn (pc := 119) dX8_countOf_119 rfl ?_
    exact zK_eq k (by unfold zcnt; rw [if_neg (by omega), if_neg (by omega), if_neg (by omega), if_neg (by omega), if_neg (by omega), if_neg (by omega), if_neg (by omega), if_neg (by omega), if_pos (by omega)])
  by_cases c1_9 : x1 = 9
  · refine q_tableIn (pc := 1) 120 dX8_countOf_1 c1_9 (by omega) (by decide) (by decide) rfl rfl ?_
    refine q_aload_n (pc := 120) dX8_countOf_120 rfl rfl ?_
    refine q_getfield (pc := 121) gf_X8_7 dX8_countOf_121 (by assumption) rfl ?_
    refine q_bipush (pc := 124) (by decide) dX8_countOf_124 ?_
    refine q_iaload (pc := 126) dX8_countOf_126 (by assumption) (by omega) ?_
    refine q_ireturn (pc := 127) dX8_countOf_127 rfl ?_
    exact zK_eq k (by unfold zcnt; rw [if_neg (by omega), if_neg (by omega), if_neg (by omega), if_neg (by omega), if_neg (by omega), if_neg (by omega), if_neg (by omega), if_neg (by omega), if_neg (by omega), if_pos (by omega)])
  by_cases c1_10 : x1 = 10
  · refine q_tableIn (pc := 1) 128 dX8_countOf_1 c1_10 (by omega) (by decide) (by decide) rfl rfl ?_
    refine q_aload_n (pc := 128) dX8_countOf_128 rfl rfl ?_
    refine q_getfield (pc := 129) gf_X8_94 dX8_countOf_129 (by assumption) rfl ?_
    refine q_ireturn (pc := 132) dX8_countOf_132 rfl ?_
    exact zK_eq k (by unfold zcnt; rw [if_neg (by omega), if_neg (by omega), if_neg (by omega), if_neg (by omega), if_neg (by omega), if_neg (by omega), if_neg (by omega), if_neg (by omega), if_neg (by omega), if_neg (by omega), if_pos (by omega)])
  refine q_tableOut (pc := 1) 133 dX8_countOf_1 (by omega) (by omega) rfl ?_
  refine q_aload_n (pc := 133) dX8_countOf_133 rfl rfl ?_
  refine q_getfield (pc := 134) gf_X8_128 dX8_countOf_134 (by assumption) rfl ?_
  refine q_ireturn (pc := 137) dX8_countOf_137 rfl ?_
  exact zK_eq k (by unfold zcnt; rw [if_neg (by omega), if_neg (by omega), if_neg (by omega), if_neg (by omega), if_neg (by omega), if_neg (by omega), if_neg (by omega), if_neg (by omega), if_neg (by omega), if_neg (by omega), if_neg (by omega)])
set_option maxRecDepth 100000 in
set_option maxHeartbeats 8000000 in
theorem c_X8_count {x : Int} (hd : 6 ≤ d) (hC : zMo g w S) (hO : zOKS S) (h_x : zR32 x) (k : ∀ w', zSame w w' 72 16 → zMo g w' (o_count S x).2 → K (some (zI (o_count S x).1)) w') : zCall g d 0 0 mX8_count [zR g 72, zI x] w K := by
  obtain ⟨⟨p0, p1, p2, p3, p4, it, sm, h72⟩, h73, h74, h75, h76, hScr, h84, h85, h86, h87⟩ := id hC
  have hO1 := hO.1
  have hO2 := hO1.1
  have hO3 := hO2.1
  refine zenter [some _, some _] pn_X8 rfl (Nat.le_of_ble_eq_true rfl) ?_
  refine q_iload_n (pc := 0) dX8_count_0 rfl ?_
  refine q_i2l (pc := 1) dX8_count_1 (by omega) ?_
  refine q_lconst (pc := 2) (v := 0) dX8_count_2 rfl ?_
  refine q_ldc2_w (pc := 3) tw_7_0 dX8_count_3 ?_
  refine q_invokestatic (pc := 6) (d' := d - 1) (mc' := 0) (ms' := 0) (As := [_, _, _]) cl_X8_60 dX8_count_6 rfl rfl (by omega) rfl 0 0 (Nat.le_refl 0) (Nat.le_refl 0) ?_
  refine c_X8_in (by omega) (by omega) (by omega) ?_
  refine q_ifb_eq (pc := 9) 20 dX8_count_9 rfl (fun c9 => ?_) (fun c9 => ?_)
  · refine q_aload_n (pc := 20) dX8_count_20 rfl rfl ?_
    refine q_invokevirtual (pc := 21) (d' := d - 1) (mc' := 0) (ms' := 0) (As := []) (TX8, 26) cl_X8_103 dX8_count_21 rfl rfl (by first | assumption | exact zup_at | exact (zup_ne (by decide)).trans (zup_at) | exact (zup_ne (by decide)).trans (by assumption) | exact (zup_ne (by decide)).trans ((zup_ne (by decide)).trans (zup_at)) | exact (zup_ne (by decide)).trans ((zup_ne (by decide)).trans (by assumption)) | exact (zup_ne (by decide)).trans ((zup_ne (by decide)).trans ((zup_ne (by decide)).trans (zup_at))) | exact (zup_ne (by decide)).trans ((zup_ne (by decide)).trans ((zup_ne (by decide)).trans (by assumption))) | exact (zup_ne (by decide)).trans ((zup_ne (by decide)).trans ((zup_ne (by decide)).trans ((zup_ne (by decide)).trans (zup_at)))) | exact (zup_ne (by decide)).trans ((zup_ne (by decide)).trans ((zup_ne (by decide)).trans ((zup_ne (by decide)).trans (by assumption)))) | exact (zup_ne (by decide)).trans ((zup_ne (by decide)).trans ((zup_ne (by decide)).trans ((zup_ne (by decide)).trans ((zup_ne (by decide)).trans (zup_at))))) | exact (zup_ne (by decide)).trans ((zup_ne (by decide)).trans ((zup_ne (by decide)).trans ((zup_ne (by decide)).trans ((zup_ne (by decide)).trans (by assumption)))))) rfl (by omega) rfl 0 0 (Nat.le_refl 0) (Nat.le_refl 0) ?_
    refine c_X8_bad hC (fun w9 hs9 hC9 => ?_)
    refine q_ireturn (pc := 24) dX8_count_24 rfl ?_
    first | exact zgm k (by unfold o_count; exact ((if_pos (by omega)).trans rfl)) zSame.rf hC | exact zgm k (by unfold o_count; exact ((if_neg (by omega)).trans rfl)) hs9 hC9
  refine q_aload_n (pc := 12) dX8_count_12 rfl rfl ?_
  refine q_iload_n (pc := 13) dX8_count_13 rfl ?_
  refine q_invokevirtual (pc := 14) (d' := d - 1) (mc' := 0) (ms' := 0) (As := [_]) (TX8, 26) cl_X8_324 dX8_count_14 rfl rfl (by first | assumption | exact zup_at | exact (zup_ne (by decide)).trans (zup_at) | exact (zup_ne (by decide)).trans (by assumption) | exact (zup_ne (by decide)).trans ((zup_ne (by decide)).trans (zup_at)) | exact (zup_ne (by decide)).trans ((zup_ne (by decide)).trans (by assumption)) | exact (zup_ne (by decide)).trans ((zup_ne (by decide)).trans ((zup_ne (by decide)).trans (zup_at))) | exact (zup_ne (by decide)).trans ((zup_ne (by decide)).trans ((zup_ne (by decide)).trans (by assumption))) | exact (zup_ne (by decide)).trans ((zup_ne (by decide)).trans ((zup_ne (by decide)).trans ((zup_ne (by decide)).trans (zup_at)))) | exact (zup_ne (by decide)).trans ((zup_ne (by decide)).trans ((zup_ne (by decide)).trans ((zup_ne (by decide)).trans (by assumption)))) | exact (zup_ne (by decide)).trans ((zup_ne (by decide)).trans ((zup_ne (by decide)).trans ((zup_ne (by decide)).trans ((zup_ne (by decide)).trans (zup_at))))) | exact (zup_ne (by decide)).trans ((zup_ne (by decide)).trans ((zup_ne (by decide)).trans ((zup_ne (by decide)).trans ((zup_ne (by decide)).trans (by assumption)))))) rfl (by omega) rfl 0 0 (Nat.le_refl 0) (Nat.le_refl 0) ?_
  refine c_X8_countOf (by omega) hC hO (by omega) ?_
  refine q_goto (pc := 17) 24 dX8_count_17 rfl ?_
  refine q_ireturn (pc := 24) dX8_count_24 rfl ?_
  first | exact zgm k (by unfold o_count; exact ((if_pos (by omega)).trans rfl)) zSame.rf hC | exact zgm k (by unfold o_count; exact ((if_neg (by omega)).trans rfl)) hs9 hC9
set_option maxRecDepth 100000 in
set_option maxHeartbeats 8000000 in
theorem c_X8_keepPast {i : Int} (hC : zMo g w S) (hi : 0 ≤ i ∧ i ≤ 1) (k : ∀ w', zSame w w' 72 16 → zMo g w' (S.1, S.2.1, S.2.2.1, S.2.2.2.1, (S.2.2.2.2.1, S.2.2.2.2.2.1, zfu S.2.2.2.2.2.2.1 i S.1.2.1, zimg S.2.2.2.2.2.2.2 S.1.2.2 480 i)) → K none w') : zCall g d 0 0 mX8_keepPast [zR g 72, zI i] w K := by
  have L : ∀ (q m : Nat) (w1 : zWd), m + q = 480 → zSame w w1 72 16 → zMo g w1 (S.1, S.2.1, S.2.2.1, S.2.2.2.1, (S.2.2.2.2.1, S.2.2.2.2.2.1, zfu S.2.2.2.2.2.2.1 i S.1.2.1, zcpT S.2.2.2.2.2.2.2 S.1.2.2 (480 * i) (m : Int))) → zRuns g d mX8_keepPast 0 0 12 [some (zR g 72), some (zI i), some (zI (m : Int))] [] w1 K := by
    intro q
    induction q with
    | zero =>
      intro m w1 h1 hs hM
      obtain rfl : m = 480 := by omega
      refine q_iload_n (pc := 12) dX8_keepPast_12 rfl ?_
      refine q_sipush (pc := 13) (by decide) dX8_keepPast_13 ?_
      refine q_icmp_ge (pc := 16) (by omega) (by omega) 43 dX8_keepPast_16 rfl (fun c16 => ?_) (fun c16 => ?_)
      · refine q_return (pc := 43) dX8_keepPast_43 rfl ?_
        exact k _ hs hM
      exfalso; omega
    | succ q ih =>
      intro m w1 h1 hs hM
      have hih := ih (m + 1)
      obtain ⟨⟨p0, p1, p2, p3, p4, it, sm, h72⟩, -⟩ := id hM
      have h72 : w1.1 72 = some (zMO g S.2.2.2.1.1 S.2.2.2.1.2 S.1.2.1 S.2.1.2 p0 p1 p2 p3 p4 it sm) := h72
      have h75 : w1.1 75 = some (.inr (false, 480, S.1.2.2)) := hM.2.2.2.1
      have h87 : w1.1 87 = some (.inr (false, 960, zcpT S.2.2.2.2.2.2.2 S.1.2.2 (480 * i) (m : Int))) := hM.2.2.2.2.2.2.2.2.2
      have hzs := zcpT_s (f := S.2.2.2.2.2.2.2) (x := S.1.2.2) (b := 480 * i) (m := (m : Int)) (by omega)
      refine q_iload_n (pc := 12) dX8_keepPast_12 rfl ?_
      refine q_sipush (pc := 13) (by decide) dX8_keepPast_13 ?_
      refine q_icmp_ge (pc := 16) (by omega) (by omega) 43 dX8_keepPast_16 rfl (fun c16 => ?_) (fun c16 => ?_)
      · exfalso; omega
      refine q_aload_n (pc := 19) dX8_keepPast_19 rfl rfl ?_
      refine q_getfield (pc := 20) gf_X8_57 dX8_keepPast_20 (by assumption) rfl ?_
      refine q_sipush (pc := 23) (by decide) dX8_keepPast_23 ?_
      refine q_iload_n (pc := 26) dX8_keepPast_26 rfl ?_
      refine q_imul (pc := 27) dX8_keepPast_27 ?_
      refine q_iload_n (pc := 28) dX8_keepPast_28 rfl ?_
      refine q_iadd (pc := 29) dX8_keepPast_29 ?_
      refine q_aload_n (pc := 30) dX8_keepPast_30 rfl rfl ?_
      refine q_getfield (pc := 31) gf_X8_20 dX8_keepPast_31 (by assumption) rfl ?_
      refine q_iload_n (pc := 34) dX8_keepPast_34 rfl ?_
      refine q_iaload (pc := 35) dX8_keepPast_35 (by assumption) (by omega) ?_
      refine q_iastore (pc := 36) dX8_keepPast_36 (by assumption) (by omega) ?_
      refine q_iinc (pc := 37) [some _, some _, some _] dX8_keepPast_37 rfl rfl rfl ?_
      refine q_goto (pc := 40) 12 dX8_keepPast_40 rfl ?_
      exact hih _ (by omega) (hs.tr (zSame.up (by omega))) (by have h9 := hM.o87 (zSame.up (by omega)) (zup_at (w := w1) (k := 87) (e := .inr (false, 960, zfu (zcpT S.2.2.2.2.2.2.2 S.1.2.2 (480 * i) (m : Int)) (480 * i + (m : Int)) (S.1.2.2 (m : Int))))); rw [hzs] at h9 ⊢; exact h9)
  obtain ⟨⟨p0, p1, p2, p3, p4, it, sm, h72⟩, h73, h74, h75, h76, hScr, h84, h85, h86, h87⟩ := id hC
  refine zenter [some _, some _, none] pn_X8 rfl (Nat.le_of_ble_eq_true rfl) ?_
  refine q_aload_n (pc := 0) dX8_keepPast_0 rfl rfl ?_
  refine q_getfield (pc := 1) gf_X8_54 dX8_keepPast_1 (by first | assumption | exact zup_at | exact (zup_ne (by decide)).trans (zup_at) | exact (zup_ne (by decide)).trans (by assumption) | exact (zup_ne (by decide)).trans ((zup_ne (by decide)).trans (zup_at)) | exact (zup_ne (by decide)).trans ((zup_ne (by decide)).trans (by assumption)) | exact (zup_ne (by decide)).trans ((zup_ne (by decide)).trans ((zup_ne (by decide)).trans (zup_at))) | exact (zup_ne (by decide)).trans ((zup_ne (by decide)).trans ((zup_ne (by decide)).trans (by assumption))) | exact (zup_ne (by decide)).trans ((zup_ne (by decide)).trans ((zup_ne (by decide)).trans ((zup_ne (by decide)).trans (zup_at)))) | exact (zup_ne (by decide)).trans ((zup_ne (by decide)).trans ((zup_ne (by decide)).trans ((zup_ne (by decide)).trans (by assumption)))) | exact (zup_ne (by decide)).trans ((zup_ne (by decide)).trans ((zup_ne (by decide)).trans ((zup_ne (by decide)).trans ((zup_ne (by decide)).trans (zup_at))))) | exact (zup_ne (by decide)).trans ((zup_ne (by decide)).trans ((zup_ne (by decide)).trans ((zup_ne (by decide)).trans ((zup_ne (by decide)).trans (by assumption)))))) rfl ?_
  refine q_iload_n (pc := 4) dX8_keepPast_4 rfl ?_
  refine q_aload_n (pc := 5) dX8_keepPast_5 rfl rfl ?_
  refine q_getfield (pc := 6) gf_X8_94 dX8_keepPast_6 (by first | assumption | exact zup_at | exact (zup_ne (by decide)).trans (zup_at) | exact (zup_ne (by decide)).trans (by assumption) | exact (zup_ne (by decide)).trans ((zup_ne (by decide)).trans (zup_at)) | exact (zup_ne (by decide)).trans ((zup_ne (by decide)).trans (by assumption)) | exact (zup_ne (by decide)).trans ((zup_ne (by decide)).trans ((zup_ne (by decide)).trans (zup_at))) | exact (zup_ne (by decide)).trans ((zup_ne (by decide)).trans ((zup_ne (by decide)).trans (by assumption))) | exact (zup_ne (by decide)).trans ((zup_ne (by decide)).trans ((zup_ne (by decide)).trans ((zup_ne (by decide)).trans (zup_at)))) | exact (zup_ne (by decide)).trans ((zup_ne (by decide)).trans ((zup_ne (by decide)).trans ((zup_ne (by decide)).trans (by assumption)))) | exact (zup_ne (by decide)).trans ((zup_ne (by decide)).trans ((zup_ne (by decide)).trans ((zup_ne (by decide)).trans ((zup_ne (by decide)).trans (zup_at))))) | exact (zup_ne (by decide)).trans ((zup_ne (by decide)).trans ((zup_ne (by decide)).trans ((zup_ne (by decide)).trans ((zup_ne (by decide)).trans (by assumption)))))) rfl ?_
  refine q_iastore (pc := 9) dX8_keepPast_9 (by first | assumption | exact zup_at | exact (zup_ne (by decide)).trans (zup_at) | exact (zup_ne (by decide)).trans (by assumption) | exact (zup_ne (by decide)).trans ((zup_ne (by decide)).trans (zup_at)) | exact (zup_ne (by decide)).trans ((zup_ne (by decide)).trans (by assumption)) | exact (zup_ne (by decide)).trans ((zup_ne (by decide)).trans ((zup_ne (by decide)).trans (zup_at))) | exact (zup_ne (by decide)).trans ((zup_ne (by decide)).trans ((zup_ne (by decide)).trans (by assumption))) | exact (zup_ne (by decide)).trans ((zup_ne (by decide)).trans ((zup_ne (by decide)).trans ((zup_ne (by decide)).trans (zup_at)))) | exact (zup_ne (by decide)).trans ((zup_ne (by decide)).trans ((zup_ne (by decide)).trans ((zup_ne (by decide)).trans (by assumption)))) | exact (zup_ne (by decide)).trans ((zup_ne (by decide)).trans ((zup_ne (by decide)).trans ((zup_ne (by decide)).trans ((zup_ne (by decide)).trans (zup_at))))) | exact (zup_ne (by decide)).trans ((zup_ne (by decide)).trans ((zup_ne (by decide)).trans ((zup_ne (by decide)).trans ((zup_ne (by decide)).trans (by assumption)))))) (by omega) ?_
  refine q_iconst (pc := 10) dX8_keepPast_10 ?_
  refine q_istore_n (pc := 11) [some _, some _, some _] dX8_keepPast_11 rfl (Nat.le_of_ble_eq_true rfl) rfl ?_
  exact L 480 0 _ (by omega) (zSame.up (by omega)) (by rw [show ((0 : Nat) : Int) = 0 from rfl, zcpT_0]; exact hC.o86 (zSame.up (by omega)) zup_at)
set_option maxRecDepth 100000 in
set_option maxHeartbeats 8000000 in
theorem c_X8_image {i : Int} (hd : 6 ≤ d) (hC : zMo g w S) (hO : zOKS S) (h_i : zR32 i) (k : ∀ w', zSame w w' 72 16 → zMo g w' (o_image S i).2 → K (some (zI (o_image S i).1)) w') : zCall g d 0 0 mX8_image [zR g 72, zI i] w K := by
  obtain ⟨⟨p0, p1, p2, p3, p4, it, sm, h72⟩, h73, h74, h75, h76, hScr, h84, h85, h86, h87⟩ := id hC
  have hO1 := hO.1
  have hO2 := hO1.1
  have hO3 := hO2.1
  by_cases hv : 0 ≤ i ∧ i ≤ 1
  · have L : ∀ (q m : Nat) (w1 : zWd), m + q = 168 → zSame w w1 72 16 → zMo g w1 (S.1, S.2.1, S.2.2.1, S.2.2.2.1, (zcpT S.2.2.2.2.1 S.1.1 (168 * i) (m : Int), S.2.2.2.2.2)) → zRuns g d mX8_image 0 0 17 [some (zR g 72), some (zI i), some (zI (m : Int))] [] w1 K := by
      intro q
      induction q with
      | zero =>
        intro m w1 h1 hs hM
        obtain rfl : m = 168 := by omega
        obtain ⟨⟨p0, p1, p2, p3, p4, it, sm, h72⟩, -⟩ := id hM
        have h85 : w1.1 85 = some (.inr (true, 2, S.2.2.2.2.2.1)) := hM.2.2.2.2.2.2.2.1
        refine q_iload_n (pc := 17) dX8_image_17 rfl ?_
        refine q_sipush (pc := 18) (by decide) dX8_image_18 ?_
        refine q_icmp_ge (pc := 21) (by omega) (by omega) 48 dX8_image_21 rfl (fun c21 => ?_) (fun c21 => ?_)
        · refine q_aload_n (pc := 48) dX8_image_48 rfl rfl ?_
          refine q_getfield (pc := 49) gf_X8_50 dX8_image_49 (by first | assumption | exact zup_at | exact (zup_ne (by decide)).trans (zup_at) | exact (zup_ne (by decide)).trans (by assumption) | exact (zup_ne (by decide)).trans ((zup_ne (by decide)).trans (zup_at)) | exact (zup_ne (by decide)).trans ((zup_ne (by decide)).trans (by assumption)) | exact (zup_ne (by decide)).trans ((zup_ne (by decide)).trans ((zup_ne (by decide)).trans (zup_at))) | exact (zup_ne (by decide)).trans ((zup_ne (by decide)).trans ((zup_ne (by decide)).trans (by assumption))) | exact (zup_ne (by decide)).trans ((zup_ne (by decide)).trans ((zup_ne (by decide)).trans ((zup_ne (by decide)).trans (zup_at)))) | exact (zup_ne (by decide)).trans ((zup_ne (by decide)).trans ((zup_ne (by decide)).trans ((zup_ne (by decide)).trans (by assumption)))) | exact (zup_ne (by decide)).trans ((zup_ne (by decide)).trans ((zup_ne (by decide)).trans ((zup_ne (by decide)).trans ((zup_ne (by decide)).trans (zup_at))))) | exact (zup_ne (by decide)).trans ((zup_ne (by decide)).trans ((zup_ne (by decide)).trans ((zup_ne (by decide)).trans ((zup_ne (by decide)).trans (by assumption)))))) rfl ?_
          refine q_iload_n (pc := 52) dX8_image_52 rfl ?_
          refine q_iconst (pc := 53) dX8_image_53 ?_
          refine q_bastore (pc := 54) dX8_image_54 (by first | assumption | exact zup_at | exact (zup_ne (by decide)).trans (zup_at) | exact (zup_ne (by decide)).trans (by assumption) | exact (zup_ne (by decide)).trans ((zup_ne (by decide)).trans (zup_at)) | exact (zup_ne (by decide)).trans ((zup_ne (by decide)).trans (by assumption)) | exact (zup_ne (by decide)).trans ((zup_ne (by decide)).trans ((zup_ne (by decide)).trans (zup_at))) | exact (zup_ne (by decide)).trans ((zup_ne (by decide)).trans ((zup_ne (by decide)).trans (by assumption))) | exact (zup_ne (by decide)).trans ((zup_ne (by decide)).trans ((zup_ne (by decide)).trans ((zup_ne (by decide)).trans (zup_at)))) | exact (zup_ne (by decide)).trans ((zup_ne (by decide)).trans ((zup_ne (by decide)).trans ((zup_ne (by decide)).trans (by assumption)))) | exact (zup_ne (by decide)).trans ((zup_ne (by decide)).trans ((zup_ne (by decide)).trans ((zup_ne (by decide)).trans ((zup_ne (by decide)).trans (zup_at))))) | exact (zup_ne (by decide)).trans ((zup_ne (by decide)).trans ((zup_ne (by decide)).trans ((zup_ne (by decide)).trans ((zup_ne (by decide)).trans (by assumption)))))) (by omega) rfl ?_
          refine q_aload_n (pc := 55) dX8_image_55 rfl rfl ?_
          refine q_iload_n (pc := 56) dX8_image_56 rfl ?_
          refine q_invokevirtual (pc := 57) (d' := d - 1) (mc' := 0) (ms' := 0) (As := [_]) (TX8, 26) cl_X8_316 dX8_image_57 rfl rfl (by first | assumption | exact zup_at | exact (zup_ne (by decide)).trans (zup_at) | exact (zup_ne (by decide)).trans (by assumption) | exact (zup_ne (by decide)).trans ((zup_ne (by decide)).trans (zup_at)) | exact (zup_ne (by decide)).trans ((zup_ne (by decide)).trans (by assumption)) | exact (zup_ne (by decide)).trans ((zup_ne (by decide)).trans ((zup_ne (by decide)).trans (zup_at))) | exact (zup_ne (by decide)).trans ((zup_ne (by decide)).trans ((zup_ne (by decide)).trans (by assumption))) | exact (zup_ne (by decide)).trans ((zup_ne (by decide)).trans ((zup_ne (by decide)).trans ((zup_ne (by decide)).trans (zup_at)))) | exact (zup_ne (by decide)).trans ((zup_ne (by decide)).trans ((zup_ne (by decide)).trans ((zup_ne (by decide)).trans (by assumption)))) | exact (zup_ne (by decide)).trans ((zup_ne (by decide)).trans ((zup_ne (by decide)).trans ((zup_ne (by decide)).trans ((zup_ne (by decide)).trans (zup_at))))) | exact (zup_ne (by decide)).trans ((zup_ne (by decide)).trans ((zup_ne (by decide)).trans ((zup_ne (by decide)).trans ((zup_ne (by decide)).trans (by assumption)))))) rfl (by omega) rfl 0 0 (Nat.le_refl 0) (Nat.le_refl 0) ?_
          refine c_X8_keepPast (hM.o85 (zSame.up (by omega)) zup_at) hv (fun w3 hs3 hM3 => ?_)
          refine q_iconst (pc := 60) dX8_image_60 ?_
          refine q_ireturn (pc := 61) dX8_image_61 rfl ?_
          exact zgm k (by unfold o_image; exact (if_pos hv).trans rfl) ((hs.tr (zSame.up (by omega))).tr hs3) hM3
        exfalso; omega
      | succ q ih =>
        intro m w1 h1 hs hM
        have hih := ih (m + 1)
        obtain ⟨⟨p0, p1, p2, p3, p4, it, sm, h72⟩, -⟩ := id hM
        have h73 : w1.1 73 = some (.inr (false, 168, S.1.1)) := hM.2.1
        have h84 : w1.1 84 = some (.inr (false, 336, zcpT S.2.2.2.2.1 S.1.1 (168 * i) (m : Int))) := hM.2.2.2.2.2.2.1
        have hzs := zcpT_s (f := S.2.2.2.2.1) (x := S.1.1) (b := 168 * i) (m := (m : Int)) (by omega)
        refine q_iload_n (pc := 17) dX8_image_17 rfl ?_
        refine q_sipush (pc := 18) (by decide) dX8_image_18 ?_
        refine q_icmp_ge (pc := 21) (by omega) (by omega) 48 dX8_image_21 rfl (fun c21 => ?_) (fun c21 => ?_)
        · exfalso; omega
        refine q_aload_n (pc := 24) dX8_image_24 rfl rfl ?_
        refine q_getfield (pc := 25) gf_X8_47 dX8_image_25 (by assumption) rfl ?_
        refine q_sipush (pc := 28) (by decide) dX8_image_28 ?_
        refine q_iload_n (pc := 31) dX8_image_31 rfl ?_
        refine q_imul (pc := 32) dX8_image_32 ?_
        refine q_iload_n (pc := 33) dX8_image_33 rfl ?_
        refine q_iadd (pc := 34) dX8_image_34 ?_
        refine q_aload_n (pc := 35) dX8_image_35 rfl rfl ?_
        refine q_getfield (pc := 36) gf_X8_7 dX8_image_36 (by assumption) rfl ?_
        refine q_iload_n (pc := 39) dX8_image_39 rfl ?_
        refine q_iaload (pc := 40) dX8_image_40 (by assumption) (by omega) ?_
        refine q_iastore (pc := 41) dX8_image_41 (by assumption) (by omega) ?_
        refine q_iinc (pc := 42) [some _, some _, some _] dX8_image_42 rfl rfl rfl ?_
        refine q_goto (pc := 45) 17 dX8_image_45 rfl ?_
        exact hih _ (by omega) (hs.tr (zSame.up (by omega))) (by have h9 := hM.o84 (zSame.up (by omega)) (zup_at (w := w1) (k := 84) (e := .inr (false, 336, zfu (zcpT S.2.2.2.2.1 S.1.1 (168 * i) (m : Int)) (168 * i + (m : Int)) (S.1.1 (m : Int))))); rw [hzs] at h9 ⊢; exact h9)
    refine zenter [some _, some _, none] pn_X8 rfl (Nat.le_of_ble_eq_true rfl) ?_
    refine q_iload_n (pc := 0) dX8_image_0 rfl ?_
    refine q_i2l (pc := 1) dX8_image_1 (by omega) ?_
    refine q_lconst (pc := 2) (v := 0) dX8_image_2 rfl ?_
    refine q_lconst (pc := 3) (v := 1) dX8_image_3 rfl ?_
    refine q_invokestatic (pc := 4) (d' := d - 1) (mc' := 0) (ms' := 0) (As := [_, _, _]) cl_X8_60 dX8_image_4 rfl rfl (by omega) rfl 0 0 (Nat.le_refl 0) (Nat.le_refl 0) ?_
    refine c_X8_in (by omega) (by omega) (by omega) ?_
    refine q_ifb_ne (pc := 7) 15 dX8_image_7 rfl (fun c7 => ?_) (fun c7 => ?_)
    · refine q_iconst (pc := 15) dX8_image_15 ?_
      refine q_istore_n (pc := 16) [some _, some _, some _] dX8_image_16 rfl (Nat.le_of_ble_eq_true rfl) rfl ?_
      exact L 168 0 _ (by omega) zSame.rf (by rw [show ((0 : Nat) : Int) = 0 from rfl, zcpT_0]; exact hC)
    exfalso; omega
  · have hz0 := hv
    refine zenter [some _, some _, none] pn_X8 rfl (Nat.le_of_ble_eq_true rfl) ?_
    refine q_iload_n (pc := 0) dX8_image_0 rfl ?_
    refine q_i2l (pc := 1) dX8_image_1 (by omega) ?_
    refine q_lconst (pc := 2) (v := 0) dX8_image_2 rfl ?_
    refine q_lconst (pc := 3) (v := 1) dX8_image_3 rfl ?_
    refine q_invokestatic (pc := 4) (d' := d - 1) (mc' := 0) (ms' := 0) (As := [_, _, _]) cl_X8_60 dX8_image_4 rfl rfl (by omega) rfl 0 0 (Nat.le_refl 0) (Nat.le_refl 0) ?_
    refine c_X8_in (by omega) (by omega) (by omega) ?_
    refine q_ifb_ne (pc := 7) 15 dX8_image_7 rfl (fun c7 => ?_) (fun c7 => ?_)
    · exfalso; omega
    refine q_aload_n (pc := 10) dX8_image_10 rfl rfl ?_
    refine q_invokevirtual (pc := 11) (d' := d - 1) (mc' := 0) (ms' := 0) (As := []) (TX8, 26) cl_X8_103 dX8_image_11 rfl rfl (by first | assumption | exact zup_at | exact (zup_ne (by decide)).trans (zup_at) | exact (zup_ne (by decide)).trans (by assumption) | exact (zup_ne (by decide)).trans ((zup_ne (by decide)).trans (zup_at)) | exact (zup_ne (by decide)).trans ((zup_ne (by decide)).trans (by assumption)) | exact (zup_ne (by decide)).trans ((zup_ne (by decide)).trans ((zup_ne (by decide)).trans (zup_at))) | exact (zup_ne (by decide)).trans ((zup_ne (by decide)).trans ((zup_ne (by decide)).trans (by assumption))) | exact (zup_ne (by decide)).trans ((zup_ne (by decide)).trans ((zup_ne (by decide)).trans ((zup_ne (by decide)).trans (zup_at)))) | exact (zup_ne (by decide)).trans ((zup_ne (by decide)).trans ((zup_ne (by decide)).trans ((zup_ne (by decide)).trans (by assumption)))) | exact (zup_ne (by decide)).trans ((zup_ne (by decide)).trans ((zup_ne (by decide)).trans ((zup_ne (by decide)).trans ((zup_ne (by decide)).trans (zup_at))))) | exact (zup_ne (by decide)).trans ((zup_ne (by decide)).trans ((zup_ne (by decide)).trans ((zup_ne (by decide)).trans ((zup_ne (by decide)).trans (by assumption)))))) rfl (by omega) rfl 0 0 (Nat.le_refl 0) (Nat.le_refl 0) ?_
    refine c_X8_bad hC (fun w9 hs9 hC9 => ?_)
    refine q_ireturn (pc := 14) dX8_image_14 rfl ?_
    exact zgm k (by unfold o_image; exact ((if_neg (by omega)).trans rfl)) hs9 hC9
set_option maxRecDepth 100000 in
set_option maxHeartbeats 8000000 in
theorem c_X8_from {i : Int} (hd : 6 ≤ d) (hC : zMo g w S) (hO : zOKS S) (h_i : zR32 i) (k : ∀ w', zSame w w' 72 16 → zMo g w' (o_from S i).2 → K (some (zI (o_from S i).1)) w') : zCall g d 0 0 mX8_from [zR g 72, zI i] w K := by
  obtain ⟨⟨p0, p1, p2, p3, p4, it, sm, h72⟩, h73, h74, h75, h76, hScr, h84, h85, h86, h87⟩ := id hC
  have hO1 := hO.1
  have hO2 := hO1.1
  have hO3 := hO2.1
  by_cases hv : 0 ≤ i ∧ i ≤ 1
  · have hk := (hO.2.2 i (by omega) (by omega)).1
    have L2 : S.2.2.2.2.2.1 i ≠ 0 → ∀ (q m : Nat) (w1 : zWd), m + q = 480 → zSame w w1 72 16 → zMo g w1 (sNP S (zcpT S.1.1 (zimN S i) 0 168) (S.2.2.2.2.2.2.1 i) (zcpT S.1.2.2 (zimP S i) 0 (m : Int))) → zRuns g d mX8_from 0 0 74 [some (zR g 72), some (zI i), some (zI (m : Int))] [] w1 K := by
      intro hn q
      induction q with
      | zero =>
        intro m w1 h1 hs hM
        obtain rfl : m = 480 := by omega
        have h73 : w1.1 73 = some (.inr (false, 168, zcpT S.1.1 (zimN S i) 0 168)) := hM.2.1
        have h75 : w1.1 75 = some (.inr (false, 480, zcpT S.1.2.2 (zimP S i) 0 480)) := hM.2.2.2.1
        have e1 : ∀ j, 0 ≤ j → j < ((168 : Nat) : Int) → zcpT S.1.1 (zimN S i) 0 168 j = zimN S i j := fun j a b => by simp only [zcpT]; rw [if_pos (by omega)]; congr 1; omega
        have e2 : ∀ j, 0 ≤ j → j < ((480 : Nat) : Int) → zcpT S.1.2.2 (zimP S i) 0 480 j = zimP S i j := fun j a b => by simp only [zcpT]; rw [if_pos (by omega)]; congr 1; omega
        refine q_iload_n (pc := 74) dX8_from_74 rfl ?_
        refine q_sipush (pc := 75) (by decide) dX8_from_75 ?_
        refine q_icmp_ge (pc := 78) (by omega) (by omega) 105 dX8_from_78 rfl (fun c78 => ?_) (fun c78 => ?_)
        · refine q_iconst (pc := 105) dX8_from_105 ?_
          refine q_norm (k := 73) (zimN S i) h73 e1 ?_
          refine q_norm (k := 75) (zimP S i) ((zup_ne (by decide)).trans h75) e2 ?_
          refine q_ireturn (pc := 106) dX8_from_106 rfl ?_
          exact zgm k (by unfold o_from; exact (if_pos hv).trans ((if_neg hn).trans rfl)) (hs.tr ((zSame.up (by omega)).tr (zSame.up (by omega)))) ((hM.o73 (zSame.up (by omega)) zup_at).o75 (zSame.up (by omega)) zup_at)
        exfalso; omega
      | succ q ih =>
        intro m w1 h1 hs hM
        have hih := ih (m + 1)
        obtain ⟨⟨p0, p1, p2, p3, p4, it, sm, h72⟩, -⟩ := id hM
        have h75 : w1.1 75 = some (.inr (false, 480, zcpT S.1.2.2 (zimP S i) 0 (m : Int))) := hM.2.2.2.1
        have h87 : w1.1 87 = some (.inr (false, 960, S.2.2.2.2.2.2.2)) := hM.2.2.2.2.2.2.2.2.2
        have hzs := zcpT_s (f := S.1.2.2) (x := zimP S i) (b := 0) (m := (m : Int)) (by omega)
        rw [Int.zero_add, show zimP S i (m : Int) = S.2.2.2.2.2.2.2 (480 * i + (m : Int)) from rfl] at hzs
        refine q_iload_n (pc := 74) dX8_from_74 rfl ?_
        refine q_sipush (pc := 75) (by decide) dX8_from_75 ?_
        refine q_icmp_ge (pc := 78) (by omega) (by omega) 105 dX8_from_78 rfl (fun c78 => ?_) (fun c78 => ?_)
        · exfalso; omega
        refine q_aload_n (pc := 81) dX8_from_81 rfl rfl ?_
        refine q_getfield (pc := 82) gf_X8_20 dX8_from_82 (by assumption) rfl ?_
        refine q_iload_n (pc := 85) dX8_from_85 rfl ?_
        refine q_aload_n (pc := 86) dX8_from_86 rfl rfl ?_
        refine q_getfield (pc := 87) gf_X8_57 dX8_from_87 (by assumption) rfl ?_
        refine q_sipush (pc := 90) (by decide) dX8_from_90 ?_
        refine q_iload_n (pc := 93) dX8_from_93 rfl ?_
        refine q_imul (pc := 94) dX8_from_94 ?_
        refine q_iload_n (pc := 95) dX8_from_95 rfl ?_
        refine q_iadd (pc := 96) dX8_from_96 ?_
        refine q_iaload (pc := 97) dX8_from_97 (by assumption) (by omega) ?_
        refine q_iastore (pc := 98) dX8_from_98 (by assumption) (by omega) ?_
        refine q_iinc (pc := 99) [some _, some _, some _] dX8_from_99 rfl rfl rfl ?_
        refine q_goto (pc := 102) 74 dX8_from_102 rfl ?_
        exact hih _ (by omega) (hs.tr (zSame.up (by omega))) (by have h9 := hM.o75 (zSame.up (by omega)) (zup_at (w := w1) (k := 75) (e := .inr (false, 480, zfu (zcpT S.1.2.2 (zimP S i) 0 (m : Int)) (m : Int) (S.2.2.2.2.2.2.2 (480 * i + (m : Int)))))); rw [hzs] at h9 ⊢; exact h9)
    have L1 : S.2.2.2.2.2.1 i ≠ 0 → ∀ (q m : Nat) (w1 : zWd), m + q = 168 → zSame w w1 72 16 → zMo g w1 (sN S (zcpT S.1.1 (zimN S i) 0 (m : Int))) → zRuns g d mX8_from 0 0 31 [some (zR g 72), some (zI i), some (zI (m : Int))] [] w1 K := by
      intro hn q
      induction q with
      | zero =>
        intro m w1 h1 hs hM
        obtain rfl : m = 168 := by omega
        obtain ⟨⟨p0, p1, p2, p3, p4, it, sm, h72⟩, -⟩ := id hM
        have h86 : w1.1 86 = some (.inr (false, 2, S.2.2.2.2.2.2.1)) := hM.2.2.2.2.2.2.2.2.1
        refine q_iload_n (pc := 31) dX8_from_31 rfl ?_
        refine q_sipush (pc := 32) (by decide) dX8_from_32 ?_
        refine q_icmp_ge (pc := 35) (by omega) (by omega) 62 dX8_from_35 rfl (fun c35 => ?_) (fun c35 => ?_)
        · refine q_aload_n (pc := 62) dX8_from_62 rfl rfl ?_
          refine q_aload_n (pc := 63) dX8_from_63 rfl rfl ?_
          refine q_getfield (pc := 64) gf_X8_54 dX8_from_64 (by assumption) rfl ?_
          refine q_iload_n (pc := 67) dX8_from_67 rfl ?_
          refine q_iaload (pc := 68) dX8_from_68 (by assumption) (by omega) ?_
          refine q_putfield2 (pc := 69) [_, _, _, _, _, _, _, _, _, _, _, _, _, _, _, _, _, _, _, _, _, _, _, _, _, _] pf_X8_94 dX8_from_69 (by assumption) rfl rfl (Nat.le_of_ble_eq_true rfl) rfl ?_
          refine q_iconst (pc := 72) dX8_from_72 ?_
          refine q_istore_n (pc := 73) [some _, some _, some _] dX8_from_73 rfl (Nat.le_of_ble_eq_true rfl) rfl ?_
          exact L2 hn 480 0 _ (by omega) (hs.tr (zSame.up (by omega))) (by rw [show ((0 : Nat) : Int) = 0 from rfl, zcpT_0]; exact hM.o72 (zSame.up (by omega)) zup_at)
        exfalso; omega
      | succ q ih =>
        intro m w1 h1 hs hM
        have hih := ih (m + 1)
        obtain ⟨⟨p0, p1, p2, p3, p4, it, sm, h72⟩, -⟩ := id hM
        have h73 : w1.1 73 = some (.inr (false, 168, zcpT S.1.1 (zimN S i) 0 (m : Int))) := hM.2.1
        have h84 : w1.1 84 = some (.inr (false, 336, S.2.2.2.2.1)) := hM.2.2.2.2.2.2.1
        have hzs := zcpT_s (f := S.1.1) (x := zimN S i) (b := 0) (m := (m : Int)) (by omega)
        rw [Int.zero_add, show zimN S i (m : Int) = S.2.2.2.2.1 (168 * i + (m : Int)) from rfl] at hzs
        refine q_iload_n (pc := 31) dX8_from_31 rfl ?_
        refine q_sipush (pc := 32) (by decide) dX8_from_32 ?_
        refine q_icmp_ge (pc := 35) (by omega) (by omega) 62 dX8_from_35 rfl (fun c35 => ?_) (fun c35 => ?_)
        · exfalso; omega
        refine q_aload_n (pc := 38) dX8_from_38 rfl rfl ?_
        refine q_getfield (pc := 39) gf_X8_7 dX8_from_39 (by assumption) rfl ?_
        refine q_iload_n (pc := 42) dX8_from_42 rfl ?_
        refine q_aload_n (pc := 43) dX8_from_43 rfl rfl ?_
        refine q_getfield (pc := 44) gf_X8_47 dX8_from_44 (by assumption) rfl ?_
        refine q_sipush (pc := 47) (by decide) dX8_from_47 ?_
        refine q_iload_n (pc := 50) dX8_from_50 rfl ?_
        refine q_imul (pc := 51) dX8_from_51 ?_
        refine q_iload_n (pc := 52) dX8_from_52 rfl ?_
        refine q_iadd (pc := 53) dX8_from_53 ?_
        refine q_iaload (pc := 54) dX8_from_54 (by assumption) (by omega) ?_
        refine q_iastore (pc := 55) dX8_from_55 (by assumption) (by omega) ?_
        refine q_iinc (pc := 56) [some _, some _, some _] dX8_from_56 rfl rfl rfl ?_
        refine q_goto (pc := 59) 31 dX8_from_59 rfl ?_
        exact hih _ (by omega) (hs.tr (zSame.up (by omega))) (by have h9 := hM.o73 (zSame.up (by omega)) (zup_at (w := w1) (k := 73) (e := .inr (false, 168, zfu (zcpT S.1.1 (zimN S i) 0 (m : Int)) (m : Int) (S.2.2.2.2.1 (168 * i + (m : Int)))))); rw [hzs] at h9 ⊢; exact h9)
    refine zenter [some _, some _, none] pn_X8 rfl (Nat.le_of_ble_eq_true rfl) ?_
    refine q_iload_n (pc := 0) dX8_from_0 rfl ?_
    refine q_i2l (pc := 1) dX8_from_1 (by omega) ?_
    refine q_lconst (pc := 2) (v := 0) dX8_from_2 rfl ?_
    refine q_lconst (pc := 3) (v := 1) dX8_from_3 rfl ?_
    refine q_invokestatic (pc := 4) (d' := d - 1) (mc' := 0) (ms' := 0) (As := [_, _, _]) cl_X8_60 dX8_from_4 rfl rfl (by omega) rfl 0 0 (Nat.le_refl 0) (Nat.le_refl 0) ?_
    refine c_X8_in (by omega) (by omega) (by omega) ?_
    refine q_ifb_ne (pc := 7) 15 dX8_from_7 rfl (fun c7 => ?_) (fun c7 => ?_)
    · refine q_aload_n (pc := 15) dX8_from_15 rfl rfl ?_
      refine q_getfield (pc := 16) gf_X8_50 dX8_from_16 (by first | assumption | exact zup_at | exact (zup_ne (by decide)).trans (zup_at) | exact (zup_ne (by decide)).trans (by assumption) | exact (zup_ne (by decide)).trans ((zup_ne (by decide)).trans (zup_at)) | exact (zup_ne (by decide)).trans ((zup_ne (by decide)).trans (by assumption)) | exact (zup_ne (by decide)).trans ((zup_ne (by decide)).trans ((zup_ne (by decide)).trans (zup_at))) | exact (zup_ne (by decide)).trans ((zup_ne (by decide)).trans ((zup_ne (by decide)).trans (by assumption))) | exact (zup_ne (by decide)).trans ((zup_ne (by decide)).trans ((zup_ne (by decide)).trans ((zup_ne (by decide)).trans (zup_at)))) | exact (zup_ne (by decide)).trans ((zup_ne (by decide)).trans ((zup_ne (by decide)).trans ((zup_ne (by decide)).trans (by assumption)))) | exact (zup_ne (by decide)).trans ((zup_ne (by decide)).trans ((zup_ne (by decide)).trans ((zup_ne (by decide)).trans ((zup_ne (by decide)).trans (zup_at))))) | exact (zup_ne (by decide)).trans ((zup_ne (by decide)).trans ((zup_ne (by decide)).trans ((zup_ne (by decide)).trans ((zup_ne (by decide)).trans (by assumption)))))) rfl ?_
      refine q_iload_n (pc := 19) dX8_from_19 rfl ?_
      refine q_baload (pc := 20) dX8_from_20 (by first | assumption | exact zup_at | exact (zup_ne (by decide)).trans (zup_at) | exact (zup_ne (by decide)).trans (by assumption) | exact (zup_ne (by decide)).trans ((zup_ne (by decide)).trans (zup_at)) | exact (zup_ne (by decide)).trans ((zup_ne (by decide)).trans (by assumption)) | exact (zup_ne (by decide)).trans ((zup_ne (by decide)).trans ((zup_ne (by decide)).trans (zup_at))) | exact (zup_ne (by decide)).trans ((zup_ne (by decide)).trans ((zup_ne (by decide)).trans (by assumption))) | exact (zup_ne (by decide)).trans ((zup_ne (by decide)).trans ((zup_ne (by decide)).trans ((zup_ne (by decide)).trans (zup_at)))) | exact (zup_ne (by decide)).trans ((zup_ne (by decide)).trans ((zup_ne (by decide)).trans ((zup_ne (by decide)).trans (by assumption)))) | exact (zup_ne (by decide)).trans ((zup_ne (by decide)).trans ((zup_ne (by decide)).trans ((zup_ne (by decide)).trans ((zup_ne (by decide)).trans (zup_at))))) | exact (zup_ne (by decide)).trans ((zup_ne (by decide)).trans ((zup_ne (by decide)).trans ((zup_ne (by decide)).trans ((zup_ne (by decide)).trans (by assumption)))))) (by omega) ?_
      refine q_if_ne (pc := 21) (by omega) 29 dX8_from_21 rfl (fun c21 => ?_) (fun c21 => ?_)
      · refine q_iconst (pc := 29) dX8_from_29 ?_
        refine q_istore_n (pc := 30) [some _, some _, some _] dX8_from_30 rfl (Nat.le_of_ble_eq_true rfl) rfl ?_
        exact L1 c21 168 0 _ (by omega) zSame.rf (by rw [show ((0 : Nat) : Int) = 0 from rfl, zcpT_0]; exact hC)
      refine q_aload_n (pc := 24) dX8_from_24 rfl rfl ?_
      refine q_invokevirtual (pc := 25) (d' := d - 1) (mc' := 0) (ms' := 0) (As := []) (TX8, 26) cl_X8_229 dX8_from_25 rfl rfl (by first | assumption | exact zup_at | exact (zup_ne (by decide)).trans (zup_at) | exact (zup_ne (by decide)).trans (by assumption) | exact (zup_ne (by decide)).trans ((zup_ne (by decide)).trans (zup_at)) | exact (zup_ne (by decide)).trans ((zup_ne (by decide)).trans (by assumption)) | exact (zup_ne (by decide)).trans ((zup_ne (by decide)).trans ((zup_ne (by decide)).trans (zup_at))) | exact (zup_ne (by decide)).trans ((zup_ne (by decide)).trans ((zup_ne (by decide)).trans (by assumption))) | exact (zup_ne (by decide)).trans ((zup_ne (by decide)).trans ((zup_ne (by decide)).trans ((zup_ne (by decide)).trans (zup_at)))) | exact (zup_ne (by decide)).trans ((zup_ne (by decide)).trans ((zup_ne (by decide)).trans ((zup_ne (by decide)).trans (by assumption)))) | exact (zup_ne (by decide)).trans ((zup_ne (by decide)).trans ((zup_ne (by decide)).trans ((zup_ne (by decide)).trans ((zup_ne (by decide)).trans (zup_at))))) | exact (zup_ne (by decide)).trans ((zup_ne (by decide)).trans ((zup_ne (by decide)).trans ((zup_ne (by decide)).trans ((zup_ne (by decide)).trans (by assumption)))))) rfl (by omega) rfl 0 0 (Nat.le_refl 0) (Nat.le_refl 0) ?_
      refine c_X8_no hC (fun w9 hs9 hC9 => ?_)
      refine q_ireturn (pc := 28) dX8_from_28 rfl ?_
      exact zgm k (by unfold o_from; exact ((if_pos (by omega)).trans ((if_pos (by omega)).trans rfl))) hs9 hC9
    exfalso; omega
  · have hz0 := hv
    refine zenter [some _, some _, none] pn_X8 rfl (Nat.le_of_ble_eq_true rfl) ?_
    refine q_iload_n (pc := 0) dX8_from_0 rfl ?_
    refine q_i2l (pc := 1) dX8_from_1 (by omega) ?_
    refine q_lconst (pc := 2) (v := 0) dX8_from_2 rfl ?_
    refine q_lconst (pc := 3) (v := 1) dX8_from_3 rfl ?_
    refine q_invokestatic (pc := 4) (d' := d - 1) (mc' := 0) (ms' := 0) (As := [_, _, _]) cl_X8_60 dX8_from_4 rfl rfl (by omega) rfl 0 0 (Nat.le_refl 0) (Nat.le_refl 0) ?_
    refine c_X8_in (by omega) (by omega) (by omega) ?_
    refine q_ifb_ne (pc := 7) 15 dX8_from_7 rfl (fun c7 => ?_) (fun c7 => ?_)
    · exfalso; omega
    refine q_aload_n (pc := 10) dX8_from_10 rfl rfl ?_
    refine q_invokevirtual (pc := 11) (d' := d - 1) (mc' := 0) (ms' := 0) (As := []) (TX8, 26) cl_X8_103 dX8_from_11 rfl rfl (by first | assumption | exact zup_at | exact (zup_ne (by decide)).trans (zup_at) | exact (zup_ne (by decide)).trans (by assumption) | exact (zup_ne (by decide)).trans ((zup_ne (by decide)).trans (zup_at)) | exact (zup_ne (by decide)).trans ((zup_ne (by decide)).trans (by assumption)) | exact (zup_ne (by decide)).trans ((zup_ne (by decide)).trans ((zup_ne (by decide)).trans (zup_at))) | exact (zup_ne (by decide)).trans ((zup_ne (by decide)).trans ((zup_ne (by decide)).trans (by assumption))) | exact (zup_ne (by decide)).trans ((zup_ne (by decide)).trans ((zup_ne (by decide)).trans ((zup_ne (by decide)).trans (zup_at)))) | exact (zup_ne (by decide)).trans ((zup_ne (by decide)).trans ((zup_ne (by decide)).trans ((zup_ne (by decide)).trans (by assumption)))) | exact (zup_ne (by decide)).trans ((zup_ne (by decide)).trans ((zup_ne (by decide)).trans ((zup_ne (by decide)).trans ((zup_ne (by decide)).trans (zup_at))))) | exact (zup_ne (by decide)).trans ((zup_ne (by decide)).trans ((zup_ne (by decide)).trans ((zup_ne (by decide)).trans ((zup_ne (by decide)).trans (by assumption)))))) rfl (by omega) rfl 0 0 (Nat.le_refl 0) (Nat.le_refl 0) ?_
    refine c_X8_bad hC (fun w9 hs9 hC9 => ?_)
    refine q_ireturn (pc := 14) dX8_from_14 rfl ?_
    exact zgm k (by unfold o_from; exact ((if_neg (by omega)).trans rfl)) hs9 hC9
set_option maxRecDepth 100000 in
set_option maxHeartbeats 8000000 in
theorem c_X8_common {a b : Int} (ha : 0 ≤ a ∧ a ≤ 2000) (hb : 0 ≤ b ∧ b ≤ 2000) (k : K (some (zI ((Nat.gcd a.toNat b.toNat : Nat) : Int))) w) : zCall g d 0 0 mX8_common [zI a, zI b] w K := by
  have hz := zeu_gcd 2001 a.toNat b.toNat (by omega)
  rw [show ((a.toNat : Nat) : Int) = a by omega, show ((b.toNat : Nat) : Int) = b by omega] at hz
  rw [← hz] at k
  have L : ∀ (q : Nat) (x y : Int) (x4 : Option Value), 0 ≤ x ∧ x ≤ 2000 → (0 ≤ y ∧ y < q) ∧ y ≤ 2000 → zeu q x y = zeu 2001 a b → zRuns g d mX8_common 0 0 4 [some (zI a), some (zI b), some (zI x), some (zI y), x4] [] w K := by
    intro q
    induction q with
    | zero => intro x y x4 h1 h2; omega
    | succ q ih =>
      intro x y x4 h1 h2 e
      rw [zeu] at e
      by_cases hy : y = 0
      · rw [if_pos hy] at e
        rw [← e] at k
        refine q_iload_n (pc := 4) dX8_common_4 rfl ?_
        refine q_if_le (pc := 5) (by omega) 21 dX8_common_5 rfl (fun c5 => ?_) (fun c5 => ?_)
        · refine q_iload_n (pc := 21) dX8_common_21 rfl ?_
          refine q_ireturn (pc := 22) dX8_common_22 rfl ?_
          exact k
        exfalso; omega
      · rw [if_neg hy] at e
        have hm := Int.emod_nonneg x hy
        have hm2 := Int.emod_lt_of_pos x (show 0 < y by omega)
        refine q_iload_n (pc := 4) dX8_common_4 rfl ?_
        refine q_if_le (pc := 5) (by omega) 21 dX8_common_5 rfl (fun c5 => ?_) (fun c5 => ?_)
        · exfalso; omega
        refine q_iload_n (pc := 8) dX8_common_8 rfl ?_
        refine q_iload_n (pc := 9) dX8_common_9 rfl ?_
        refine q_irem (pc := 10) dX8_common_10 (by omega) (by omega) (by omega) ?_
        refine q_istore (pc := 11) [some _, some _, some _, some _, some _] dX8_common_11 rfl (Nat.le_of_ble_eq_true rfl) rfl ?_
        refine q_iload_n (pc := 13) dX8_common_13 rfl ?_
        refine q_istore_n (pc := 14) [some _, some _, some _, some _, some _] dX8_common_14 rfl (Nat.le_of_ble_eq_true rfl) rfl ?_
        refine q_iload (pc := 15) dX8_common_15 rfl ?_
        refine q_istore_n (pc := 17) [some _, some _, some _, some _, some _] dX8_common_17 rfl (Nat.le_of_ble_eq_true rfl) rfl ?_
        refine q_goto (pc := 18) 4 dX8_common_18 rfl ?_
        exact ih _ _ _ (by omega) (by omega) e
  refine zenter [some _, some _, none, none, none] pn_X8 rfl (Nat.le_of_ble_eq_true rfl) ?_
  refine q_iload_n (pc := 0) dX8_common_0 rfl ?_
  refine q_istore_n (pc := 1) [some _, some _, some _, none, none] dX8_common_1 rfl (Nat.le_of_ble_eq_true rfl) rfl ?_
  refine q_iload_n (pc := 2) dX8_common_2 rfl ?_
  refine q_istore_n (pc := 3) [some _, some _, some _, some _, none] dX8_common_3 rfl (Nat.le_of_ble_eq_true rfl) rfl ?_
  exact L 2001 a b _ ha (by omega) rfl
set_option maxRecDepth 100000 in
set_option maxHeartbeats 8000000 in
theorem c_X8_gusts {s q r n c : Int} (hd : 6 ≤ d) (hC : zMo g w S) (hO : zOKS S) (h_s : zR32 s) (h_q : zR32 q) (h_r : zR32 r) (h_n : zR32 n) (h_c : zR32 c) (k : ∀ w', zSame w w' 72 16 → zMo g w' (o_gusts S s q r n c).2 → K (some (zI (o_gusts S s q r n c).1)) w') : zCall g d 0 0 mX8_gusts [zR g 72, zI s, zI q, zI r, zI n, zI c] w K := by
  obtain ⟨⟨p0, p1, p2, p3, p4, it, sm, h72⟩, h73, h74, h75, h76, hScr, h84, h85, h86, h87⟩ := id hC
  have hO1 := hO.1
  have hO2 := hO1.1
  have hO3 := hO2.1
  refine zenter [some _, some _, some _, some _, some _, some _, none, none, none, none, none] pn_X8 rfl (Nat.le_of_ble_eq_true rfl) ?_
  refine q_aload_n (pc := 0) dX8_gusts_0 rfl rfl ?_
  refine q_iload_n (pc := 1) dX8_gusts_1 rfl ?_
  refine q_invokevirtual (pc := 2) (d' := d - 1) (mc' := 0) (ms' := 0) (As := [_]) (TX8, 26) cl_X8_223 dX8_gusts_2 rfl rfl (by first | assumption | exact zup_at | exact (zup_ne (by decide)).trans (zup_at) | exact (zup_ne (by decide)).trans (by assumption) | exact (zup_ne (by decide)).trans ((zup_ne (by decide)).trans (zup_at)) | exact (zup_ne (by decide)).trans ((zup_ne (by decide)).trans (by assumption)) | exact (zup_ne (by decide)).trans ((zup_ne (by decide)).trans ((zup_ne (by decide)).trans (zup_at))) | exact (zup_ne (by decide)).trans ((zup_ne (by decide)).trans ((zup_ne (by decide)).trans (by assumption))) | exact (zup_ne (by decide)).trans ((zup_ne (by decide)).trans ((zup_ne (by decide)).trans ((zup_ne (by decide)).trans (zup_at)))) | exact (zup_ne (by decide)).trans ((zup_ne (by decide)).trans ((zup_ne (by decide)).trans ((zup_ne (by decide)).trans (by assumption)))) | exact (zup_ne (by decide)).trans ((zup_ne (by decide)).trans ((zup_ne (by decide)).trans ((zup_ne (by decide)).trans ((zup_ne (by decide)).trans (zup_at))))) | exact (zup_ne (by decide)).trans ((zup_ne (by decide)).trans ((zup_ne (by decide)).trans ((zup_ne (by decide)).trans ((zup_ne (by decide)).trans (by assumption)))))) rfl (by omega) rfl 0 0 (Nat.le_refl 0) (Nat.le_refl 0) ?_
  refine c_X8_isSlinger (by omega) h72 h73 hO3 (by omega) ?_
  refine q_ifb_eq (pc := 5) 54 dX8_gusts_5 rfl (fun c5 => ?_) (fun c5 => ?_)
  · refine q_aload_n (pc := 54) dX8_gusts_54 rfl rfl ?_
    refine q_invokevirtual (pc := 55) (d' := d - 1) (mc' := 0) (ms' := 0) (As := []) (TX8, 26) cl_X8_103 dX8_gusts_55 rfl rfl (by first | assumption | exact zup_at | exact (zup_ne (by decide)).trans (zup_at) | exact (zup_ne (by decide)).trans (by assumption) | exact (zup_ne (by decide)).trans ((zup_ne (by decide)).trans (zup_at)) | exact (zup_ne (by decide)).trans ((zup_ne (by decide)).trans (by assumption)) | exact (zup_ne (by decide)).trans ((zup_ne (by decide)).trans ((zup_ne (by decide)).trans (zup_at))) | exact (zup_ne (by decide)).trans ((zup_ne (by decide)).trans ((zup_ne (by decide)).trans (by assumption))) | exact (zup_ne (by decide)).trans ((zup_ne (by decide)).trans ((zup_ne (by decide)).trans ((zup_ne (by decide)).trans (zup_at)))) | exact (zup_ne (by decide)).trans ((zup_ne (by decide)).trans ((zup_ne (by decide)).trans ((zup_ne (by decide)).trans (by assumption)))) | exact (zup_ne (by decide)).trans ((zup_ne (by decide)).trans ((zup_ne (by decide)).trans ((zup_ne (by decide)).trans ((zup_ne (by decide)).trans (zup_at))))) | exact (zup_ne (by decide)).trans ((zup_ne (by decide)).trans ((zup_ne (by decide)).trans ((zup_ne (by decide)).trans ((zup_ne (by decide)).trans (by assumption)))))) rfl (by omega) rfl 0 0 (Nat.le_refl 0) (Nat.le_refl 0) ?_
    refine c_X8_bad hC (fun w9 hs9 hC9 => ?_)
    refine q_ireturn (pc := 58) dX8_gusts_58 rfl ?_
    first | exact zgm k (by unfold o_gusts; exact ((if_pos (by omega)).trans rfl)) ((zSame.up (by omega)).tr (zSame.up (by omega))) ((hC.o72 (zSame.up (by omega)) zup_at).o72 (zSame.up (by omega)) zup_at) | exact zgm k (by unfold o_gusts; exact ((if_neg (by omega)).trans rfl)) hs9 hC9
  refine q_aload_n (pc := 8) dX8_gusts_8 rfl rfl ?_
  refine q_iload_n (pc := 9) dX8_gusts_9 rfl ?_
  refine q_invokevirtual (pc := 10) (d' := d - 1) (mc' := 0) (ms' := 0) (As := [_]) (TX8, 26) cl_X8_226 dX8_gusts_10 rfl rfl (by first | assumption | exact zup_at | exact (zup_ne (by decide)).trans (zup_at) | exact (zup_ne (by decide)).trans (by assumption) | exact (zup_ne (by decide)).trans ((zup_ne (by decide)).trans (zup_at)) | exact (zup_ne (by decide)).trans ((zup_ne (by decide)).trans (by assumption)) | exact (zup_ne (by decide)).trans ((zup_ne (by decide)).trans ((zup_ne (by decide)).trans (zup_at))) | exact (zup_ne (by decide)).trans ((zup_ne (by decide)).trans ((zup_ne (by decide)).trans (by assumption))) | exact (zup_ne (by decide)).trans ((zup_ne (by decide)).trans ((zup_ne (by decide)).trans ((zup_ne (by decide)).trans (zup_at)))) | exact (zup_ne (by decide)).trans ((zup_ne (by decide)).trans ((zup_ne (by decide)).trans ((zup_ne (by decide)).trans (by assumption)))) | exact (zup_ne (by decide)).trans ((zup_ne (by decide)).trans ((zup_ne (by decide)).trans ((zup_ne (by decide)).trans ((zup_ne (by decide)).trans (zup_at))))) | exact (zup_ne (by decide)).trans ((zup_ne (by decide)).trans ((zup_ne (by decide)).trans ((zup_ne (by decide)).trans ((zup_ne (by decide)).trans (by assumption)))))) rfl (by omega) rfl 0 0 (Nat.le_refl 0) (Nat.le_refl 0) ?_
  refine c_X8_isCloud (by omega) h72 h73 hO3 (by omega) ?_
  refine q_ifb_eq (pc := 13) 54 dX8_gusts_13 rfl (fun c13 => ?_) (fun c13 => ?_)
  · refine q_aload_n (pc := 54) dX8_gusts_54 rfl rfl ?_
    refine q_invokevirtual (pc := 55) (d' := d - 1) (mc' := 0) (ms' := 0) (As := []) (TX8, 26) cl_X8_103 dX8_gusts_55 rfl rfl (by first | assumption | exact zup_at | exact (zup_ne (by decide)).trans (zup_at) | exact (zup_ne (by decide)).trans (by assumption) | exact (zup_ne (by decide)).trans ((zup_ne (by decide)).trans (zup_at)) | exact (zup_ne (by decide)).trans ((zup_ne (by decide)).trans (by assumption)) | exact (zup_ne (by decide)).trans ((zup_ne (by decide)).trans ((zup_ne (by decide)).trans (zup_at))) | exact (zup_ne (by decide)).trans ((zup_ne (by decide)).trans ((zup_ne (by decide)).trans (by assumption))) | exact (zup_ne (by decide)).trans ((zup_ne (by decide)).trans ((zup_ne (by decide)).trans ((zup_ne (by decide)).trans (zup_at)))) | exact (zup_ne (by decide)).trans ((zup_ne (by decide)).trans ((zup_ne (by decide)).trans ((zup_ne (by decide)).trans (by assumption)))) | exact (zup_ne (by decide)).trans ((zup_ne (by decide)).trans ((zup_ne (by decide)).trans ((zup_ne (by decide)).trans ((zup_ne (by decide)).trans (zup_at))))) | exact (zup_ne (by decide)).trans ((zup_ne (by decide)).trans ((zup_ne (by decide)).trans ((zup_ne (by decide)).trans ((zup_ne (by decide)).trans (by assumption)))))) rfl (by omega) rfl 0 0 (Nat.le_refl 0) (Nat.le_refl 0) ?_
    refine c_X8_bad hC (fun w9 hs9 hC9 => ?_)
    refine q_ireturn (pc := 58) dX8_gusts_58 rfl ?_
    first | exact zgm k (by unfold o_gusts; exact ((if_pos (by omega)).trans rfl)) ((zSame.up (by omega)).tr (zSame.up (by omega))) ((hC.o72 (zSame.up (by omega)) zup_at).o72 (zSame.up (by omega)) zup_at) | exact zgm k (by unfold o_gusts; exact ((if_neg (by omega)).trans rfl)) hs9 hC9
  refine q_iload_n (pc := 16) dX8_gusts_16 rfl ?_
  refine q_i2l (pc := 17) dX8_gusts_17 (by omega) ?_
  refine q_lconst (pc := 18) (v := 1) dX8_gusts_18 rfl ?_
  refine q_ldc2_w (pc := 19) tw_5_79 dX8_gusts_19 ?_
  refine q_invokestatic (pc := 22) (d' := d - 1) (mc' := 0) (ms' := 0) (As := [_, _, _]) cl_X8_60 dX8_gusts_22 rfl rfl (by omega) rfl 0 0 (Nat.le_refl 0) (Nat.le_refl 0) ?_
  refine c_X8_in (by omega) (by omega) (by omega) ?_
  refine q_ifb_eq (pc := 25) 54 dX8_gusts_25 rfl (fun c25 => ?_) (fun c25 => ?_)
  · refine q_aload_n (pc := 54) dX8_gusts_54 rfl rfl ?_
    refine q_invokevirtual (pc := 55) (d' := d - 1) (mc' := 0) (ms' := 0) (As := []) (TX8, 26) cl_X8_103 dX8_gusts_55 rfl rfl (by first | assumption | exact zup_at | exact (zup_ne (by decide)).trans (zup_at) | exact (zup_ne (by decide)).trans (by assumption) | exact (zup_ne (by decide)).trans ((zup_ne (by decide)).trans (zup_at)) | exact (zup_ne (by decide)).trans ((zup_ne (by decide)).trans (by assumption)) | exact (zup_ne (by decide)).trans ((zup_ne (by decide)).trans ((zup_ne (by decide)).trans (zup_at))) | exact (zup_ne (by decide)).trans ((zup_ne (by decide)).trans ((zup_ne (by decide)).trans (by assumption))) | exact (zup_ne (by decide)).trans ((zup_ne (by decide)).trans ((zup_ne (by decide)).trans ((zup_ne (by decide)).trans (zup_at)))) | exact (zup_ne (by decide)).trans ((zup_ne (by decide)).trans ((zup_ne (by decide)).trans ((zup_ne (by decide)).trans (by assumption)))) | exact (zup_ne (by decide)).trans ((zup_ne (by decide)).trans ((zup_ne (by decide)).trans ((zup_ne (by decide)).trans ((zup_ne (by decide)).trans (zup_at))))) | exact (zup_ne (by decide)).trans ((zup_ne (by decide)).trans ((zup_ne (by decide)).trans ((zup_ne (by decide)).trans ((zup_ne (by decide)).trans (by assumption)))))) rfl (by omega) rfl 0 0 (Nat.le_refl 0) (Nat.le_refl 0) ?_
    refine c_X8_bad hC (fun w9 hs9 hC9 => ?_)
    refine q_ireturn (pc := 58) dX8_gusts_58 rfl ?_
    first | exact zgm k (by unfold o_gusts; exact ((if_pos (by omega)).trans rfl)) ((zSame.up (by omega)).tr (zSame.up (by omega))) ((hC.o72 (zSame.up (by omega)) zup_at).o72 (zSame.up (by omega)) zup_at) | exact zgm k (by unfold o_gusts; exact ((if_neg (by omega)).trans rfl)) hs9 hC9
  refine q_iload (pc := 28) dX8_gusts_28 rfl ?_
  refine q_i2l (pc := 30) dX8_gusts_30 (by omega) ?_
  refine q_lconst (pc := 31) (v := 0) dX8_gusts_31 rfl ?_
  refine q_ldc2_w (pc := 32) tw_5_79 dX8_gusts_32 ?_
  refine q_invokestatic (pc := 35) (d' := d - 1) (mc' := 0) (ms' := 0) (As := [_, _, _]) cl_X8_60 dX8_gusts_35 rfl rfl (by omega) rfl 0 0 (Nat.le_refl 0) (Nat.le_refl 0) ?_
  refine c_X8_in (by omega) (by omega) (by omega) ?_
  refine q_ifb_eq (pc := 38) 54 dX8_gusts_38 rfl (fun c38 => ?_) (fun c38 => ?_)
  · refine q_aload_n (pc := 54) dX8_gusts_54 rfl rfl ?_
    refine q_invokevirtual (pc := 55) (d' := d - 1) (mc' := 0) (ms' := 0) (As := []) (TX8, 26) cl_X8_103 dX8_gusts_55 rfl rfl (by first | assumption | exact zup_at | exact (zup_ne (by decide)).trans (zup_at) | exact (zup_ne (by decide)).trans (by assumption) | exact (zup_ne (by decide)).trans ((zup_ne (by decide)).trans (zup_at)) | exact (zup_ne (by decide)).trans ((zup_ne (by decide)).trans (by assumption)) | exact (zup_ne (by decide)).trans ((zup_ne (by decide)).trans ((zup_ne (by decide)).trans (zup_at))) | exact (zup_ne (by decide)).trans ((zup_ne (by decide)).trans ((zup_ne (by decide)).trans (by assumption))) | exact (zup_ne (by decide)).trans ((zup_ne (by decide)).trans ((zup_ne (by decide)).trans ((zup_ne (by decide)).trans (zup_at)))) | exact (zup_ne (by decide)).trans ((zup_ne (by decide)).trans ((zup_ne (by decide)).trans ((zup_ne (by decide)).trans (by assumption)))) | exact (zup_ne (by decide)).trans ((zup_ne (by decide)).trans ((zup_ne (by decide)).trans ((zup_ne (by decide)).trans ((zup_ne (by decide)).trans (zup_at))))) | exact (zup_ne (by decide)).trans ((zup_ne (by decide)).trans ((zup_ne (by decide)).trans ((zup_ne (by decide)).trans ((zup_ne (by decide)).trans (by assumption)))))) rfl (by omega) rfl 0 0 (Nat.le_refl 0) (Nat.le_refl 0) ?_
    refine c_X8_bad hC (fun w9 hs9 hC9 => ?_)
    refine q_ireturn (pc := 58) dX8_gusts_58 rfl ?_
    first | exact zgm k (by unfold o_gusts; exact ((if_pos (by omega)).trans rfl)) ((zSame.up (by omega)).tr (zSame.up (by omega))) ((hC.o72 (zSame.up (by omega)) zup_at).o72 (zSame.up (by omega)) zup_at) | exact zgm k (by unfold o_gusts; exact ((if_neg (by omega)).trans rfl)) hs9 hC9
  refine q_iload (pc := 41) dX8_gusts_41 rfl ?_
  refine q_i2l (pc := 43) dX8_gusts_43 (by omega) ?_
  refine q_lconst (pc := 44) (v := 0) dX8_gusts_44 rfl ?_
  refine q_ldc2_w (pc := 45) tw_6_203 dX8_gusts_45 ?_
  refine q_invokestatic (pc := 48) (d' := d - 1) (mc' := 0) (ms' := 0) (As := [_, _, _]) cl_X8_60 dX8_gusts_48 rfl rfl (by omega) rfl 0 0 (Nat.le_refl 0) (Nat.le_refl 0) ?_
  refine c_X8_in (by omega) (by omega) (by omega) ?_
  refine q_ifb_ne (pc := 51) 59 dX8_gusts_51 rfl (fun c51 => ?_) (fun c51 => ?_)
  · have hgb := zgust_b (N := S.1.1) (s := s) (q := q) (r := r) (n := n) (c := c) (by omega) (by omega) (by omega)
    have hcm := zgust_m (N := S.1.1) (s := s) (q := q) (r := r) (n := n) (c := c)
    have hgc := zgcd_b (v := zgust S.1.1 s q r n c)
    have hgq := Int.ediv_nonneg hgb.2.2.1 (show 0 ≤ zgcd (zgust S.1.1 s q r n c) by omega)
    have hgr := Int.ediv_le_self (zgcd (zgust S.1.1 s q r n c)) hgb.2.2.1
    have hgs := Int.ediv_nonneg (show (0 : Int) ≤ 10 by omega) (show 0 ≤ zgcd (zgust S.1.1 s q r n c) by omega)
    have hgt := Int.ediv_le_self (zgcd (zgust S.1.1 s q r n c)) (show (0 : Int) ≤ 10 by omega)
    refine q_aload_n (pc := 59) dX8_gusts_59 rfl rfl ?_
    refine q_getfield (pc := 60) gf_X8_7 dX8_gusts_60 (by first | assumption | exact zup_at | exact (zup_ne (by decide)).trans (zup_at) | exact (zup_ne (by decide)).trans (by assumption) | exact (zup_ne (by decide)).trans ((zup_ne (by decide)).trans (zup_at)) | exact (zup_ne (by decide)).trans ((zup_ne (by decide)).trans (by assumption)) | exact (zup_ne (by decide)).trans ((zup_ne (by decide)).trans ((zup_ne (by decide)).trans (zup_at))) | exact (zup_ne (by decide)).trans ((zup_ne (by decide)).trans ((zup_ne (by decide)).trans (by assumption))) | exact (zup_ne (by decide)).trans ((zup_ne (by decide)).trans ((zup_ne (by decide)).trans ((zup_ne (by decide)).trans (zup_at)))) | exact (zup_ne (by decide)).trans ((zup_ne (by decide)).trans ((zup_ne (by decide)).trans ((zup_ne (by decide)).trans (by assumption)))) | exact (zup_ne (by decide)).trans ((zup_ne (by decide)).trans ((zup_ne (by decide)).trans ((zup_ne (by decide)).trans ((zup_ne (by decide)).trans (zup_at))))) | exact (zup_ne (by decide)).trans ((zup_ne (by decide)).trans ((zup_ne (by decide)).trans ((zup_ne (by decide)).trans ((zup_ne (by decide)).trans (by assumption)))))) rfl ?_
    refine q_iconst (pc := 63) dX8_gusts_63 ?_
    refine q_iaload (pc := 64) dX8_gusts_64 (by first | assumption | exact zup_at | exact (zup_ne (by decide)).trans (zup_at) | exact (zup_ne (by decide)).trans (by assumption) | exact (zup_ne (by decide)).trans ((zup_ne (by decide)).trans (zup_at)) | exact (zup_ne (by decide)).trans ((zup_ne (by decide)).trans (by assumption)) | exact (zup_ne (by decide)).trans ((zup_ne (by decide)).trans ((zup_ne (by decide)).trans (zup_at))) | exact (zup_ne (by decide)).trans ((zup_ne (by decide)).trans ((zup_ne (by decide)).trans (by assumption))) | exact (zup_ne (by decide)).trans ((zup_ne (by decide)).trans ((zup_ne (by decide)).trans ((zup_ne (by decide)).trans (zup_at)))) | exact (zup_ne (by decide)).trans ((zup_ne (by decide)).trans ((zup_ne (by decide)).trans ((zup_ne (by decide)).trans (by assumption)))) | exact (zup_ne (by decide)).trans ((zup_ne (by decide)).trans ((zup_ne (by decide)).trans ((zup_ne (by decide)).trans ((zup_ne (by decide)).trans (zup_at))))) | exact (zup_ne (by decide)).trans ((zup_ne (by decide)).trans ((zup_ne (by decide)).trans ((zup_ne (by decide)).trans ((zup_ne (by decide)).trans (by assumption)))))) (by omega) ?_
    refine q_iconst (pc := 65) dX8_gusts_65 ?_
    refine q_iadd (pc := 66) dX8_gusts_66 ?_
    refine q_bipush (pc := 67) (by decide) dX8_gusts_67 ?_
    refine q_icmp_ge (pc := 69) (by omega) (by omega) 83 dX8_gusts_69 rfl (fun c69 => ?_) (fun c69 => ?_)
    · refine q_bipush (pc := 83) (by decide) dX8_gusts_83 ?_
      first | rw [show S.1.1 4 + 4 = min 9 (S.1.1 4 + 4) by omega] | rw [show (9 : Int) = min 9 (S.1.1 4 + 4) by omega]
      refine q_istore (pc := 85) [some _, some _, some _, some _, some _, some _, some _, none, none, none, none] dX8_gusts_85 rfl (Nat.le_of_ble_eq_true rfl) rfl ?_
      refine q_aload_n (pc := 87) dX8_gusts_87 rfl rfl ?_
      refine q_iload_n (pc := 88) dX8_gusts_88 rfl ?_
      refine q_iload_n (pc := 89) dX8_gusts_89 rfl ?_
      refine q_iload_n (pc := 90) dX8_gusts_90 rfl ?_
      refine q_aload_n (pc := 91) dX8_gusts_91 rfl rfl ?_
      refine q_getfield (pc := 92) gf_X8_7 dX8_gusts_92 (by first | assumption | exact zup_at | exact (zup_ne (by decide)).trans (zup_at) | exact (zup_ne (by decide)).trans (by assumption) | exact (zup_ne (by decide)).trans ((zup_ne (by decide)).trans (zup_at)) | exact (zup_ne (by decide)).trans ((zup_ne (by decide)).trans (by assumption)) | exact (zup_ne (by decide)).trans ((zup_ne (by decide)).trans ((zup_ne (by decide)).trans (zup_at))) | exact (zup_ne (by decide)).trans ((zup_ne (by decide)).trans ((zup_ne (by decide)).trans (by assumption))) | exact (zup_ne (by decide)).trans ((zup_ne (by decide)).trans ((zup_ne (by decide)).trans ((zup_ne (by decide)).trans (zup_at)))) | exact (zup_ne (by decide)).trans ((zup_ne (by decide)).trans ((zup_ne (by decide)).trans ((zup_ne (by decide)).trans (by assumption)))) | exact (zup_ne (by decide)).trans ((zup_ne (by decide)).trans ((zup_ne (by decide)).trans ((zup_ne (by decide)).trans ((zup_ne (by decide)).trans (zup_at))))) | exact (zup_ne (by decide)).trans ((zup_ne (by decide)).trans ((zup_ne (by decide)).trans ((zup_ne (by decide)).trans ((zup_ne (by decide)).trans (by assumption)))))) rfl ?_
      refine q_iconst (pc := 95) dX8_gusts_95 ?_
      refine q_iaload (pc := 96) dX8_gusts_96 (by first | assumption | exact zup_at | exact (zup_ne (by decide)).trans (zup_at) | exact (zup_ne (by decide)).trans (by assumption) | exact (zup_ne (by decide)).trans ((zup_ne (by decide)).trans (zup_at)) | exact (zup_ne (by decide)).trans ((zup_ne (by decide)).trans (by assumption)) | exact (zup_ne (by decide)).trans ((zup_ne (by decide)).trans ((zup_ne (by decide)).trans (zup_at))) | exact (zup_ne (by decide)).trans ((zup_ne (by decide)).trans ((zup_ne (by decide)).trans (by assumption))) | exact (zup_ne (by decide)).trans ((zup_ne (by decide)).trans ((zup_ne (by decide)).trans ((zup_ne (by decide)).trans (zup_at)))) | exact (zup_ne (by decide)).trans ((zup_ne (by decide)).trans ((zup_ne (by decide)).trans ((zup_ne (by decide)).trans (by assumption)))) | exact (zup_ne (by decide)).trans ((zup_ne (by decide)).trans ((zup_ne (by decide)).trans ((zup_ne (by decide)).trans ((zup_ne (by decide)).trans (zup_at))))) | exact (zup_ne (by decide)).trans ((zup_ne (by decide)).trans ((zup_ne (by decide)).trans ((zup_ne (by decide)).trans ((zup_ne (by decide)).trans (by assumption)))))) (by omega) ?_
      refine q_invokevirtual (pc := 97) (d' := d - 1) (mc' := 0) (ms' := 0) (As := [_, _, _, _]) (TX8, 26) cl_X8_232 dX8_gusts_97 rfl rfl (by first | assumption | exact zup_at | exact (zup_ne (by decide)).trans (zup_at) | exact (zup_ne (by decide)).trans (by assumption) | exact (zup_ne (by decide)).trans ((zup_ne (by decide)).trans (zup_at)) | exact (zup_ne (by decide)).trans ((zup_ne (by decide)).trans (by assumption)) | exact (zup_ne (by decide)).trans ((zup_ne (by decide)).trans ((zup_ne (by decide)).trans (zup_at))) | exact (zup_ne (by decide)).trans ((zup_ne (by decide)).trans ((zup_ne (by decide)).trans (by assumption))) | exact (zup_ne (by decide)).trans ((zup_ne (by decide)).trans ((zup_ne (by decide)).trans ((zup_ne (by decide)).trans (zup_at)))) | exact (zup_ne (by decide)).trans ((zup_ne (by decide)).trans ((zup_ne (by decide)).trans ((zup_ne (by decide)).trans (by assumption)))) | exact (zup_ne (by decide)).trans ((zup_ne (by decide)).trans ((zup_ne (by decide)).trans ((zup_ne (by decide)).trans ((zup_ne (by decide)).trans (zup_at))))) | exact (zup_ne (by decide)).trans ((zup_ne (by decide)).trans ((zup_ne (by decide)).trans ((zup_ne (by decide)).trans ((zup_ne (by decide)).trans (by assumption)))))) rfl (by omega) rfl 0 0 (Nat.le_refl 0) (Nat.le_refl 0) ?_
      refine c_X8_reaches (by omega) h72 h73 hO2 (by omega) (by omega) (by omega) (by omega) ?_
      refine q_ifb_eq (pc := 100) 112 dX8_gusts_100 rfl (fun c100 => ?_) (fun c100 => ?_)
      · refine q_iconst (pc := 112) dX8_gusts_112 ?_
        first | rw [show zhits (S.1.1 (68 + s)) r = zhat S.1.1 s q r (S.1.1 4) from (if_pos c100).symm] | rw [show zI 0 = zI (zhat S.1.1 s q r (S.1.1 4)) from congrArg zI (if_neg c100).symm]
        refine q_istore (pc := 113) [some _, some _, some _, some _, some _, some _, some _, some _, none, none, none] dX8_gusts_113 rfl (Nat.le_of_ble_eq_true rfl) rfl ?_
        refine q_aload_n (pc := 115) dX8_gusts_115 rfl rfl ?_
        refine q_iload_n (pc := 116) dX8_gusts_116 rfl ?_
        refine q_iload_n (pc := 117) dX8_gusts_117 rfl ?_
        refine q_iload_n (pc := 118) dX8_gusts_118 rfl ?_
        refine q_iload (pc := 119) dX8_gusts_119 rfl ?_
        refine q_invokevirtual (pc := 121) (d' := d - 1) (mc' := 0) (ms' := 0) (As := [_, _, _, _]) (TX8, 26) cl_X8_232 dX8_gusts_121 rfl rfl (by first | assumption | exact zup_at | exact (zup_ne (by decide)).trans (zup_at) | exact (zup_ne (by decide)).trans (by assumption) | exact (zup_ne (by decide)).trans ((zup_ne (by decide)).trans (zup_at)) | exact (zup_ne (by decide)).trans ((zup_ne (by decide)).trans (by assumption)) | exact (zup_ne (by decide)).trans ((zup_ne (by decide)).trans ((zup_ne (by decide)).trans (zup_at))) | exact (zup_ne (by decide)).trans ((zup_ne (by decide)).trans ((zup_ne (by decide)).trans (by assumption))) | exact (zup_ne (by decide)).trans ((zup_ne (by decide)).trans ((zup_ne (by decide)).trans ((zup_ne (by decide)).trans (zup_at)))) | exact (zup_ne (by decide)).trans ((zup_ne (by decide)).trans ((zup_ne (by decide)).trans ((zup_ne (by decide)).trans (by assumption)))) | exact (zup_ne (by decide)).trans ((zup_ne (by decide)).trans ((zup_ne (by decide)).trans ((zup_ne (by decide)).trans ((zup_ne (by decide)).trans (zup_at))))) | exact (zup_ne (by decide)).trans ((zup_ne (by decide)).trans ((zup_ne (by decide)).trans ((zup_ne (by decide)).trans ((zup_ne (by decide)).trans (by assumption)))))) rfl (by omega) rfl 0 0 (Nat.le_refl 0) (Nat.le_refl 0) ?_
        refine c_X8_reaches (by omega) h72 h73 hO2 (by omega) (by omega) (by omega) (by omega) ?_
        refine q_ifb_eq (pc := 124) 136 dX8_gusts_124 rfl (fun c124 => ?_) (fun c124 => ?_)
        · refine q_iconst (pc := 136) dX8_gusts_136 ?_
          first | rw [show zhits (S.1.1 (68 + s)) r = zhat S.1.1 s q r (min 9 (S.1.1 4 + 4)) from (if_pos c124).symm] | rw [show zI 0 = zI (zhat S.1.1 s q r (min 9 (S.1.1 4 + 4))) from congrArg zI (if_neg c124).symm]
          refine q_istore (pc := 137) [some _, some _, some _, some _, some _, some _, some _, some _, some _, none, none] dX8_gusts_137 rfl (Nat.le_of_ble_eq_true rfl) rfl ?_
          refine q_iload (pc := 139) dX8_gusts_139 rfl ?_
          refine q_bipush (pc := 141) (by decide) dX8_gusts_141 ?_
          refine q_iload (pc := 143) dX8_gusts_143 rfl ?_
          refine q_isub (pc := 145) dX8_gusts_145 ?_
          refine q_iload (pc := 146) dX8_gusts_146 rfl ?_
          refine q_imul (pc := 148) dX8_gusts_148 ?_
          refine q_iload (pc := 149) dX8_gusts_149 rfl ?_
          refine q_iload (pc := 151) dX8_gusts_151 rfl ?_
          refine q_imul (pc := 153) dX8_gusts_153 ?_
          refine q_iadd (pc := 154) dX8_gusts_154 ?_
          refine q_imul (pc := 155) dX8_gusts_155 ?_
          rw [hcm]
          refine q_istore (pc := 156) [some _, some _, some _, some _, some _, some _, some _, some _, some _, some _, none] dX8_gusts_156 rfl (Nat.le_of_ble_eq_true rfl) rfl ?_
          refine q_bipush (pc := 158) (by decide) dX8_gusts_158 ?_
          refine q_iload (pc := 160) dX8_gusts_160 rfl ?_
          refine q_invokestatic (pc := 162) (d' := d - 1) (mc' := 0) (ms' := 0) (As := [_, _]) cl_X8_300 dX8_gusts_162 rfl rfl (by omega) rfl 0 0 (Nat.le_refl 0) (Nat.le_refl 0) ?_
          refine c_X8_common (by omega) (by omega) ?_
          rw [show ((Nat.gcd (10 : Int).toNat (zgust S.1.1 s q r n c).toNat : Nat) : Int) = zgcd (zgust S.1.1 s q r n c) from congrArg _ (Nat.gcd_comm _ _)]
          refine q_istore (pc := 165) [some _, some _, some _, some _, some _, some _, some _, some _, some _, some _, some _] dX8_gusts_165 rfl (Nat.le_of_ble_eq_true rfl) rfl ?_
          refine q_aload_n (pc := 167) dX8_gusts_167 rfl rfl ?_
          refine q_iload (pc := 168) dX8_gusts_168 rfl ?_
          refine q_iload (pc := 170) dX8_gusts_170 rfl ?_
          refine q_idiv (pc := 172) dX8_gusts_172 (by omega) (by omega) (by omega) ?_
          refine q_i2l (pc := 173) dX8_gusts_173 (by omega) ?_
          refine q_putfield2 (pc := 174) [_, _, _, _, _, _, _, _, _, _, _, _, _, _, _, _, _, _, _, _, _, _, _, _, _, _] pf_X8_303 dX8_gusts_174 (by first | assumption | exact zup_at | exact (zup_ne (by decide)).trans (zup_at) | exact (zup_ne (by decide)).trans (by assumption) | exact (zup_ne (by decide)).trans ((zup_ne (by decide)).trans (zup_at)) | exact (zup_ne (by decide)).trans ((zup_ne (by decide)).trans (by assumption)) | exact (zup_ne (by decide)).trans ((zup_ne (by decide)).trans ((zup_ne (by decide)).trans (zup_at))) | exact (zup_ne (by decide)).trans ((zup_ne (by decide)).trans ((zup_ne (by decide)).trans (by assumption))) | exact (zup_ne (by decide)).trans ((zup_ne (by decide)).trans ((zup_ne (by decide)).trans ((zup_ne (by decide)).trans (zup_at)))) | exact (zup_ne (by decide)).trans ((zup_ne (by decide)).trans ((zup_ne (by decide)).trans ((zup_ne (by decide)).trans (by assumption)))) | exact (zup_ne (by decide)).trans ((zup_ne (by decide)).trans ((zup_ne (by decide)).trans ((zup_ne (by decide)).trans ((zup_ne (by decide)).trans (zup_at))))) | exact (zup_ne (by decide)).trans ((zup_ne (by decide)).trans ((zup_ne (by decide)).trans ((zup_ne (by decide)).trans ((zup_ne (by decide)).trans (by assumption)))))) rfl rfl (Nat.le_of_ble_eq_true rfl) rfl ?_
          refine q_aload_n (pc := 177) dX8_gusts_177 rfl rfl ?_
          refine q_bipush (pc := 178) (by decide) dX8_gusts_178 ?_
          refine q_iload (pc := 180) dX8_gusts_180 rfl ?_
          refine q_idiv (pc := 182) dX8_gusts_182 (by omega) (by omega) (by omega) ?_
          refine q_i2l (pc := 183) dX8_gusts_183 (by omega) ?_
          refine q_putfield2 (pc := 184) [_, _, _, _, _, _, _, _, _, _, _, _, _, _, _, _, _, _, _, _, _, _, _, _, _, _] pf_X8_16 dX8_gusts_184 (by first | assumption | exact zup_at | exact (zup_ne (by decide)).trans (zup_at) | exact (zup_ne (by decide)).trans (by assumption) | exact (zup_ne (by decide)).trans ((zup_ne (by decide)).trans (zup_at)) | exact (zup_ne (by decide)).trans ((zup_ne (by decide)).trans (by assumption)) | exact (zup_ne (by decide)).trans ((zup_ne (by decide)).trans ((zup_ne (by decide)).trans (zup_at))) | exact (zup_ne (by decide)).trans ((zup_ne (by decide)).trans ((zup_ne (by decide)).trans (by assumption))) | exact (zup_ne (by decide)).trans ((zup_ne (by decide)).trans ((zup_ne (by decide)).trans ((zup_ne (by decide)).trans (zup_at)))) | exact (zup_ne (by decide)).trans ((zup_ne (by decide)).trans ((zup_ne (by decide)).trans ((zup_ne (by decide)).trans (by assumption)))) | exact (zup_ne (by decide)).trans ((zup_ne (by decide)).trans ((zup_ne (by decide)).trans ((zup_ne (by decide)).trans ((zup_ne (by decide)).trans (zup_at))))) | exact (zup_ne (by decide)).trans ((zup_ne (by decide)).trans ((zup_ne (by decide)).trans ((zup_ne (by decide)).trans ((zup_ne (by decide)).trans (by assumption)))))) rfl rfl (Nat.le_of_ble_eq_true rfl) rfl ?_
          refine q_iconst (pc := 187) dX8_gusts_187 ?_
          refine q_ireturn (pc := 188) dX8_gusts_188 rfl ?_
          first | exact zgm k (by unfold o_gusts; exact ((if_pos (by omega)).trans rfl)) ((zSame.up (by omega)).tr (zSame.up (by omega))) ((hC.o72 (zSame.up (by omega)) zup_at).o72 (zSame.up (by omega)) zup_at) | exact zgm k (by unfold o_gusts; exact ((if_neg (by omega)).trans rfl)) hs9 hC9
        refine q_aload_n (pc := 127) dX8_gusts_127 rfl rfl ?_
        refine q_iload_n (pc := 128) dX8_gusts_128 rfl ?_
        refine q_iload_n (pc := 129) dX8_gusts_129 rfl ?_
        refine q_invokevirtual (pc := 130) (d' := d - 1) (mc' := 0) (ms' := 0) (As := [_, _]) (TX8, 26) cl_X8_236 dX8_gusts_130 rfl rfl (by first | assumption | exact zup_at | exact (zup_ne (by decide)).trans (zup_at) | exact (zup_ne (by decide)).trans (by assumption) | exact (zup_ne (by decide)).trans ((zup_ne (by decide)).trans (zup_at)) | exact (zup_ne (by decide)).trans ((zup_ne (by decide)).trans (by assumption)) | exact (zup_ne (by decide)).trans ((zup_ne (by decide)).trans ((zup_ne (by decide)).trans (zup_at))) | exact (zup_ne (by decide)).trans ((zup_ne (by decide)).trans ((zup_ne (by decide)).trans (by assumption))) | exact (zup_ne (by decide)).trans ((zup_ne (by decide)).trans ((zup_ne (by decide)).trans ((zup_ne (by decide)).trans (zup_at)))) | exact (zup_ne (by decide)).trans ((zup_ne (by decide)).trans ((zup_ne (by decide)).trans ((zup_ne (by decide)).trans (by assumption)))) | exact (zup_ne (by decide)).trans ((zup_ne (by decide)).trans ((zup_ne (by decide)).trans ((zup_ne (by decide)).trans ((zup_ne (by decide)).trans (zup_at))))) | exact (zup_ne (by decide)).trans ((zup_ne (by decide)).trans ((zup_ne (by decide)).trans ((zup_ne (by decide)).trans ((zup_ne (by decide)).trans (by assumption)))))) rfl (by omega) rfl 0 0 (Nat.le_refl 0) (Nat.le_refl 0) ?_
        refine c_X8_hitsOf (by omega) h72 h73 hO2 (by omega) (by omega) ?_
        refine q_goto (pc := 133) 137 dX8_gusts_133 rfl ?_
        first | rw [show zhits (S.1.1 (68 + s)) r = zhat S.1.1 s q r (min 9 (S.1.1 4 + 4)) from (if_pos c124).symm] | rw [show zI 0 = zI (zhat S.1.1 s q r (min 9 (S.1.1 4 + 4))) from congrArg zI (if_neg c124).symm]
        refine q_istore (pc := 137) [some _, some _, some _, some _, some _, some _, some _, some _, some _, none, none] dX8_gusts_137 rfl (Nat.le_of_ble_eq_true rfl) rfl ?_
        refine q_iload (pc := 139) dX8_gusts_139 rfl ?_
        refine q_bipush (pc := 141) (by decide) dX8_gusts_141 ?_
        refine q_iload (pc := 143) dX8_gusts_143 rfl ?_
        refine q_isub (pc := 145) dX8_gusts_145 ?_
        refine q_iload (pc := 146) dX8_gusts_146 rfl ?_
        refine q_imul (pc := 148) dX8_gusts_148 ?_
        refine q_iload (pc := 149) dX8_gusts_149 rfl ?_
        refine q_iload (pc := 151) dX8_gusts_151 rfl ?_
        refine q_imul (pc := 153) dX8_gusts_153 ?_
        refine q_iadd (pc := 154) dX8_gusts_154 ?_
        refine q_imul (pc := 155) dX8_gusts_155 ?_
        rw [hcm]
        refine q_istore (pc := 156) [some _, some _, some _, some _, some _, some _, some _, some _, some _, some _, none] dX8_gusts_156 rfl (Nat.le_of_ble_eq_true rfl) rfl ?_
        refine q_bipush (pc := 158) (by decide) dX8_gusts_158 ?_
        refine q_iload (pc := 160) dX8_gusts_160 rfl ?_
        refine q_invokestatic (pc := 162) (d' := d - 1) (mc' := 0) (ms' := 0) (As := [_, _]) cl_X8_300 dX8_gusts_162 rfl rfl (by omega) rfl 0 0 (Nat.le_refl 0) (Nat.le_refl 0) ?_
        refine c_X8_common (by omega) (by omega) ?_
        rw [show ((Nat.gcd (10 : Int).toNat (zgust S.1.1 s q r n c).toNat : Nat) : Int) = zgcd (zgust S.1.1 s q r n c) from congrArg _ (Nat.gcd_comm _ _)]
        refine q_istore (pc := 165) [some _, some _, some _, some _, some _, some _, some _, some _, some _, some _, some _] dX8_gusts_165 rfl (Nat.le_of_ble_eq_true rfl) rfl ?_
        refine q_aload_n (pc := 167) dX8_gusts_167 rfl rfl ?_
        refine q_iload (pc := 168) dX8_gusts_168 rfl ?_
        refine q_iload (pc := 170) dX8_gusts_170 rfl ?_
        refine q_idiv (pc := 172) dX8_gusts_172 (by omega) (by omega) (by omega) ?_
        refine q_i2l (pc := 173) dX8_gusts_173 (by omega) ?_
        refine q_putfield2 (pc := 174) [_, _, _, _, _, _, _, _, _, _, _, _, _, _, _, _, _, _, _, _, _, _, _, _, _, _] pf_X8_303 dX8_gusts_174 (by first | assumption | exact zup_at | exact (zup_ne (by decide)).trans (zup_at) | exact (zup_ne (by decide)).trans (by assumption) | exact (zup_ne (by decide)).trans ((zup_ne (by decide)).trans (zup_at)) | exact (zup_ne (by decide)).trans ((zup_ne (by decide)).trans (by assumption)) | exact (zup_ne (by decide)).trans ((zup_ne (by decide)).trans ((zup_ne (by decide)).trans (zup_at))) | exact (zup_ne (by decide)).trans ((zup_ne (by decide)).trans ((zup_ne (by decide)).trans (by assumption))) | exact (zup_ne (by decide)).trans ((zup_ne (by decide)).trans ((zup_ne (by decide)).trans ((zup_ne (by decide)).trans (zup_at)))) | exact (zup_ne (by decide)).trans ((zup_ne (by decide)).trans ((zup_ne (by decide)).trans ((zup_ne (by decide)).trans (by assumption)))) | exact (zup_ne (by decide)).trans ((zup_ne (by decide)).trans ((zup_ne (by decide)).trans ((zup_ne (by decide)).trans ((zup_ne (by decide)).trans (zup_at))))) | exact (zup_ne (by decide)).trans ((zup_ne (by decide)).trans ((zup_ne (by decide)).trans ((zup_ne (by decide)).trans ((zup_ne (by decide)).trans (by assumption)))))) rfl rfl (Nat.le_of_ble_eq_true rfl) rfl ?_
        refine q_aload_n (pc := 177) dX8_gusts_177 rfl rfl ?_
        refine q_bipush (pc := 178) (by decide) dX8_gusts_178 ?_
        refine q_iload (pc := 180) dX8_gusts_180 rfl ?_
        refine q_idiv (pc := 182) dX8_gusts_182 (by omega) (by omega) (by omega) ?_
        refine q_i2l (pc := 183) dX8_gusts_183 (by omega) ?_
        refine q_putfield2 (pc := 184) [_, _, _, _, _, _, _, _, _, _, _, _, _, _, _, _, _, _, _, _, _, _, _, _, _, _] pf_X8_16 dX8_gusts_184 (by first | assumption | exact zup_at | exact (zup_ne (by decide)).trans (zup_at) | exact (zup_ne (by decide)).trans (by assumption) | exact (zup_ne (by decide)).trans ((zup_ne (by decide)).trans (zup_at)) | exact (zup_ne (by decide)).trans ((zup_ne (by decide)).trans (by assumption)) | exact (zup_ne (by decide)).trans ((zup_ne (by decide)).trans ((zup_ne (by decide)).trans (zup_at))) | exact (zup_ne (by decide)).trans ((zup_ne (by decide)).trans ((zup_ne (by decide)).trans (by assumption))) | exact (zup_ne (by decide)).trans ((zup_ne (by decide)).trans ((zup_ne (by decide)).trans ((zup_ne (by decide)).trans (zup_at)))) | exact (zup_ne (by decide)).trans ((zup_ne (by decide)).trans ((zup_ne (by decide)).trans ((zup_ne (by decide)).trans (by assumption)))) | exact (zup_ne (by decide)).trans ((zup_ne (by decide)).trans ((zup_ne (by decide)).trans ((zup_ne (by decide)).trans ((zup_ne (by decide)).trans (zup_at))))) | exact (zup_ne (by decide)).trans ((zup_ne (by decide)).trans ((zup_ne (by decide)).trans ((zup_ne (by decide)).trans ((zup_ne (by decide)).trans (by assumption)))))) rfl rfl (Nat.le_of_ble_eq_true rfl) rfl ?_
        refine q_iconst (pc := 187) dX8_gusts_187 ?_
        refine q_ireturn (pc := 188) dX8_gusts_188 rfl ?_
        first | exact zgm k (by unfold o_gusts; exact ((if_pos (by omega)).trans rfl)) ((zSame.up (by omega)).tr (zSame.up (by omega))) ((hC.o72 (zSame.up (by omega)) zup_at).o72 (zSame.up (by omega)) zup_at) | exact zgm k (by unfold o_gusts; exact ((if_neg (by omega)).trans rfl)) hs9 hC9
      refine q_aload_n (pc := 103) dX8_gusts_103 rfl rfl ?_
      refine q_iload_n (pc := 104) dX8_gusts_104 rfl ?_
      refine q_iload_n (pc := 105) dX8_gusts_105 rfl ?_
      refine q_invokevirtual (pc := 106) (d' := d - 1) (mc' := 0) (ms' := 0) (As := [_, _]) (TX8, 26) cl_X8_236 dX8_gusts_106 rfl rfl (by first | assumption | exact zup_at | exact (zup_ne (by decide)).trans (zup_at) | exact (zup_ne (by decide)).trans (by assumption) | exact (zup_ne (by decide)).trans ((zup_ne (by decide)).trans (zup_at)) | exact (zup_ne (by decide)).trans ((zup_ne (by decide)).trans (by assumption)) | exact (zup_ne (by decide)).trans ((zup_ne (by decide)).trans ((zup_ne (by decide)).trans (zup_at))) | exact (zup_ne (by decide)).trans ((zup_ne (by decide)).trans ((zup_ne (by decide)).trans (by assumption))) | exact (zup_ne (by decide)).trans ((zup_ne (by decide)).trans ((zup_ne (by decide)).trans ((zup_ne (by decide)).trans (zup_at)))) | exact (zup_ne (by decide)).trans ((zup_ne (by decide)).trans ((zup_ne (by decide)).trans ((zup_ne (by decide)).trans (by assumption)))) | exact (zup_ne (by decide)).trans ((zup_ne (by decide)).trans ((zup_ne (by decide)).trans ((zup_ne (by decide)).trans ((zup_ne (by decide)).trans (zup_at))))) | exact (zup_ne (by decide)).trans ((zup_ne (by decide)).trans ((zup_ne (by decide)).trans ((zup_ne (by decide)).trans ((zup_ne (by decide)).trans (by assumption)))))) rfl (by omega) rfl 0 0 (Nat.le_refl 0) (Nat.le_refl 0) ?_
      refine c_X8_hitsOf (by omega) h72 h73 hO2 (by omega) (by omega) ?_
      refine q_goto (pc := 109) 113 dX8_gusts_109 rfl ?_
      first | rw [show zhits (S.1.1 (68 + s)) r = zhat S.1.1 s q r (S.1.1 4) from (if_pos c100).symm] | rw [show zI 0 = zI (zhat S.1.1 s q r (S.1.1 4)) from congrArg zI (if_neg c100).symm]
      refine q_istore (pc := 113) [some _, some _, some _, some _, some _, some _, some _, some _, none, none, none] dX8_gusts_113 rfl (Nat.le_of_ble_eq_true rfl) rfl ?_
      refine q_aload_n (pc := 115) dX8_gusts_115 rfl rfl ?_
      refine q_iload_n (pc := 116) dX8_gusts_116 rfl ?_
      refine q_iload_n (pc := 117) dX8_gusts_117 rfl ?_
      refine q_iload_n (pc := 118) dX8_gusts_118 rfl ?_
      refine q_iload (pc := 119) dX8_gusts_119 rfl ?_
      refine q_invokevirtual (pc := 121) (d' := d - 1) (mc' := 0) (ms' := 0) (As := [_, _, _, _]) (TX8, 26) cl_X8_232 dX8_gusts_121 rfl rfl (by first | assumption | exact zup_at | exact (zup_ne (by decide)).trans (zup_at) | exact (zup_ne (by decide)).trans (by assumption) | exact (zup_ne (by decide)).trans ((zup_ne (by decide)).trans (zup_at)) | exact (zup_ne (by decide)).trans ((zup_ne (by decide)).trans (by assumption)) | exact (zup_ne (by decide)).trans ((zup_ne (by decide)).trans ((zup_ne (by decide)).trans (zup_at))) | exact (zup_ne (by decide)).trans ((zup_ne (by decide)).trans ((zup_ne (by decide)).trans (by assumption))) | exact (zup_ne (by decide)).trans ((zup_ne (by decide)).trans ((zup_ne (by decide)).trans ((zup_ne (by decide)).trans (zup_at)))) | exact (zup_ne (by decide)).trans ((zup_ne (by decide)).trans ((zup_ne (by decide)).trans ((zup_ne (by decide)).trans (by assumption)))) | exact (zup_ne (by decide)).trans ((zup_ne (by decide)).trans ((zup_ne (by decide)).trans ((zup_ne (by decide)).trans ((zup_ne (by decide)).trans (zup_at))))) | exact (zup_ne (by decide)).trans ((zup_ne (by decide)).trans ((zup_ne (by decide)).trans ((zup_ne (by decide)).trans ((zup_ne (by decide)).trans (by assumption)))))) rfl (by omega) rfl 0 0 (Nat.le_refl 0) (Nat.le_refl 0) ?_
      refine c_X8_reaches (by omega) h72 h73 hO2 (by omega) (by omega) (by omega) (by omega) ?_
      refine q_ifb_eq (pc := 124) 136 dX8_gusts_124 rfl (fun c124 => ?_) (fun c124 => ?_)
      · refine q_iconst (pc := 136) dX8_gusts_136 ?_
        first | rw [show zhits (S.1.1 (68 + s)) r = zhat S.1.1 s q r (min 9 (S.1.1 4 + 4)) from (if_pos c124).symm] | rw [show zI 0 = zI (zhat S.1.1 s q r (min 9 (S.1.1 4 + 4))) from congrArg zI (if_neg c124).symm]
        refine q_istore (pc := 137) [some _, some _, some _, some _, some _, some _, some _, some _, some _, none, none] dX8_gusts_137 rfl (Nat.le_of_ble_eq_true rfl) rfl ?_
        refine q_iload (pc := 139) dX8_gusts_139 rfl ?_
        refine q_bipush (pc := 141) (by decide) dX8_gusts_141 ?_
        refine q_iload (pc := 143) dX8_gusts_143 rfl ?_
        refine q_isub (pc := 145) dX8_gusts_145 ?_
        refine q_iload (pc := 146) dX8_gusts_146 rfl ?_
        refine q_imul (pc := 148) dX8_gusts_148 ?_
        refine q_iload (pc := 149) dX8_gusts_149 rfl ?_
        refine q_iload (pc := 151) dX8_gusts_151 rfl ?_
        refine q_imul (pc := 153) dX8_gusts_153 ?_
        refine q_iadd (pc := 154) dX8_gusts_154 ?_
        refine q_imul (pc := 155) dX8_gusts_155 ?_
        rw [hcm]
        refine q_istore (pc := 156) [some _, some _, some _, some _, some _, some _, some _, some _, some _, some _, none] dX8_gusts_156 rfl (Nat.le_of_ble_eq_true rfl) rfl ?_
        refine q_bipush (pc := 158) (by decide) dX8_gusts_158 ?_
        refine q_iload (pc := 160) dX8_gusts_160 rfl ?_
        refine q_invokestatic (pc := 162) (d' := d - 1) (mc' := 0) (ms' := 0) (As := [_, _]) cl_X8_300 dX8_gusts_162 rfl rfl (by omega) rfl 0 0 (Nat.le_refl 0) (Nat.le_refl 0) ?_
        refine c_X8_common (by omega) (by omega) ?_
        rw [show ((Nat.gcd (10 : Int).toNat (zgust S.1.1 s q r n c).toNat : Nat) : Int) = zgcd (zgust S.1.1 s q r n c) from congrArg _ (Nat.gcd_comm _ _)]
        refine q_istore (pc := 165) [some _, some _, some _, some _, some _, some _, some _, some _, some _, some _, some _] dX8_gusts_165 rfl (Nat.le_of_ble_eq_true rfl) rfl ?_
        refine q_aload_n (pc := 167) dX8_gusts_167 rfl rfl ?_
        refine q_iload (pc := 168) dX8_gusts_168 rfl ?_
        refine q_iload (pc := 170) dX8_gusts_170 rfl ?_
        refine q_idiv (pc := 172) dX8_gusts_172 (by omega) (by omega) (by omega) ?_
        refine q_i2l (pc := 173) dX8_gusts_173 (by omega) ?_
        refine q_putfield2 (pc := 174) [_, _, _, _, _, _, _, _, _, _, _, _, _, _, _, _, _, _, _, _, _, _, _, _, _, _] pf_X8_303 dX8_gusts_174 (by first | assumption | exact zup_at | exact (zup_ne (by decide)).trans (zup_at) | exact (zup_ne (by decide)).trans (by assumption) | exact (zup_ne (by decide)).trans ((zup_ne (by decide)).trans (zup_at)) | exact (zup_ne (by decide)).trans ((zup_ne (by decide)).trans (by assumption)) | exact (zup_ne (by decide)).trans ((zup_ne (by decide)).trans ((zup_ne (by decide)).trans (zup_at))) | exact (zup_ne (by decide)).trans ((zup_ne (by decide)).trans ((zup_ne (by decide)).trans (by assumption))) | exact (zup_ne (by decide)).trans ((zup_ne (by decide)).trans ((zup_ne (by decide)).trans ((zup_ne (by decide)).trans (zup_at)))) | exact (zup_ne (by decide)).trans ((zup_ne (by decide)).trans ((zup_ne (by decide)).trans ((zup_ne (by decide)).trans (by assumption)))) | exact (zup_ne (by decide)).trans ((zup_ne (by decide)).trans ((zup_ne (by decide)).trans ((zup_ne (by decide)).trans ((zup_ne (by decide)).trans (zup_at))))) | exact (zup_ne (by decide)).trans ((zup_ne (by decide)).trans ((zup_ne (by decide)).trans ((zup_ne (by decide)).trans ((zup_ne (by decide)).trans (by assumption)))))) rfl rfl (Nat.le_of_ble_eq_true rfl) rfl ?_
        refine q_aload_n (pc := 177) dX8_gusts_177 rfl rfl ?_
        refine q_bipush (pc := 178) (by decide) dX8_gusts_178 ?_
        refine q_iload (pc := 180) dX8_gusts_180 rfl ?_
        refine q_idiv (pc := 182) dX8_gusts_182 (by omega) (by omega) (by omega) ?_
        refine q_i2l (pc := 183) dX8_gusts_183 (by omega) ?_
        refine q_putfield2 (pc := 184) [_, _, _, _, _, _, _, _, _, _, _, _, _, _, _, _, _, _, _, _, _, _, _, _, _, _] pf_X8_16 dX8_gusts_184 (by first | assumption | exact zup_at | exact (zup_ne (by decide)).trans (zup_at) | exact (zup_ne (by decide)).trans (by assumption) | exact (zup_ne (by decide)).trans ((zup_ne (by decide)).trans (zup_at)) | exact (zup_ne (by decide)).trans ((zup_ne (by decide)).trans (by assumption)) | exact (zup_ne (by decide)).trans ((zup_ne (by decide)).trans ((zup_ne (by decide)).trans (zup_at))) | exact (zup_ne (by decide)).trans ((zup_ne (by decide)).trans ((zup_ne (by decide)).trans (by assumption))) | exact (zup_ne (by decide)).trans ((zup_ne (by decide)).trans ((zup_ne (by decide)).trans ((zup_ne (by decide)).trans (zup_at)))) | exact (zup_ne (by decide)).trans ((zup_ne (by decide)).trans ((zup_ne (by decide)).trans ((zup_ne (by decide)).trans (by assumption)))) | exact (zup_ne (by decide)).trans ((zup_ne (by decide)).trans ((zup_ne (by decide)).trans ((zup_ne (by decide)).trans ((zup_ne (by decide)).trans (zup_at))))) | exact (zup_ne (by decide)).trans ((zup_ne (by decide)).trans ((zup_ne (by decide)).trans ((zup_ne (by decide)).trans ((zup_ne (by decide)).trans (by assumption)))))) rfl rfl (Nat.le_of_ble_eq_true rfl) rfl ?_
        refine q_iconst (pc := 187) dX8_gusts_187 ?_
        refine q_ireturn (pc := 188) dX8_gusts_188 rfl ?_
        first | exact zgm k (by unfold o_gusts; exact ((if_pos (by omega)).trans rfl)) ((zSame.up (by omega)).tr (zSame.up (by omega))) ((hC.o72 (zSame.up (by omega)) zup_at).o72 (zSame.up (by omega)) zup_at) | exact zgm k (by unfold o_gusts; exact ((if_neg (by omega)).trans rfl)) hs9 hC9
      refine q_aload_n (pc := 127) dX8_gusts_127 rfl rfl ?_
      refine q_iload_n (pc := 128) dX8_gusts_128 rfl ?_
      refine q_iload_n (pc := 129) dX8_gusts_129 rfl ?_
      refine q_invokevirtual (pc := 130) (d' := d - 1) (mc' := 0) (ms' := 0) (As := [_, _]) (TX8, 26) cl_X8_236 dX8_gusts_130 rfl rfl (by first | assumption | exact zup_at | exact (zup_ne (by decide)).trans (zup_at) | exact (zup_ne (by decide)).trans (by assumption) | exact (zup_ne (by decide)).trans ((zup_ne (by decide)).trans (zup_at)) | exact (zup_ne (by decide)).trans ((zup_ne (by decide)).trans (by assumption)) | exact (zup_ne (by decide)).trans ((zup_ne (by decide)).trans ((zup_ne (by decide)).trans (zup_at))) | exact (zup_ne (by decide)).trans ((zup_ne (by decide)).trans ((zup_ne (by decide)).trans (by assumption))) | exact (zup_ne (by decide)).trans ((zup_ne (by decide)).trans ((zup_ne (by decide)).trans ((zup_ne (by decide)).trans (zup_at)))) | exact (zup_ne (by decide)).trans ((zup_ne (by decide)).trans ((zup_ne (by decide)).trans ((zup_ne (by decide)).trans (by assumption)))) | exact (zup_ne (by decide)).trans ((zup_ne (by decide)).trans ((zup_ne (by decide)).trans ((zup_ne (by decide)).trans ((zup_ne (by decide)).trans (zup_at))))) | exact (zup_ne (by decide)).trans ((zup_ne (by decide)).trans ((zup_ne (by decide)).trans ((zup_ne (by decide)).trans ((zup_ne (by decide)).trans (by assumption)))))) rfl (by omega) rfl 0 0 (Nat.le_refl 0) (Nat.le_refl 0) ?_
      refine c_X8_hitsOf (by omega) h72 h73 hO2 (by omega) (by omega) ?_
      refine q_goto (pc := 133) 137 dX8_gusts_133 rfl ?_
      first | rw [show zhits (S.1.1 (68 + s)) r = zhat S.1.1 s q r (min 9 (S.1.1 4 + 4)) from (if_pos c124).symm] | rw [show zI 0 = zI (zhat S.1.1 s q r (min 9 (S.1.1 4 + 4))) from congrArg zI (if_neg c124).symm]
      refine q_istore (pc := 137) [some _, some _, some _, some _, some _, some _, some _, some _, some _, none, none] dX8_gusts_137 rfl (Nat.le_of_ble_eq_true rfl) rfl ?_
      refine q_iload (pc := 139) dX8_gusts_139 rfl ?_
      refine q_bipush (pc := 141) (by decide) dX8_gusts_141 ?_
      refine q_iload (pc := 143) dX8_gusts_143 rfl ?_
      refine q_isub (pc := 145) dX8_gusts_145 ?_
      refine q_iload (pc := 146) dX8_gusts_146 rfl ?_
      refine q_imul (pc := 148) dX8_gusts_148 ?_
      refine q_iload (pc := 149) dX8_gusts_149 rfl ?_
      refine q_iload (pc := 151) dX8_gusts_151 rfl ?_
      refine q_imul (pc := 153) dX8_gusts_153 ?_
      refine q_iadd (pc := 154) dX8_gusts_154 ?_
      refine q_imul (pc := 155) dX8_gusts_155 ?_
      rw [hcm]
      refine q_istore (pc := 156) [some _, some _, some _, some _, some _, some _, some _, some _, some _, some _, none] dX8_gusts_156 rfl (Nat.le_of_ble_eq_true rfl) rfl ?_
      refine q_bipush (pc := 158) (by decide) dX8_gusts_158 ?_
      refine q_iload (pc := 160) dX8_gusts_160 rfl ?_
      refine q_invokestatic (pc := 162) (d' := d - 1) (mc' := 0) (ms' := 0) (As := [_, _]) cl_X8_300 dX8_gusts_162 rfl rfl (by omega) rfl 0 0 (Nat.le_refl 0) (Nat.le_refl 0) ?_
      refine c_X8_common (by omega) (by omega) ?_
      rw [show ((Nat.gcd (10 : Int).toNat (zgust S.1.1 s q r n c).toNat : Nat) : Int) = zgcd (zgust S.1.1 s q r n c) from congrArg _ (Nat.gcd_comm _ _)]
      refine q_istore (pc := 165) [some _, some _, some _, some _, some _, some _, some _, some _, some _, some _, some _] dX8_gusts_165 rfl (Nat.le_of_ble_eq_true rfl) rfl ?_
      refine q_aload_n (pc := 167) dX8_gusts_167 rfl rfl ?_
      refine q_iload (pc := 168) dX8_gusts_168 rfl ?_
      refine q_iload (pc := 170) dX8_gusts_170 rfl ?_
      refine q_idiv (pc := 172) dX8_gusts_172 (by omega) (by omega) (by omega) ?_
      refine q_i2l (pc := 173) dX8_gusts_173 (by omega) ?_
      refine q_putfield2 (pc := 174) [_, _, _, _, _, _, _, _, _, _, _, _, _, _, _, _, _, _, _, _, _, _, _, _, _, _] pf_X8_303 dX8_gusts_174 (by first | assumption | exact zup_at | exact (zup_ne (by decide)).trans (zup_at) | exact (zup_ne (by decide)).trans (by assumption) | exact (zup_ne (by decide)).trans ((zup_ne (by decide)).trans (zup_at)) | exact (zup_ne (by decide)).trans ((zup_ne (by decide)).trans (by assumption)) | exact (zup_ne (by decide)).trans ((zup_ne (by decide)).trans ((zup_ne (by decide)).trans (zup_at))) | exact (zup_ne (by decide)).trans ((zup_ne (by decide)).trans ((zup_ne (by decide)).trans (by assumption))) | exact (zup_ne (by decide)).trans ((zup_ne (by decide)).trans ((zup_ne (by decide)).trans ((zup_ne (by decide)).trans (zup_at)))) | exact (zup_ne (by decide)).trans ((zup_ne (by decide)).trans ((zup_ne (by decide)).trans ((zup_ne (by decide)).trans (by assumption)))) | exact (zup_ne (by decide)).trans ((zup_ne (by decide)).trans ((zup_ne (by decide)).trans ((zup_ne (by decide)).trans ((zup_ne (by decide)).trans (zup_at))))) | exact (zup_ne (by decide)).trans ((zup_ne (by decide)).trans ((zup_ne (by decide)).trans ((zup_ne (by decide)).trans ((zup_ne (by decide)).trans (by assumption)))))) rfl rfl (Nat.le_of_ble_eq_true rfl) rfl ?_
      refine q_aload_n (pc := 177) dX8_gusts_177 rfl rfl ?_
      refine q_bipush (pc := 178) (by decide) dX8_gusts_178 ?_
      refine q_iload (pc := 180) dX8_gusts_180 rfl ?_
      refine q_idiv (pc := 182) dX8_gusts_182 (by omega) (by omega) (by omega) ?_
      refine q_i2l (pc := 183) dX8_gusts_183 (by omega) ?_
      refine q_putfield2 (pc := 184) [_, _, _, _, _, _, _, _, _, _, _, _, _, _, _, _, _, _, _, _, _, _, _, _, _, _] pf_X8_16 dX8_gusts_184 (by first | assumption | exact zup_at | exact (zup_ne (by decide)).trans (zup_at) | exact (zup_ne (by decide)).trans (by assumption) | exact (zup_ne (by decide)).trans ((zup_ne (by decide)).trans (zup_at)) | exact (zup_ne (by decide)).trans ((zup_ne (by decide)).trans (by assumption)) | exact (zup_ne (by decide)).trans ((zup_ne (by decide)).trans ((zup_ne (by decide)).trans (zup_at))) | exact (zup_ne (by decide)).trans ((zup_ne (by decide)).trans ((zup_ne (by decide)).trans (by assumption))) | exact (zup_ne (by decide)).trans ((zup_ne (by decide)).trans ((zup_ne (by decide)).trans ((zup_ne (by decide)).trans (zup_at)))) | exact (zup_ne (by decide)).trans ((zup_ne (by decide)).trans ((zup_ne (by decide)).trans ((zup_ne (by decide)).trans (by assumption)))) | exact (zup_ne (by decide)).trans ((zup_ne (by decide)).trans ((zup_ne (by decide)).trans ((zup_ne (by decide)).trans ((zup_ne (by decide)).trans (zup_at))))) | exact (zup_ne (by decide)).trans ((zup_ne (by decide)).trans ((zup_ne (by decide)).trans ((zup_ne (by decide)).trans ((zup_ne (by decide)).trans (by assumption)))))) rfl rfl (Nat.le_of_ble_eq_true rfl) rfl ?_
      refine q_iconst (pc := 187) dX8_gusts_187 ?_
      refine q_ireturn (pc := 188) dX8_gusts_188 rfl ?_
      first | exact zgm k (by unfold o_gusts; exact ((if_pos (by omega)).trans rfl)) ((zSame.up (by omega)).tr (zSame.up (by omega))) ((hC.o72 (zSame.up (by omega)) zup_at).o72 (zSame.up (by omega)) zup_at) | exact zgm k (by unfold o_gusts; exact ((if_neg (by omega)).trans rfl)) hs9 hC9
    refine q_aload_n (pc := 72) dX8_gusts_72 rfl rfl ?_
    refine q_getfield (pc := 73) gf_X8_7 dX8_gusts_73 (by first | assumption | exact zup_at | exact (zup_ne (by decide)).trans (zup_at) | exact (zup_ne (by decide)).trans (by assumption) | exact (zup_ne (by decide)).trans ((zup_ne (by decide)).trans (zup_at)) | exact (zup_ne (by decide)).trans ((zup_ne (by decide)).trans (by assumption)) | exact (zup_ne (by decide)).trans ((zup_ne (by decide)).trans ((zup_ne (by decide)).trans (zup_at))) | exact (zup_ne (by decide)).trans ((zup_ne (by decide)).trans ((zup_ne (by decide)).trans (by assumption))) | exact (zup_ne (by decide)).trans ((zup_ne (by decide)).trans ((zup_ne (by decide)).trans ((zup_ne (by decide)).trans (zup_at)))) | exact (zup_ne (by decide)).trans ((zup_ne (by decide)).trans ((zup_ne (by decide)).trans ((zup_ne (by decide)).trans (by assumption)))) | exact (zup_ne (by decide)).trans ((zup_ne (by decide)).trans ((zup_ne (by decide)).trans ((zup_ne (by decide)).trans ((zup_ne (by decide)).trans (zup_at))))) | exact (zup_ne (by decide)).trans ((zup_ne (by decide)).trans ((zup_ne (by decide)).trans ((zup_ne (by decide)).trans ((zup_ne (by decide)).trans (by assumption)))))) rfl ?_
    refine q_iconst (pc := 76) dX8_gusts_76 ?_
    refine q_iaload (pc := 77) dX8_gusts_77 (by first | assumption | exact zup_at | exact (zup_ne (by decide)).trans (zup_at) | exact (zup_ne (by decide)).trans (by assumption) | exact (zup_ne (by decide)).trans ((zup_ne (by decide)).trans (zup_at)) | exact (zup_ne (by decide)).trans ((zup_ne (by decide)).trans (by assumption)) | exact (zup_ne (by decide)).trans ((zup_ne (by decide)).trans ((zup_ne (by decide)).trans (zup_at))) | exact (zup_ne (by decide)).trans ((zup_ne (by decide)).trans ((zup_ne (by decide)).trans (by assumption))) | exact (zup_ne (by decide)).trans ((zup_ne (by decide)).trans ((zup_ne (by decide)).trans ((zup_ne (by decide)).trans (zup_at)))) | exact (zup_ne (by decide)).trans ((zup_ne (by decide)).trans ((zup_ne (by decide)).trans ((zup_ne (by decide)).trans (by assumption)))) | exact (zup_ne (by decide)).trans ((zup_ne (by decide)).trans ((zup_ne (by decide)).trans ((zup_ne (by decide)).trans ((zup_ne (by decide)).trans (zup_at))))) | exact (zup_ne (by decide)).trans ((zup_ne (by decide)).trans ((zup_ne (by decide)).trans ((zup_ne (by decide)).trans ((zup_ne (by decide)).trans (by assumption)))))) (by omega) ?_
    refine q_iconst (pc := 78) dX8_gusts_78 ?_
    refine q_iadd (pc := 79) dX8_gusts_79 ?_
    refine q_goto (pc := 80) 85 dX8_gusts_80 rfl ?_
    first | rw [show S.1.1 4 + 4 = min 9 (S.1.1 4 + 4) by omega] | rw [show (9 : Int) = min 9 (S.1.1 4 + 4) by omega]
    refine q_istore (pc := 85) [some _, some _, some _, some _, some _, some _, some _, none, none, none, none] dX8_gusts_85 rfl (Nat.le_of_ble_eq_true rfl) rfl ?_
    refine q_aload_n (pc := 87) dX8_gusts_87 rfl rfl ?_
    refine q_iload_n (pc := 88) dX8_gusts_88 rfl ?_
    refine q_iload_n (pc := 89) dX8_gusts_89 rfl ?_
    refine q_iload_n (pc := 90) dX8_gusts_90 rfl ?_
    refine q_aload_n (pc := 91) dX8_gusts_91 rfl rfl ?_
    refine q_getfield (pc := 92) gf_X8_7 dX8_gusts_92 (by first | assumption | exact zup_at | exact (zup_ne (by decide)).trans (zup_at) | exact (zup_ne (by decide)).trans (by assumption) | exact (zup_ne (by decide)).trans ((zup_ne (by decide)).trans (zup_at)) | exact (zup_ne (by decide)).trans ((zup_ne (by decide)).trans (by assumption)) | exact (zup_ne (by decide)).trans ((zup_ne (by decide)).trans ((zup_ne (by decide)).trans (zup_at))) | exact (zup_ne (by decide)).trans ((zup_ne (by decide)).trans ((zup_ne (by decide)).trans (by assumption))) | exact (zup_ne (by decide)).trans ((zup_ne (by decide)).trans ((zup_ne (by decide)).trans ((zup_ne (by decide)).trans (zup_at)))) | exact (zup_ne (by decide)).trans ((zup_ne (by decide)).trans ((zup_ne (by decide)).trans ((zup_ne (by decide)).trans (by assumption)))) | exact (zup_ne (by decide)).trans ((zup_ne (by decide)).trans ((zup_ne (by decide)).trans ((zup_ne (by decide)).trans ((zup_ne (by decide)).trans (zup_at))))) | exact (zup_ne (by decide)).trans ((zup_ne (by decide)).trans ((zup_ne (by decide)).trans ((zup_ne (by decide)).trans ((zup_ne (by decide)).trans (by assumption)))))) rfl ?_
    refine q_iconst (pc := 95) dX8_gusts_95 ?_
    refine q_iaload (pc := 96) dX8_gusts_96 (by first | assumption | exact zup_at | exact (zup_ne (by decide)).trans (zup_at) | exact (zup_ne (by decide)).trans (by assumption) | exact (zup_ne (by decide)).trans ((zup_ne (by decide)).trans (zup_at)) | exact (zup_ne (by decide)).trans ((zup_ne (by decide)).trans (by assumption)) | exact (zup_ne (by decide)).trans ((zup_ne (by decide)).trans ((zup_ne (by decide)).trans (zup_at))) | exact (zup_ne (by decide)).trans ((zup_ne (by decide)).trans ((zup_ne (by decide)).trans (by assumption))) | exact (zup_ne (by decide)).trans ((zup_ne (by decide)).trans ((zup_ne (by decide)).trans ((zup_ne (by decide)).trans (zup_at)))) | exact (zup_ne (by decide)).trans ((zup_ne (by decide)).trans ((zup_ne (by decide)).trans ((zup_ne (by decide)).trans (by assumption)))) | exact (zup_ne (by decide)).trans ((zup_ne (by decide)).trans ((zup_ne (by decide)).trans ((zup_ne (by decide)).trans ((zup_ne (by decide)).trans (zup_at))))) | exact (zup_ne (by decide)).trans ((zup_ne (by decide)).trans ((zup_ne (by decide)).trans ((zup_ne (by decide)).trans ((zup_ne (by decide)).trans (by assumption)))))) (by omega) ?_
    refine q_invokevirtual (pc := 97) (d' := d - 1) (mc' := 0) (ms' := 0) (As := [_, _, _, _]) (TX8, 26) cl_X8_232 dX8_gusts_97 rfl rfl (by first | assumption | exact zup_at | exact (zup_ne (by decide)).trans (zup_at) | exact (zup_ne (by decide)).trans (by assumption) | exact (zup_ne (by decide)).trans ((zup_ne (by decide)).trans (zup_at)) | exact (zup_ne (by decide)).trans ((zup_ne (by decide)).trans (by assumption)) | exact (zup_ne (by decide)).trans ((zup_ne (by decide)).trans ((zup_ne (by decide)).trans (zup_at))) | exact (zup_ne (by decide)).trans ((zup_ne (by decide)).trans ((zup_ne (by decide)).trans (by assumption))) | exact (zup_ne (by decide)).trans ((zup_ne (by decide)).trans ((zup_ne (by decide)).trans ((zup_ne (by decide)).trans (zup_at)))) | exact (zup_ne (by decide)).trans ((zup_ne (by decide)).trans ((zup_ne (by decide)).trans ((zup_ne (by decide)).trans (by assumption)))) | exact (zup_ne (by decide)).trans ((zup_ne (by decide)).trans ((zup_ne (by decide)).trans ((zup_ne (by decide)).trans ((zup_ne (by decide)).trans (zup_at))))) | exact (zup_ne (by decide)).trans ((zup_ne (by decide)).trans ((zup_ne (by decide)).trans ((zup_ne (by decide)).trans ((zup_ne (by decide)).trans (by assumption)))))) rfl (by omega) rfl 0 0 (Nat.le_refl 0) (Nat.le_refl 0) ?_
    refine c_X8_reaches (by omega) h72 h73 hO2 (by omega) (by omega) (by omega) (by omega) ?_
    refine q_ifb_eq (pc := 100) 112 dX8_gusts_100 rfl (fun c100 => ?_) (fun c100 => ?_)
    · refine q_iconst (pc := 112) dX8_gusts_112 ?_
      first | rw [show zhits (S.1.1 (68 + s)) r = zhat S.1.1 s q r (S.1.1 4) from (if_pos c100).symm] | rw [show zI 0 = zI (zhat S.1.1 s q r (S.1.1 4)) from congrArg zI (if_neg c100).symm]
      refine q_istore (pc := 113) [some _, some _, some _, some _, some _, some _, some _, some _, none, none, none] dX8_gusts_113 rfl (Nat.le_of_ble_eq_true rfl) rfl ?_
      refine q_aload_n (pc := 115) dX8_gusts_115 rfl rfl ?_
      refine q_iload_n (pc := 116) dX8_gusts_116 rfl ?_
      refine q_iload_n (pc := 117) dX8_gusts_117 rfl ?_
      refine q_iload_n (pc := 118) dX8_gusts_118 rfl ?_
      refine q_iload (pc := 119) dX8_gusts_119 rfl ?_
      refine q_invokevirtual (pc := 121) (d' := d - 1) (mc' := 0) (ms' := 0) (As := [_, _, _, _]) (TX8, 26) cl_X8_232 dX8_gusts_121 rfl rfl (by first | assumption | exact zup_at | exact (zup_ne (by decide)).trans (zup_at) | exact (zup_ne (by decide)).trans (by assumption) | exact (zup_ne (by decide)).trans ((zup_ne (by decide)).trans (zup_at)) | exact (zup_ne (by decide)).trans ((zup_ne (by decide)).trans (by assumption)) | exact (zup_ne (by decide)).trans ((zup_ne (by decide)).trans ((zup_ne (by decide)).trans (zup_at))) | exact (zup_ne (by decide)).trans ((zup_ne (by decide)).trans ((zup_ne (by decide)).trans (by assumption))) | exact (zup_ne (by decide)).trans ((zup_ne (by decide)).trans ((zup_ne (by decide)).trans ((zup_ne (by decide)).trans (zup_at)))) | exact (zup_ne (by decide)).trans ((zup_ne (by decide)).trans ((zup_ne (by decide)).trans ((zup_ne (by decide)).trans (by assumption)))) | exact (zup_ne (by decide)).trans ((zup_ne (by decide)).trans ((zup_ne (by decide)).trans ((zup_ne (by decide)).trans ((zup_ne (by decide)).trans (zup_at))))) | exact (zup_ne (by decide)).trans ((zup_ne (by decide)).trans ((zup_ne (by decide)).trans ((zup_ne (by decide)).trans ((zup_ne (by decide)).trans (by assumption)))))) rfl (by omega) rfl 0 0 (Nat.le_refl 0) (Nat.le_refl 0) ?_
      refine c_X8_reaches (by omega) h72 h73 hO2 (by omega) (by omega) (by omega) (by omega) ?_
      refine q_ifb_eq (pc := 124) 136 dX8_gusts_124 rfl (fun c124 => ?_) (fun c124 => ?_)
      · refine q_iconst (pc := 136) dX8_gusts_136 ?_
        first | rw [show zhits (S.1.1 (68 + s)) r = zhat S.1.1 s q r (min 9 (S.1.1 4 + 4)) from (if_pos c124).symm] | rw [show zI 0 = zI (zhat S.1.1 s q r (min 9 (S.1.1 4 + 4))) from congrArg zI (if_neg c124).symm]
        refine q_istore (pc := 137) [some _, some _, some _, some _, some _, some _, some _, some _, some _, none, none] dX8_gusts_137 rfl (Nat.le_of_ble_eq_true rfl) rfl ?_
        refine q_iload (pc := 139) dX8_gusts_139 rfl ?_
        refine q_bipush (pc := 141) (by decide) dX8_gusts_141 ?_
        refine q_iload (pc := 143) dX8_gusts_143 rfl ?_
        refine q_isub (pc := 145) dX8_gusts_145 ?_
        refine q_iload (pc := 146) dX8_gusts_146 rfl ?_
        refine q_imul (pc := 148) dX8_gusts_148 ?_
        refine q_iload (pc := 149) dX8_gusts_149 rfl ?_
        refine q_iload (pc := 151) dX8_gusts_151 rfl ?_
        refine q_imul (pc := 153) dX8_gusts_153 ?_
        refine q_iadd (pc := 154) dX8_gusts_154 ?_
        refine q_imul (pc := 155) dX8_gusts_155 ?_
        rw [hcm]
        refine q_istore (pc := 156) [some _, some _, some _, some _, some _, some _, some _, some _, some _, some _, none] dX8_gusts_156 rfl (Nat.le_of_ble_eq_true rfl) rfl ?_
        refine q_bipush (pc := 158) (by decide) dX8_gusts_158 ?_
        refine q_iload (pc := 160) dX8_gusts_160 rfl ?_
        refine q_invokestatic (pc := 162) (d' := d - 1) (mc' := 0) (ms' := 0) (As := [_, _]) cl_X8_300 dX8_gusts_162 rfl rfl (by omega) rfl 0 0 (Nat.le_refl 0) (Nat.le_refl 0) ?_
        refine c_X8_common (by omega) (by omega) ?_
        rw [show ((Nat.gcd (10 : Int).toNat (zgust S.1.1 s q r n c).toNat : Nat) : Int) = zgcd (zgust S.1.1 s q r n c) from congrArg _ (Nat.gcd_comm _ _)]
        refine q_istore (pc := 165) [some _, some _, some _, some _, some _, some _, some _, some _, some _, some _, some _] dX8_gusts_165 rfl (Nat.le_of_ble_eq_true rfl) rfl ?_
        refine q_aload_n (pc := 167) dX8_gusts_167 rfl rfl ?_
        refine q_iload (pc := 168) dX8_gusts_168 rfl ?_
        refine q_iload (pc := 170) dX8_gusts_170 rfl ?_
        refine q_idiv (pc := 172) dX8_gusts_172 (by omega) (by omega) (by omega) ?_
        refine q_i2l (pc := 173) dX8_gusts_173 (by omega) ?_
        refine q_putfield2 (pc := 174) [_, _, _, _, _, _, _, _, _, _, _, _, _, _, _, _, _, _, _, _, _, _, _, _, _, _] pf_X8_303 dX8_gusts_174 (by first | assumption | exact zup_at | exact (zup_ne (by decide)).trans (zup_at) | exact (zup_ne (by decide)).trans (by assumption) | exact (zup_ne (by decide)).trans ((zup_ne (by decide)).trans (zup_at)) | exact (zup_ne (by decide)).trans ((zup_ne (by decide)).trans (by assumption)) | exact (zup_ne (by decide)).trans ((zup_ne (by decide)).trans ((zup_ne (by decide)).trans (zup_at))) | exact (zup_ne (by decide)).trans ((zup_ne (by decide)).trans ((zup_ne (by decide)).trans (by assumption))) | exact (zup_ne (by decide)).trans ((zup_ne (by decide)).trans ((zup_ne (by decide)).trans ((zup_ne (by decide)).trans (zup_at)))) | exact (zup_ne (by decide)).trans ((zup_ne (by decide)).trans ((zup_ne (by decide)).trans ((zup_ne (by decide)).trans (by assumption)))) | exact (zup_ne (by decide)).trans ((zup_ne (by decide)).trans ((zup_ne (by decide)).trans ((zup_ne (by decide)).trans ((zup_ne (by decide)).trans (zup_at))))) | exact (zup_ne (by decide)).trans ((zup_ne (by decide)).trans ((zup_ne (by decide)).trans ((zup_ne (by decide)).trans ((zup_ne (by decide)).trans (by assumption)))))) rfl rfl (Nat.le_of_ble_eq_true rfl) rfl ?_
        refine q_aload_n (pc := 177) dX8_gusts_177 rfl rfl ?_
        refine q_bipush (pc := 178) (by decide) dX8_gusts_178 ?_
        refine q_iload (pc := 180) dX8_gusts_180 rfl ?_
        refine q_idiv (pc := 182) dX8_gusts_182 (by omega) (by omega) (by omega) ?_
        refine q_i2l (pc := 183) dX8_gusts_183 (by omega) ?_
        refine q_putfield2 (pc := 184) [_, _, _, _, _, _, _, _, _, _, _, _, _, _, _, _, _, _, _, _, _, _, _, _, _, _] pf_X8_16 dX8_gusts_184 (by first | assumption | exact zup_at | exact (zup_ne (by decide)).trans (zup_at) | exact (zup_ne (by decide)).trans (by assumption) | exact (zup_ne (by decide)).trans ((zup_ne (by decide)).trans (zup_at)) | exact (zup_ne (by decide)).trans ((zup_ne (by decide)).trans (by assumption)) | exact (zup_ne (by decide)).trans ((zup_ne (by decide)).trans ((zup_ne (by decide)).trans (zup_at))) | exact (zup_ne (by decide)).trans ((zup_ne (by decide)).trans ((zup_ne (by decide)).trans (by assumption))) | exact (zup_ne (by decide)).trans ((zup_ne (by decide)).trans ((zup_ne (by decide)).trans ((zup_ne (by decide)).trans (zup_at)))) | exact (zup_ne (by decide)).trans ((zup_ne (by decide)).trans ((zup_ne (by decide)).trans ((zup_ne (by decide)).trans (by assumption)))) | exact (zup_ne (by decide)).trans ((zup_ne (by decide)).trans ((zup_ne (by decide)).trans ((zup_ne (by decide)).trans ((zup_ne (by decide)).trans (zup_at))))) | exact (zup_ne (by decide)).trans ((zup_ne (by decide)).trans ((zup_ne (by decide)).trans ((zup_ne (by decide)).trans ((zup_ne (by decide)).trans (by assumption)))))) rfl rfl (Nat.le_of_ble_eq_true rfl) rfl ?_
        refine q_iconst (pc := 187) dX8_gusts_187 ?_
        refine q_ireturn (pc := 188) dX8_gusts_188 rfl ?_
        first | exact zgm k (by unfold o_gusts; exact ((if_pos (by omega)).trans rfl)) ((zSame.up (by omega)).tr (zSame.up (by omega))) ((hC.o72 (zSame.up (by omega)) zup_at).o72 (zSame.up (by omega)) zup_at) | exact zgm k (by unfold o_gusts; exact ((if_neg (by omega)).trans rfl)) hs9 hC9
      refine q_aload_n (pc := 127) dX8_gusts_127 rfl rfl ?_
      refine q_iload_n (pc := 128) dX8_gusts_128 rfl ?_
      refine q_iload_n (pc := 129) dX8_gusts_129 rfl ?_
      refine q_invokevirtual (pc := 130) (d' := d - 1) (mc' := 0) (ms' := 0) (As := [_, _]) (TX8, 26) cl_X8_236 dX8_gusts_130 rfl rfl (by first | assumption | exact zup_at | exact (zup_ne (by decide)).trans (zup_at) | exact (zup_ne (by decide)).trans (by assumption) | exact (zup_ne (by decide)).trans ((zup_ne (by decide)).trans (zup_at)) | exact (zup_ne (by decide)).trans ((zup_ne (by decide)).trans (by assumption)) | exact (zup_ne (by decide)).trans ((zup_ne (by decide)).trans ((zup_ne (by decide)).trans (zup_at))) | exact (zup_ne (by decide)).trans ((zup_ne (by decide)).trans ((zup_ne (by decide)).trans (by assumption))) | exact (zup_ne (by decide)).trans ((zup_ne (by decide)).trans ((zup_ne (by decide)).trans ((zup_ne (by decide)).trans (zup_at)))) | exact (zup_ne (by decide)).trans ((zup_ne (by decide)).trans ((zup_ne (by decide)).trans ((zup_ne (by decide)).trans (by assumption)))) | exact (zup_ne (by decide)).trans ((zup_ne (by decide)).trans ((zup_ne (by decide)).trans ((zup_ne (by decide)).trans ((zup_ne (by decide)).trans (zup_at))))) | exact (zup_ne (by decide)).trans ((zup_ne (by decide)).trans ((zup_ne (by decide)).trans ((zup_ne (by decide)).trans ((zup_ne (by decide)).trans (by assumption)))))) rfl (by omega) rfl 0 0 (Nat.le_refl 0) (Nat.le_refl 0) ?_
      refine c_X8_hitsOf (by omega) h72 h73 hO2 (by omega) (by omega) ?_
      refine q_goto (pc := 133) 137 dX8_gusts_133 rfl ?_
      first | rw [show zhits (S.1.1 (68 + s)) r = zhat S.1.1 s q r (min 9 (S.1.1 4 + 4)) from (if_pos c124).symm] | rw [show zI 0 = zI (zhat S.1.1 s q r (min 9 (S.1.1 4 + 4))) from congrArg zI (if_neg c124).symm]
      refine q_istore (pc := 137) [some _, some _, some _, some _, some _, some _, some _, some _, some _, none, none] dX8_gusts_137 rfl (Nat.le_of_ble_eq_true rfl) rfl ?_
      refine q_iload (pc := 139) dX8_gusts_139 rfl ?_
      refine q_bipush (pc := 141) (by decide) dX8_gusts_141 ?_
      refine q_iload (pc := 143) dX8_gusts_143 rfl ?_
      refine q_isub (pc := 145) dX8_gusts_145 ?_
      refine q_iload (pc := 146) dX8_gusts_146 rfl ?_
      refine q_imul (pc := 148) dX8_gusts_148 ?_
      refine q_iload (pc := 149) dX8_gusts_149 rfl ?_
      refine q_iload (pc := 151) dX8_gusts_151 rfl ?_
      refine q_imul (pc := 153) dX8_gusts_153 ?_
      refine q_iadd (pc := 154) dX8_gusts_154 ?_
      refine q_imul (pc := 155) dX8_gusts_155 ?_
      rw [hcm]
      refine q_istore (pc := 156) [some _, some _, some _, some _, some _, some _, some _, some _, some _, some _, none] dX8_gusts_156 rfl (Nat.le_of_ble_eq_true rfl) rfl ?_
      refine q_bipush (pc := 158) (by decide) dX8_gusts_158 ?_
      refine q_iload (pc := 160) dX8_gusts_160 rfl ?_
      refine q_invokestatic (pc := 162) (d' := d - 1) (mc' := 0) (ms' := 0) (As := [_, _]) cl_X8_300 dX8_gusts_162 rfl rfl (by omega) rfl 0 0 (Nat.le_refl 0) (Nat.le_refl 0) ?_
      refine c_X8_common (by omega) (by omega) ?_
      rw [show ((Nat.gcd (10 : Int).toNat (zgust S.1.1 s q r n c).toNat : Nat) : Int) = zgcd (zgust S.1.1 s q r n c) from congrArg _ (Nat.gcd_comm _ _)]
      refine q_istore (pc := 165) [some _, some _, some _, some _, some _, some _, some _, some _, some _, some _, some _] dX8_gusts_165 rfl (Nat.le_of_ble_eq_true rfl) rfl ?_
      refine q_aload_n (pc := 167) dX8_gusts_167 rfl rfl ?_
      refine q_iload (pc := 168) dX8_gusts_168 rfl ?_
      refine q_iload (pc := 170) dX8_gusts_170 rfl ?_
      refine q_idiv (pc := 172) dX8_gusts_172 (by omega) (by omega) (by omega) ?_
      refine q_i2l (pc := 173) dX8_gusts_173 (by omega) ?_
      refine q_putfield2 (pc := 174) [_, _, _, _, _, _, _, _, _, _, _, _, _, _, _, _, _, _, _, _, _, _, _, _, _, _] pf_X8_303 dX8_gusts_174 (by first | assumption | exact zup_at | exact (zup_ne (by decide)).trans (zup_at) | exact (zup_ne (by decide)).trans (by assumption) | exact (zup_ne (by decide)).trans ((zup_ne (by decide)).trans (zup_at)) | exact (zup_ne (by decide)).trans ((zup_ne (by decide)).trans (by assumption)) | exact (zup_ne (by decide)).trans ((zup_ne (by decide)).trans ((zup_ne (by decide)).trans (zup_at))) | exact (zup_ne (by decide)).trans ((zup_ne (by decide)).trans ((zup_ne (by decide)).trans (by assumption))) | exact (zup_ne (by decide)).trans ((zup_ne (by decide)).trans ((zup_ne (by decide)).trans ((zup_ne (by decide)).trans (zup_at)))) | exact (zup_ne (by decide)).trans ((zup_ne (by decide)).trans ((zup_ne (by decide)).trans ((zup_ne (by decide)).trans (by assumption)))) | exact (zup_ne (by decide)).trans ((zup_ne (by decide)).trans ((zup_ne (by decide)).trans ((zup_ne (by decide)).trans ((zup_ne (by decide)).trans (zup_at))))) | exact (zup_ne (by decide)).trans ((zup_ne (by decide)).trans ((zup_ne (by decide)).trans ((zup_ne (by decide)).trans ((zup_ne (by decide)).trans (by assumption)))))) rfl rfl (Nat.le_of_ble_eq_true rfl) rfl ?_
      refine q_aload_n (pc := 177) dX8_gusts_177 rfl rfl ?_
      refine q_bipush (pc := 178) (by decide) dX8_gusts_178 ?_
      refine q_iload (pc := 180) dX8_gusts_180 rfl ?_
      refine q_idiv (pc := 182) dX8_gusts_182 (by omega) (by omega) (by omega) ?_
      refine q_i2l (pc := 183) dX8_gusts_183 (by omega) ?_
      refine q_putfield2 (pc := 184) [_, _, _, _, _, _, _, _, _, _, _, _, _, _, _, _, _, _, _, _, _, _, _, _, _, _] pf_X8_16 dX8_gusts_184 (by first | assumption | exact zup_at | exact (zup_ne (by decide)).trans (zup_at) | exact (zup_ne (by decide)).trans (by assumption) | exact (zup_ne (by decide)).trans ((zup_ne (by decide)).trans (zup_at)) | exact (zup_ne (by decide)).trans ((zup_ne (by decide)).trans (by assumption)) | exact (zup_ne (by decide)).trans ((zup_ne (by decide)).trans ((zup_ne (by decide)).trans (zup_at))) | exact (zup_ne (by decide)).trans ((zup_ne (by decide)).trans ((zup_ne (by decide)).trans (by assumption))) | exact (zup_ne (by decide)).trans ((zup_ne (by decide)).trans ((zup_ne (by decide)).trans ((zup_ne (by decide)).trans (zup_at)))) | exact (zup_ne (by decide)).trans ((zup_ne (by decide)).trans ((zup_ne (by decide)).trans ((zup_ne (by decide)).trans (by assumption)))) | exact (zup_ne (by decide)).trans ((zup_ne (by decide)).trans ((zup_ne (by decide)).trans ((zup_ne (by decide)).trans ((zup_ne (by decide)).trans (zup_at))))) | exact (zup_ne (by decide)).trans ((zup_ne (by decide)).trans ((zup_ne (by decide)).trans ((zup_ne (by decide)).trans ((zup_ne (by decide)).trans (by assumption)))))) rfl rfl (Nat.le_of_ble_eq_true rfl) rfl ?_
      refine q_iconst (pc := 187) dX8_gusts_187 ?_
      refine q_ireturn (pc := 188) dX8_gusts_188 rfl ?_
      first | exact zgm k (by unfold o_gusts; exact ((if_pos (by omega)).trans rfl)) ((zSame.up (by omega)).tr (zSame.up (by omega))) ((hC.o72 (zSame.up (by omega)) zup_at).o72 (zSame.up (by omega)) zup_at) | exact zgm k (by unfold o_gusts; exact ((if_neg (by omega)).trans rfl)) hs9 hC9
    refine q_aload_n (pc := 103) dX8_gusts_103 rfl rfl ?_
    refine q_iload_n (pc := 104) dX8_gusts_104 rfl ?_
    refine q_iload_n (pc := 105) dX8_gusts_105 rfl ?_
    refine q_invokevirtual (pc := 106) (d' := d - 1) (mc' := 0) (ms' := 0) (As := [_, _]) (TX8, 26) cl_X8_236 dX8_gusts_106 rfl rfl (by first | assumption | exact zup_at | exact (zup_ne (by decide)).trans (zup_at) | exact (zup_ne (by decide)).trans (by assumption) | exact (zup_ne (by decide)).trans ((zup_ne (by decide)).trans (zup_at)) | exact (zup_ne (by decide)).trans ((zup_ne (by decide)).trans (by assumption)) | exact (zup_ne (by decide)).trans ((zup_ne (by decide)).trans ((zup_ne (by decide)).trans (zup_at))) | exact (zup_ne (by decide)).trans ((zup_ne (by decide)).trans ((zup_ne (by decide)).trans (by assumption))) | exact (zup_ne (by decide)).trans ((zup_ne (by decide)).trans ((zup_ne (by decide)).trans ((zup_ne (by decide)).trans (zup_at)))) | exact (zup_ne (by decide)).trans ((zup_ne (by decide)).trans ((zup_ne (by decide)).trans ((zup_ne (by decide)).trans (by assumption)))) | exact (zup_ne (by decide)).trans ((zup_ne (by decide)).trans ((zup_ne (by decide)).trans ((zup_ne (by decide)).trans ((zup_ne (by decide)).trans (zup_at))))) | exact (zup_ne (by decide)).trans ((zup_ne (by decide)).trans ((zup_ne (by decide)).trans ((zup_ne (by decide)).trans ((zup_ne (by decide)).trans (by assumption)))))) rfl (by omega) rfl 0 0 (Nat.le_refl 0) (Nat.le_refl 0) ?_
    refine c_X8_hitsOf (by omega) h72 h73 hO2 (by omega) (by omega) ?_
    refine q_goto (pc := 109) 113 dX8_gusts_109 rfl ?_
    first | rw [show zhits (S.1.1 (68 + s)) r = zhat S.1.1 s q r (S.1.1 4) from (if_pos c100).symm] | rw [show zI 0 = zI (zhat S.1.1 s q r (S.1.1 4)) from congrArg zI (if_neg c100).symm]
    refine q_istore (pc := 113) [some _, some _, some _, some _, some _, some _, some _, some _, none, none, none] dX8_gusts_113 rfl (Nat.le_of_ble_eq_true rfl) rfl ?_
    refine q_aload_n (pc := 115) dX8_gusts_115 rfl rfl ?_
    refine q_iload_n (pc := 116) dX8_gusts_116 rfl ?_
    refine q_iload_n (pc := 117) dX8_gusts_117 rfl ?_
    refine q_iload_n (pc := 118) dX8_gusts_118 rfl ?_
    refine q_iload (pc := 119) dX8_gusts_119 rfl ?_
    refine q_invokevirtual (pc := 121) (d' := d - 1) (mc' := 0) (ms' := 0) (As := [_, _, _, _]) (TX8, 26) cl_X8_232 dX8_gusts_121 rfl rfl (by first | assumption | exact zup_at | exact (zup_ne (by decide)).trans (zup_at) | exact (zup_ne (by decide)).trans (by assumption) | exact (zup_ne (by decide)).trans ((zup_ne (by decide)).trans (zup_at)) | exact (zup_ne (by decide)).trans ((zup_ne (by decide)).trans (by assumption)) | exact (zup_ne (by decide)).trans ((zup_ne (by decide)).trans ((zup_ne (by decide)).trans (zup_at))) | exact (zup_ne (by decide)).trans ((zup_ne (by decide)).trans ((zup_ne (by decide)).trans (by assumption))) | exact (zup_ne (by decide)).trans ((zup_ne (by decide)).trans ((zup_ne (by decide)).trans ((zup_ne (by decide)).trans (zup_at)))) | exact (zup_ne (by decide)).trans ((zup_ne (by decide)).trans ((zup_ne (by decide)).trans ((zup_ne (by decide)).trans (by assumption)))) | exact (zup_ne (by decide)).trans ((zup_ne (by decide)).trans ((zup_ne (by decide)).trans ((zup_ne (by decide)).trans ((zup_ne (by decide)).trans (zup_at))))) | exact (zup_ne (by decide)).trans ((zup_ne (by decide)).trans ((zup_ne (by decide)).trans ((zup_ne (by decide)).trans ((zup_ne (by decide)).trans (by assumption)))))) rfl (by omega) rfl 0 0 (Nat.le_refl 0) (Nat.le_refl 0) ?_
    refine c_X8_reaches (by omega) h72 h73 hO2 (by omega) (by omega) (by omega) (by omega) ?_
    refine q_ifb_eq (pc := 124) 136 dX8_gusts_124 rfl (fun c124 => ?_) (fun c124 => ?_)
    · refine q_iconst (pc := 136) dX8_gusts_136 ?_
      first | rw [show zhits (S.1.1 (68 + s)) r = zhat S.1.1 s q r (min 9 (S.1.1 4 + 4)) from (if_pos c124).symm] | rw [show zI 0 = zI (zhat S.1.1 s q r (min 9 (S.1.1 4 + 4))) from congrArg zI (if_neg c124).symm]
      refine q_istore (pc := 137) [some _, some _, some _, some _, some _, some _, some _, some _, some _, none, none] dX8_gusts_137 rfl (Nat.le_of_ble_eq_true rfl) rfl ?_
      refine q_iload (pc := 139) dX8_gusts_139 rfl ?_
      refine q_bipush (pc := 141) (by decide) dX8_gusts_141 ?_
      refine q_iload (pc := 143) dX8_gusts_143 rfl ?_
      refine q_isub (pc := 145) dX8_gusts_145 ?_
      refine q_iload (pc := 146) dX8_gusts_146 rfl ?_
      refine q_imul (pc := 148) dX8_gusts_148 ?_
      refine q_iload (pc := 149) dX8_gusts_149 rfl ?_
      refine q_iload (pc := 151) dX8_gusts_151 rfl ?_
      refine q_imul (pc := 153) dX8_gusts_153 ?_
      refine q_iadd (pc := 154) dX8_gusts_154 ?_
      refine q_imul (pc := 155) dX8_gusts_155 ?_
      rw [hcm]
      refine q_istore (pc := 156) [some _, some _, some _, some _, some _, some _, some _, some _, some _, some _, none] dX8_gusts_156 rfl (Nat.le_of_ble_eq_true rfl) rfl ?_
      refine q_bipush (pc := 158) (by decide) dX8_gusts_158 ?_
      refine q_iload (pc := 160) dX8_gusts_160 rfl ?_
      refine q_invokestatic (pc := 162) (d' := d - 1) (mc' := 0) (ms' := 0) (As := [_, _]) cl_X8_300 dX8_gusts_162 rfl rfl (by omega) rfl 0 0 (Nat.le_refl 0) (Nat.le_refl 0) ?_
      refine c_X8_common (by omega) (by omega) ?_
      rw [show ((Nat.gcd (10 : Int).toNat (zgust S.1.1 s q r n c).toNat : Nat) : Int) = zgcd (zgust S.1.1 s q r n c) from congrArg _ (Nat.gcd_comm _ _)]
      refine q_istore (pc := 165) [some _, some _, some _, some _, some _, some _, some _, some _, some _, some _, some _] dX8_gusts_165 rfl (Nat.le_of_ble_eq_true rfl) rfl ?_
      refine q_aload_n (pc := 167) dX8_gusts_167 rfl rfl ?_
      refine q_iload (pc := 168) dX8_gusts_168 rfl ?_
      refine q_iload (pc := 170) dX8_gusts_170 rfl ?_
      refine q_idiv (pc := 172) dX8_gusts_172 (by omega) (by omega) (by omega) ?_
      refine q_i2l (pc := 173) dX8_gusts_173 (by omega) ?_
      refine q_putfield2 (pc := 174) [_, _, _, _, _, _, _, _, _, _, _, _, _, _, _, _, _, _, _, _, _, _, _, _, _, _] pf_X8_303 dX8_gusts_174 (by first | assumption | exact zup_at | exact (zup_ne (by decide)).trans (zup_at) | exact (zup_ne (by decide)).trans (by assumption) | exact (zup_ne (by decide)).trans ((zup_ne (by decide)).trans (zup_at)) | exact (zup_ne (by decide)).trans ((zup_ne (by decide)).trans (by assumption)) | exact (zup_ne (by decide)).trans ((zup_ne (by decide)).trans ((zup_ne (by decide)).trans (zup_at))) | exact (zup_ne (by decide)).trans ((zup_ne (by decide)).trans ((zup_ne (by decide)).trans (by assumption))) | exact (zup_ne (by decide)).trans ((zup_ne (by decide)).trans ((zup_ne (by decide)).trans ((zup_ne (by decide)).trans (zup_at)))) | exact (zup_ne (by decide)).trans ((zup_ne (by decide)).trans ((zup_ne (by decide)).trans ((zup_ne (by decide)).trans (by assumption)))) | exact (zup_ne (by decide)).trans ((zup_ne (by decide)).trans ((zup_ne (by decide)).trans ((zup_ne (by decide)).trans ((zup_ne (by decide)).trans (zup_at))))) | exact (zup_ne (by decide)).trans ((zup_ne (by decide)).trans ((zup_ne (by decide)).trans ((zup_ne (by decide)).trans ((zup_ne (by decide)).trans (by assumption)))))) rfl rfl (Nat.le_of_ble_eq_true rfl) rfl ?_
      refine q_aload_n (pc := 177) dX8_gusts_177 rfl rfl ?_
      refine q_bipush (pc := 178) (by decide) dX8_gusts_178 ?_
      refine q_iload (pc := 180) dX8_gusts_180 rfl ?_
      refine q_idiv (pc := 182) dX8_gusts_182 (by omega) (by omega) (by omega) ?_
      refine q_i2l (pc := 183) dX8_gusts_183 (by omega) ?_
      refine q_putfield2 (pc := 184) [_, _, _, _, _, _, _, _, _, _, _, _, _, _, _, _, _, _, _, _, _, _, _, _, _, _] pf_X8_16 dX8_gusts_184 (by first | assumption | exact zup_at | exact (zup_ne (by decide)).trans (zup_at) | exact (zup_ne (by decide)).trans (by assumption) | exact (zup_ne (by decide)).trans ((zup_ne (by decide)).trans (zup_at)) | exact (zup_ne (by decide)).trans ((zup_ne (by decide)).trans (by assumption)) | exact (zup_ne (by decide)).trans ((zup_ne (by decide)).trans ((zup_ne (by decide)).trans (zup_at))) | exact (zup_ne (by decide)).trans ((zup_ne (by decide)).trans ((zup_ne (by decide)).trans (by assumption))) | exact (zup_ne (by decide)).trans ((zup_ne (by decide)).trans ((zup_ne (by decide)).trans ((zup_ne (by decide)).trans (zup_at)))) | exact (zup_ne (by decide)).trans ((zup_ne (by decide)).trans ((zup_ne (by decide)).trans ((zup_ne (by decide)).trans (by assumption)))) | exact (zup_ne (by decide)).trans ((zup_ne (by decide)).trans ((zup_ne (by decide)).trans ((zup_ne (by decide)).trans ((zup_ne (by decide)).trans (zup_at))))) | exact (zup_ne (by decide)).trans ((zup_ne (by decide)).trans ((zup_ne (by decide)).trans ((zup_ne (by decide)).trans ((zup_ne (by decide)).trans (by assumption)))))) rfl rfl (Nat.le_of_ble_eq_true rfl) rfl ?_
      refine q_iconst (pc := 187) dX8_gusts_187 ?_
      refine q_ireturn (pc := 188) dX8_gusts_188 rfl ?_
      first | exact zgm k (by unfold o_gusts; exact ((if_pos (by omega)).trans rfl)) ((zSame.up (by omega)).tr (zSame.up (by omega))) ((hC.o72 (zSame.up (by omega)) zup_at).o72 (zSame.up (by omega)) zup_at) | exact zgm k (by unfold o_gusts; exact ((if_neg (by omega)).trans rfl)) hs9 hC9
    refine q_aload_n (pc := 127) dX8_gusts_127 rfl rfl ?_
    refine q_iload_n (pc := 128) dX8_gusts_128 rfl ?_
    refine q_iload_n (pc := 129) dX8_gusts_129 rfl ?_
    refine q_invokevirtual (pc := 130) (d' := d - 1) (mc' := 0) (ms' := 0) (As := [_, _]) (TX8, 26) cl_X8_236 dX8_gusts_130 rfl rfl (by first | assumption | exact zup_at | exact (zup_ne (by decide)).trans (zup_at) | exact (zup_ne (by decide)).trans (by assumption) | exact (zup_ne (by decide)).trans ((zup_ne (by decide)).trans (zup_at)) | exact (zup_ne (by decide)).trans ((zup_ne (by decide)).trans (by assumption)) | exact (zup_ne (by decide)).trans ((zup_ne (by decide)).trans ((zup_ne (by decide)).trans (zup_at))) | exact (zup_ne (by decide)).trans ((zup_ne (by decide)).trans ((zup_ne (by decide)).trans (by assumption))) | exact (zup_ne (by decide)).trans ((zup_ne (by decide)).trans ((zup_ne (by decide)).trans ((zup_ne (by decide)).trans (zup_at)))) | exact (zup_ne (by decide)).trans ((zup_ne (by decide)).trans ((zup_ne (by decide)).trans ((zup_ne (by decide)).trans (by assumption)))) | exact (zup_ne (by decide)).trans ((zup_ne (by decide)).trans ((zup_ne (by decide)).trans ((zup_ne (by decide)).trans ((zup_ne (by decide)).trans (zup_at))))) | exact (zup_ne (by decide)).trans ((zup_ne (by decide)).trans ((zup_ne (by decide)).trans ((zup_ne (by decide)).trans ((zup_ne (by decide)).trans (by assumption)))))) rfl (by omega) rfl 0 0 (Nat.le_refl 0) (Nat.le_refl 0) ?_
    refine c_X8_hitsOf (by omega) h72 h73 hO2 (by omega) (by omega) ?_
    refine q_goto (pc := 133) 137 dX8_gusts_133 rfl ?_
    first | rw [show zhits (S.1.1 (68 + s)) r = zhat S.1.1 s q r (min 9 (S.1.1 4 + 4)) from (if_pos c124).symm] | rw [show zI 0 = zI (zhat S.1.1 s q r (min 9 (S.1.1 4 + 4))) from congrArg zI (if_neg c124).symm]
    refine q_istore (pc := 137) [some _, some _, some _, some _, some _, some _, some _, some _, some _, none, none] dX8_gusts_137 rfl (Nat.le_of_ble_eq_true rfl) rfl ?_
    refine q_iload (pc := 139) dX8_gusts_139 rfl ?_
    refine q_bipush (pc := 141) (by decide) dX8_gusts_141 ?_
    refine q_iload (pc := 143) dX8_gusts_143 rfl ?_
    refine q_isub (pc := 145) dX8_gusts_145 ?_
    refine q_iload (pc := 146) dX8_gusts_146 rfl ?_
    refine q_imul (pc := 148) dX8_gusts_148 ?_
    refine q_iload (pc := 149) dX8_gusts_149 rfl ?_
    refine q_iload (pc := 151) dX8_gusts_151 rfl ?_
    refine q_imul (pc := 153) dX8_gusts_153 ?_
    refine q_iadd (pc := 154) dX8_gusts_154 ?_
    refine q_imul (pc := 155) dX8_gusts_155 ?_
    rw [hcm]
    refine q_istore (pc := 156) [some _, some _, some _, some _, some _, some _, some _, some _, some _, some _, none] dX8_gusts_156 rfl (Nat.le_of_ble_eq_true rfl) rfl ?_
    refine q_bipush (pc := 158) (by decide) dX8_gusts_158 ?_
    refine q_iload (pc := 160) dX8_gusts_160 rfl ?_
    refine q_invokestatic (pc := 162) (d' := d - 1) (mc' := 0) (ms' := 0) (As := [_, _]) cl_X8_300 dX8_gusts_162 rfl rfl (by omega) rfl 0 0 (Nat.le_refl 0) (Nat.le_refl 0) ?_
    refine c_X8_common (by omega) (by omega) ?_
    rw [show ((Nat.gcd (10 : Int).toNat (zgust S.1.1 s q r n c).toNat : Nat) : Int) = zgcd (zgust S.1.1 s q r n c) from congrArg _ (Nat.gcd_comm _ _)]
    refine q_istore (pc := 165) [some _, some _, some _, some _, some _, some _, some _, some _, some _, some _, some _] dX8_gusts_165 rfl (Nat.le_of_ble_eq_true rfl) rfl ?_
    refine q_aload_n (pc := 167) dX8_gusts_167 rfl rfl ?_
    refine q_iload (pc := 168) dX8_gusts_168 rfl ?_
    refine q_iload (pc := 170) dX8_gusts_170 rfl ?_
    refine q_idiv (pc := 172) dX8_gusts_172 (by omega) (by omega) (by omega) ?_
    refine q_i2l (pc := 173) dX8_gusts_173 (by omega) ?_
    refine q_putfield2 (pc := 174) [_, _, _, _, _, _, _, _, _, _, _, _, _, _, _, _, _, _, _, _, _, _, _, _, _, _] pf_X8_303 dX8_gusts_174 (by first | assumption | exact zup_at | exact (zup_ne (by decide)).trans (zup_at) | exact (zup_ne (by decide)).trans (by assumption) | exact (zup_ne (by decide)).trans ((zup_ne (by decide)).trans (zup_at)) | exact (zup_ne (by decide)).trans ((zup_ne (by decide)).trans (by assumption)) | exact (zup_ne (by decide)).trans ((zup_ne (by decide)).trans ((zup_ne (by decide)).trans (zup_at))) | exact (zup_ne (by decide)).trans ((zup_ne (by decide)).trans ((zup_ne (by decide)).trans (by assumption))) | exact (zup_ne (by decide)).trans ((zup_ne (by decide)).trans ((zup_ne (by decide)).trans ((zup_ne (by decide)).trans (zup_at)))) | exact (zup_ne (by decide)).trans ((zup_ne (by decide)).trans ((zup_ne (by decide)).trans ((zup_ne (by decide)).trans (by assumption)))) | exact (zup_ne (by decide)).trans ((zup_ne (by decide)).trans ((zup_ne (by decide)).trans ((zup_ne (by decide)).trans ((zup_ne (by decide)).trans (zup_at))))) | exact (zup_ne (by decide)).trans ((zup_ne (by decide)).trans ((zup_ne (by decide)).trans ((zup_ne (by decide)).trans ((zup_ne (by decide)).trans (by assumption)))))) rfl rfl (Nat.le_of_ble_eq_true rfl) rfl ?_
    refine q_aload_n (pc := 177) dX8_gusts_177 rfl rfl ?_
    refine q_bipush (pc := 178) (by decide) dX8_gusts_178 ?_
    refine q_iload (pc := 180) dX8_gusts_180 rfl ?_
    refine q_idiv (pc := 182) dX8_gusts_182 (by omega) (by omega) (by omega) ?_
    refine q_i2l (pc := 183) dX8_gusts_183 (by omega) ?_
    refine q_putfield2 (pc := 184) [_, _, _, _, _, _, _, _, _, _, _, _, _, _, _, _, _, _, _, _, _, _, _, _, _, _] pf_X8_16 dX8_gusts_184 (by first | assumption | exact zup_at | exact (zup_ne (by decide)).trans (zup_at) | exact (zup_ne (by decide)).trans (by assumption) | exact (zup_ne (by decide)).trans ((zup_ne (by decide)).trans (zup_at)) | exact (zup_ne (by decide)).trans ((zup_ne (by decide)).trans (by assumption)) | exact (zup_ne (by decide)).trans ((zup_ne (by decide)).trans ((zup_ne (by decide)).trans (zup_at))) | exact (zup_ne (by decide)).trans ((zup_ne (by decide)).trans ((zup_ne (by decide)).trans (by assumption))) | exact (zup_ne (by decide)).trans ((zup_ne (by decide)).trans ((zup_ne (by decide)).trans ((zup_ne (by decide)).trans (zup_at)))) | exact (zup_ne (by decide)).trans ((zup_ne (by decide)).trans ((zup_ne (by decide)).trans ((zup_ne (by decide)).trans (by assumption)))) | exact (zup_ne (by decide)).trans ((zup_ne (by decide)).trans ((zup_ne (by decide)).trans ((zup_ne (by decide)).trans ((zup_ne (by decide)).trans (zup_at))))) | exact (zup_ne (by decide)).trans ((zup_ne (by decide)).trans ((zup_ne (by decide)).trans ((zup_ne (by decide)).trans ((zup_ne (by decide)).trans (by assumption)))))) rfl rfl (Nat.le_of_ble_eq_true rfl) rfl ?_
    refine q_iconst (pc := 187) dX8_gusts_187 ?_
    refine q_ireturn (pc := 188) dX8_gusts_188 rfl ?_
    first | exact zgm k (by unfold o_gusts; exact ((if_pos (by omega)).trans rfl)) ((zSame.up (by omega)).tr (zSame.up (by omega))) ((hC.o72 (zSame.up (by omega)) zup_at).o72 (zSame.up (by omega)) zup_at) | exact zgm k (by unfold o_gusts; exact ((if_neg (by omega)).trans rfl)) hs9 hC9
  refine q_aload_n (pc := 54) dX8_gusts_54 rfl rfl ?_
  refine q_invokevirtual (pc := 55) (d' := d - 1) (mc' := 0) (ms' := 0) (As := []) (TX8, 26) cl_X8_103 dX8_gusts_55 rfl rfl (by first | assumption | exact zup_at | exact (zup_ne (by decide)).trans (zup_at) | exact (zup_ne (by decide)).trans (by assumption) | exact (zup_ne (by decide)).trans ((zup_ne (by decide)).trans (zup_at)) | exact (zup_ne (by decide)).trans ((zup_ne (by decide)).trans (by assumption)) | exact (zup_ne (by decide)).trans ((zup_ne (by decide)).trans ((zup_ne (by decide)).trans (zup_at))) | exact (zup_ne (by decide)).trans ((zup_ne (by decide)).trans ((zup_ne (by decide)).trans (by assumption))) | exact (zup_ne (by decide)).trans ((zup_ne (by decide)).trans ((zup_ne (by decide)).trans ((zup_ne (by decide)).trans (zup_at)))) | exact (zup_ne (by decide)).trans ((zup_ne (by decide)).trans ((zup_ne (by decide)).trans ((zup_ne (by decide)).trans (by assumption)))) | exact (zup_ne (by decide)).trans ((zup_ne (by decide)).trans ((zup_ne (by decide)).trans ((zup_ne (by decide)).trans ((zup_ne (by decide)).trans (zup_at))))) | exact (zup_ne (by decide)).trans ((zup_ne (by decide)).trans ((zup_ne (by decide)).trans ((zup_ne (by decide)).trans ((zup_ne (by decide)).trans (by assumption)))))) rfl (by omega) rfl 0 0 (Nat.le_refl 0) (Nat.le_refl 0) ?_
  refine c_X8_bad hC (fun w9 hs9 hC9 => ?_)
  refine q_ireturn (pc := 58) dX8_gusts_58 rfl ?_
  first | exact zgm k (by unfold o_gusts; exact ((if_pos (by omega)).trans rfl)) ((zSame.up (by omega)).tr (zSame.up (by omega))) ((hC.o72 (zSame.up (by omega)) zup_at).o72 (zSame.up (by omega)) zup_at) | exact zgm k (by unfold o_gusts; exact ((if_neg (by omega)).trans rfl)) hs9 hC9
end X8J
