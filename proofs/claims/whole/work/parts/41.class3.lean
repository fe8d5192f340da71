/-! the class's own calls, those that change the store -/
section X7D
variable {g : zG} {d : Nat} {w : zWd} {K : Option Value → zWd → Prop} {S : zSt}
set_option maxRecDepth 100000 in
set_option maxHeartbeats 8000000 in
theorem c_X7_store {v : Int} (hd : 6 ≤ d) (hC : zCl g w S) (hO : zOKS S) (h_v : zR32 v) (k : ∀ w', zSame w w' 0 72 → zCl g w' (o_store S v).2 → K (some (zI (o_store S v).1)) w') : zCall g d 0 0 mX7_store [zR g 0, zI v] w K := by
  obtain ⟨hX, hS, hA, hB, hD, hI, hJ, hR, hT, hH⟩ := id hC
  have hO1 := hO.1
  have hO2 := hO1.1
  have hO3 := hO2.1
  refine zenter [some _, some _, none] pn_X7 rfl (Nat.le_of_ble_eq_true rfl) ?_
  refine q_iload_n (pc := 0) dX7_store_0 rfl ?_
  refine q_iconst (pc := 1) dX7_store_1 ?_
  refine q_bipush (pc := 2) (by decide) dX7_store_2 ?_
  refine q_invokestatic (pc := 4) (d' := d - 1) (mc' := 0) (ms' := 0) (As := [_, _, _]) cl_X7_62 dX7_store_4 rfl rfl (by omega) rfl 0 0 (Nat.le_refl 0) (Nat.le_refl 0) ?_
  refine c_X7_within (by omega) (by omega) (by omega) ?_
  refine q_ifb_ne (pc := 7) 15 dX7_store_7 rfl (fun c7 => ?_) (fun c7 => ?_)
  · refine q_aload_n (pc := 15) dX7_store_15 rfl rfl ?_
    refine q_getfield (pc := 16) gf_X7_10 dX7_store_16 (by first | assumption | exact hS.o | exact hS.s0 | exact hS.s1 | exact hS.s2 | exact hS.s3 | exact hS.s4 | exact hS.s5 | exact hS.s6 | exact hS2.o | exact hS2.s0 | exact hS2.s1 | exact hS2.s2 | exact hS2.s3 | exact hS2.s4 | exact hS2.s5 | exact hS2.s6 | exact hS3.o | exact hS3.s0 | exact hS3.s1 | exact hS3.s2 | exact hS3.s3 | exact hS3.s4 | exact hS3.s5 | exact hS3.s6) rfl ?_
    refine q_getfield (pc := 19) gf_X7_70 dX7_store_19 (by first | assumption | exact hS.o | exact hS.s0 | exact hS.s1 | exact hS.s2 | exact hS.s3 | exact hS.s4 | exact hS.s5 | exact hS.s6 | exact hS2.o | exact hS2.s0 | exact hS2.s1 | exact hS2.s2 | exact hS2.s3 | exact hS2.s4 | exact hS2.s5 | exact hS2.s6 | exact hS3.o | exact hS3.s0 | exact hS3.s1 | exact hS3.s2 | exact hS3.s3 | exact hS3.s4 | exact hS3.s5 | exact hS3.s6) rfl ?_
    refine q_getfield (pc := 22) gf_X7_74 dX7_store_22 (by first | assumption | exact hS.o | exact hS.s0 | exact hS.s1 | exact hS.s2 | exact hS.s3 | exact hS.s4 | exact hS.s5 | exact hS.s6 | exact hS2.o | exact hS2.s0 | exact hS2.s1 | exact hS2.s2 | exact hS2.s3 | exact hS2.s4 | exact hS2.s5 | exact hS2.s6 | exact hS3.o | exact hS3.s0 | exact hS3.s1 | exact hS3.s2 | exact hS3.s3 | exact hS3.s4 | exact hS3.s5 | exact hS3.s6) rfl ?_
    refine q_istore_n (pc := 25) [some _, some _, some _] dX7_store_25 rfl (Nat.le_of_ble_eq_true rfl) rfl ?_
    refine q_aload_n (pc := 26) dX7_store_26 rfl rfl ?_
    refine q_getfield (pc := 27) gf_X7_10 dX7_store_27 (by first | assumption | exact hS.o | exact hS.s0 | exact hS.s1 | exact hS.s2 | exact hS.s3 | exact hS.s4 | exact hS.s5 | exact hS.s6 | exact hS2.o | exact hS2.s0 | exact hS2.s1 | exact hS2.s2 | exact hS2.s3 | exact hS2.s4 | exact hS2.s5 | exact hS2.s6 | exact hS3.o | exact hS3.s0 | exact hS3.s1 | exact hS3.s2 | exact hS3.s3 | exact hS3.s4 | exact hS3.s5 | exact hS3.s6) rfl ?_
    refine q_iload_n (pc := 30) dX7_store_30 rfl ?_
    refine q_invokevirtual (pc := 31) (d' := d - 1) (mc' := 0) (ms' := 0) (As := [_]) (TX6, 9) cl_X7_80 dX7_store_31 rfl rfl (by first | assumption | exact hS.o | exact hS.s0 | exact hS.s1 | exact hS.s2 | exact hS.s3 | exact hS.s4 | exact hS.s5 | exact hS.s6 | exact hS2.o | exact hS2.s0 | exact hS2.s1 | exact hS2.s2 | exact hS2.s3 | exact hS2.s4 | exact hS2.s5 | exact hS2.s6 | exact hS3.o | exact hS3.s0 | exact hS3.s1 | exact hS3.s2 | exact hS3.s3 | exact hS3.s4 | exact hS3.s5 | exact hS3.s6) rfl (by omega) rfl 0 0 (Nat.le_refl 0) (Nat.le_refl 0) ?_
    refine c_X6_reset (by omega) hS.shp (fun w2 hs2 hS2 => ?_)
    refine q_iload_n (pc := 34) dX7_store_34 rfl ?_
    refine q_ireturn (pc := 35) dX7_store_35 rfl ?_
    first | exact zgo k (by unfold o_store; rw [if_pos (by omega)]) (hs2.wide (by omega) (by omega)) (hC.now hs2 (hS2 S.1.2.2)) | exact zgo k (by unfold o_store; rw [if_neg (by omega)]) hs9 hC9
  refine q_aload_n (pc := 10) dX7_store_10 rfl rfl ?_
  refine q_invokevirtual (pc := 11) (d' := d - 1) (mc' := 0) (ms' := 0) (As := []) (TX7, 15) cl_X7_66 dX7_store_11 rfl rfl (by first | assumption | exact hS.o | exact hS.s0 | exact hS.s1 | exact hS.s2 | exact hS.s3 | exact hS.s4 | exact hS.s5 | exact hS.s6 | exact hS2.o | exact hS2.s0 | exact hS2.s1 | exact hS2.s2 | exact hS2.s3 | exact hS2.s4 | exact hS2.s5 | exact hS2.s6 | exact hS3.o | exact hS3.s0 | exact hS3.s1 | exact hS3.s2 | exact hS3.s3 | exact hS3.s4 | exact hS3.s5 | exact hS3.s6) rfl (by omega) rfl 0 0 (Nat.le_refl 0) (Nat.le_refl 0) ?_
  refine c_X7_bad (by omega) hC (fun w9 hs9 hC9 => ?_)
  refine q_ireturn (pc := 14) dX7_store_14 rfl ?_
  first | exact zgo k (by unfold o_store; rw [if_pos (by omega)]) (hs2.wide (by omega) (by omega)) (hC.now hs2 (hS2 S.1.2.2)) | exact zgo k (by unfold o_store; rw [if_neg (by omega)]) hs9 hC9
set_option maxRecDepth 100000 in
set_option maxHeartbeats 8000000 in
theorem c_X7_cellar {kd st : Int} (hd : 6 ≤ d) (hC : zCl g w S) (hO : zOKS S) (h_kd : zR32 kd) (h_st : zR32 st) (k : ∀ w', zSame w w' 0 72 → zCl g w' (o_cellar S kd st).2 → K (some (zI (o_cellar S kd st).1)) w') : zCall g d 0 0 mX7_cellar [zR g 0, zI kd, zI st] w K := by
  obtain ⟨hX, hS, hA, hB, hD, hI, hJ, hR, hT, hH⟩ := id hC
  have hO1 := hO.1
  have hO2 := hO1.1
  have hO3 := hO2.1
  refine zenter [some _, some _, some _] pn_X7 rfl (Nat.le_of_ble_eq_true rfl) ?_
  refine q_iload_n (pc := 0) dX7_cellar_0 rfl ?_
  refine q_iconst (pc := 1) dX7_cellar_1 ?_
  refine q_iconst (pc := 2) dX7_cellar_2 ?_
  refine q_invokestatic (pc := 3) (d' := d - 1) (mc' := 0) (ms' := 0) (As := [_, _, _]) cl_X7_62 dX7_cellar_3 rfl rfl (by omega) rfl 0 0 (Nat.le_refl 0) (Nat.le_refl 0) ?_
  refine c_X7_within (by omega) (by omega) (by omega) ?_
  refine q_ifb_eq (pc := 6) 19 dX7_cellar_6 rfl (fun c6 => ?_) (fun c6 => ?_)
  · refine q_aload_n (pc := 19) dX7_cellar_19 rfl rfl ?_
    refine q_invokevirtual (pc := 20) (d' := d - 1) (mc' := 0) (ms' := 0) (As := []) (TX7, 15) cl_X7_66 dX7_cellar_20 rfl rfl (by first | assumption | exact hS.o | exact hS.s0 | exact hS.s1 | exact hS.s2 | exact hS.s3 | exact hS.s4 | exact hS.s5 | exact hS.s6 | exact hS2.o | exact hS2.s0 | exact hS2.s1 | exact hS2.s2 | exact hS2.s3 | exact hS2.s4 | exact hS2.s5 | exact hS2.s6 | exact hS3.o | exact hS3.s0 | exact hS3.s1 | exact hS3.s2 | exact hS3.s3 | exact hS3.s4 | exact hS3.s5 | exact hS3.s6) rfl (by omega) rfl 0 0 (Nat.le_refl 0) (Nat.le_refl 0) ?_
    refine c_X7_bad (by omega) hC (fun w9 hs9 hC9 => ?_)
    refine q_ireturn (pc := 23) dX7_cellar_23 rfl ?_
    first | exact zgo k (by unfold o_cellar; rw [if_pos (by omega), if_neg (by omega)]) ((hs2.tr hs3).wide (by omega) (by omega)) (hC.now (hs2.tr hs3) hS3) | exact zgo k (by unfold o_cellar; rw [if_pos (by omega), if_pos (by omega)]) hs9 hC9 | exact zgo k (by unfold o_cellar; rw [if_neg (by omega)]) hs9 hC9
  refine q_iload_n (pc := 9) dX7_cellar_9 rfl ?_
  refine q_iconst (pc := 10) dX7_cellar_10 ?_
  refine q_bipush (pc := 11) (by decide) dX7_cellar_11 ?_
  refine q_invokestatic (pc := 13) (d' := d - 1) (mc' := 0) (ms' := 0) (As := [_, _, _]) cl_X7_62 dX7_cellar_13 rfl rfl (by omega) rfl 0 0 (Nat.le_refl 0) (Nat.le_refl 0) ?_
  refine c_X7_within (by omega) (by omega) (by omega) ?_
  refine q_ifb_ne (pc := 16) 24 dX7_cellar_16 rfl (fun c16 => ?_) (fun c16 => ?_)
  · refine q_aload_n (pc := 24) dX7_cellar_24 rfl rfl ?_
    refine q_getfield (pc := 25) gf_X7_10 dX7_cellar_25 (by first | assumption | exact hS.o | exact hS.s0 | exact hS.s1 | exact hS.s2 | exact hS.s3 | exact hS.s4 | exact hS.s5 | exact hS.s6 | exact hS2.o | exact hS2.s0 | exact hS2.s1 | exact hS2.s2 | exact hS2.s3 | exact hS2.s4 | exact hS2.s5 | exact hS2.s6 | exact hS3.o | exact hS3.s0 | exact hS3.s1 | exact hS3.s2 | exact hS3.s3 | exact hS3.s4 | exact hS3.s5 | exact hS3.s6) rfl ?_
    refine q_getfield (pc := 28) gf_X7_70 dX7_cellar_28 (by first | assumption | exact hS.o | exact hS.s0 | exact hS.s1 | exact hS.s2 | exact hS.s3 | exact hS.s4 | exact hS.s5 | exact hS.s6 | exact hS2.o | exact hS2.s0 | exact hS2.s1 | exact hS2.s2 | exact hS2.s3 | exact hS2.s4 | exact hS2.s5 | exact hS2.s6 | exact hS3.o | exact hS3.s0 | exact hS3.s1 | exact hS3.s2 | exact hS3.s3 | exact hS3.s4 | exact hS3.s5 | exact hS3.s6) rfl ?_
    refine q_invokevirtual (pc := 31) (d' := d - 1) (mc' := 0) (ms' := 0) (As := []) (TX4, 4) cl_X7_84 dX7_cellar_31 rfl rfl (by first | assumption | exact hS.o | exact hS.s0 | exact hS.s1 | exact hS.s2 | exact hS.s3 | exact hS.s4 | exact hS.s5 | exact hS.s6 | exact hS2.o | exact hS2.s0 | exact hS2.s1 | exact hS2.s2 | exact hS2.s3 | exact hS2.s4 | exact hS2.s5 | exact hS2.s6 | exact hS3.o | exact hS3.s0 | exact hS3.s1 | exact hS3.s2 | exact hS3.s3 | exact hS3.s4 | exact hS3.s5 | exact hS3.s6) rfl (by omega) rfl 0 0 (Nat.le_refl 0) (Nat.le_refl 0) ?_
    first | refine s_full0 hS hO3 ?_ | refine s_full1 hS hO3 ?_ | refine s_full2 hS hO3 ?_ | refine s_full3 hS hO3 ?_ | refine s_full4 hS hO3 ?_ | refine s_full5 hS hO3 ?_
    refine q_ifb_eq (pc := 34) 42 dX7_cellar_34 rfl (fun c34 => ?_) (fun c34 => ?_)
    · refine q_aload_n (pc := 42) dX7_cellar_42 rfl rfl ?_
      refine q_getfield (pc := 43) gf_X7_10 dX7_cellar_43 (by first | assumption | exact hS.o | exact hS.s0 | exact hS.s1 | exact hS.s2 | exact hS.s3 | exact hS.s4 | exact hS.s5 | exact hS.s6 | exact hS2.o | exact hS2.s0 | exact hS2.s1 | exact hS2.s2 | exact hS2.s3 | exact hS2.s4 | exact hS2.s5 | exact hS2.s6 | exact hS3.o | exact hS3.s0 | exact hS3.s1 | exact hS3.s2 | exact hS3.s3 | exact hS3.s4 | exact hS3.s5 | exact hS3.s6) rfl ?_
      refine q_getfield (pc := 46) gf_X7_91 dX7_cellar_46 (by first | assumption | exact hS.o | exact hS.s0 | exact hS.s1 | exact hS.s2 | exact hS.s3 | exact hS.s4 | exact hS.s5 | exact hS.s6 | exact hS2.o | exact hS2.s0 | exact hS2.s1 | exact hS2.s2 | exact hS2.s3 | exact hS2.s4 | exact hS2.s5 | exact hS2.s6 | exact hS3.o | exact hS3.s0 | exact hS3.s1 | exact hS3.s2 | exact hS3.s3 | exact hS3.s4 | exact hS3.s5 | exact hS3.s6) rfl ?_
      refine q_invokevirtual (pc := 49) (d' := d - 1) (mc' := 0) (ms' := 0) (As := []) (TX4, 4) cl_X7_94 dX7_cellar_49 rfl rfl (by first | assumption | exact hS.o | exact hS.s0 | exact hS.s1 | exact hS.s2 | exact hS.s3 | exact hS.s4 | exact hS.s5 | exact hS.s6 | exact hS2.o | exact hS2.s0 | exact hS2.s1 | exact hS2.s2 | exact hS2.s3 | exact hS2.s4 | exact hS2.s5 | exact hS2.s6 | exact hS3.o | exact hS3.s0 | exact hS3.s1 | exact hS3.s2 | exact hS3.s3 | exact hS3.s4 | exact hS3.s5 | exact hS3.s6) rfl (by omega) rfl 0 0 (Nat.le_refl 0) (Nat.le_refl 0) ?_
      refine s_empty_past hS (fun w2 hs2 hS2 => ?_)
      have hX2 := (hs2.2 0 (by omega)).trans hX
      refine q_pop (pc := 52) rfl dX7_cellar_52 ?_
      refine q_aload_n (pc := 53) dX7_cellar_53 rfl rfl ?_
      refine q_getfield (pc := 54) gf_X7_10 dX7_cellar_54 (by first | assumption | exact hS.o | exact hS.s0 | exact hS.s1 | exact hS.s2 | exact hS.s3 | exact hS.s4 | exact hS.s5 | exact hS.s6 | exact hS2.o | exact hS2.s0 | exact hS2.s1 | exact hS2.s2 | exact hS2.s3 | exact hS2.s4 | exact hS2.s5 | exact hS2.s6 | exact hS3.o | exact hS3.s0 | exact hS3.s1 | exact hS3.s2 | exact hS3.s3 | exact hS3.s4 | exact hS3.s5 | exact hS3.s6) rfl ?_
      refine q_iload_n (pc := 57) dX7_cellar_57 rfl ?_
      refine q_iload_n (pc := 58) dX7_cellar_58 rfl ?_
      refine q_invokevirtual (pc := 59) (d' := d - 1) (mc' := 0) (ms' := 0) (As := [_, _]) (TX6, 9) cl_X7_97 dX7_cellar_59 rfl rfl (by first | assumption | exact hS.o | exact hS.s0 | exact hS.s1 | exact hS.s2 | exact hS.s3 | exact hS.s4 | exact hS.s5 | exact hS.s6 | exact hS2.o | exact hS2.s0 | exact hS2.s1 | exact hS2.s2 | exact hS2.s3 | exact hS2.s4 | exact hS2.s5 | exact hS2.s6 | exact hS3.o | exact hS3.s0 | exact hS3.s1 | exact hS3.s2 | exact hS3.s3 | exact hS3.s4 | exact hS3.s5 | exact hS3.s6) rfl (by omega) rfl 0 0 (Nat.le_refl 0) (Nat.le_refl 0) ?_
      refine c_X6_addCellar (by omega) hS2 hO2 (by omega) (fun w3 hs3 hS3 => ?_)
      refine q_ireturn (pc := 62) dX7_cellar_62 rfl ?_
      first | exact zgo k (by unfold o_cellar; rw [if_pos (by omega), if_neg (by omega)]) ((hs2.tr hs3).wide (by omega) (by omega)) (hC.now (hs2.tr hs3) hS3) | exact zgo k (by unfold o_cellar; rw [if_pos (by omega), if_pos (by omega)]) hs9 hC9 | exact zgo k (by unfold o_cellar; rw [if_neg (by omega)]) hs9 hC9
    refine q_aload_n (pc := 37) dX7_cellar_37 rfl rfl ?_
    refine q_invokevirtual (pc := 38) (d' := d - 1) (mc' := 0) (ms' := 0) (As := []) (TX7, 15) cl_X7_88 dX7_cellar_38 rfl rfl (by first | assumption | exact hS.o | exact hS.s0 | exact hS.s1 | exact hS.s2 | exact hS.s3 | exact hS.s4 | exact hS.s5 | exact hS.s6 | exact hS2.o | exact hS2.s0 | exact hS2.s1 | exact hS2.s2 | exact hS2.s3 | exact hS2.s4 | exact hS2.s5 | exact hS2.s6 | exact hS3.o | exact hS3.s0 | exact hS3.s1 | exact hS3.s2 | exact hS3.s3 | exact hS3.s4 | exact hS3.s5 | exact hS3.s6) rfl (by omega) rfl 0 0 (Nat.le_refl 0) (Nat.le_refl 0) ?_
    refine c_X7_full hC (fun w9 hs9 hC9 => ?_)
    refine q_ireturn (pc := 41) dX7_cellar_41 rfl ?_
    first | exact zgo k (by unfold o_cellar; rw [if_pos (by omega), if_neg (by omega)]) ((hs2.tr hs3).wide (by omega) (by omega)) (hC.now (hs2.tr hs3) hS3) | exact zgo k (by unfold o_cellar; rw [if_pos (by omega), if_pos (by omega)]) hs9 hC9 | exact zgo k (by unfold o_cellar; rw [if_neg (by omega)]) hs9 hC9
  refine q_aload_n (pc := 19) dX7_cellar_19 rfl rfl ?_
  refine q_invokevirtual (pc := 20) (d' := d - 1) (mc' := 0) (ms' := 0) (As := []) (TX7, 15) cl_X7_66 dX7_cellar_20 rfl rfl (by first | assumption | exact hS.o | exact hS.s0 | exact hS.s1 | exact hS.s2 | exact hS.s3 | exact hS.s4 | exact hS.s5 | exact hS.s6 | exact hS2.o | exact hS2.s0 | exact hS2.s1 | exact hS2.s2 | exact hS2.s3 | exact hS2.s4 | exact hS2.s5 | exact hS2.s6 | exact hS3.o | exact hS3.s0 | exact hS3.s1 | exact hS3.s2 | exact hS3.s3 | exact hS3.s4 | exact hS3.s5 | exact hS3.s6) rfl (by omega) rfl 0 0 (Nat.le_refl 0) (Nat.le_refl 0) ?_
  refine c_X7_bad (by omega) hC (fun w9 hs9 hC9 => ?_)
  refine q_ireturn (pc := 23) dX7_cellar_23 rfl ?_
  first | exact zgo k (by unfold o_cellar; rw [if_pos (by omega), if_neg (by omega)]) ((hs2.tr hs3).wide (by omega) (by omega)) (hC.now (hs2.tr hs3) hS3) | exact zgo k (by unfold o_cellar; rw [if_pos (by omega), if_pos (by omega)]) hs9 hC9 | exact zgo k (by unfold o_cellar; rw [if_neg (by omega)]) hs9 hC9
set_option maxRecDepth 100000 in
set_option maxHeartbeats 8000000 in
theorem c_X7_slinger {kd a : Int} (hd : 6 ≤ d) (hC : zCl g w S) (hO : zOKS S) (h_kd : zR32 kd) (h_a : zR32 a) (k : ∀ w', zSame w w' 0 72 → zCl g w' (o_slinger S kd a).2 → K (some (zI (o_slinger S kd a).1)) w') : zCall g d 0 0 mX7_slinger [zR g 0, zI kd, zI a] w K := by
  obtain ⟨hX, hS, hA, hB, hD, hI, hJ, hR, hT, hH⟩ := id hC
  have hO1 := hO.1
  have hO2 := hO1.1
  have hO3 := hO2.1
  refine zenter [some _, some _, some _] pn_X7 rfl (Nat.le_of_ble_eq_true rfl) ?_
  refine q_iload_n (pc := 0) dX7_slinger_0 rfl ?_
  refine q_iconst (pc := 1) dX7_slinger_1 ?_
  refine q_iconst (pc := 2) dX7_slinger_2 ?_
  refine q_invokestatic (pc := 3) (d' := d - 1) (mc' := 0) (ms' := 0) (As := [_, _, _]) cl_X7_62 dX7_slinger_3 rfl rfl (by omega) rfl 0 0 (Nat.le_refl 0) (Nat.le_refl 0) ?_
  refine c_X7_within (by omega) (by omega) (by omega) ?_
  refine q_ifb_eq (pc := 6) 19 dX7_slinger_6 rfl (fun c6 => ?_) (fun c6 => ?_)
  · refine q_aload_n (pc := 19) dX7_slinger_19 rfl rfl ?_
    refine q_invokevirtual (pc := 20) (d' := d - 1) (mc' := 0) (ms' := 0) (As := []) (TX7, 15) cl_X7_66 dX7_slinger_20 rfl rfl (by first | assumption | exact hS.o | exact hS.s0 | exact hS.s1 | exact hS.s2 | exact hS.s3 | exact hS.s4 | exact hS.s5 | exact hS.s6 | exact hS2.o | exact hS2.s0 | exact hS2.s1 | exact hS2.s2 | exact hS2.s3 | exact hS2.s4 | exact hS2.s5 | exact hS2.s6 | exact hS3.o | exact hS3.s0 | exact hS3.s1 | exact hS3.s2 | exact hS3.s3 | exact hS3.s4 | exact hS3.s5 | exact hS3.s6) rfl (by omega) rfl 0 0 (Nat.le_refl 0) (Nat.le_refl 0) ?_
    refine c_X7_bad (by omega) hC (fun w9 hs9 hC9 => ?_)
    refine q_ireturn (pc := 23) dX7_slinger_23 rfl ?_
    first | exact zgo k (by unfold o_slinger; rw [if_pos (by omega), if_neg (by omega)]) ((hs2.tr hs3).wide (by omega) (by omega)) (hC.now (hs2.tr hs3) hS3) | exact zgo k (by unfold o_slinger; rw [if_pos (by omega), if_pos (by omega)]) hs9 hC9 | exact zgo k (by unfold o_slinger; rw [if_neg (by omega)]) hs9 hC9
  refine q_iload_n (pc := 9) dX7_slinger_9 rfl ?_
  refine q_iconst (pc := 10) dX7_slinger_10 ?_
  refine q_bipush (pc := 11) (by decide) dX7_slinger_11 ?_
  refine q_invokestatic (pc := 13) (d' := d - 1) (mc' := 0) (ms' := 0) (As := [_, _, _]) cl_X7_62 dX7_slinger_13 rfl rfl (by omega) rfl 0 0 (Nat.le_refl 0) (Nat.le_refl 0) ?_
  refine c_X7_within (by omega) (by omega) (by omega) ?_
  refine q_ifb_ne (pc := 16) 24 dX7_slinger_16 rfl (fun c16 => ?_) (fun c16 => ?_)
  · refine q_aload_n (pc := 24) dX7_slinger_24 rfl rfl ?_
    refine q_getfield (pc := 25) gf_X7_10 dX7_slinger_25 (by first | assumption | exact hS.o | exact hS.s0 | exact hS.s1 | exact hS.s2 | exact hS.s3 | exact hS.s4 | exact hS.s5 | exact hS.s6 | exact hS2.o | exact hS2.s0 | exact hS2.s1 | exact hS2.s2 | exact hS2.s3 | exact hS2.s4 | exact hS2.s5 | exact hS2.s6 | exact hS3.o | exact hS3.s0 | exact hS3.s1 | exact hS3.s2 | exact hS3.s3 | exact hS3.s4 | exact hS3.s5 | exact hS3.s6) rfl ?_
    refine q_getfield (pc := 28) gf_X7_126 dX7_slinger_28 (by first | assumption | exact hS.o | exact hS.s0 | exact hS.s1 | exact hS.s2 | exact hS.s3 | exact hS.s4 | exact hS.s5 | exact hS.s6 | exact hS2.o | exact hS2.s0 | exact hS2.s1 | exact hS2.s2 | exact hS2.s3 | exact hS2.s4 | exact hS2.s5 | exact hS2.s6 | exact hS3.o | exact hS3.s0 | exact hS3.s1 | exact hS3.s2 | exact hS3.s3 | exact hS3.s4 | exact hS3.s5 | exact hS3.s6) rfl ?_
    refine q_invokevirtual (pc := 31) (d' := d - 1) (mc' := 0) (ms' := 0) (As := []) (TX4, 4) cl_X7_84 dX7_slinger_31 rfl rfl (by first | assumption | exact hS.o | exact hS.s0 | exact hS.s1 | exact hS.s2 | exact hS.s3 | exact hS.s4 | exact hS.s5 | exact hS.s6 | exact hS2.o | exact hS2.s0 | exact hS2.s1 | exact hS2.s2 | exact hS2.s3 | exact hS2.s4 | exact hS2.s5 | exact hS2.s6 | exact hS3.o | exact hS3.s0 | exact hS3.s1 | exact hS3.s2 | exact hS3.s3 | exact hS3.s4 | exact hS3.s5 | exact hS3.s6) rfl (by omega) rfl 0 0 (Nat.le_refl 0) (Nat.le_refl 0) ?_
    first | refine s_full0 hS hO3 ?_ | refine s_full1 hS hO3 ?_ | refine s_full2 hS hO3 ?_ | refine s_full3 hS hO3 ?_ | refine s_full4 hS hO3 ?_ | refine s_full5 hS hO3 ?_
    refine q_ifb_eq (pc := 34) 42 dX7_slinger_34 rfl (fun c34 => ?_) (fun c34 => ?_)
    · refine q_aload_n (pc := 42) dX7_slinger_42 rfl rfl ?_
      refine q_getfield (pc := 43) gf_X7_10 dX7_slinger_43 (by first | assumption | exact hS.o | exact hS.s0 | exact hS.s1 | exact hS.s2 | exact hS.s3 | exact hS.s4 | exact hS.s5 | exact hS.s6 | exact hS2.o | exact hS2.s0 | exact hS2.s1 | exact hS2.s2 | exact hS2.s3 | exact hS2.s4 | exact hS2.s5 | exact hS2.s6 | exact hS3.o | exact hS3.s0 | exact hS3.s1 | exact hS3.s2 | exact hS3.s3 | exact hS3.s4 | exact hS3.s5 | exact hS3.s6) rfl ?_
      refine q_getfield (pc := 46) gf_X7_91 dX7_slinger_46 (by first | assumption | exact hS.o | exact hS.s0 | exact hS.s1 | exact hS.s2 | exact hS.s3 | exact hS.s4 | exact hS.s5 | exact hS.s6 | exact hS2.o | exact hS2.s0 | exact hS2.s1 | exact hS2.s2 | exact hS2.s3 | exact hS2.s4 | exact hS2.s5 | exact hS2.s6 | exact hS3.o | exact hS3.s0 | exact hS3.s1 | exact hS3.s2 | exact hS3.s3 | exact hS3.s4 | exact hS3.s5 | exact hS3.s6) rfl ?_
      refine q_invokevirtual (pc := 49) (d' := d - 1) (mc' := 0) (ms' := 0) (As := []) (TX4, 4) cl_X7_94 dX7_slinger_49 rfl rfl (by first | assumption | exact hS.o | exact hS.s0 | exact hS.s1 | exact hS.s2 | exact hS.s3 | exact hS.s4 | exact hS.s5 | exact hS.s6 | exact hS2.o | exact hS2.s0 | exact hS2.s1 | exact hS2.s2 | exact hS2.s3 | exact hS2.s4 | exact hS2.s5 | exact hS2.s6 | exact hS3.o | exact hS3.s0 | exact hS3.s1 | exact hS3.s2 | exact hS3.s3 | exact hS3.s4 | exact hS3.s5 | exact hS3.s6) rfl (by omega) rfl 0 0 (Nat.le_refl 0) (Nat.le_refl 0) ?_
      refine s_empty_past hS (fun w2 hs2 hS2 => ?_)
      have hX2 := (hs2.2 0 (by omega)).trans hX
      refine q_pop (pc := 52) rfl dX7_slinger_52 ?_
      refine q_aload_n (pc := 53) dX7_slinger_53 rfl rfl ?_
      refine q_getfield (pc := 54) gf_X7_10 dX7_slinger_54 (by first | assumption | exact hS.o | exact hS.s0 | exact hS.s1 | exact hS.s2 | exact hS.s3 | exact hS.s4 | exact hS.s5 | exact hS.s6 | exact hS2.o | exact hS2.s0 | exact hS2.s1 | exact hS2.s2 | exact hS2.s3 | exact hS2.s4 | exact hS2.s5 | exact hS2.s6 | exact hS3.o | exact hS3.s0 | exact hS3.s1 | exact hS3.s2 | exact hS3.s3 | exact hS3.s4 | exact hS3.s5 | exact hS3.s6) rfl ?_
      refine q_iload_n (pc := 57) dX7_slinger_57 rfl ?_
      refine q_iload_n (pc := 58) dX7_slinger_58 rfl ?_
      refine q_invokevirtual (pc := 59) (d' := d - 1) (mc' := 0) (ms' := 0) (As := [_, _]) (TX6, 9) cl_X7_129 dX7_slinger_59 rfl rfl (by first | assumption | exact hS.o | exact hS.s0 | exact hS.s1 | exact hS.s2 | exact hS.s3 | exact hS.s4 | exact hS.s5 | exact hS.s6 | exact hS2.o | exact hS2.s0 | exact hS2.s1 | exact hS2.s2 | exact hS2.s3 | exact hS2.s4 | exact hS2.s5 | exact hS2.s6 | exact hS3.o | exact hS3.s0 | exact hS3.s1 | exact hS3.s2 | exact hS3.s3 | exact hS3.s4 | exact hS3.s5 | exact hS3.s6) rfl (by omega) rfl 0 0 (Nat.le_refl 0) (Nat.le_refl 0) ?_
      refine c_X6_addSlinger (by omega) hS2 hO2 (by omega) (fun w3 hs3 hS3 => ?_)
      refine q_ireturn (pc := 62) dX7_slinger_62 rfl ?_
      first | exact zgo k (by unfold o_slinger; rw [if_pos (by omega), if_neg (by omega)]) ((hs2.tr hs3).wide (by omega) (by omega)) (hC.now (hs2.tr hs3) hS3) | exact zgo k (by unfold o_slinger; rw [if_pos (by omega), if_pos (by omega)]) hs9 hC9 | exact zgo k (by unfold o_slinger; rw [if_neg (by omega)]) hs9 hC9
    refine q_aload_n (pc := 37) dX7_slinger_37 rfl rfl ?_
    refine q_invokevirtual (pc := 38) (d' := d - 1) (mc' := 0) (ms' := 0) (As := []) (TX7, 15) cl_X7_88 dX7_slinger_38 rfl rfl (by first | assumption | exact hS.o | exact hS.s0 | exact hS.s1 | exact hS.s2 | exact hS.s3 | exact hS.s4 | exact hS.s5 | exact hS.s6 | exact hS2.o | exact hS2.s0 | exact hS2.s1 | exact hS2.s2 | exact hS2.s3 | exact hS2.s4 | exact hS2.s5 | exact hS2.s6 | exact hS3.o | exact hS3.s0 | exact hS3.s1 | exact hS3.s2 | exact hS3.s3 | exact hS3.s4 | exact hS3.s5 | exact hS3.s6) rfl (by omega) rfl 0 0 (Nat.le_refl 0) (Nat.le_refl 0) ?_
    refine c_X7_full hC (fun w9 hs9 hC9 => ?_)
    refine q_ireturn (pc := 41) dX7_slinger_41 rfl ?_
    first | exact zgo k (by unfold o_slinger; rw [if_pos (by omega), if_neg (by omega)]) ((hs2.tr hs3).wide (by omega) (by omega)) (hC.now (hs2.tr hs3) hS3) | exact zgo k (by unfold o_slinger; rw [if_pos (by omega), if_pos (by omega)]) hs9 hC9 | exact zgo k (by unfold o_slinger; rw [if_neg (by omega)]) hs9 hC9
  refine q_aload_n (pc := 19) dX7_slinger_19 rfl rfl ?_
  refine q_invokevirtual (pc := 20) (d' := d - 1) (mc' := 0) (ms' := 0) (As := []) (TX7, 15) cl_X7_66 dX7_slinger_20 rfl rfl (by first | assumption | exact hS.o | exact hS.s0 | exact hS.s1 | exact hS.s2 | exact hS.s3 | exact hS.s4 | exact hS.s5 | exact hS.s6 | exact hS2.o | exact hS2.s0 | exact hS2.s1 | exact hS2.s2 | exact hS2.s3 | exact hS2.s4 | exact hS2.s5 | exact hS2.s6 | exact hS3.o | exact hS3.s0 | exact hS3.s1 | exact hS3.s2 | exact hS3.s3 | exact hS3.s4 | exact hS3.s5 | exact hS3.s6) rfl (by omega) rfl 0 0 (Nat.le_refl 0) (Nat.le_refl 0) ?_
  refine c_X7_bad (by omega) hC (fun w9 hs9 hC9 => ?_)
  refine q_ireturn (pc := 23) dX7_slinger_23 rfl ?_
  first | exact zgo k (by unfold o_slinger; rw [if_pos (by omega), if_neg (by omega)]) ((hs2.tr hs3).wide (by omega) (by omega)) (hC.now (hs2.tr hs3) hS3) | exact zgo k (by unfold o_slinger; rw [if_pos (by omega), if_pos (by omega)]) hs9 hC9 | exact zgo k (by unfold o_slinger; rw [if_neg (by omega)]) hs9 hC9
set_option maxRecDepth 100000 in
set_option maxHeartbeats 8000000 in
theorem c_X7_cloud {f n : Int} (hd : 6 ≤ d) (hC : zCl g w S) (hO : zOKS S) (h_f : zR32 f) (h_n : zR32 n) (k : ∀ w', zSame w w' 0 72 → zCl g w' (o_cloud S f n).2 → K (some (zI (o_cloud S f n).1)) w') : zCall g d 0 0 mX7_cloud [zR g 0, zI f, zI n] w K := by
  obtain ⟨hX, hS, hA, hB, hD, hI, hJ, hR, hT, hH⟩ := id hC
  have hO1 := hO.1
  have hO2 := hO1.1
  have hO3 := hO2.1
  refine zenter [some _, some _, some _] pn_X7 rfl (Nat.le_of_ble_eq_true rfl) ?_
  refine q_iload_n (pc := 0) dX7_cloud_0 rfl ?_
  refine q_iconst (pc := 1) dX7_cloud_1 ?_
  refine q_bipush (pc := 2) (by decide) dX7_cloud_2 ?_
  refine q_invokestatic (pc := 4) (d' := d - 1) (mc' := 0) (ms' := 0) (As := [_, _, _]) cl_X7_62 dX7_cloud_4 rfl rfl (by omega) rfl 0 0 (Nat.le_refl 0) (Nat.le_refl 0) ?_
  refine c_X7_within (by omega) (by omega) (by omega) ?_
  refine q_ifb_eq (pc := 7) 20 dX7_cloud_7 rfl (fun c7 => ?_) (fun c7 => ?_)
  · refine q_aload_n (pc := 20) dX7_cloud_20 rfl rfl ?_
    refine q_invokevirtual (pc := 21) (d' := d - 1) (mc' := 0) (ms' := 0) (As := []) (TX7, 15) cl_X7_66 dX7_cloud_21 rfl rfl (by first | assumption | exact hS.o | exact hS.s0 | exact hS.s1 | exact hS.s2 | exact hS.s3 | exact hS.s4 | exact hS.s5 | exact hS.s6 | exact hS2.o | exact hS2.s0 | exact hS2.s1 | exact hS2.s2 | exact hS2.s3 | exact hS2.s4 | exact hS2.s5 | exact hS2.s6 | exact hS3.o | exact hS3.s0 | exact hS3.s1 | exact hS3.s2 | exact hS3.s3 | exact hS3.s4 | exact hS3.s5 | exact hS3.s6) rfl (by omega) rfl 0 0 (Nat.le_refl 0) (Nat.le_refl 0) ?_
    refine c_X7_bad (by omega) hC (fun w9 hs9 hC9 => ?_)
    refine q_ireturn (pc := 24) dX7_cloud_24 rfl ?_
    first | exact zgo k (by unfold o_cloud; rw [if_pos (by omega), if_neg (by omega)]) ((hs2.tr hs3).wide (by omega) (by omega)) (hC.now (hs2.tr hs3) hS3) | exact zgo k (by unfold o_cloud; rw [if_pos (by omega), if_pos (by omega)]) hs9 hC9 | exact zgo k (by unfold o_cloud; rw [if_neg (by omega)]) hs9 hC9
  refine q_iload_n (pc := 10) dX7_cloud_10 rfl ?_
  refine q_iconst (pc := 11) dX7_cloud_11 ?_
  refine q_bipush (pc := 12) (by decide) dX7_cloud_12 ?_
  refine q_invokestatic (pc := 14) (d' := d - 1) (mc' := 0) (ms' := 0) (As := [_, _, _]) cl_X7_62 dX7_cloud_14 rfl rfl (by omega) rfl 0 0 (Nat.le_refl 0) (Nat.le_refl 0) ?_
  refine c_X7_within (by omega) (by omega) (by omega) ?_
  refine q_ifb_ne (pc := 17) 25 dX7_cloud_17 rfl (fun c17 => ?_) (fun c17 => ?_)
  · refine q_aload_n (pc := 25) dX7_cloud_25 rfl rfl ?_
    refine q_getfield (pc := 26) gf_X7_10 dX7_cloud_26 (by first | assumption | exact hS.o | exact hS.s0 | exact hS.s1 | exact hS.s2 | exact hS.s3 | exact hS.s4 | exact hS.s5 | exact hS.s6 | exact hS2.o | exact hS2.s0 | exact hS2.s1 | exact hS2.s2 | exact hS2.s3 | exact hS2.s4 | exact hS2.s5 | exact hS2.s6 | exact hS3.o | exact hS3.s0 | exact hS3.s1 | exact hS3.s2 | exact hS3.s3 | exact hS3.s4 | exact hS3.s5 | exact hS3.s6) rfl ?_
    refine q_getfield (pc := 29) gf_X7_132 dX7_cloud_29 (by first | assumption | exact hS.o | exact hS.s0 | exact hS.s1 | exact hS.s2 | exact hS.s3 | exact hS.s4 | exact hS.s5 | exact hS.s6 | exact hS2.o | exact hS2.s0 | exact hS2.s1 | exact hS2.s2 | exact hS2.s3 | exact hS2.s4 | exact hS2.s5 | exact hS2.s6 | exact hS3.o | exact hS3.s0 | exact hS3.s1 | exact hS3.s2 | exact hS3.s3 | exact hS3.s4 | exact hS3.s5 | exact hS3.s6) rfl ?_
    refine q_invokevirtual (pc := 32) (d' := d - 1) (mc' := 0) (ms' := 0) (As := []) (TX4, 4) cl_X7_84 dX7_cloud_32 rfl rfl (by first | assumption | exact hS.o | exact hS.s0 | exact hS.s1 | exact hS.s2 | exact hS.s3 | exact hS.s4 | exact hS.s5 | exact hS.s6 | exact hS2.o | exact hS2.s0 | exact hS2.s1 | exact hS2.s2 | exact hS2.s3 | exact hS2.s4 | exact hS2.s5 | exact hS2.s6 | exact hS3.o | exact hS3.s0 | exact hS3.s1 | exact hS3.s2 | exact hS3.s3 | exact hS3.s4 | exact hS3.s5 | exact hS3.s6) rfl (by omega) rfl 0 0 (Nat.le_refl 0) (Nat.le_refl 0) ?_
    first | refine s_full0 hS hO3 ?_ | refine s_full1 hS hO3 ?_ | refine s_full2 hS hO3 ?_ | refine s_full3 hS hO3 ?_ | refine s_full4 hS hO3 ?_ | refine s_full5 hS hO3 ?_
    refine q_ifb_eq (pc := 35) 43 dX7_cloud_35 rfl (fun c35 => ?_) (fun c35 => ?_)
    · refine q_aload_n (pc := 43) dX7_cloud_43 rfl rfl ?_
      refine q_getfield (pc := 44) gf_X7_10 dX7_cloud_44 (by first | assumption | exact hS.o | exact hS.s0 | exact hS.s1 | exact hS.s2 | exact hS.s3 | exact hS.s4 | exact hS.s5 | exact hS.s6 | exact hS2.o | exact hS2.s0 | exact hS2.s1 | exact hS2.s2 | exact hS2.s3 | exact hS2.s4 | exact hS2.s5 | exact hS2.s6 | exact hS3.o | exact hS3.s0 | exact hS3.s1 | exact hS3.s2 | exact hS3.s3 | exact hS3.s4 | exact hS3.s5 | exact hS3.s6) rfl ?_
      refine q_getfield (pc := 47) gf_X7_91 dX7_cloud_47 (by first | assumption | exact hS.o | exact hS.s0 | exact hS.s1 | exact hS.s2 | exact hS.s3 | exact hS.s4 | exact hS.s5 | exact hS.s6 | exact hS2.o | exact hS2.s0 | exact hS2.s1 | exact hS2.s2 | exact hS2.s3 | exact hS2.s4 | exact hS2.s5 | exact hS2.s6 | exact hS3.o | exact hS3.s0 | exact hS3.s1 | exact hS3.s2 | exact hS3.s3 | exact hS3.s4 | exact hS3.s5 | exact hS3.s6) rfl ?_
      refine q_invokevirtual (pc := 50) (d' := d - 1) (mc' := 0) (ms' := 0) (As := []) (TX4, 4) cl_X7_94 dX7_cloud_50 rfl rfl (by first | assumption | exact hS.o | exact hS.s0 | exact hS.s1 | exact hS.s2 | exact hS.s3 | exact hS.s4 | exact hS.s5 | exact hS.s6 | exact hS2.o | exact hS2.s0 | exact hS2.s1 | exact hS2.s2 | exact hS2.s3 | exact hS2.s4 | exact hS2.s5 | exact hS2.s6 | exact hS3.o | exact hS3.s0 | exact hS3.s1 | exact hS3.s2 | exact hS3.s3 | exact hS3.s4 | exact hS3.s5 | exact hS3.s6) rfl (by omega) rfl 0 0 (Nat.le_refl 0) (Nat.le_refl 0) ?_
      refine s_empty_past hS (fun w2 hs2 hS2 => ?_)
      have hX2 := (hs2.2 0 (by omega)).trans hX
      refine q_pop (pc := 53) rfl dX7_cloud_53 ?_
      refine q_aload_n (pc := 54) dX7_cloud_54 rfl rfl ?_
      refine q_getfield (pc := 55) gf_X7_10 dX7_cloud_55 (by first | assumption | exact hS.o | exact hS.s0 | exact hS.s1 | exact hS.s2 | exact hS.s3 | exact hS.s4 | exact hS.s5 | exact hS.s6 | exact hS2.o | exact hS2.s0 | exact hS2.s1 | exact hS2.s2 | exact hS2.s3 | exact hS2.s4 | exact hS2.s5 | exact hS2.s6 | exact hS3.o | exact hS3.s0 | exact hS3.s1 | exact hS3.s2 | exact hS3.s3 | exact hS3.s4 | exact hS3.s5 | exact hS3.s6) rfl ?_
      refine q_iload_n (pc := 58) dX7_cloud_58 rfl ?_
      refine q_iload_n (pc := 59) dX7_cloud_59 rfl ?_
      refine q_invokevirtual (pc := 60) (d' := d - 1) (mc' := 0) (ms' := 0) (As := [_, _]) (TX6, 9) cl_X7_135 dX7_cloud_60 rfl rfl (by first | assumption | exact hS.o | exact hS.s0 | exact hS.s1 | exact hS.s2 | exact hS.s3 | exact hS.s4 | exact hS.s5 | exact hS.s6 | exact hS2.o | exact hS2.s0 | exact hS2.s1 | exact hS2.s2 | exact hS2.s3 | exact hS2.s4 | exact hS2.s5 | exact hS2.s6 | exact hS3.o | exact hS3.s0 | exact hS3.s1 | exact hS3.s2 | exact hS3.s3 | exact hS3.s4 | exact hS3.s5 | exact hS3.s6) rfl (by omega) rfl 0 0 (Nat.le_refl 0) (Nat.le_refl 0) ?_
      refine c_X6_addCloud (by omega) hS2 hO2 (by omega) (fun w3 hs3 hS3 => ?_)
      refine q_ireturn (pc := 63) dX7_cloud_63 rfl ?_
      first | exact zgo k (by unfold o_cloud; rw [if_pos (by omega), if_neg (by omega)]) ((hs2.tr hs3).wide (by omega) (by omega)) (hC.now (hs2.tr hs3) hS3) | exact zgo k (by unfold o_cloud; rw [if_pos (by omega), if_pos (by omega)]) hs9 hC9 | exact zgo k (by unfold o_cloud; rw [if_neg (by omega)]) hs9 hC9
    refine q_aload_n (pc := 38) dX7_cloud_38 rfl rfl ?_
    refine q_invokevirtual (pc := 39) (d' := d - 1) (mc' := 0) (ms' := 0) (As := []) (TX7, 15) cl_X7_88 dX7_cloud_39 rfl rfl (by first | assumption | exact hS.o | exact hS.s0 | exact hS.s1 | exact hS.s2 | exact hS.s3 | exact hS.s4 | exact hS.s5 | exact hS.s6 | exact hS2.o | exact hS2.s0 | exact hS2.s1 | exact hS2.s2 | exact hS2.s3 | exact hS2.s4 | exact hS2.s5 | exact hS2.s6 | exact hS3.o | exact hS3.s0 | exact hS3.s1 | exact hS3.s2 | exact hS3.s3 | exact hS3.s4 | exact hS3.s5 | exact hS3.s6) rfl (by omega) rfl 0 0 (Nat.le_refl 0) (Nat.le_refl 0) ?_
    refine c_X7_full hC (fun w9 hs9 hC9 => ?_)
    refine q_ireturn (pc := 42) dX7_cloud_42 rfl ?_
    first | exact zgo k (by unfold o_cloud; rw [if_pos (by omega), if_neg (by omega)]) ((hs2.tr hs3).wide (by omega) (by omega)) (hC.now (hs2.tr hs3) hS3) | exact zgo k (by unfold o_cloud; rw [if_pos (by omega), if_pos (by omega)]) hs9 hC9 | exact zgo k (by unfold o_cloud; rw [if_neg (by omega)]) hs9 hC9
  refine q_aload_n (pc := 20) dX7_cloud_20 rfl rfl ?_
  refine q_invokevirtual (pc := 21) (d' := d - 1) (mc' := 0) (ms' := 0) (As := []) (TX7, 15) cl_X7_66 dX7_cloud_21 rfl rfl (by first | assumption | exact hS.o | exact hS.s0 | exact hS.s1 | exact hS.s2 | exact hS.s3 | exact hS.s4 | exact hS.s5 | exact hS.s6 | exact hS2.o | exact hS2.s0 | exact hS2.s1 | exact hS2.s2 | exact hS2.s3 | exact hS2.s4 | exact hS2.s5 | exact hS2.s6 | exact hS3.o | exact hS3.s0 | exact hS3.s1 | exact hS3.s2 | exact hS3.s3 | exact hS3.s4 | exact hS3.s5 | exact hS3.s6) rfl (by omega) rfl 0 0 (Nat.le_refl 0) (Nat.le_refl 0) ?_
  refine c_X7_bad (by omega) hC (fun w9 hs9 hC9 => ?_)
  refine q_ireturn (pc := 24) dX7_cloud_24 rfl ?_
  first | exact zgo k (by unfold o_cloud; rw [if_pos (by omega), if_neg (by omega)]) ((hs2.tr hs3).wide (by omega) (by omega)) (hC.now (hs2.tr hs3) hS3) | exact zgo k (by unfold o_cloud; rw [if_pos (by omega), if_pos (by omega)]) hs9 hC9 | exact zgo k (by unfold o_cloud; rw [if_neg (by omega)]) hs9 hC9
set_option maxRecDepth 100000 in
set_option maxHeartbeats 8000000 in
theorem c_X7_stones {c r n : Int} (hd : 6 ≤ d) (hC : zCl g w S) (hO : zOKS S) (h_c : zR32 c) (h_r : zR32 r) (h_n : zR32 n) (k : ∀ w', zSame w w' 0 72 → zCl g w' (o_stones S c r n).2 → K (some (zI (o_stones S c r n).1)) w') : zCall g d 0 0 mX7_stones [zR g 0, zI c, zI r, zI n] w K := by
  obtain ⟨hX, hS, hA, hB, hD, hI, hJ, hR, hT, hH⟩ := id hC
  have hO1 := hO.1
  have hO2 := hO1.1
  have hO3 := hO2.1
  refine zenter [some _, some _, some _, some _] pn_X7 rfl (Nat.le_of_ble_eq_true rfl) ?_
  refine q_aload_n (pc := 0) dX7_stones_0 rfl rfl ?_
  refine q_getfield (pc := 1) gf_X7_10 dX7_stones_1 (by first | assumption | exact hS.o | exact hS.s0 | exact hS.s1 | exact hS.s2 | exact hS.s3 | exact hS.s4 | exact hS.s5 | exact hS.s6 | exact hS2.o | exact hS2.s0 | exact hS2.s1 | exact hS2.s2 | exact hS2.s3 | exact hS2.s4 | exact hS2.s5 | exact hS2.s6 | exact hS3.o | exact hS3.s0 | exact hS3.s1 | exact hS3.s2 | exact hS3.s3 | exact hS3.s4 | exact hS3.s5 | exact hS3.s6) rfl ?_
  refine q_getfield (pc := 4) gf_X7_70 dX7_stones_4 (by first | assumption | exact hS.o | exact hS.s0 | exact hS.s1 | exact hS.s2 | exact hS.s3 | exact hS.s4 | exact hS.s5 | exact hS.s6 | exact hS2.o | exact hS2.s0 | exact hS2.s1 | exact hS2.s2 | exact hS2.s3 | exact hS2.s4 | exact hS2.s5 | exact hS2.s6 | exact hS3.o | exact hS3.s0 | exact hS3.s1 | exact hS3.s2 | exact hS3.s3 | exact hS3.s4 | exact hS3.s5 | exact hS3.s6) rfl ?_
  refine q_iload_n (pc := 7) dX7_stones_7 rfl ?_
  refine q_invokevirtual (pc := 8) (d' := d - 1) (mc' := 0) (ms' := 0) (As := [_]) (TX4, 4) cl_X7_101 dX7_stones_8 rfl rfl (by first | assumption | exact hS.o | exact hS.s0 | exact hS.s1 | exact hS.s2 | exact hS.s3 | exact hS.s4 | exact hS.s5 | exact hS.s6 | exact hS2.o | exact hS2.s0 | exact hS2.s1 | exact hS2.s2 | exact hS2.s3 | exact hS2.s4 | exact hS2.s5 | exact hS2.s6 | exact hS3.o | exact hS3.s0 | exact hS3.s1 | exact hS3.s2 | exact hS3.s3 | exact hS3.s4 | exact hS3.s5 | exact hS3.s6) rfl (by omega) rfl 0 0 (Nat.le_refl 0) (Nat.le_refl 0) ?_
  first | refine s_hold0 hS hO3 (by omega) ?_ | refine s_hold1 hS hO3 (by omega) ?_ | refine s_hold2 hS hO3 (by omega) ?_ | refine s_hold3 hS hO3 (by omega) ?_
  refine q_ifb_eq (pc := 11) 31 dX7_stones_11 rfl (fun c11 => ?_) (fun c11 => ?_)
  · refine q_aload_n (pc := 31) dX7_stones_31 rfl rfl ?_
    refine q_invokevirtual (pc := 32) (d' := d - 1) (mc' := 0) (ms' := 0) (As := []) (TX7, 15) cl_X7_66 dX7_stones_32 rfl rfl (by first | assumption | exact hS.o | exact hS.s0 | exact hS.s1 | exact hS.s2 | exact hS.s3 | exact hS.s4 | exact hS.s5 | exact hS.s6 | exact hS2.o | exact hS2.s0 | exact hS2.s1 | exact hS2.s2 | exact hS2.s3 | exact hS2.s4 | exact hS2.s5 | exact hS2.s6 | exact hS3.o | exact hS3.s0 | exact hS3.s1 | exact hS3.s2 | exact hS3.s3 | exact hS3.s4 | exact hS3.s5 | exact hS3.s6) rfl (by omega) rfl 0 0 (Nat.le_refl 0) (Nat.le_refl 0) ?_
    refine c_X7_bad (by omega) hC (fun w9 hs9 hC9 => ?_)
    refine q_ireturn (pc := 35) dX7_stones_35 rfl ?_
    first | exact zgo k (by unfold o_stones; rw [if_pos (by omega)]) ((hs2.tr hs3).wide (by omega) (by omega)) (hC.now (hs2.tr hs3) hS3) | exact zgo k (by unfold o_stones; rw [if_neg (by omega)]) hs9 hC9
  refine q_iload_n (pc := 14) dX7_stones_14 rfl ?_
  refine q_invokestatic (pc := 15) (d' := d - 1) (mc' := 0) (ms' := 0) (As := [_]) cl_X7_105 dX7_stones_15 rfl rfl (by omega) rfl 0 0 (Nat.le_refl 0) (Nat.le_refl 0) ?_
  refine c_X7_isRings (by omega) (by omega) ?_
  refine q_ifb_eq (pc := 18) 31 dX7_stones_18 rfl (fun c18 => ?_) (fun c18 => ?_)
  · refine q_aload_n (pc := 31) dX7_stones_31 rfl rfl ?_
    refine q_invokevirtual (pc := 32) (d' := d - 1) (mc' := 0) (ms' := 0) (As := []) (TX7, 15) cl_X7_66 dX7_stones_32 rfl rfl (by first | assumption | exact hS.o | exact hS.s0 | exact hS.s1 | exact hS.s2 | exact hS.s3 | exact hS.s4 | exact hS.s5 | exact hS.s6 | exact hS2.o | exact hS2.s0 | exact hS2.s1 | exact hS2.s2 | exact hS2.s3 | exact hS2.s4 | exact hS2.s5 | exact hS2.s6 | exact hS3.o | exact hS3.s0 | exact hS3.s1 | exact hS3.s2 | exact hS3.s3 | exact hS3.s4 | exact hS3.s5 | exact hS3.s6) rfl (by omega) rfl 0 0 (Nat.le_refl 0) (Nat.le_refl 0) ?_
    refine c_X7_bad (by omega) hC (fun w9 hs9 hC9 => ?_)
    refine q_ireturn (pc := 35) dX7_stones_35 rfl ?_
    first | exact zgo k (by unfold o_stones; rw [if_pos (by omega)]) ((hs2.tr hs3).wide (by omega) (by omega)) (hC.now (hs2.tr hs3) hS3) | exact zgo k (by unfold o_stones; rw [if_neg (by omega)]) hs9 hC9
  refine q_iload_n (pc := 21) dX7_stones_21 rfl ?_
  refine q_iconst (pc := 22) dX7_stones_22 ?_
  refine q_bipush (pc := 23) (by decide) dX7_stones_23 ?_
  refine q_invokestatic (pc := 25) (d' := d - 1) (mc' := 0) (ms' := 0) (As := [_, _, _]) cl_X7_62 dX7_stones_25 rfl rfl (by omega) rfl 0 0 (Nat.le_refl 0) (Nat.le_refl 0) ?_
  refine c_X7_within (by omega) (by omega) (by omega) ?_
  refine q_ifb_ne (pc := 28) 36 dX7_stones_28 rfl (fun c28 => ?_) (fun c28 => ?_)
  · refine q_aload_n (pc := 36) dX7_stones_36 rfl rfl ?_
    refine q_getfield (pc := 37) gf_X7_10 dX7_stones_37 (by first | assumption | exact hS.o | exact hS.s0 | exact hS.s1 | exact hS.s2 | exact hS.s3 | exact hS.s4 | exact hS.s5 | exact hS.s6 | exact hS2.o | exact hS2.s0 | exact hS2.s1 | exact hS2.s2 | exact hS2.s3 | exact hS2.s4 | exact hS2.s5 | exact hS2.s6 | exact hS3.o | exact hS3.s0 | exact hS3.s1 | exact hS3.s2 | exact hS3.s3 | exact hS3.s4 | exact hS3.s5 | exact hS3.s6) rfl ?_
    refine q_getfield (pc := 40) gf_X7_91 dX7_stones_40 (by first | assumption | exact hS.o | exact hS.s0 | exact hS.s1 | exact hS.s2 | exact hS.s3 | exact hS.s4 | exact hS.s5 | exact hS.s6 | exact hS2.o | exact hS2.s0 | exact hS2.s1 | exact hS2.s2 | exact hS2.s3 | exact hS2.s4 | exact hS2.s5 | exact hS2.s6 | exact hS3.o | exact hS3.s0 | exact hS3.s1 | exact hS3.s2 | exact hS3.s3 | exact hS3.s4 | exact hS3.s5 | exact hS3.s6) rfl ?_
    refine q_invokevirtual (pc := 43) (d' := d - 1) (mc' := 0) (ms' := 0) (As := []) (TX4, 4) cl_X7_94 dX7_stones_43 rfl rfl (by first | assumption | exact hS.o | exact hS.s0 | exact hS.s1 | exact hS.s2 | exact hS.s3 | exact hS.s4 | exact hS.s5 | exact hS.s6 | exact hS2.o | exact hS2.s0 | exact hS2.s1 | exact hS2.s2 | exact hS2.s3 | exact hS2.s4 | exact hS2.s5 | exact hS2.s6 | exact hS3.o | exact hS3.s0 | exact hS3.s1 | exact hS3.s2 | exact hS3.s3 | exact hS3.s4 | exact hS3.s5 | exact hS3.s6) rfl (by omega) rfl 0 0 (Nat.le_refl 0) (Nat.le_refl 0) ?_
    refine s_empty_past hS (fun w2 hs2 hS2 => ?_)
    have hX2 := (hs2.2 0 (by omega)).trans hX
    refine q_pop (pc := 46) rfl dX7_stones_46 ?_
    refine q_aload_n (pc := 47) dX7_stones_47 rfl rfl ?_
    refine q_getfield (pc := 48) gf_X7_10 dX7_stones_48 (by first | assumption | exact hS.o | exact hS.s0 | exact hS.s1 | exact hS.s2 | exact hS.s3 | exact hS.s4 | exact hS.s5 | exact hS.s6 | exact hS2.o | exact hS2.s0 | exact hS2.s1 | exact hS2.s2 | exact hS2.s3 | exact hS2.s4 | exact hS2.s5 | exact hS2.s6 | exact hS3.o | exact hS3.s0 | exact hS3.s1 | exact hS3.s2 | exact hS3.s3 | exact hS3.s4 | exact hS3.s5 | exact hS3.s6) rfl ?_
    refine q_iload_n (pc := 51) dX7_stones_51 rfl ?_
    refine q_iload_n (pc := 52) dX7_stones_52 rfl ?_
    refine q_bipush (pc := 53) (by decide) dX7_stones_53 ?_
    refine q_aload_n (pc := 55) dX7_stones_55 rfl rfl ?_
    refine q_getfield (pc := 56) gf_X7_10 dX7_stones_56 (by first | assumption | exact hS.o | exact hS.s0 | exact hS.s1 | exact hS.s2 | exact hS.s3 | exact hS.s4 | exact hS.s5 | exact hS.s6 | exact hS2.o | exact hS2.s0 | exact hS2.s1 | exact hS2.s2 | exact hS2.s3 | exact hS2.s4 | exact hS2.s5 | exact hS2.s6 | exact hS3.o | exact hS3.s0 | exact hS3.s1 | exact hS3.s2 | exact hS3.s3 | exact hS3.s4 | exact hS3.s5 | exact hS3.s6) rfl ?_
    refine q_iload_n (pc := 59) dX7_stones_59 rfl ?_
    refine q_iload_n (pc := 60) dX7_stones_60 rfl ?_
    refine q_invokevirtual (pc := 61) (d' := d - 1) (mc' := 0) (ms' := 0) (As := [_, _]) (TX6, 9) cl_X7_108 dX7_stones_61 rfl rfl (by first | assumption | exact hS.o | exact hS.s0 | exact hS.s1 | exact hS.s2 | exact hS.s3 | exact hS.s4 | exact hS.s5 | exact hS.s6 | exact hS2.o | exact hS2.s0 | exact hS2.s1 | exact hS2.s2 | exact hS2.s3 | exact hS2.s4 | exact hS2.s5 | exact hS2.s6 | exact hS3.o | exact hS3.s0 | exact hS3.s1 | exact hS3.s2 | exact hS3.s3 | exact hS3.s4 | exact hS3.s5 | exact hS3.s6) rfl (by omega) rfl 0 0 (Nat.le_refl 0) (Nat.le_refl 0) ?_
    refine c_X6_stonesOf (by omega) hS2 hO3 (by omega) (by omega) ?_
    have hb1 := (hO2.2.2.1 c r (by omega) (by omega) (by omega) (by omega)).1
    refine q_iload_n (pc := 64) dX7_stones_64 rfl ?_
    refine q_iadd (pc := 65) dX7_stones_65 ?_
    refine q_min (pc := 66) tw_2_66 tw_2_67 tw_1_4 tw_2_68 dX7_stones_66 (by omega) rfl (by omega) (by omega) ?_
    refine q_invokevirtual (pc := 69) (d' := d - 1) (mc' := 0) (ms' := 0) (As := [_, _, _]) (TX6, 9) cl_X7_116 dX7_stones_69 rfl rfl (by first | assumption | exact hS.o | exact hS.s0 | exact hS.s1 | exact hS.s2 | exact hS.s3 | exact hS.s4 | exact hS.s5 | exact hS.s6 | exact hS2.o | exact hS2.s0 | exact hS2.s1 | exact hS2.s2 | exact hS2.s3 | exact hS2.s4 | exact hS2.s5 | exact hS2.s6 | exact hS3.o | exact hS3.s0 | exact hS3.s1 | exact hS3.s2 | exact hS3.s3 | exact hS3.s4 | exact hS3.s5 | exact hS3.s6) rfl (by omega) rfl 0 0 (Nat.le_refl 0) (Nat.le_refl 0) ?_
    refine c_X6_putStones (by omega) hS2 hO3 (by omega) (by omega) (fun w3 hs3 hS3 => ?_)
    have hX3 := (hs3.2 0 (by omega)).trans hX2
    have hO4 := zput_ok hO2 (c := c) (r := r) (v := min 99 (S.1.1 (18 + 10 * c + r) + n)) (by omega) (by omega) (by omega)
    have e0 : zfu S.1.1 (18 + 10 * c + r) (min 99 (S.1.1 (18 + 10 * c + r) + n)) 0 = S.1.1 0 := if_neg (by omega)
    refine q_aload_n (pc := 72) dX7_stones_72 rfl rfl ?_
    refine q_getfield (pc := 73) gf_X7_10 dX7_stones_73 (by first | assumption | exact hS.o | exact hS.s0 | exact hS.s1 | exact hS.s2 | exact hS.s3 | exact hS.s4 | exact hS.s5 | exact hS.s6 | exact hS2.o | exact hS2.s0 | exact hS2.s1 | exact hS2.s2 | exact hS2.s3 | exact hS2.s4 | exact hS2.s5 | exact hS2.s6 | exact hS3.o | exact hS3.s0 | exact hS3.s1 | exact hS3.s2 | exact hS3.s3 | exact hS3.s4 | exact hS3.s5 | exact hS3.s6) rfl ?_
    refine q_iload_n (pc := 76) dX7_stones_76 rfl ?_
    refine q_iload_n (pc := 77) dX7_stones_77 rfl ?_
    refine q_invokevirtual (pc := 78) (d' := d - 1) (mc' := 0) (ms' := 0) (As := [_, _]) (TX6, 9) cl_X7_108 dX7_stones_78 rfl rfl (by first | assumption | exact hS.o | exact hS.s0 | exact hS.s1 | exact hS.s2 | exact hS.s3 | exact hS.s4 | exact hS.s5 | exact hS.s6 | exact hS2.o | exact hS2.s0 | exact hS2.s1 | exact hS2.s2 | exact hS2.s3 | exact hS2.s4 | exact hS2.s5 | exact hS2.s6 | exact hS3.o | exact hS3.s0 | exact hS3.s1 | exact hS3.s2 | exact hS3.s3 | exact hS3.s4 | exact hS3.s5 | exact hS3.s6) rfl (by omega) rfl 0 0 (Nat.le_refl 0) (Nat.le_refl 0) ?_
    refine c_X6_stonesOf (by omega) hS3 hO4.1 (by rw [e0]; omega) (by omega) ?_
    rw [zfu_at]
    refine q_ireturn (pc := 81) dX7_stones_81 rfl ?_
    first | exact zgo k (by unfold o_stones; rw [if_pos (by omega)]) ((hs2.tr hs3).wide (by omega) (by omega)) (hC.now (hs2.tr hs3) hS3) | exact zgo k (by unfold o_stones; rw [if_neg (by omega)]) hs9 hC9
  refine q_aload_n (pc := 31) dX7_stones_31 rfl rfl ?_
  refine q_invokevirtual (pc := 32) (d' := d - 1) (mc' := 0) (ms' := 0) (As := []) (TX7, 15) cl_X7_66 dX7_stones_32 rfl rfl (by first | assumption | exact hS.o | exact hS.s0 | exact hS.s1 | exact hS.s2 | exact hS.s3 | exact hS.s4 | exact hS.s5 | exact hS.s6 | exact hS2.o | exact hS2.s0 | exact hS2.s1 | exact hS2.s2 | exact hS2.s3 | exact hS2.s4 | exact hS2.s5 | exact hS2.s6 | exact hS3.o | exact hS3.s0 | exact hS3.s1 | exact hS3.s2 | exact hS3.s3 | exact hS3.s4 | exact hS3.s5 | exact hS3.s6) rfl (by omega) rfl 0 0 (Nat.le_refl 0) (Nat.le_refl 0) ?_
  refine c_X7_bad (by omega) hC (fun w9 hs9 hC9 => ?_)
  refine q_ireturn (pc := 35) dX7_stones_35 rfl ?_
  first | exact zgo k (by unfold o_stones; rw [if_pos (by omega)]) ((hs2.tr hs3).wide (by omega) (by omega)) (hC.now (hs2.tr hs3) hS3) | exact zgo k (by unfold o_stones; rw [if_neg (by omega)]) hs9 hC9
set_option maxRecDepth 100000 in
set_option maxHeartbeats 8000000 in
theorem c_X7_straw {c s : Int} (hd : 6 ≤ d) (hC : zCl g w S) (hO : zOKS S) (h_c : zR32 c) (h_s : zR32 s) (k : ∀ w', zSame w w' 0 72 → zCl g w' (o_straw S c s).2 → K (some (zI (o_straw S c s).1)) w') : zCall g d 0 0 mX7_straw [zR g 0, zI c, zI s] w K := by
  obtain ⟨hX, hS, hA, hB, hD, hI, hJ, hR, hT, hH⟩ := id hC
  have hO1 := hO.1
  have hO2 := hO1.1
  have hO3 := hO2.1
  refine zenter [some _, some _, some _, none] pn_X7 rfl (Nat.le_of_ble_eq_true rfl) ?_
  refine q_aload_n (pc := 0) dX7_straw_0 rfl rfl ?_
  refine q_getfield (pc := 1) gf_X7_10 dX7_straw_1 (by first | assumption | exact hS.o | exact hS.s0 | exact hS.s1 | exact hS.s2 | exact hS.s3 | exact hS.s4 | exact hS.s5 | exact hS.s6 | exact hS2.o | exact hS2.s0 | exact hS2.s1 | exact hS2.s2 | exact hS2.s3 | exact hS2.s4 | exact hS2.s5 | exact hS2.s6 | exact hS3.o | exact hS3.s0 | exact hS3.s1 | exact hS3.s2 | exact hS3.s3 | exact hS3.s4 | exact hS3.s5 | exact hS3.s6) rfl ?_
  refine q_getfield (pc := 4) gf_X7_70 dX7_straw_4 (by first | assumption | exact hS.o | exact hS.s0 | exact hS.s1 | exact hS.s2 | exact hS.s3 | exact hS.s4 | exact hS.s5 | exact hS.s6 | exact hS2.o | exact hS2.s0 | exact hS2.s1 | exact hS2.s2 | exact hS2.s3 | exact hS2.s4 | exact hS2.s5 | exact hS2.s6 | exact hS3.o | exact hS3.s0 | exact hS3.s1 | exact hS3.s2 | exact hS3.s3 | exact hS3.s4 | exact hS3.s5 | exact hS3.s6) rfl ?_
  refine q_iload_n (pc := 7) dX7_straw_7 rfl ?_
  refine q_invokevirtual (pc := 8) (d' := d - 1) (mc' := 0) (ms' := 0) (As := [_]) (TX4, 4) cl_X7_101 dX7_straw_8 rfl rfl (by first | assumption | exact hS.o | exact hS.s0 | exact hS.s1 | exact hS.s2 | exact hS.s3 | exact hS.s4 | exact hS.s5 | exact hS.s6 | exact hS2.o | exact hS2.s0 | exact hS2.s1 | exact hS2.s2 | exact hS2.s3 | exact hS2.s4 | exact hS2.s5 | exact hS2.s6 | exact hS3.o | exact hS3.s0 | exact hS3.s1 | exact hS3.s2 | exact hS3.s3 | exact hS3.s4 | exact hS3.s5 | exact hS3.s6) rfl (by omega) rfl 0 0 (Nat.le_refl 0) (Nat.le_refl 0) ?_
  first | refine s_hold0 hS hO3 (by omega) ?_ | refine s_hold1 hS hO3 (by omega) ?_ | refine s_hold2 hS hO3 (by omega) ?_ | refine s_hold3 hS hO3 (by omega) ?_
  refine q_ifb_eq (pc := 11) 24 dX7_straw_11 rfl (fun c11 => ?_) (fun c11 => ?_)
  · refine q_aload_n (pc := 24) dX7_straw_24 rfl rfl ?_
    refine q_invokevirtual (pc := 25) (d' := d - 1) (mc' := 0) (ms' := 0) (As := []) (TX7, 15) cl_X7_66 dX7_straw_25 rfl rfl (by first | assumption | exact hS.o | exact hS.s0 | exact hS.s1 | exact hS.s2 | exact hS.s3 | exact hS.s4 | exact hS.s5 | exact hS.s6 | exact hS2.o | exact hS2.s0 | exact hS2.s1 | exact hS2.s2 | exact hS2.s3 | exact hS2.s4 | exact hS2.s5 | exact hS2.s6 | exact hS3.o | exact hS3.s0 | exact hS3.s1 | exact hS3.s2 | exact hS3.s3 | exact hS3.s4 | exact hS3.s5 | exact hS3.s6) rfl (by omega) rfl 0 0 (Nat.le_refl 0) (Nat.le_refl 0) ?_
    refine c_X7_bad (by omega) hC (fun w9 hs9 hC9 => ?_)
    refine q_ireturn (pc := 28) dX7_straw_28 rfl ?_
    first | exact zgo k (by unfold o_straw; rw [if_pos (by omega)]) ((hs2.tr hs3).wide (by omega) (by omega)) (hC.now (hs2.tr hs3) hS3) | exact zgo k (by unfold o_straw; rw [if_neg (by omega)]) hs9 hC9
  refine q_iload_n (pc := 14) dX7_straw_14 rfl ?_
  refine q_iconst (pc := 15) dX7_straw_15 ?_
  refine q_bipush (pc := 16) (by decide) dX7_straw_16 ?_
  refine q_invokestatic (pc := 18) (d' := d - 1) (mc' := 0) (ms' := 0) (As := [_, _, _]) cl_X7_62 dX7_straw_18 rfl rfl (by omega) rfl 0 0 (Nat.le_refl 0) (Nat.le_refl 0) ?_
  refine c_X7_within (by omega) (by omega) (by omega) ?_
  refine q_ifb_ne (pc := 21) 29 dX7_straw_21 rfl (fun c21 => ?_) (fun c21 => ?_)
  · refine q_aload_n (pc := 29) dX7_straw_29 rfl rfl ?_
    refine q_getfield (pc := 30) gf_X7_10 dX7_straw_30 (by first | assumption | exact hS.o | exact hS.s0 | exact hS.s1 | exact hS.s2 | exact hS.s3 | exact hS.s4 | exact hS.s5 | exact hS.s6 | exact hS2.o | exact hS2.s0 | exact hS2.s1 | exact hS2.s2 | exact hS2.s3 | exact hS2.s4 | exact hS2.s5 | exact hS2.s6 | exact hS3.o | exact hS3.s0 | exact hS3.s1 | exact hS3.s2 | exact hS3.s3 | exact hS3.s4 | exact hS3.s5 | exact hS3.s6) rfl ?_
    refine q_getfield (pc := 33) gf_X7_70 dX7_straw_33 (by first | assumption | exact hS.o | exact hS.s0 | exact hS.s1 | exact hS.s2 | exact hS.s3 | exact hS.s4 | exact hS.s5 | exact hS.s6 | exact hS2.o | exact hS2.s0 | exact hS2.s1 | exact hS2.s2 | exact hS2.s3 | exact hS2.s4 | exact hS2.s5 | exact hS2.s6 | exact hS3.o | exact hS3.s0 | exact hS3.s1 | exact hS3.s2 | exact hS3.s3 | exact hS3.s4 | exact hS3.s5 | exact hS3.s6) rfl ?_
    refine q_iload_n (pc := 36) dX7_straw_36 rfl ?_
    refine q_iconst (pc := 37) dX7_straw_37 ?_
    refine q_invokevirtual (pc := 38) (d' := d - 1) (mc' := 0) (ms' := 0) (As := [_, _]) (TX4, 4) cl_X7_120 dX7_straw_38 rfl rfl (by first | assumption | exact hS.o | exact hS.s0 | exact hS.s1 | exact hS.s2 | exact hS.s3 | exact hS.s4 | exact hS.s5 | exact hS.s6 | exact hS2.o | exact hS2.s0 | exact hS2.s1 | exact hS2.s2 | exact hS2.s3 | exact hS2.s4 | exact hS2.s5 | exact hS2.s6 | exact hS3.o | exact hS3.s0 | exact hS3.s1 | exact hS3.s2 | exact hS3.s3 | exact hS3.s4 | exact hS3.s5 | exact hS3.s6) rfl (by omega) rfl 0 0 (Nat.le_refl 0) (Nat.le_refl 0) ?_
    refine s_get_straw (by omega) hS hO3 (by omega) ?_
    refine q_istore_n (pc := 41) [some _, some _, some _, some _] dX7_straw_41 rfl (Nat.le_of_ble_eq_true rfl) rfl ?_
    refine q_aload_n (pc := 42) dX7_straw_42 rfl rfl ?_
    refine q_getfield (pc := 43) gf_X7_10 dX7_straw_43 (by first | assumption | exact hS.o | exact hS.s0 | exact hS.s1 | exact hS.s2 | exact hS.s3 | exact hS.s4 | exact hS.s5 | exact hS.s6 | exact hS2.o | exact hS2.s0 | exact hS2.s1 | exact hS2.s2 | exact hS2.s3 | exact hS2.s4 | exact hS2.s5 | exact hS2.s6 | exact hS3.o | exact hS3.s0 | exact hS3.s1 | exact hS3.s2 | exact hS3.s3 | exact hS3.s4 | exact hS3.s5 | exact hS3.s6) rfl ?_
    refine q_getfield (pc := 46) gf_X7_91 dX7_straw_46 (by first | assumption | exact hS.o | exact hS.s0 | exact hS.s1 | exact hS.s2 | exact hS.s3 | exact hS.s4 | exact hS.s5 | exact hS.s6 | exact hS2.o | exact hS2.s0 | exact hS2.s1 | exact hS2.s2 | exact hS2.s3 | exact hS2.s4 | exact hS2.s5 | exact hS2.s6 | exact hS3.o | exact hS3.s0 | exact hS3.s1 | exact hS3.s2 | exact hS3.s3 | exact hS3.s4 | exact hS3.s5 | exact hS3.s6) rfl ?_
    refine q_invokevirtual (pc := 49) (d' := d - 1) (mc' := 0) (ms' := 0) (As := []) (TX4, 4) cl_X7_94 dX7_straw_49 rfl rfl (by first | assumption | exact hS.o | exact hS.s0 | exact hS.s1 | exact hS.s2 | exact hS.s3 | exact hS.s4 | exact hS.s5 | exact hS.s6 | exact hS2.o | exact hS2.s0 | exact hS2.s1 | exact hS2.s2 | exact hS2.s3 | exact hS2.s4 | exact hS2.s5 | exact hS2.s6 | exact hS3.o | exact hS3.s0 | exact hS3.s1 | exact hS3.s2 | exact hS3.s3 | exact hS3.s4 | exact hS3.s5 | exact hS3.s6) rfl (by omega) rfl 0 0 (Nat.le_refl 0) (Nat.le_refl 0) ?_
    refine s_empty_past hS (fun w2 hs2 hS2 => ?_)
    have hX2 := (hs2.2 0 (by omega)).trans hX
    refine q_pop (pc := 52) rfl dX7_straw_52 ?_
    refine q_aload_n (pc := 53) dX7_straw_53 rfl rfl ?_
    refine q_getfield (pc := 54) gf_X7_10 dX7_straw_54 (by first | assumption | exact hS.o | exact hS.s0 | exact hS.s1 | exact hS.s2 | exact hS.s3 | exact hS.s4 | exact hS.s5 | exact hS.s6 | exact hS2.o | exact hS2.s0 | exact hS2.s1 | exact hS2.s2 | exact hS2.s3 | exact hS2.s4 | exact hS2.s5 | exact hS2.s6 | exact hS3.o | exact hS3.s0 | exact hS3.s1 | exact hS3.s2 | exact hS3.s3 | exact hS3.s4 | exact hS3.s5 | exact hS3.s6) rfl ?_
    refine q_getfield (pc := 57) gf_X7_70 dX7_straw_57 (by first | assumption | exact hS.o | exact hS.s0 | exact hS.s1 | exact hS.s2 | exact hS.s3 | exact hS.s4 | exact hS.s5 | exact hS.s6 | exact hS2.o | exact hS2.s0 | exact hS2.s1 | exact hS2.s2 | exact hS2.s3 | exact hS2.s4 | exact hS2.s5 | exact hS2.s6 | exact hS3.o | exact hS3.s0 | exact hS3.s1 | exact hS3.s2 | exact hS3.s3 | exact hS3.s4 | exact hS3.s5 | exact hS3.s6) rfl ?_
    refine q_iload_n (pc := 60) dX7_straw_60 rfl ?_
    refine q_iconst (pc := 61) dX7_straw_61 ?_
    refine q_iload_n (pc := 62) dX7_straw_62 rfl ?_
    refine q_invokevirtual (pc := 63) (d' := d - 1) (mc' := 0) (ms' := 0) (As := [_, _, _]) (TX4, 4) cl_X7_123 dX7_straw_63 rfl rfl (by first | assumption | exact hS.o | exact hS.s0 | exact hS.s1 | exact hS.s2 | exact hS.s3 | exact hS.s4 | exact hS.s5 | exact hS.s6 | exact hS2.o | exact hS2.s0 | exact hS2.s1 | exact hS2.s2 | exact hS2.s3 | exact hS2.s4 | exact hS2.s5 | exact hS2.s6 | exact hS3.o | exact hS3.s0 | exact hS3.s1 | exact hS3.s2 | exact hS3.s3 | exact hS3.s4 | exact hS3.s5 | exact hS3.s6) rfl (by omega) rfl 0 0 (Nat.le_refl 0) (Nat.le_refl 0) ?_
    refine s_put_straw (by omega) hS2 hO3 (by omega) (fun w3 hs3 hS3 => ?_)
    refine q_iload_n (pc := 66) dX7_straw_66 rfl ?_
    refine q_ireturn (pc := 67) dX7_straw_67 rfl ?_
    first | exact zgo k (by unfold o_straw; rw [if_pos (by omega)]) ((hs2.tr hs3).wide (by omega) (by omega)) (hC.now (hs2.tr hs3) hS3) | exact zgo k (by unfold o_straw; rw [if_neg (by omega)]) hs9 hC9
  refine q_aload_n (pc := 24) dX7_straw_24 rfl rfl ?_
  refine q_invokevirtual (pc := 25) (d' := d - 1) (mc' := 0) (ms' := 0) (As := []) (TX7, 15) cl_X7_66 dX7_straw_25 rfl rfl (by first | assumption | exact hS.o | exact hS.s0 | exact hS.s1 | exact hS.s2 | exact hS.s3 | exact hS.s4 | exact hS.s5 | exact hS.s6 | exact hS2.o | exact hS2.s0 | exact hS2.s1 | exact hS2.s2 | exact hS2.s3 | exact hS2.s4 | exact hS2.s5 | exact hS2.s6 | exact hS3.o | exact hS3.s0 | exact hS3.s1 | exact hS3.s2 | exact hS3.s3 | exact hS3.s4 | exact hS3.s5 | exact hS3.s6) rfl (by omega) rfl 0 0 (Nat.le_refl 0) (Nat.le_refl 0) ?_
  refine c_X7_bad (by omega) hC (fun w9 hs9 hC9 => ?_)
  refine q_ireturn (pc := 28) dX7_straw_28 rfl ?_
  first | exact zgo k (by unfold o_straw; rw [if_pos (by omega)]) ((hs2.tr hs3).wide (by omega) (by omega)) (hC.now (hs2.tr hs3) hS3) | exact zgo k (by unfold o_straw; rw [if_neg (by omega)]) hs9 hC9
set_option maxRecDepth 100000 in
set_option maxHeartbeats 8000000 in
theorem c_X7_type {c : Int} (hd : 6 ≤ d) (hC : zCl g w S) (hO : zOKS S) (h_c : zR32 c) (k : ∀ w', zSame w w' 0 72 → zCl g w' (o_type S c).2 → K (some (zI (o_type S c).1)) w') : zCall g d 0 0 mX7_type [zR g 0, zI c] w K := by
  obtain ⟨hX, hS, hA, hB, hD, hI, hJ, hR, hT, hH⟩ := id hC
  have hO1 := hO.1
  have hO2 := hO1.1
  have hO3 := hO2.1
  obtain ⟨nx1, st1, tk1, nm1, hR1, hm1⟩ := hR
  have hl := hO.2.1.1
  have hTx := hO.2.1
  refine zenter [some _, some _] pn_X7 rfl (Nat.le_of_ble_eq_true rfl) ?_
  refine q_iload_n (pc := 0) dX7_type_0 rfl ?_
  refine q_iconst (pc := 1) dX7_type_1 ?_
  refine q_bipush (pc := 2) (by decide) dX7_type_2 ?_
  refine q_invokestatic (pc := 4) (d' := d - 1) (mc' := 0) (ms' := 0) (As := [_, _, _]) cl_X7_62 dX7_type_4 rfl rfl (by omega) rfl 0 0 (Nat.le_refl 0) (Nat.le_refl 0) ?_
  refine c_X7_within (by omega) (by omega) (by omega) ?_
  refine q_ifb_ne (pc := 7) 15 dX7_type_7 rfl (fun c7 => ?_) (fun c7 => ?_)
  · refine q_aload_n (pc := 15) dX7_type_15 rfl rfl ?_
    refine q_getfield (pc := 16) gf_X7_30 dX7_type_16 (by first | assumption | exact hS.o | exact hS.s0 | exact hS.s1 | exact hS.s2 | exact hS.s3 | exact hS.s4 | exact hS.s5 | exact hS.s6 | exact hS2.o | exact hS2.s0 | exact hS2.s1 | exact hS2.s2 | exact hS2.s3 | exact hS2.s4 | exact hS2.s5 | exact hS2.s6 | exact hS3.o | exact hS3.s0 | exact hS3.s1 | exact hS3.s2 | exact hS3.s3 | exact hS3.s4 | exact hS3.s5 | exact hS3.s6) rfl ?_
    refine q_invokevirtual (pc := 19) (d' := d - 1) (mc' := 0) (ms' := 0) (As := []) (TX3, 7) cl_X7_138 dX7_type_19 rfl rfl (by first | assumption | exact hS.o | exact hS.s0 | exact hS.s1 | exact hS.s2 | exact hS.s3 | exact hS.s4 | exact hS.s5 | exact hS.s6 | exact hS2.o | exact hS2.s0 | exact hS2.s1 | exact hS2.s2 | exact hS2.s3 | exact hS2.s4 | exact hS2.s5 | exact hS2.s6 | exact hS3.o | exact hS3.s0 | exact hS3.s1 | exact hS3.s2 | exact hS3.s3 | exact hS3.s4 | exact hS3.s5 | exact hS3.s6) rfl (by omega) rfl 0 0 (Nat.le_refl 0) (Nat.le_refl 0) ?_
    refine c_X3_isTextFull hR1 hT hl ?_
    refine q_ifb_eq (pc := 22) 30 dX7_type_22 rfl (fun c22 => ?_) (fun c22 => ?_)
    · refine q_aload_n (pc := 30) dX7_type_30 rfl rfl ?_
      refine q_getfield (pc := 31) gf_X7_30 dX7_type_31 (by first | assumption | exact hS.o | exact hS.s0 | exact hS.s1 | exact hS.s2 | exact hS.s3 | exact hS.s4 | exact hS.s5 | exact hS.s6 | exact hS2.o | exact hS2.s0 | exact hS2.s1 | exact hS2.s2 | exact hS2.s3 | exact hS2.s4 | exact hS2.s5 | exact hS2.s6 | exact hS3.o | exact hS3.s0 | exact hS3.s1 | exact hS3.s2 | exact hS3.s3 | exact hS3.s4 | exact hS3.s5 | exact hS3.s6) rfl ?_
      refine q_iload_n (pc := 34) dX7_type_34 rfl ?_
      refine q_invokevirtual (pc := 35) (d' := d - 1) (mc' := 0) (ms' := 0) (As := [_]) (TX3, 7) cl_X7_141 dX7_type_35 rfl rfl (by first | assumption | exact hS.o | exact hS.s0 | exact hS.s1 | exact hS.s2 | exact hS.s3 | exact hS.s4 | exact hS.s5 | exact hS.s6 | exact hS2.o | exact hS2.s0 | exact hS2.s1 | exact hS2.s2 | exact hS2.s3 | exact hS2.s4 | exact hS2.s5 | exact hS2.s6 | exact hS3.o | exact hS3.s0 | exact hS3.s1 | exact hS3.s2 | exact hS3.s3 | exact hS3.s4 | exact hS3.s5 | exact hS3.s6) rfl (by omega) rfl 0 0 (Nat.le_refl 0) (Nat.le_refl 0) ?_
      refine c_X3_append hR1 hT (by omega) (fun w2 hs2 hR2 hT2 => ?_)
      refine q_ireturn (pc := 38) dX7_type_38 rfl ?_
      first | exact zgo k (by unfold o_type; rw [if_pos (by omega), if_neg (by omega)]) (hs2.wide (by omega) (by omega)) (hC.txt hs2 ⟨_, _, _, _, hR2, hm1⟩ hT2) | exact zgo k (by unfold o_type; rw [if_pos (by omega), if_pos (by omega)]) hs9 hC9 | exact zgo k (by unfold o_type; rw [if_neg (by omega)]) hs9 hC9
    refine q_aload_n (pc := 25) dX7_type_25 rfl rfl ?_
    refine q_invokevirtual (pc := 26) (d' := d - 1) (mc' := 0) (ms' := 0) (As := []) (TX7, 15) cl_X7_88 dX7_type_26 rfl rfl (by first | assumption | exact hS.o | exact hS.s0 | exact hS.s1 | exact hS.s2 | exact hS.s3 | exact hS.s4 | exact hS.s5 | exact hS.s6 | exact hS2.o | exact hS2.s0 | exact hS2.s1 | exact hS2.s2 | exact hS2.s3 | exact hS2.s4 | exact hS2.s5 | exact hS2.s6 | exact hS3.o | exact hS3.s0 | exact hS3.s1 | exact hS3.s2 | exact hS3.s3 | exact hS3.s4 | exact hS3.s5 | exact hS3.s6) rfl (by omega) rfl 0 0 (Nat.le_refl 0) (Nat.le_refl 0) ?_
    refine c_X7_full hC (fun w9 hs9 hC9 => ?_)
    refine q_ireturn (pc := 29) dX7_type_29 rfl ?_
    first | exact zgo k (by unfold o_type; rw [if_pos (by omega), if_neg (by omega)]) (hs2.wide (by omega) (by omega)) (hC.txt hs2 ⟨_, _, _, _, hR2, hm1⟩ hT2) | exact zgo k (by unfold o_type; rw [if_pos (by omega), if_pos (by omega)]) hs9 hC9 | exact zgo k (by unfold o_type; rw [if_neg (by omega)]) hs9 hC9
  refine q_aload_n (pc := 10) dX7_type_10 rfl rfl ?_
  refine q_invokevirtual (pc := 11) (d' := d - 1) (mc' := 0) (ms' := 0) (As := []) (TX7, 15) cl_X7_66 dX7_type_11 rfl rfl (by first | assumption | exact hS.o | exact hS.s0 | exact hS.s1 | exact hS.s2 | exact hS.s3 | exact hS.s4 | exact hS.s5 | exact hS.s6 | exact hS2.o | exact hS2.s0 | exact hS2.s1 | exact hS2.s2 | exact hS2.s3 | exact hS2.s4 | exact hS2.s5 | exact hS2.s6 | exact hS3.o | exact hS3.s0 | exact hS3.s1 | exact hS3.s2 | exact hS3.s3 | exact hS3.s4 | exact hS3.s5 | exact hS3.s6) rfl (by omega) rfl 0 0 (Nat.le_refl 0) (Nat.le_refl 0) ?_
  refine c_X7_bad (by omega) hC (fun w9 hs9 hC9 => ?_)
  refine q_ireturn (pc := 14) dX7_type_14 rfl ?_
  first | exact zgo k (by unfold o_type; rw [if_pos (by omega), if_neg (by omega)]) (hs2.wide (by omega) (by omega)) (hC.txt hs2 ⟨_, _, _, _, hR2, hm1⟩ hT2) | exact zgo k (by unfold o_type; rw [if_pos (by omega), if_pos (by omega)]) hs9 hC9 | exact zgo k (by unfold o_type; rw [if_neg (by omega)]) hs9 hC9
set_option maxRecDepth 100000 in
set_option maxHeartbeats 8000000 in
theorem c_X7_clear (hd : 6 ≤ d) (hC : zCl g w S) (hO : zOKS S) (k : ∀ w', zSame w w' 0 72 → zCl g w' (o_clear S).2 → K (some (zI (o_clear S).1)) w') : zCall g d 0 0 mX7_clear [zR g 0] w K := by
  obtain ⟨hX, hS, hA, hB, hD, hI, hJ, hR, hT, hH⟩ := id hC
  have hO1 := hO.1
  have hO2 := hO1.1
  have hO3 := hO2.1
  obtain ⟨nx1, st1, tk1, nm1, hR1, hm1⟩ := hR
  have hl := hO.2.1.1
  have hTx := hO.2.1
  refine zenter [some _] pn_X7 rfl (Nat.le_of_ble_eq_true rfl) ?_
  refine q_aload_n (pc := 0) dX7_clear_0 rfl rfl ?_
  refine q_getfield (pc := 1) gf_X7_30 dX7_clear_1 (by first | assumption | exact hS.o | exact hS.s0 | exact hS.s1 | exact hS.s2 | exact hS.s3 | exact hS.s4 | exact hS.s5 | exact hS.s6 | exact hS2.o | exact hS2.s0 | exact hS2.s1 | exact hS2.s2 | exact hS2.s3 | exact hS2.s4 | exact hS2.s5 | exact hS2.s6 | exact hS3.o | exact hS3.s0 | exact hS3.s1 | exact hS3.s2 | exact hS3.s3 | exact hS3.s4 | exact hS3.s5 | exact hS3.s6) rfl ?_
  refine q_invokevirtual (pc := 4) (d' := d - 1) (mc' := 0) (ms' := 0) (As := []) (TX3, 7) cl_X7_145 dX7_clear_4 rfl rfl (by first | assumption | exact hS.o | exact hS.s0 | exact hS.s1 | exact hS.s2 | exact hS.s3 | exact hS.s4 | exact hS.s5 | exact hS.s6 | exact hS2.o | exact hS2.s0 | exact hS2.s1 | exact hS2.s2 | exact hS2.s3 | exact hS2.s4 | exact hS2.s5 | exact hS2.s6 | exact hS3.o | exact hS3.s0 | exact hS3.s1 | exact hS3.s2 | exact hS3.s3 | exact hS3.s4 | exact hS3.s5 | exact hS3.s6) rfl (by omega) rfl 0 0 (Nat.le_refl 0) (Nat.le_refl 0) ?_
  refine c_X3_dropText hR1 (fun w2 hs2 hR2 => ?_)
  refine q_ireturn (pc := 7) dX7_clear_7 rfl ?_
  exact zgo k rfl (hs2.wide (by omega) (by omega)) (hC.txt (hs2.wide (by omega) (by omega)) ⟨_, _, _, _, hR2, hm1⟩ ((hs2.2 62 (by omega)).trans hT))
set_option maxRecDepth 100000 in
set_option maxHeartbeats 8000000 in
theorem c_X7_read (hd : 6 ≤ d) (hC : zCl g w S) (hO : zOKS S) (k : ∀ w', zSame w w' 0 72 → zCl g w' (o_read S).2 → K (some (zI (o_read S).1)) w') : zCall g d 0 0 mX7_read [zR g 0] w K := by
  obtain ⟨hX, hS, hA, hB, hD, hI, hJ, hR, hT, hH⟩ := id hC
  have hO1 := hO.1
  have hO2 := hO1.1
  have hO3 := hO2.1
  obtain ⟨nx1, st1, tk1, nm1, hR1, hm1⟩ := hR
  have hl := hO.2.1.1
  have hTx := hO.2.1
  refine zenter [some _, none] pn_X7 rfl (Nat.le_of_ble_eq_true rfl) ?_
  refine q_aload_n (pc := 0) dX7_read_0 rfl rfl ?_
  refine q_getfield (pc := 1) gf_X7_30 dX7_read_1 (by first | assumption | exact hS.o | exact hS.s0 | exact hS.s1 | exact hS.s2 | exact hS.s3 | exact hS.s4 | exact hS.s5 | exact hS.s6 | exact hS2.o | exact hS2.s0 | exact hS2.s1 | exact hS2.s2 | exact hS2.s3 | exact hS2.s4 | exact hS2.s5 | exact hS2.s6 | exact hS3.o | exact hS3.s0 | exact hS3.s1 | exact hS3.s2 | exact hS3.s3 | exact hS3.s4 | exact hS3.s5 | exact hS3.s6) rfl ?_
  refine q_invokevirtual (pc := 4) (d' := d - 1) (mc' := 0) (ms' := 0) (As := []) (TX3, 7) cl_X7_148 dX7_read_4 rfl rfl (by first | assumption | exact hS.o | exact hS.s0 | exact hS.s1 | exact hS.s2 | exact hS.s3 | exact hS.s4 | exact hS.s5 | exact hS.s6 | exact hS2.o | exact hS2.s0 | exact hS2.s1 | exact hS2.s2 | exact hS2.s3 | exact hS2.s4 | exact hS2.s5 | exact hS2.s6 | exact hS3.o | exact hS3.s0 | exact hS3.s1 | exact hS3.s2 | exact hS3.s3 | exact hS3.s4 | exact hS3.s5 | exact hS3.s6) rfl (by omega) rfl 0 0 (Nat.le_refl 0) (Nat.le_refl 0) ?_
  refine c_X3_readStore (P := S.1.2.2) (db := 46) (by omega) hR1 hm1 hT hTx hD (fun w2 nx2 st2 tk2 nm2 hs2 hR2 hm2 hD2 hS2 => ?_)
  have hC2 := hC.drf hs2 hD2 ⟨_, _, _, _, hR2, hm2⟩
  have hX2 := hC2.1
  have hz := zread_ok hTx
  refine q_istore_n (pc := 7) [some _, some _] dX7_read_7 rfl (Nat.le_of_ble_eq_true rfl) rfl ?_
  refine q_iload_n (pc := 8) dX7_read_8 rfl ?_
  refine q_if_lt (pc := 9) (by omega) 23 dX7_read_9 rfl (fun c9 => ?_) (fun c9 => ?_)
  · refine q_iload_n (pc := 23) dX7_read_23 rfl ?_
    refine q_ireturn (pc := 24) dX7_read_24 rfl ?_
    first | exact zgo k (by unfold o_read; rw [if_pos (by omega)]) ((hs2.wide (by omega) (by omega)).tr (hs3.wide (by omega) (by omega))) (hC2.now hs3 hS3) | exact zgo k (by unfold o_read; rw [if_neg (by omega)]) (hs2.wide (by omega) (by omega)) hC2
  refine q_aload_n (pc := 12) dX7_read_12 rfl rfl ?_
  refine q_getfield (pc := 13) gf_X7_10 dX7_read_13 (by first | assumption | exact hS.o | exact hS.s0 | exact hS.s1 | exact hS.s2 | exact hS.s3 | exact hS.s4 | exact hS.s5 | exact hS.s6 | exact hS2.o | exact hS2.s0 | exact hS2.s1 | exact hS2.s2 | exact hS2.s3 | exact hS2.s4 | exact hS2.s5 | exact hS2.s6 | exact hS3.o | exact hS3.s0 | exact hS3.s1 | exact hS3.s2 | exact hS3.s3 | exact hS3.s4 | exact hS3.s5 | exact hS3.s6) rfl ?_
  refine q_aload_n (pc := 16) dX7_read_16 rfl rfl ?_
  refine q_getfield (pc := 17) gf_X7_22 dX7_read_17 (by first | assumption | exact hS.o | exact hS.s0 | exact hS.s1 | exact hS.s2 | exact hS.s3 | exact hS.s4 | exact hS.s5 | exact hS.s6 | exact hS2.o | exact hS2.s0 | exact hS2.s1 | exact hS2.s2 | exact hS2.s3 | exact hS2.s4 | exact hS2.s5 | exact hS2.s6 | exact hS3.o | exact hS3.s0 | exact hS3.s1 | exact hS3.s2 | exact hS3.s3 | exact hS3.s4 | exact hS3.s5 | exact hS3.s6) rfl ?_
  refine q_invokevirtual (pc := 20) (d' := d - 1) (mc' := 0) (ms' := 0) (As := [_]) (TX6, 9) cl_X7_151 dX7_read_20 rfl rfl hC2.2.1.o rfl (by omega) rfl 0 0 (Nat.le_refl 0) (Nat.le_refl 0) ?_
  refine c_X6_copyFrom (b := 1) (b2 := 46) (by omega) hC2.2.1.shp (hS2 c9) (hz.1 c9) (by omega) (by omega) (fun w3 hs3 hS3 => ?_)
  refine q_iload_n (pc := 23) dX7_read_23 rfl ?_
  refine q_ireturn (pc := 24) dX7_read_24 rfl ?_
  first | exact zgo k (by unfold o_read; rw [if_pos (by omega)]) ((hs2.wide (by omega) (by omega)).tr (hs3.wide (by omega) (by omega))) (hC2.now hs3 hS3) | exact zgo k (by unfold o_read; rw [if_neg (by omega)]) (hs2.wide (by omega) (by omega)) hC2
set_option maxRecDepth 100000 in
set_option maxHeartbeats 8000000 in
theorem c_X7_week {n : Int} (hd : 6 ≤ d) (hC : zCl g w S) (hO : zOKS S) (h_n : zR32 n) (k : ∀ w', zSame w w' 0 72 → zCl g w' (o_week S n).2 → K (some (zI (o_week S n).1)) w') : zCall g d 0 0 mX7_week [zR g 0, zI n] w K := by
  obtain ⟨hX, hS, hA, hB, hD, hI, hJ, hR, hT, hH⟩ := id hC
  have hO1 := hO.1
  have hO2 := hO1.1
  have hO3 := hO2.1
  refine zenter [some _, some _] pn_X7 rfl (Nat.le_of_ble_eq_true rfl) ?_
  refine q_iload_n (pc := 0) dX7_week_0 rfl ?_
  refine q_iconst (pc := 1) dX7_week_1 ?_
  refine q_bipush (pc := 2) (by decide) dX7_week_2 ?_
  refine q_invokestatic (pc := 4) (d' := d - 1) (mc' := 0) (ms' := 0) (As := [_, _, _]) cl_X7_62 dX7_week_4 rfl rfl (by omega) rfl 0 0 (Nat.le_refl 0) (Nat.le_refl 0) ?_
  refine c_X7_within (by omega) (by omega) (by omega) ?_
  refine q_ifb_ne (pc := 7) 15 dX7_week_7 rfl (fun c7 => ?_) (fun c7 => ?_)
  · refine q_aload_n (pc := 15) dX7_week_15 rfl rfl ?_
    refine q_getfield (pc := 16) gf_X7_10 dX7_week_16 (by first | assumption | exact hS.o | exact hS.s0 | exact hS.s1 | exact hS.s2 | exact hS.s3 | exact hS.s4 | exact hS.s5 | exact hS.s6 | exact hS2.o | exact hS2.s0 | exact hS2.s1 | exact hS2.s2 | exact hS2.s3 | exact hS2.s4 | exact hS2.s5 | exact hS2.s6 | exact hS3.o | exact hS3.s0 | exact hS3.s1 | exact hS3.s2 | exact hS3.s3 | exact hS3.s4 | exact hS3.s5 | exact hS3.s6) rfl ?_
    refine q_invokevirtual (pc := 19) (d' := d - 1) (mc' := 0) (ms' := 0) (As := []) (TX6, 9) cl_X7_154 dX7_week_19 rfl rfl (by first | assumption | exact hS.o | exact hS.s0 | exact hS.s1 | exact hS.s2 | exact hS.s3 | exact hS.s4 | exact hS.s5 | exact hS.s6 | exact hS2.o | exact hS2.s0 | exact hS2.s1 | exact hS2.s2 | exact hS2.s3 | exact hS2.s4 | exact hS2.s5 | exact hS2.s6 | exact hS3.o | exact hS3.s0 | exact hS3.s1 | exact hS3.s2 | exact hS3.s3 | exact hS3.s4 | exact hS3.s5 | exact hS3.s6) rfl (by omega) rfl 0 0 (Nat.le_refl 0) (Nat.le_refl 0) ?_
    refine c_X6_remember (by omega) hS hO2 hO1.2.1 (fun w2 hs2 hS2 => ?_)
    have hX2 := (hs2.2 0 (by omega)).trans hX
    refine q_aload_n (pc := 22) dX7_week_22 rfl rfl ?_
    refine q_getfield (pc := 23) gf_X7_10 dX7_week_23 (by first | assumption | exact hS.o | exact hS.s0 | exact hS.s1 | exact hS.s2 | exact hS.s3 | exact hS.s4 | exact hS.s5 | exact hS.s6 | exact hS2.o | exact hS2.s0 | exact hS2.s1 | exact hS2.s2 | exact hS2.s3 | exact hS2.s4 | exact hS2.s5 | exact hS2.s6 | exact hS3.o | exact hS3.s0 | exact hS3.s1 | exact hS3.s2 | exact hS3.s3 | exact hS3.s4 | exact hS3.s5 | exact hS3.s6) rfl ?_
    refine q_iload_n (pc := 26) dX7_week_26 rfl ?_
    refine q_invokevirtual (pc := 27) (d' := d - 1) (mc' := 0) (ms' := 0) (As := [_]) (TX6, 9) cl_X7_157 dX7_week_27 rfl rfl (by first | assumption | exact hS.o | exact hS.s0 | exact hS.s1 | exact hS.s2 | exact hS.s3 | exact hS.s4 | exact hS.s5 | exact hS.s6 | exact hS2.o | exact hS2.s0 | exact hS2.s1 | exact hS2.s2 | exact hS2.s3 | exact hS2.s4 | exact hS2.s5 | exact hS2.s6 | exact hS3.o | exact hS3.s0 | exact hS3.s1 | exact hS3.s2 | exact hS3.s3 | exact hS3.s4 | exact hS3.s5 | exact hS3.s6) rfl (by omega) rfl 0 0 (Nat.le_refl 0) (Nat.le_refl 0) ?_
    refine c_X6_passWeeks (by omega) hS2 hO2 (by omega) (fun w3 hs3 hS3 => ?_)
    have hX3 := (hs3.2 0 (by omega)).trans hX2
    refine q_aload_n (pc := 30) dX7_week_30 rfl rfl ?_
    refine q_getfield (pc := 31) gf_X7_10 dX7_week_31 (by first | assumption | exact hS.o | exact hS.s0 | exact hS.s1 | exact hS.s2 | exact hS.s3 | exact hS.s4 | exact hS.s5 | exact hS.s6 | exact hS2.o | exact hS2.s0 | exact hS2.s1 | exact hS2.s2 | exact hS2.s3 | exact hS2.s4 | exact hS2.s5 | exact hS2.s6 | exact hS3.o | exact hS3.s0 | exact hS3.s1 | exact hS3.s2 | exact hS3.s3 | exact hS3.s4 | exact hS3.s5 | exact hS3.s6) rfl ?_
    refine q_invokevirtual (pc := 34) (d' := d - 1) (mc' := 0) (ms' := 0) (As := []) (TX6, 9) cl_X7_160 dX7_week_34 rfl rfl (by first | assumption | exact hS.o | exact hS.s0 | exact hS.s1 | exact hS.s2 | exact hS.s3 | exact hS.s4 | exact hS.s5 | exact hS.s6 | exact hS2.o | exact hS2.s0 | exact hS2.s1 | exact hS2.s2 | exact hS2.s3 | exact hS2.s4 | exact hS2.s5 | exact hS2.s6 | exact hS3.o | exact hS3.s0 | exact hS3.s1 | exact hS3.s2 | exact hS3.s3 | exact hS3.s4 | exact hS3.s5 | exact hS3.s6) rfl (by omega) rfl 0 0 (Nat.le_refl 0) (Nat.le_refl 0) ?_
    refine c_X6_allStones (by omega) hS3 (zweeks_ok hO2 _).1 ?_
    refine q_ireturn (pc := 37) dX7_week_37 rfl ?_
    first | exact zgo k (by unfold o_week; rw [if_pos (by omega)]) ((hs2.tr hs3).wide (by omega) (by omega)) (hC.now (hs2.tr hs3) hS3) | exact zgo k (by unfold o_week; rw [if_neg (by omega)]) hs9 hC9
  refine q_aload_n (pc := 10) dX7_week_10 rfl rfl ?_
  refine q_invokevirtual (pc := 11) (d' := d - 1) (mc' := 0) (ms' := 0) (As := []) (TX7, 15) cl_X7_66 dX7_week_11 rfl rfl (by first | assumption | exact hS.o | exact hS.s0 | exact hS.s1 | exact hS.s2 | exact hS.s3 | exact hS.s4 | exact hS.s5 | exact hS.s6 | exact hS2.o | exact hS2.s0 | exact hS2.s1 | exact hS2.s2 | exact hS2.s3 | exact hS2.s4 | exact hS2.s5 | exact hS2.s6 | exact hS3.o | exact hS3.s0 | exact hS3.s1 | exact hS3.s2 | exact hS3.s3 | exact hS3.s4 | exact hS3.s5 | exact hS3.s6) rfl (by omega) rfl 0 0 (Nat.le_refl 0) (Nat.le_refl 0) ?_
  refine c_X7_bad (by omega) hC (fun w9 hs9 hC9 => ?_)
  refine q_ireturn (pc := 14) dX7_week_14 rfl ?_
  first | exact zgo k (by unfold o_week; rw [if_pos (by omega)]) ((hs2.tr hs3).wide (by omega) (by omega)) (hC.now (hs2.tr hs3) hS3) | exact zgo k (by unfold o_week; rw [if_neg (by omega)]) hs9 hC9
set_option maxRecDepth 100000 in
set_option maxHeartbeats 8000000 in
theorem c_X7_door {c : Int} (hd : 6 ≤ d) (hC : zCl g w S) (hO : zOKS S) (h_c : zR32 c) (k : ∀ w', zSame w w' 0 72 → zCl g w' (o_door S c).2 → K (some (zI (o_door S c).1)) w') : zCall g d 0 0 mX7_door [zR g 0, zI c] w K := by
  obtain ⟨hX, hS, hA, hB, hD, hI, hJ, hR, hT, hH⟩ := id hC
  have hO1 := hO.1
  have hO2 := hO1.1
  have hO3 := hO2.1
  refine zenter [some _, some _] pn_X7 rfl (Nat.le_of_ble_eq_true rfl) ?_
  refine q_aload_n (pc := 0) dX7_door_0 rfl rfl ?_
  refine q_getfield (pc := 1) gf_X7_10 dX7_door_1 (by first | assumption | exact hS.o | exact hS.s0 | exact hS.s1 | exact hS.s2 | exact hS.s3 | exact hS.s4 | exact hS.s5 | exact hS.s6 | exact hS2.o | exact hS2.s0 | exact hS2.s1 | exact hS2.s2 | exact hS2.s3 | exact hS2.s4 | exact hS2.s5 | exact hS2.s6 | exact hS3.o | exact hS3.s0 | exact hS3.s1 | exact hS3.s2 | exact hS3.s3 | exact hS3.s4 | exact hS3.s5 | exact hS3.s6) rfl ?_
  refine q_getfield (pc := 4) gf_X7_70 dX7_door_4 (by first | assumption | exact hS.o | exact hS.s0 | exact hS.s1 | exact hS.s2 | exact hS.s3 | exact hS.s4 | exact hS.s5 | exact hS.s6 | exact hS2.o | exact hS2.s0 | exact hS2.s1 | exact hS2.s2 | exact hS2.s3 | exact hS2.s4 | exact hS2.s5 | exact hS2.s6 | exact hS3.o | exact hS3.s0 | exact hS3.s1 | exact hS3.s2 | exact hS3.s3 | exact hS3.s4 | exact hS3.s5 | exact hS3.s6) rfl ?_
  refine q_iload_n (pc := 7) dX7_door_7 rfl ?_
  refine q_invokevirtual (pc := 8) (d' := d - 1) (mc' := 0) (ms' := 0) (As := [_]) (TX4, 4) cl_X7_101 dX7_door_8 rfl rfl (by first | assumption | exact hS.o | exact hS.s0 | exact hS.s1 | exact hS.s2 | exact hS.s3 | exact hS.s4 | exact hS.s5 | exact hS.s6 | exact hS2.o | exact hS2.s0 | exact hS2.s1 | exact hS2.s2 | exact hS2.s3 | exact hS2.s4 | exact hS2.s5 | exact hS2.s6 | exact hS3.o | exact hS3.s0 | exact hS3.s1 | exact hS3.s2 | exact hS3.s3 | exact hS3.s4 | exact hS3.s5 | exact hS3.s6) rfl (by omega) rfl 0 0 (Nat.le_refl 0) (Nat.le_refl 0) ?_
  first | refine s_hold0 hS hO3 (by omega) ?_ | refine s_hold1 hS hO3 (by omega) ?_ | refine s_hold2 hS hO3 (by omega) ?_ | refine s_hold3 hS hO3 (by omega) ?_
  refine q_ifb_ne (pc := 11) 19 dX7_door_11 rfl (fun c11 => ?_) (fun c11 => ?_)
  · refine q_aload_n (pc := 19) dX7_door_19 rfl rfl ?_
    refine q_getfield (pc := 20) gf_X7_10 dX7_door_20 (by first | assumption | exact hS.o | exact hS.s0 | exact hS.s1 | exact hS.s2 | exact hS.s3 | exact hS.s4 | exact hS.s5 | exact hS.s6 | exact hS2.o | exact hS2.s0 | exact hS2.s1 | exact hS2.s2 | exact hS2.s3 | exact hS2.s4 | exact hS2.s5 | exact hS2.s6 | exact hS3.o | exact hS3.s0 | exact hS3.s1 | exact hS3.s2 | exact hS3.s3 | exact hS3.s4 | exact hS3.s5 | exact hS3.s6) rfl ?_
    refine q_invokevirtual (pc := 23) (d' := d - 1) (mc' := 0) (ms' := 0) (As := []) (TX6, 9) cl_X7_154 dX7_door_23 rfl rfl (by first | assumption | exact hS.o | exact hS.s0 | exact hS.s1 | exact hS.s2 | exact hS.s3 | exact hS.s4 | exact hS.s5 | exact hS.s6 | exact hS2.o | exact hS2.s0 | exact hS2.s1 | exact hS2.s2 | exact hS2.s3 | exact hS2.s4 | exact hS2.s5 | exact hS2.s6 | exact hS3.o | exact hS3.s0 | exact hS3.s1 | exact hS3.s2 | exact hS3.s3 | exact hS3.s4 | exact hS3.s5 | exact hS3.s6) rfl (by omega) rfl 0 0 (Nat.le_refl 0) (Nat.le_refl 0) ?_
    refine c_X6_remember (by omega) hS hO2 hO1.2.1 (fun w2 hs2 hS2 => ?_)
    have hX2 := (hs2.2 0 (by omega)).trans hX
    refine q_aload_n (pc := 26) dX7_door_26 rfl rfl ?_
    refine q_getfield (pc := 27) gf_X7_10 dX7_door_27 (by first | assumption | exact hS.o | exact hS.s0 | exact hS.s1 | exact hS.s2 | exact hS.s3 | exact hS.s4 | exact hS.s5 | exact hS.s6 | exact hS2.o | exact hS2.s0 | exact hS2.s1 | exact hS2.s2 | exact hS2.s3 | exact hS2.s4 | exact hS2.s5 | exact hS2.s6 | exact hS3.o | exact hS3.s0 | exact hS3.s1 | exact hS3.s2 | exact hS3.s3 | exact hS3.s4 | exact hS3.s5 | exact hS3.s6) rfl ?_
    refine q_iload_n (pc := 30) dX7_door_30 rfl ?_
    refine q_invokevirtual (pc := 31) (d' := d - 1) (mc' := 0) (ms' := 0) (As := [_]) (TX6, 9) cl_X7_163 dX7_door_31 rfl rfl (by first | assumption | exact hS.o | exact hS.s0 | exact hS.s1 | exact hS.s2 | exact hS.s3 | exact hS.s4 | exact hS.s5 | exact hS.s6 | exact hS2.o | exact hS2.s0 | exact hS2.s1 | exact hS2.s2 | exact hS2.s3 | exact hS2.s4 | exact hS2.s5 | exact hS2.s6 | exact hS3.o | exact hS3.s0 | exact hS3.s1 | exact hS3.s2 | exact hS3.s3 | exact hS3.s4 | exact hS3.s5 | exact hS3.s6) rfl (by omega) rfl 0 0 (Nat.le_refl 0) (Nat.le_refl 0) ?_
    refine c_X6_openDoor (by omega) hS2 hO2 (by omega) (fun w3 hs3 hS3 => ?_)
    have hX3 := (hs3.2 0 (by omega)).trans hX2
    have hk := zcost_b (S.1.1 (8 + c))
    have e0 : zlose S.1.1 c (zcost (S.1.1 (8 + c))) 0 = S.1.1 0 := zlose_out (by omega) (by omega)
    refine q_aload_n (pc := 34) dX7_door_34 rfl rfl ?_
    refine q_getfield (pc := 35) gf_X7_10 dX7_door_35 (by first | assumption | exact hS.o | exact hS.s0 | exact hS.s1 | exact hS.s2 | exact hS.s3 | exact hS.s4 | exact hS.s5 | exact hS.s6 | exact hS2.o | exact hS2.s0 | exact hS2.s1 | exact hS2.s2 | exact hS2.s3 | exact hS2.s4 | exact hS2.s5 | exact hS2.s6 | exact hS3.o | exact hS3.s0 | exact hS3.s1 | exact hS3.s2 | exact hS3.s3 | exact hS3.s4 | exact hS3.s5 | exact hS3.s6) rfl ?_
    refine q_iload_n (pc := 38) dX7_door_38 rfl ?_
    refine q_iconst (pc := 39) dX7_door_39 ?_
    refine q_invokevirtual (pc := 40) (d' := d - 1) (mc' := 0) (ms' := 0) (As := [_, _]) (TX6, 9) cl_X7_166 dX7_door_40 rfl rfl (by first | assumption | exact hS.o | exact hS.s0 | exact hS.s1 | exact hS.s2 | exact hS.s3 | exact hS.s4 | exact hS.s5 | exact hS.s6 | exact hS2.o | exact hS2.s0 | exact hS2.s1 | exact hS2.s2 | exact hS2.s3 | exact hS2.s4 | exact hS2.s5 | exact hS2.s6 | exact hS3.o | exact hS3.s0 | exact hS3.s1 | exact hS3.s2 | exact hS3.s3 | exact hS3.s4 | exact hS3.s5 | exact hS3.s6) rfl (by omega) rfl 0 0 (Nat.le_refl 0) (Nat.le_refl 0) ?_
    refine c_X6_stonesFrom (by omega) hS3 (zlose_ok hO2 (by omega) hk.1).1 (by rw [e0]; omega) (by omega) ?_
    refine q_ireturn (pc := 43) dX7_door_43 rfl ?_
    first | exact zgo k (by unfold o_door; rw [if_pos (by omega)]) ((hs2.tr hs3).wide (by omega) (by omega)) (hC.now (hs2.tr hs3) hS3) | exact zgo k (by unfold o_door; rw [if_neg (by omega)]) hs9 hC9
  refine q_aload_n (pc := 14) dX7_door_14 rfl rfl ?_
  refine q_invokevirtual (pc := 15) (d' := d - 1) (mc' := 0) (ms' := 0) (As := []) (TX7, 15) cl_X7_66 dX7_door_15 rfl rfl (by first | assumption | exact hS.o | exact hS.s0 | exact hS.s1 | exact hS.s2 | exact hS.s3 | exact hS.s4 | exact hS.s5 | exact hS.s6 | exact hS2.o | exact hS2.s0 | exact hS2.s1 | exact hS2.s2 | exact hS2.s3 | exact hS2.s4 | exact hS2.s5 | exact hS2.s6 | exact hS3.o | exact hS3.s0 | exact hS3.s1 | exact hS3.s2 | exact hS3.s3 | exact hS3.s4 | exact hS3.s5 | exact hS3.s6) rfl (by omega) rfl 0 0 (Nat.le_refl 0) (Nat.le_refl 0) ?_
  refine c_X7_bad (by omega) hC (fun w9 hs9 hC9 => ?_)
  refine q_ireturn (pc := 18) dX7_door_18 rfl ?_
  first | exact zgo k (by unfold o_door; rw [if_pos (by omega)]) ((hs2.tr hs3).wide (by omega) (by omega)) (hC.now (hs2.tr hs3) hS3) | exact zgo k (by unfold o_door; rw [if_neg (by omega)]) hs9 hC9
set_option maxRecDepth 100000 in
set_option maxHeartbeats 8000000 in
theorem c_X7_throwing {s c r q : Int} (hd : 6 ≤ d) (hC : zCl g w S) (hO : zOKS S) (h_s : zR32 s) (h_c : zR32 c) (h_r : zR32 r) (h_q : zR32 q) (k : ∀ w', zSame w w' 0 72 → zCl g w' (o_throwing S s c r q).2 → K (some (zI (o_throwing S s c r q).1)) w') : zCall g d 0 0 mX7_throwing [zR g 0, zI s, zI c, zI r, zI q] w K := by
  obtain ⟨hX, hS, hA, hB, hD, hI, hJ, hR, hT, hH⟩ := id hC
  have hO1 := hO.1
  have hO2 := hO1.1
  have hO3 := hO2.1
  refine zenter [some _, some _, some _, some _, some _] pn_X7 rfl (Nat.le_of_ble_eq_true rfl) ?_
  refine q_aload_n (pc := 0) dX7_throwing_0 rfl rfl ?_
  refine q_getfield (pc := 1) gf_X7_10 dX7_throwing_1 (by first | assumption | exact hS.o | exact hS.s0 | exact hS.s1 | exact hS.s2 | exact hS.s3 | exact hS.s4 | exact hS.s5 | exact hS.s6 | exact hS2.o | exact hS2.s0 | exact hS2.s1 | exact hS2.s2 | exact hS2.s3 | exact hS2.s4 | exact hS2.s5 | exact hS2.s6 | exact hS3.o | exact hS3.s0 | exact hS3.s1 | exact hS3.s2 | exact hS3.s3 | exact hS3.s4 | exact hS3.s5 | exact hS3.s6) rfl ?_
  refine q_getfield (pc := 4) gf_X7_126 dX7_throwing_4 (by first | assumption | exact hS.o | exact hS.s0 | exact hS.s1 | exact hS.s2 | exact hS.s3 | exact hS.s4 | exact hS.s5 | exact hS.s6 | exact hS2.o | exact hS2.s0 | exact hS2.s1 | exact hS2.s2 | exact hS2.s3 | exact hS2.s4 | exact hS2.s5 | exact hS2.s6 | exact hS3.o | exact hS3.s0 | exact hS3.s1 | exact hS3.s2 | exact hS3.s3 | exact hS3.s4 | exact hS3.s5 | exact hS3.s6) rfl ?_
  refine q_iload_n (pc := 7) dX7_throwing_7 rfl ?_
  refine q_invokevirtual (pc := 8) (d' := d - 1) (mc' := 0) (ms' := 0) (As := [_]) (TX4, 4) cl_X7_101 dX7_throwing_8 rfl rfl (by first | assumption | exact hS.o | exact hS.s0 | exact hS.s1 | exact hS.s2 | exact hS.s3 | exact hS.s4 | exact hS.s5 | exact hS.s6 | exact hS2.o | exact hS2.s0 | exact hS2.s1 | exact hS2.s2 | exact hS2.s3 | exact hS2.s4 | exact hS2.s5 | exact hS2.s6 | exact hS3.o | exact hS3.s0 | exact hS3.s1 | exact hS3.s2 | exact hS3.s3 | exact hS3.s4 | exact hS3.s5 | exact hS3.s6) rfl (by omega) rfl 0 0 (Nat.le_refl 0) (Nat.le_refl 0) ?_
  first | refine s_hold0 hS hO3 (by omega) ?_ | refine s_hold1 hS hO3 (by omega) ?_ | refine s_hold2 hS hO3 (by omega) ?_ | refine s_hold3 hS hO3 (by omega) ?_
  refine q_ifb_eq (pc := 11) 50 dX7_throwing_11 rfl (fun c11 => ?_) (fun c11 => ?_)
  · refine q_aload_n (pc := 50) dX7_throwing_50 rfl rfl ?_
    refine q_invokevirtual (pc := 51) (d' := d - 1) (mc' := 0) (ms' := 0) (As := []) (TX7, 15) cl_X7_66 dX7_throwing_51 rfl rfl (by first | assumption | exact hS.o | exact hS.s0 | exact hS.s1 | exact hS.s2 | exact hS.s3 | exact hS.s4 | exact hS.s5 | exact hS.s6 | exact hS2.o | exact hS2.s0 | exact hS2.s1 | exact hS2.s2 | exact hS2.s3 | exact hS2.s4 | exact hS2.s5 | exact hS2.s6 | exact hS3.o | exact hS3.s0 | exact hS3.s1 | exact hS3.s2 | exact hS3.s3 | exact hS3.s4 | exact hS3.s5 | exact hS3.s6) rfl (by omega) rfl 0 0 (Nat.le_refl 0) (Nat.le_refl 0) ?_
    refine c_X7_bad (by omega) hC (fun w9 hs9 hC9 => ?_)
    refine q_ireturn (pc := 54) dX7_throwing_54 rfl ?_
    first | exact zgo k (by unfold o_throwing; rw [if_pos (by omega), if_neg (by omega)]) ((hs2.tr hs3).wide (by omega) (by omega)) (hC.now (hs2.tr hs3) hS3) | exact zgo k (by unfold o_throwing; rw [if_pos (by omega), if_pos (by omega)]) hs9 hC9 | exact zgo k (by unfold o_throwing; rw [if_neg (by omega)]) hs9 hC9
  refine q_aload_n (pc := 14) dX7_throwing_14 rfl rfl ?_
  refine q_getfield (pc := 15) gf_X7_10 dX7_throwing_15 (by first | assumption | exact hS.o | exact hS.s0 | exact hS.s1 | exact hS.s2 | exact hS.s3 | exact hS.s4 | exact hS.s5 | exact hS.s6 | exact hS2.o | exact hS2.s0 | exact hS2.s1 | exact hS2.s2 | exact hS2.s3 | exact hS2.s4 | exact hS2.s5 | exact hS2.s6 | exact hS3.o | exact hS3.s0 | exact hS3.s1 | exact hS3.s2 | exact hS3.s3 | exact hS3.s4 | exact hS3.s5 | exact hS3.s6) rfl ?_
  refine q_getfield (pc := 18) gf_X7_70 dX7_throwing_18 (by first | assumption | exact hS.o | exact hS.s0 | exact hS.s1 | exact hS.s2 | exact hS.s3 | exact hS.s4 | exact hS.s5 | exact hS.s6 | exact hS2.o | exact hS2.s0 | exact hS2.s1 | exact hS2.s2 | exact hS2.s3 | exact hS2.s4 | exact hS2.s5 | exact hS2.s6 | exact hS3.o | exact hS3.s0 | exact hS3.s1 | exact hS3.s2 | exact hS3.s3 | exact hS3.s4 | exact hS3.s5 | exact hS3.s6) rfl ?_
  refine q_iload_n (pc := 21) dX7_throwing_21 rfl ?_
  refine q_invokevirtual (pc := 22) (d' := d - 1) (mc' := 0) (ms' := 0) (As := [_]) (TX4, 4) cl_X7_101 dX7_throwing_22 rfl rfl (by first | assumption | exact hS.o | exact hS.s0 | exact hS.s1 | exact hS.s2 | exact hS.s3 | exact hS.s4 | exact hS.s5 | exact hS.s6 | exact hS2.o | exact hS2.s0 | exact hS2.s1 | exact hS2.s2 | exact hS2.s3 | exact hS2.s4 | exact hS2.s5 | exact hS2.s6 | exact hS3.o | exact hS3.s0 | exact hS3.s1 | exact hS3.s2 | exact hS3.s3 | exact hS3.s4 | exact hS3.s5 | exact hS3.s6) rfl (by omega) rfl 0 0 (Nat.le_refl 0) (Nat.le_refl 0) ?_
  first | refine s_hold0 hS hO3 (by omega) ?_ | refine s_hold1 hS hO3 (by omega) ?_ | refine s_hold2 hS hO3 (by omega) ?_ | refine s_hold3 hS hO3 (by omega) ?_
  refine q_ifb_eq (pc := 25) 50 dX7_throwing_25 rfl (fun c25 => ?_) (fun c25 => ?_)
  · refine q_aload_n (pc := 50) dX7_throwing_50 rfl rfl ?_
    refine q_invokevirtual (pc := 51) (d' := d - 1) (mc' := 0) (ms' := 0) (As := []) (TX7, 15) cl_X7_66 dX7_throwing_51 rfl rfl (by first | assumption | exact hS.o | exact hS.s0 | exact hS.s1 | exact hS.s2 | exact hS.s3 | exact hS.s4 | exact hS.s5 | exact hS.s6 | exact hS2.o | exact hS2.s0 | exact hS2.s1 | exact hS2.s2 | exact hS2.s3 | exact hS2.s4 | exact hS2.s5 | exact hS2.s6 | exact hS3.o | exact hS3.s0 | exact hS3.s1 | exact hS3.s2 | exact hS3.s3 | exact hS3.s4 | exact hS3.s5 | exact hS3.s6) rfl (by omega) rfl 0 0 (Nat.le_refl 0) (Nat.le_refl 0) ?_
    refine c_X7_bad (by omega) hC (fun w9 hs9 hC9 => ?_)
    refine q_ireturn (pc := 54) dX7_throwing_54 rfl ?_
    first | exact zgo k (by unfold o_throwing; rw [if_pos (by omega), if_neg (by omega)]) ((hs2.tr hs3).wide (by omega) (by omega)) (hC.now (hs2.tr hs3) hS3) | exact zgo k (by unfold o_throwing; rw [if_pos (by omega), if_pos (by omega)]) hs9 hC9 | exact zgo k (by unfold o_throwing; rw [if_neg (by omega)]) hs9 hC9
  refine q_iload_n (pc := 28) dX7_throwing_28 rfl ?_
  refine q_invokestatic (pc := 29) (d' := d - 1) (mc' := 0) (ms' := 0) (As := [_]) cl_X7_105 dX7_throwing_29 rfl rfl (by omega) rfl 0 0 (Nat.le_refl 0) (Nat.le_refl 0) ?_
  refine c_X7_isRings (by omega) (by omega) ?_
  refine q_ifb_eq (pc := 32) 50 dX7_throwing_32 rfl (fun c32 => ?_) (fun c32 => ?_)
  · refine q_aload_n (pc := 50) dX7_throwing_50 rfl rfl ?_
    refine q_invokevirtual (pc := 51) (d' := d - 1) (mc' := 0) (ms' := 0) (As := []) (TX7, 15) cl_X7_66 dX7_throwing_51 rfl rfl (by first | assumption | exact hS.o | exact hS.s0 | exact hS.s1 | exact hS.s2 | exact hS.s3 | exact hS.s4 | exact hS.s5 | exact hS.s6 | exact hS2.o | exact hS2.s0 | exact hS2.s1 | exact hS2.s2 | exact hS2.s3 | exact hS2.s4 | exact hS2.s5 | exact hS2.s6 | exact hS3.o | exact hS3.s0 | exact hS3.s1 | exact hS3.s2 | exact hS3.s3 | exact hS3.s4 | exact hS3.s5 | exact hS3.s6) rfl (by omega) rfl 0 0 (Nat.le_refl 0) (Nat.le_refl 0) ?_
    refine c_X7_bad (by omega) hC (fun w9 hs9 hC9 => ?_)
    refine q_ireturn (pc := 54) dX7_throwing_54 rfl ?_
    first | exact zgo k (by unfold o_throwing; rw [if_pos (by omega), if_neg (by omega)]) ((hs2.tr hs3).wide (by omega) (by omega)) (hC.now (hs2.tr hs3) hS3) | exact zgo k (by unfold o_throwing; rw [if_pos (by omega), if_pos (by omega)]) hs9 hC9 | exact zgo k (by unfold o_throwing; rw [if_neg (by omega)]) hs9 hC9
  refine q_aload_n (pc := 35) dX7_throwing_35 rfl rfl ?_
  refine q_getfield (pc := 36) gf_X7_10 dX7_throwing_36 (by first | assumption | exact hS.o | exact hS.s0 | exact hS.s1 | exact hS.s2 | exact hS.s3 | exact hS.s4 | exact hS.s5 | exact hS.s6 | exact hS2.o | exact hS2.s0 | exact hS2.s1 | exact hS2.s2 | exact hS2.s3 | exact hS2.s4 | exact hS2.s5 | exact hS2.s6 | exact hS3.o | exact hS3.s0 | exact hS3.s1 | exact hS3.s2 | exact hS3.s3 | exact hS3.s4 | exact hS3.s5 | exact hS3.s6) rfl ?_
  refine q_getfield (pc := 39) gf_X7_132 dX7_throwing_39 (by first | assumption | exact hS.o | exact hS.s0 | exact hS.s1 | exact hS.s2 | exact hS.s3 | exact hS.s4 | exact hS.s5 | exact hS.s6 | exact hS2.o | exact hS2.s0 | exact hS2.s1 | exact hS2.s2 | exact hS2.s3 | exact hS2.s4 | exact hS2.s5 | exact hS2.s6 | exact hS3.o | exact hS3.s0 | exact hS3.s1 | exact hS3.s2 | exact hS3.s3 | exact hS3.s4 | exact hS3.s5 | exact hS3.s6) rfl ?_
  refine q_iload (pc := 42) dX7_throwing_42 rfl ?_
  refine q_invokevirtual (pc := 44) (d' := d - 1) (mc' := 0) (ms' := 0) (As := [_]) (TX4, 4) cl_X7_101 dX7_throwing_44 rfl rfl (by first | assumption | exact hS.o | exact hS.s0 | exact hS.s1 | exact hS.s2 | exact hS.s3 | exact hS.s4 | exact hS.s5 | exact hS.s6 | exact hS2.o | exact hS2.s0 | exact hS2.s1 | exact hS2.s2 | exact hS2.s3 | exact hS2.s4 | exact hS2.s5 | exact hS2.s6 | exact hS3.o | exact hS3.s0 | exact hS3.s1 | exact hS3.s2 | exact hS3.s3 | exact hS3.s4 | exact hS3.s5 | exact hS3.s6) rfl (by omega) rfl 0 0 (Nat.le_refl 0) (Nat.le_refl 0) ?_
  first | refine s_hold0 hS hO3 (by omega) ?_ | refine s_hold1 hS hO3 (by omega) ?_ | refine s_hold2 hS hO3 (by omega) ?_ | refine s_hold3 hS hO3 (by omega) ?_
  refine q_ifb_ne (pc := 47) 55 dX7_throwing_47 rfl (fun c47 => ?_) (fun c47 => ?_)
  · refine q_aload_n (pc := 55) dX7_throwing_55 rfl rfl ?_
    refine q_getfield (pc := 56) gf_X7_10 dX7_throwing_56 (by first | assumption | exact hS.o | exact hS.s0 | exact hS.s1 | exact hS.s2 | exact hS.s3 | exact hS.s4 | exact hS.s5 | exact hS.s6 | exact hS2.o | exact hS2.s0 | exact hS2.s1 | exact hS2.s2 | exact hS2.s3 | exact hS2.s4 | exact hS2.s5 | exact hS2.s6 | exact hS3.o | exact hS3.s0 | exact hS3.s1 | exact hS3.s2 | exact hS3.s3 | exact hS3.s4 | exact hS3.s5 | exact hS3.s6) rfl ?_
    refine q_iload_n (pc := 59) dX7_throwing_59 rfl ?_
    refine q_iload_n (pc := 60) dX7_throwing_60 rfl ?_
    refine q_invokevirtual (pc := 61) (d' := d - 1) (mc' := 0) (ms' := 0) (As := [_, _]) (TX6, 9) cl_X7_108 dX7_throwing_61 rfl rfl (by first | assumption | exact hS.o | exact hS.s0 | exact hS.s1 | exact hS.s2 | exact hS.s3 | exact hS.s4 | exact hS.s5 | exact hS.s6 | exact hS2.o | exact hS2.s0 | exact hS2.s1 | exact hS2.s2 | exact hS2.s3 | exact hS2.s4 | exact hS2.s5 | exact hS2.s6 | exact hS3.o | exact hS3.s0 | exact hS3.s1 | exact hS3.s2 | exact hS3.s3 | exact hS3.s4 | exact hS3.s5 | exact hS3.s6) rfl (by omega) rfl 0 0 (Nat.le_refl 0) (Nat.le_refl 0) ?_
    refine c_X6_stonesOf (by omega) hS hO3 (by omega) (by omega) ?_
    have hb1 := (hO2.2.2.1 c r (by omega) (by omega) (by omega) (by omega)).1
    refine q_if_eq (pc := 64) (by omega) 79 dX7_throwing_64 rfl (fun c64 => ?_) (fun c64 => ?_)
    · refine q_aload_n (pc := 79) dX7_throwing_79 rfl rfl ?_
      refine q_invokevirtual (pc := 80) (d' := d - 1) (mc' := 0) (ms' := 0) (As := []) (TX7, 15) cl_X7_172 dX7_throwing_80 rfl rfl (by first | assumption | exact hS.o | exact hS.s0 | exact hS.s1 | exact hS.s2 | exact hS.s3 | exact hS.s4 | exact hS.s5 | exact hS.s6 | exact hS2.o | exact hS2.s0 | exact hS2.s1 | exact hS2.s2 | exact hS2.s3 | exact hS2.s4 | exact hS2.s5 | exact hS2.s6 | exact hS3.o | exact hS3.s0 | exact hS3.s1 | exact hS3.s2 | exact hS3.s3 | exact hS3.s4 | exact hS3.s5 | exact hS3.s6) rfl (by omega) rfl 0 0 (Nat.le_refl 0) (Nat.le_refl 0) ?_
      refine c_X7_no hC (fun w9 hs9 hC9 => ?_)
      refine q_ireturn (pc := 83) dX7_throwing_83 rfl ?_
      first | exact zgo k (by unfold o_throwing; rw [if_pos (by omega), if_neg (by omega)]) ((hs2.tr hs3).wide (by omega) (by omega)) (hC.now (hs2.tr hs3) hS3) | exact zgo k (by unfold o_throwing; rw [if_pos (by omega), if_pos (by omega)]) hs9 hC9 | exact zgo k (by unfold o_throwing; rw [if_neg (by omega)]) hs9 hC9
    refine q_aload_n (pc := 67) dX7_throwing_67 rfl rfl ?_
    refine q_getfield (pc := 68) gf_X7_10 dX7_throwing_68 (by first | assumption | exact hS.o | exact hS.s0 | exact hS.s1 | exact hS.s2 | exact hS.s3 | exact hS.s4 | exact hS.s5 | exact hS.s6 | exact hS2.o | exact hS2.s0 | exact hS2.s1 | exact hS2.s2 | exact hS2.s3 | exact hS2.s4 | exact hS2.s5 | exact hS2.s6 | exact hS3.o | exact hS3.s0 | exact hS3.s1 | exact hS3.s2 | exact hS3.s3 | exact hS3.s4 | exact hS3.s5 | exact hS3.s6) rfl ?_
    refine q_iload (pc := 71) dX7_throwing_71 rfl ?_
    refine q_invokevirtual (pc := 73) (d' := d - 1) (mc' := 0) (ms' := 0) (As := [_]) (TX6, 9) cl_X7_169 dX7_throwing_73 rfl rfl (by first | assumption | exact hS.o | exact hS.s0 | exact hS.s1 | exact hS.s2 | exact hS.s3 | exact hS.s4 | exact hS.s5 | exact hS.s6 | exact hS2.o | exact hS2.s0 | exact hS2.s1 | exact hS2.s2 | exact hS2.s3 | exact hS2.s4 | exact hS2.s5 | exact hS2.s6 | exact hS3.o | exact hS3.s0 | exact hS3.s1 | exact hS3.s2 | exact hS3.s3 | exact hS3.s4 | exact hS3.s5 | exact hS3.s6) rfl (by omega) rfl 0 0 (Nat.le_refl 0) (Nat.le_refl 0) ?_
    refine c_X6_isHere (by omega) hS hO2 (by omega) ?_
    refine q_ifb_eq (pc := 76) 84 dX7_throwing_76 rfl (fun c76 => ?_) (fun c76 => ?_)
    · refine q_aload_n (pc := 84) dX7_throwing_84 rfl rfl ?_
      refine q_getfield (pc := 85) gf_X7_10 dX7_throwing_85 (by first | assumption | exact hS.o | exact hS.s0 | exact hS.s1 | exact hS.s2 | exact hS.s3 | exact hS.s4 | exact hS.s5 | exact hS.s6 | exact hS2.o | exact hS2.s0 | exact hS2.s1 | exact hS2.s2 | exact hS2.s3 | exact hS2.s4 | exact hS2.s5 | exact hS2.s6 | exact hS3.o | exact hS3.s0 | exact hS3.s1 | exact hS3.s2 | exact hS3.s3 | exact hS3.s4 | exact hS3.s5 | exact hS3.s6) rfl ?_
      refine q_invokevirtual (pc := 88) (d' := d - 1) (mc' := 0) (ms' := 0) (As := []) (TX6, 9) cl_X7_154 dX7_throwing_88 rfl rfl (by first | assumption | exact hS.o | exact hS.s0 | exact hS.s1 | exact hS.s2 | exact hS.s3 | exact hS.s4 | exact hS.s5 | exact hS.s6 | exact hS2.o | exact hS2.s0 | exact hS2.s1 | exact hS2.s2 | exact hS2.s3 | exact hS2.s4 | exact hS2.s5 | exact hS2.s6 | exact hS3.o | exact hS3.s0 | exact hS3.s1 | exact hS3.s2 | exact hS3.s3 | exact hS3.s4 | exact hS3.s5 | exact hS3.s6) rfl (by omega) rfl 0 0 (Nat.le_refl 0) (Nat.le_refl 0) ?_
      refine c_X6_remember (by omega) hS hO2 hO1.2.1 (fun w2 hs2 hS2 => ?_)
      have hX2 := (hs2.2 0 (by omega)).trans hX
      refine q_aload_n (pc := 91) dX7_throwing_91 rfl rfl ?_
      refine q_getfield (pc := 92) gf_X7_10 dX7_throwing_92 (by first | assumption | exact hS.o | exact hS.s0 | exact hS.s1 | exact hS.s2 | exact hS.s3 | exact hS.s4 | exact hS.s5 | exact hS.s6 | exact hS2.o | exact hS2.s0 | exact hS2.s1 | exact hS2.s2 | exact hS2.s3 | exact hS2.s4 | exact hS2.s5 | exact hS2.s6 | exact hS3.o | exact hS3.s0 | exact hS3.s1 | exact hS3.s2 | exact hS3.s3 | exact hS3.s4 | exact hS3.s5 | exact hS3.s6) rfl ?_
      refine q_iload_n (pc := 95) dX7_throwing_95 rfl ?_
      refine q_iload_n (pc := 96) dX7_throwing_96 rfl ?_
      refine q_iload_n (pc := 97) dX7_throwing_97 rfl ?_
      refine q_iload (pc := 98) dX7_throwing_98 rfl ?_
      refine q_invokevirtual (pc := 100) (d' := d - 1) (mc' := 0) (ms' := 0) (As := [_, _, _, _]) (TX6, 9) cl_X7_175 dX7_throwing_100 rfl rfl (by first | assumption | exact hS.o | exact hS.s0 | exact hS.s1 | exact hS.s2 | exact hS.s3 | exact hS.s4 | exact hS.s5 | exact hS.s6 | exact hS2.o | exact hS2.s0 | exact hS2.s1 | exact hS2.s2 | exact hS2.s3 | exact hS2.s4 | exact hS2.s5 | exact hS2.s6 | exact hS3.o | exact hS3.s0 | exact hS3.s1 | exact hS3.s2 | exact hS3.s3 | exact hS3.s4 | exact hS3.s5 | exact hS3.s6) rfl (by omega) rfl 0 0 (Nat.le_refl 0) (Nat.le_refl 0) ?_
      refine c_X6_throwStone (by omega) hS2 hO2 (by omega) (by omega) (by omega) (by omega) (by omega) (fun w3 hs3 hS3 => ?_)
      refine q_ireturn (pc := 103) dX7_throwing_103 rfl ?_
      first | exact zgo k (by unfold o_throwing; rw [if_pos (by omega), if_neg (by omega)]) ((hs2.tr hs3).wide (by omega) (by omega)) (hC.now (hs2.tr hs3) hS3) | exact zgo k (by unfold o_throwing; rw [if_pos (by omega), if_pos (by omega)]) hs9 hC9 | exact zgo k (by unfold o_throwing; rw [if_neg (by omega)]) hs9 hC9
    refine q_aload_n (pc := 79) dX7_throwing_79 rfl rfl ?_
    refine q_invokevirtual (pc := 80) (d' := d - 1) (mc' := 0) (ms' := 0) (As := []) (TX7, 15) cl_X7_172 dX7_throwing_80 rfl rfl (by first | assumption | exact hS.o | exact hS.s0 | exact hS.s1 | exact hS.s2 | exact hS.s3 | exact hS.s4 | exact hS.s5 | exact hS.s6 | exact hS2.o | exact hS2.s0 | exact hS2.s1 | exact hS2.s2 | exact hS2.s3 | exact hS2.s4 | exact hS2.s5 | exact hS2.s6 | exact hS3.o | exact hS3.s0 | exact hS3.s1 | exact hS3.s2 | exact hS3.s3 | exact hS3.s4 | exact hS3.s5 | exact hS3.s6) rfl (by omega) rfl 0 0 (Nat.le_refl 0) (Nat.le_refl 0) ?_
    refine c_X7_no hC (fun w9 hs9 hC9 => ?_)
    refine q_ireturn (pc := 83) dX7_throwing_83 rfl ?_
    first | exact zgo k (by unfold o_throwing; rw [if_pos (by omega), if_neg (by omega)]) ((hs2.tr hs3).wide (by omega) (by omega)) (hC.now (hs2.tr hs3) hS3) | exact zgo k (by unfold o_throwing; rw [if_pos (by omega), if_pos (by omega)]) hs9 hC9 | exact zgo k (by unfold o_throwing; rw [if_neg (by omega)]) hs9 hC9
  refine q_aload_n (pc := 50) dX7_throwing_50 rfl rfl ?_
  refine q_invokevirtual (pc := 51) (d' := d - 1) (mc' := 0) (ms' := 0) (As := []) (TX7, 15) cl_X7_66 dX7_throwing_51 rfl rfl (by first | assumption | exact hS.o | exact hS.s0 | exact hS.s1 | exact hS.s2 | exact hS.s3 | exact hS.s4 | exact hS.s5 | exact hS.s6 | exact hS2.o | exact hS2.s0 | exact hS2.s1 | exact hS2.s2 | exact hS2.s3 | exact hS2.s4 | exact hS2.s5 | exact hS2.s6 | exact hS3.o | exact hS3.s0 | exact hS3.s1 | exact hS3.s2 | exact hS3.s3 | exact hS3.s4 | exact hS3.s5 | exact hS3.s6) rfl (by omega) rfl 0 0 (Nat.le_refl 0) (Nat.le_refl 0) ?_
  refine c_X7_bad (by omega) hC (fun w9 hs9 hC9 => ?_)
  refine q_ireturn (pc := 54) dX7_throwing_54 rfl ?_
  first | exact zgo k (by unfold o_throwing; rw [if_pos (by omega), if_neg (by omega)]) ((hs2.tr hs3).wide (by omega) (by omega)) (hC.now (hs2.tr hs3) hS3) | exact zgo k (by unfold o_throwing; rw [if_pos (by omega), if_pos (by omega)]) hs9 hC9 | exact zgo k (by unfold o_throwing; rw [if_neg (by omega)]) hs9 hC9
set_option maxRecDepth 100000 in
set_option maxHeartbeats 8000000 in
theorem c_X7_hour (hd : 6 ≤ d) (hC : zCl g w S) (hO : zOKS S) (k : ∀ w', zSame w w' 0 72 → zCl g w' (o_hour S).2 → K (some (zI (o_hour S).1)) w') : zCall g d 0 0 mX7_hour [zR g 0] w K := by
  obtain ⟨hX, hS, hA, hB, hD, hI, hJ, hR, hT, hH⟩ := id hC
  have hO1 := hO.1
  have hO2 := hO1.1
  have hO3 := hO2.1
  refine zenter [some _] pn_X7 rfl (Nat.le_of_ble_eq_true rfl) ?_
  refine q_aload_n (pc := 0) dX7_hour_0 rfl rfl ?_
  refine q_getfield (pc := 1) gf_X7_10 dX7_hour_1 (by first | assumption | exact hS.o | exact hS.s0 | exact hS.s1 | exact hS.s2 | exact hS.s3 | exact hS.s4 | exact hS.s5 | exact hS.s6 | exact hS2.o | exact hS2.s0 | exact hS2.s1 | exact hS2.s2 | exact hS2.s3 | exact hS2.s4 | exact hS2.s5 | exact hS2.s6 | exact hS3.o | exact hS3.s0 | exact hS3.s1 | exact hS3.s2 | exact hS3.s3 | exact hS3.s4 | exact hS3.s5 | exact hS3.s6) rfl ?_
  refine q_invokevirtual (pc := 4) (d' := d - 1) (mc' := 0) (ms' := 0) (As := []) (TX6, 9) cl_X7_154 dX7_hour_4 rfl rfl (by first | assumption | exact hS.o | exact hS.s0 | exact hS.s1 | exact hS.s2 | exact hS.s3 | exact hS.s4 | exact hS.s5 | exact hS.s6 | exact hS2.o | exact hS2.s0 | exact hS2.s1 | exact hS2.s2 | exact hS2.s3 | exact hS2.s4 | exact hS2.s5 | exact hS2.s6 | exact hS3.o | exact hS3.s0 | exact hS3.s1 | exact hS3.s2 | exact hS3.s3 | exact hS3.s4 | exact hS3.s5 | exact hS3.s6) rfl (by omega) rfl 0 0 (Nat.le_refl 0) (Nat.le_refl 0) ?_
  refine c_X6_remember (by omega) hS hO2 hO1.2.1 (fun w2 hs2 hS2 => ?_)
  have hX2 := (hs2.2 0 (by omega)).trans hX
  refine q_aload_n (pc := 7) dX7_hour_7 rfl rfl ?_
  refine q_getfield (pc := 8) gf_X7_10 dX7_hour_8 (by first | assumption | exact hS.o | exact hS.s0 | exact hS.s1 | exact hS.s2 | exact hS.s3 | exact hS.s4 | exact hS.s5 | exact hS.s6 | exact hS2.o | exact hS2.s0 | exact hS2.s1 | exact hS2.s2 | exact hS2.s3 | exact hS2.s4 | exact hS2.s5 | exact hS2.s6 | exact hS3.o | exact hS3.s0 | exact hS3.s1 | exact hS3.s2 | exact hS3.s3 | exact hS3.s4 | exact hS3.s5 | exact hS3.s6) rfl ?_
  refine q_invokevirtual (pc := 11) (d' := d - 1) (mc' := 0) (ms' := 0) (As := []) (TX6, 9) cl_X7_179 dX7_hour_11 rfl rfl (by first | assumption | exact hS.o | exact hS.s0 | exact hS.s1 | exact hS.s2 | exact hS.s3 | exact hS.s4 | exact hS.s5 | exact hS.s6 | exact hS2.o | exact hS2.s0 | exact hS2.s1 | exact hS2.s2 | exact hS2.s3 | exact hS2.s4 | exact hS2.s5 | exact hS2.s6 | exact hS3.o | exact hS3.s0 | exact hS3.s1 | exact hS3.s2 | exact hS3.s3 | exact hS3.s4 | exact hS3.s5 | exact hS3.s6) rfl (by omega) rfl 0 0 (Nat.le_refl 0) (Nat.le_refl 0) ?_
  refine c_X6_passHour (by omega) hS2 hO2 (fun w3 hs3 hS3 => ?_)
  refine q_ireturn (pc := 14) dX7_hour_14 rfl ?_
  exact zgo k rfl ((hs2.tr hs3).wide (by omega) (by omega)) (hC.now (hs2.tr hs3) hS3)
set_option maxRecDepth 100000 in
set_option maxHeartbeats 8000000 in
theorem c_X7_wind {v : Int} (hd : 6 ≤ d) (hC : zCl g w S) (hO : zOKS S) (h_v : zR32 v) (k : ∀ w', zSame w w' 0 72 → zCl g w' (o_wind S v).2 → K (some (zI (o_wind S v).1)) w') : zCall g d 0 0 mX7_wind [zR g 0, zI v] w K := by
  obtain ⟨hX, hS, hA, hB, hD, hI, hJ, hR, hT, hH⟩ := id hC
  have hO1 := hO.1
  have hO2 := hO1.1
  have hO3 := hO2.1
  refine zenter [some _, some _, none] pn_X7 rfl (Nat.le_of_ble_eq_true rfl) ?_
  refine q_iload_n (pc := 0) dX7_wind_0 rfl ?_
  refine q_iconst (pc := 1) dX7_wind_1 ?_
  refine q_bipush (pc := 2) (by decide) dX7_wind_2 ?_
  refine q_invokestatic (pc := 4) (d' := d - 1) (mc' := 0) (ms' := 0) (As := [_, _, _]) cl_X7_62 dX7_wind_4 rfl rfl (by omega) rfl 0 0 (Nat.le_refl 0) (Nat.le_refl 0) ?_
  refine c_X7_within (by omega) (by omega) (by omega) ?_
  refine q_ifb_ne (pc := 7) 15 dX7_wind_7 rfl (fun c7 => ?_) (fun c7 => ?_)
  · refine q_aload_n (pc := 15) dX7_wind_15 rfl rfl ?_
    refine q_getfield (pc := 16) gf_X7_10 dX7_wind_16 (by first | assumption | exact hS.o | exact hS.s0 | exact hS.s1 | exact hS.s2 | exact hS.s3 | exact hS.s4 | exact hS.s5 | exact hS.s6 | exact hS2.o | exact hS2.s0 | exact hS2.s1 | exact hS2.s2 | exact hS2.s3 | exact hS2.s4 | exact hS2.s5 | exact hS2.s6 | exact hS3.o | exact hS3.s0 | exact hS3.s1 | exact hS3.s2 | exact hS3.s3 | exact hS3.s4 | exact hS3.s5 | exact hS3.s6) rfl ?_
    refine q_getfield (pc := 19) gf_X7_182 dX7_wind_19 (by first | assumption | exact hS.o | exact hS.s0 | exact hS.s1 | exact hS.s2 | exact hS.s3 | exact hS.s4 | exact hS.s5 | exact hS.s6 | exact hS2.o | exact hS2.s0 | exact hS2.s1 | exact hS2.s2 | exact hS2.s3 | exact hS2.s4 | exact hS2.s5 | exact hS2.s6 | exact hS3.o | exact hS3.s0 | exact hS3.s1 | exact hS3.s2 | exact hS3.s3 | exact hS3.s4 | exact hS3.s5 | exact hS3.s6) rfl ?_
    refine q_istore_n (pc := 22) [some _, some _, some _] dX7_wind_22 rfl (Nat.le_of_ble_eq_true rfl) rfl ?_
    refine q_aload_n (pc := 23) dX7_wind_23 rfl rfl ?_
    refine q_getfield (pc := 24) gf_X7_10 dX7_wind_24 (by first | assumption | exact hS.o | exact hS.s0 | exact hS.s1 | exact hS.s2 | exact hS.s3 | exact hS.s4 | exact hS.s5 | exact hS.s6 | exact hS2.o | exact hS2.s0 | exact hS2.s1 | exact hS2.s2 | exact hS2.s3 | exact hS2.s4 | exact hS2.s5 | exact hS2.s6 | exact hS3.o | exact hS3.s0 | exact hS3.s1 | exact hS3.s2 | exact hS3.s3 | exact hS3.s4 | exact hS3.s5 | exact hS3.s6) rfl ?_
    refine q_invokevirtual (pc := 27) (d' := d - 1) (mc' := 0) (ms' := 0) (As := []) (TX6, 9) cl_X7_154 dX7_wind_27 rfl rfl (by first | assumption | exact hS.o | exact hS.s0 | exact hS.s1 | exact hS.s2 | exact hS.s3 | exact hS.s4 | exact hS.s5 | exact hS.s6 | exact hS2.o | exact hS2.s0 | exact hS2.s1 | exact hS2.s2 | exact hS2.s3 | exact hS2.s4 | exact hS2.s5 | exact hS2.s6 | exact hS3.o | exact hS3.s0 | exact hS3.s1 | exact hS3.s2 | exact hS3.s3 | exact hS3.s4 | exact hS3.s5 | exact hS3.s6) rfl (by omega) rfl 0 0 (Nat.le_refl 0) (Nat.le_refl 0) ?_
    refine c_X6_remember (by omega) hS hO2 hO1.2.1 (fun w2 hs2 hS2 => ?_)
    have hX2 := (hs2.2 0 (by omega)).trans hX
    refine q_aload_n (pc := 30) dX7_wind_30 rfl rfl ?_
    refine q_getfield (pc := 31) gf_X7_10 dX7_wind_31 (by first | assumption | exact hS.o | exact hS.s0 | exact hS.s1 | exact hS.s2 | exact hS.s3 | exact hS.s4 | exact hS.s5 | exact hS.s6 | exact hS2.o | exact hS2.s0 | exact hS2.s1 | exact hS2.s2 | exact hS2.s3 | exact hS2.s4 | exact hS2.s5 | exact hS2.s6 | exact hS3.o | exact hS3.s0 | exact hS3.s1 | exact hS3.s2 | exact hS3.s3 | exact hS3.s4 | exact hS3.s5 | exact hS3.s6) rfl ?_
    refine q_iload_n (pc := 34) dX7_wind_34 rfl ?_
    refine q_putfield2 (pc := 35) [_, _, _, _, _, _, _, _, _] pf_X7_182 dX7_wind_35 (by first | assumption | exact hS.o | exact hS.s0 | exact hS.s1 | exact hS.s2 | exact hS.s3 | exact hS.s4 | exact hS.s5 | exact hS.s6 | exact hS2.o | exact hS2.s0 | exact hS2.s1 | exact hS2.s2 | exact hS2.s3 | exact hS2.s4 | exact hS2.s5 | exact hS2.s6 | exact hS3.o | exact hS3.s0 | exact hS3.s1 | exact hS3.s2 | exact hS3.s3 | exact hS3.s4 | exact hS3.s5 | exact hS3.s6) rfl rfl (Nat.le_of_ble_eq_true rfl) rfl ?_
    refine q_iload_n (pc := 38) dX7_wind_38 rfl ?_
    refine q_ireturn (pc := 39) dX7_wind_39 rfl ?_
    first | exact zgo k (by unfold o_wind; rw [if_pos (by omega)]) ((hs2.tr (zSame.up (by omega))).wide (by omega) (by omega)) (hC.now (hs2.tr (zSame.up (by omega))) hS2.wind) | exact zgo k (by unfold o_wind; rw [if_neg (by omega)]) hs9 hC9
  refine q_aload_n (pc := 10) dX7_wind_10 rfl rfl ?_
  refine q_invokevirtual (pc := 11) (d' := d - 1) (mc' := 0) (ms' := 0) (As := []) (TX7, 15) cl_X7_66 dX7_wind_11 rfl rfl (by first | assumption | exact hS.o | exact hS.s0 | exact hS.s1 | exact hS.s2 | exact hS.s3 | exact hS.s4 | exact hS.s5 | exact hS.s6 | exact hS2.o | exact hS2.s0 | exact hS2.s1 | exact hS2.s2 | exact hS2.s3 | exact hS2.s4 | exact hS2.s5 | exact hS2.s6 | exact hS3.o | exact hS3.s0 | exact hS3.s1 | exact hS3.s2 | exact hS3.s3 | exact hS3.s4 | exact hS3.s5 | exact hS3.s6) rfl (by omega) rfl 0 0 (Nat.le_refl 0) (Nat.le_refl 0) ?_
  refine c_X7_bad (by omega) hC (fun w9 hs9 hC9 => ?_)
  refine q_ireturn (pc := 14) dX7_wind_14 rfl ?_
  first | exact zgo k (by unfold o_wind; rw [if_pos (by omega)]) ((hs2.tr (zSame.up (by omega))).wide (by omega) (by omega)) (hC.now (hs2.tr (zSame.up (by omega))) hS2.wind) | exact zgo k (by unfold o_wind; rw [if_neg (by omega)]) hs9 hC9
set_option maxRecDepth 100000 in
set_option maxHeartbeats 8000000 in
theorem c_X7_undo (hd : 6 ≤ d) (hC : zCl g w S) (hO : zOKS S) (k : ∀ w', zSame w w' 0 72 → zCl g w' (o_undo S).2 → K (some (zI (o_undo S).1)) w') : zCall g d 0 0 mX7_undo [zR g 0] w K := by
  obtain ⟨hX, hS, hA, hB, hD, hI, hJ, hR, hT, hH⟩ := id hC
  have hO1 := hO.1
  have hO2 := hO1.1
  have hO3 := hO2.1
  have hu := hO1.2.1
  refine zenter [some _] pn_X7 rfl (Nat.le_of_ble_eq_true rfl) ?_
  refine q_aload_n (pc := 0) dX7_undo_0 rfl rfl ?_
  refine q_getfield (pc := 1) gf_X7_10 dX7_undo_1 (by first | assumption | exact hS.o | exact hS.s0 | exact hS.s1 | exact hS.s2 | exact hS.s3 | exact hS.s4 | exact hS.s5 | exact hS.s6 | exact hS2.o | exact hS2.s0 | exact hS2.s1 | exact hS2.s2 | exact hS2.s3 | exact hS2.s4 | exact hS2.s5 | exact hS2.s6 | exact hS3.o | exact hS3.s0 | exact hS3.s1 | exact hS3.s2 | exact hS3.s3 | exact hS3.s4 | exact hS3.s5 | exact hS3.s6) rfl ?_
  refine q_getfield (pc := 4) gf_X7_91 dX7_undo_4 (by first | assumption | exact hS.o | exact hS.s0 | exact hS.s1 | exact hS.s2 | exact hS.s3 | exact hS.s4 | exact hS.s5 | exact hS.s6 | exact hS2.o | exact hS2.s0 | exact hS2.s1 | exact hS2.s2 | exact hS2.s3 | exact hS2.s4 | exact hS2.s5 | exact hS2.s6 | exact hS3.o | exact hS3.s0 | exact hS3.s1 | exact hS3.s2 | exact hS3.s3 | exact hS3.s4 | exact hS3.s5 | exact hS3.s6) rfl ?_
  refine q_getfield (pc := 7) gf_X7_74 dX7_undo_7 (by first | assumption | exact hS.o | exact hS.s0 | exact hS.s1 | exact hS.s2 | exact hS.s3 | exact hS.s4 | exact hS.s5 | exact hS.s6 | exact hS2.o | exact hS2.s0 | exact hS2.s1 | exact hS2.s2 | exact hS2.s3 | exact hS2.s4 | exact hS2.s5 | exact hS2.s6 | exact hS3.o | exact hS3.s0 | exact hS3.s1 | exact hS3.s2 | exact hS3.s3 | exact hS3.s4 | exact hS3.s5 | exact hS3.s6) rfl ?_
  refine q_if_ne (pc := 10) (by omega) 18 dX7_undo_10 rfl (fun c10 => ?_) (fun c10 => ?_)
  · refine q_aload_n (pc := 18) dX7_undo_18 rfl rfl ?_
    refine q_getfield (pc := 19) gf_X7_10 dX7_undo_19 (by first | assumption | exact hS.o | exact hS.s0 | exact hS.s1 | exact hS.s2 | exact hS.s3 | exact hS.s4 | exact hS.s5 | exact hS.s6 | exact hS2.o | exact hS2.s0 | exact hS2.s1 | exact hS2.s2 | exact hS2.s3 | exact hS2.s4 | exact hS2.s5 | exact hS2.s6 | exact hS3.o | exact hS3.s0 | exact hS3.s1 | exact hS3.s2 | exact hS3.s3 | exact hS3.s4 | exact hS3.s5 | exact hS3.s6) rfl ?_
    refine q_invokevirtual (pc := 22) (d' := d - 1) (mc' := 0) (ms' := 0) (As := []) (TX6, 9) cl_X7_185 dX7_undo_22 rfl rfl (by first | assumption | exact hS.o | exact hS.s0 | exact hS.s1 | exact hS.s2 | exact hS.s3 | exact hS.s4 | exact hS.s5 | exact hS.s6 | exact hS2.o | exact hS2.s0 | exact hS2.s1 | exact hS2.s2 | exact hS2.s3 | exact hS2.s4 | exact hS2.s5 | exact hS2.s6 | exact hS3.o | exact hS3.s0 | exact hS3.s1 | exact hS3.s2 | exact hS3.s3 | exact hS3.s4 | exact hS3.s5 | exact hS3.s6) rfl (by omega) rfl 0 0 (Nat.le_refl 0) (Nat.le_refl 0) ?_
    refine c_X6_goBack (by omega) hS hO2 (by omega) (fun w2 hs2 hS2 => ?_)
    have hX2 := (hs2.2 0 (by omega)).trans hX
    refine q_aload_n (pc := 25) dX7_undo_25 rfl rfl ?_
    refine q_getfield (pc := 26) gf_X7_10 dX7_undo_26 (by first | assumption | exact hS.o | exact hS.s0 | exact hS.s1 | exact hS.s2 | exact hS.s3 | exact hS.s4 | exact hS.s5 | exact hS.s6 | exact hS2.o | exact hS2.s0 | exact hS2.s1 | exact hS2.s2 | exact hS2.s3 | exact hS2.s4 | exact hS2.s5 | exact hS2.s6 | exact hS3.o | exact hS3.s0 | exact hS3.s1 | exact hS3.s2 | exact hS3.s3 | exact hS3.s4 | exact hS3.s5 | exact hS3.s6) rfl ?_
    refine q_getfield (pc := 29) gf_X7_188 dX7_undo_29 (by first | assumption | exact hS.o | exact hS.s0 | exact hS.s1 | exact hS.s2 | exact hS.s3 | exact hS.s4 | exact hS.s5 | exact hS.s6 | exact hS2.o | exact hS2.s0 | exact hS2.s1 | exact hS2.s2 | exact hS2.s3 | exact hS2.s4 | exact hS2.s5 | exact hS2.s6 | exact hS3.o | exact hS3.s0 | exact hS3.s1 | exact hS3.s2 | exact hS3.s3 | exact hS3.s4 | exact hS3.s5 | exact hS3.s6) rfl ?_
    refine q_ireturn (pc := 32) dX7_undo_32 rfl ?_
    first | exact zgo k (by unfold o_undo; rw [if_neg (by omega)]) (hs2.wide (by omega) (by omega)) (hC.now hs2 hS2) | exact zgo k (by unfold o_undo; rw [if_pos (by omega)]) hs9 hC9
  refine q_aload_n (pc := 13) dX7_undo_13 rfl rfl ?_
  refine q_invokevirtual (pc := 14) (d' := d - 1) (mc' := 0) (ms' := 0) (As := []) (TX7, 15) cl_X7_172 dX7_undo_14 rfl rfl (by first | assumption | exact hS.o | exact hS.s0 | exact hS.s1 | exact hS.s2 | exact hS.s3 | exact hS.s4 | exact hS.s5 | exact hS.s6 | exact hS2.o | exact hS2.s0 | exact hS2.s1 | exact hS2.s2 | exact hS2.s3 | exact hS2.s4 | exact hS2.s5 | exact hS2.s6 | exact hS3.o | exact hS3.s0 | exact hS3.s1 | exact hS3.s2 | exact hS3.s3 | exact hS3.s4 | exact hS3.s5 | exact hS3.s6) rfl (by omega) rfl 0 0 (Nat.le_refl 0) (Nat.le_refl 0) ?_
  refine c_X7_no hC (fun w9 hs9 hC9 => ?_)
  refine q_ireturn (pc := 17) dX7_undo_17 rfl ?_
  first | exact zgo k (by unfold o_undo; rw [if_neg (by omega)]) (hs2.wide (by omega) (by omega)) (hC.now hs2 hS2) | exact zgo k (by unfold o_undo; rw [if_pos (by omega)]) hs9 hC9
end X7D
