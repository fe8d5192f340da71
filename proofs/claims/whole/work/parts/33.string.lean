/-! the JDK's String.length and charAt on the class's five words -/
theorem tj_v : Cond.fieldLink "java/lang/String" 9 "java/lang/String" "value" "[B" ∈ zWL := zWL_of (ztb_7 (i := 19) (by decide +kernel)) rfl
theorem tj_c : Cond.fieldLink "java/lang/String" 15 "java/lang/String" "coder" "B" ∈ zWL := zWL_of (ztb_7 (i := 20) (by decide +kernel)) rfl
theorem tj_p : Cond.fieldLink "java/lang/String" 38 "java/lang/String" "COMPACT_STRINGS" "Z" ∈ zWL := zWL_of (ztb_2 (i := 153) (by decide +kernel)) rfl
theorem tj_f : Cond.fieldLink "java/lang/String" 1053 "jdk/internal/util/Preconditions" "SIOOBE_FORMATTER" "Ljava/util/function/BiFunction;" ∈ zWL := zWL_of (ztb_2 (i := 169) (by decide +kernel)) rfl
theorem tj_i0 : Cond.initialized "java/lang/String" ∈ zWL := zWL_of (ztb_1 (i := 10) (by decide +kernel)) rfl
theorem tj_i1 : Cond.initialized "java/lang/StringLatin1" ∈ zWL := zWL_of (ztb_1 (i := 11) (by decide +kernel)) rfl
theorem tj_i2 : Cond.initialized "jdk/internal/util/Preconditions" ∈ zWL := zWL_of (ztb_1 (i := 12) (by decide +kernel)) rfl
abbrev mJ0_length : zMt := (yJ0_length_8abf5, cJ0_length_8abf5, 1, (some .int))
abbrev mJ0_coder : zMt := (yJ0_coder_7d493, cJ0_coder_7d493, 1, (some .byte))
abbrev mJ0_charAt : zMt := (yJ0_charAt_5068e, cJ0_charAt_5068e, 2, (some .char))
abbrev mJ0_isLatin1 : zMt := (yJ0_isLatin1_aae02, cJ0_isLatin1_aae02, 1, (some .boolean))
abbrev mJ0_checkIndex : zMt := (yJ0_checkIndex_df160, cJ0_checkIndex_df160, 2, none)
abbrev mJ1_charAt : zMt := (yJ1_charAt_3b067, cJ1_charAt_3b067, 2, (some .char))
abbrev mJ3_checkIndex : zMt := (yJ3_checkIndex_8e157, cJ3_checkIndex_8e157, 3, (some .int))
theorem cl_X3_119 : zcl RX3 "HailCellar" 0 119 mJ0_length 0 := ⟨zWL_of (ztb_2 (i := 145) (by decide +kernel)) rfl, zWL_of (ztb_2 (i := 148) rfl) rfl, tj_i0, fun _ => ⟨zWL_of (ztb_2 (i := 146) (by decide +kernel)) rfl, zWL_of (ztb_2 (i := 147) (by decide +kernel)) rfl⟩, fun h => absurd h (by decide), fun h => absurd h (by decide), by decide +kernel, by decide +kernel, by decide +kernel, by decide⟩
theorem cl_X3_128 : zcl RX3 "HailCellar" 0 128 mJ0_charAt 1 := ⟨zWL_of (ztb_2 (i := 155) (by decide +kernel)) rfl, zWL_of (ztb_2 (i := 158) rfl) rfl, tj_i0, fun _ => ⟨zWL_of (ztb_2 (i := 156) (by decide +kernel)) rfl, zWL_of (ztb_2 (i := 157) (by decide +kernel)) rfl⟩, fun h => absurd h (by decide), fun h => absurd h (by decide), by decide +kernel, by decide +kernel, by decide +kernel, by decide⟩
theorem cl_J0_335 : zcl RJ0 "HailCellar" 0 335 mJ0_coder 0 := ⟨zWL_of (ztb_2 (i := 149) (by decide +kernel)) rfl, zWL_of (ztb_2 (i := 152) rfl) rfl, tj_i0, fun _ => ⟨zWL_of (ztb_2 (i := 150) (by decide +kernel)) rfl, zWL_of (ztb_2 (i := 151) (by decide +kernel)) rfl⟩, fun h => absurd h (by decide), fun h => absurd h (by decide), by decide +kernel, by decide +kernel, by decide +kernel, by decide⟩
theorem cl_J0_492 : zcl RJ0 "HailCellar" 0 492 mJ0_isLatin1 0 := ⟨zWL_of (ztb_2 (i := 159) (by decide +kernel)) rfl, zWL_of (ztb_2 (i := 162) rfl) rfl, tj_i0, fun _ => ⟨zWL_of (ztb_2 (i := 160) (by decide +kernel)) rfl, zWL_of (ztb_2 (i := 161) (by decide +kernel)) rfl⟩, fun h => absurd h (by decide), fun h => absurd h (by decide), by decide +kernel, by decide +kernel, by decide +kernel, by decide⟩
theorem cl_J0_495 : zcl RJ0 "HailCellar" 2 495 mJ1_charAt 2 := ⟨zWL_of (ztb_2 (i := 163) (by decide +kernel)) rfl, zWL_of (ztb_2 (i := 165) rfl) rfl, tj_i1, fun h => absurd h (by decide), fun _ => zWL_of (ztb_2 (i := 164) (by decide +kernel)) rfl, fun h => absurd h (by decide), by decide +kernel, by decide +kernel, by decide +kernel, by decide⟩
theorem cl_J1_9 : zcl RJ1 "HailCellar" 2 9 mJ0_checkIndex 2 := ⟨zWL_of (ztb_2 (i := 166) (by decide +kernel)) rfl, zWL_of (ztb_2 (i := 168) rfl) rfl, tj_i0, fun h => absurd h (by decide), fun _ => zWL_of (ztb_2 (i := 167) (by decide +kernel)) rfl, fun h => absurd h (by decide), by decide +kernel, by decide +kernel, by decide +kernel, by decide⟩
theorem cl_J0_1059 : zcl RJ0 "HailCellar" 2 1059 mJ3_checkIndex 3 := ⟨zWL_of (ztb_2 (i := 171) (by decide +kernel)) rfl, zWL_of (ztb_2 (i := 173) rfl) rfl, tj_i2, fun h => absurd h (by decide), fun _ => zWL_of (ztb_2 (i := 172) (by decide +kernel)) rfl, fun h => absurd h (by decide), by decide +kernel, by decide +kernel, by decide +kernel, by decide⟩
theorem pn_J0 : plainName RJ0 = true := by decide +kernel
theorem pn_J1 : plainName RJ1 = true := by decide +kernel
theorem pn_J3 : plainName RJ3 = true := by decide +kernel
def zV (g : zG) (i : Nat) : Value := .ref (g.2.2.2.2.2 i)
def zslen (i : Nat) : Int := ((zLen.getD i 0 : Nat) : Int)
def zschr (i : Nat) (j : Int) : Int := ((zByt.getD i []).getD j.toNat 0).toInt
theorem zschr_b : ∀ i, i < 5 → ∀ j, j < zLen.getD i 0 → 97 ≤ zschr i (j : Int) ∧ zschr i (j : Int) ≤ 122 := by decide +kernel
theorem zslen_b : ∀ i, i < 5 → 5 ≤ zslen i ∧ zslen i ≤ 7 := by decide +kernel
theorem zand255 {a : Int} (h : 0 ≤ a ∧ a ≤ 127) : zand a 255 = a := by
  have e : ∀ n : Fin 128, zand (((n : Nat)) : Int) 255 = ((n : Nat) : Int) := by decide +kernel
  have := e ⟨a.toNat, by omega⟩
  simp only [show ((a.toNat : Nat) : Int) = a by omega] at this
  exact this
theorem zshr0 {a : Int} (h : 0 ≤ a ∧ a ≤ 127) : zshr a 0 = a := by
  have e : ∀ n : Fin 128, zshr (((n : Nat)) : Int) 0 = ((n : Nat) : Int) := by decide +kernel
  have := e ⟨a.toNat, by omega⟩
  simp only [show ((a.toNat : Nat) : Int) = a by omega] at this
  exact this
theorem zi2c {a : Int} (h : 0 ≤ a ∧ a ≤ 127) : ((Int32.ofInt a).toUInt32 % 65536).toInt32 = Int32.ofInt a := by
  have e : ∀ n : Fin 128, ((Int32.ofInt (((n : Nat)) : Int)).toUInt32 % 65536).toInt32 = Int32.ofInt ((n : Nat) : Int) := by decide +kernel
  have := e ⟨a.toNat, by omega⟩
  simp only [show ((a.toNat : Nat) : Int) = a by omega] at this
  exact this
theorem znarc {a : Int} (h : 0 ≤ a ∧ a ≤ 127) : narrow .char (zI a) = zI a := by
  have e : ∀ n : Fin 128, narrow .char (zI (((n : Nat)) : Int)) = zI ((n : Nat) : Int) := by decide +kernel
  have := e ⟨a.toNat, by omega⟩
  simp only [show ((a.toNat : Nat) : Int) = a by omega] at this
  exact this
section ZJ
variable {g : zG} {d : Nat} {M : zMt} {rc rs pc : Nat} {lv : List (Option Value)} {st : List Value} {w : zWd} {K : Option Value → zWd → Prop}
theorem q_sval {i : Nat} (hM : M.1.cls = "java/lang/String") (hi : i < 5) (hd : decode M.2.1 pc = .ok (.getfield 9, 3)) (kk : zRuns g d M rc rs (pc + 3) lv (zV g i :: st) w K) : zRuns g d M rc rs pc lv (zS g i :: st) w K := by
  intro l p e s m args below meth c mc ms cells slots H locs ls hC h1 h2 hW hS hL
  have hown := hC.2.2.2.2.1
  rw [hM] at hown
  exact vk_getf hC.1 hC.2.1 (hC.2.2.2.2.2.2.1.2.1.1 i hi).2.2.1 hS hown (hC.2.2.2.2.2.1 _ tj_v) (fun x h => h) hd (kk l p e s m args below meth c mc ms cells slots H locs ls hC h1 h2 hW hS hL)
theorem q_scod {i : Nat} (hM : M.1.cls = "java/lang/String") (hi : i < 5) (hd : decode M.2.1 pc = .ok (.getfield 15, 3)) (kk : zRuns g d M rc rs (pc + 3) lv (zI 0 :: st) w K) : zRuns g d M rc rs pc lv (zS g i :: st) w K := by
  intro l p e s m args below meth c mc ms cells slots H locs ls hC h1 h2 hW hS hL
  have hown := hC.2.2.2.2.1
  rw [hM] at hown
  exact vk_getf hC.1 hC.2.1 (hC.2.2.2.2.2.2.1.2.1.1 i hi).2.1 hS hown (hC.2.2.2.2.2.1 _ tj_c) (fun x h => h) hd (kk l p e s m args below meth c mc ms cells slots H locs ls hC h1 h2 hW hS hL)
theorem q_scompact (hM : M.1.cls = "java/lang/String") (hd : decode M.2.1 pc = .ok (.getstatic 38, 3)) (kk : zRuns g d M rc rs (pc + 3) lv (zI 1 :: st) w K) : zRuns g d M rc rs pc lv st w K := by
  intro l p e s m args below meth c mc ms cells slots H locs ls hC h1 h2 hW hS hL
  have hown := hC.2.2.2.2.1
  rw [hM] at hown
  exact va_gets hC.1 hC.2.1 hC.2.2.2.2.2.2.1.2.2.2.1 hS hown (hC.2.2.2.2.2.1 _ tj_p) (fun x h => h) hd (kk l p e s m args below meth c mc ms cells slots H locs ls hC h1 h2 hW hS hL)
theorem q_sform (hM : M.1.cls = "java/lang/String") (hd : decode M.2.1 pc = .ok (.getstatic 1053, 3)) (kk : ∀ v, v.category = 1 → zwide v = false → zRuns g d M rc rs (pc + 3) lv (v :: st) w K) : zRuns g d M rc rs pc lv st w K := by
  intro l p e s m args below meth c mc ms cells slots H locs ls hC h1 h2 hW hS hL
  have hown := hC.2.2.2.2.1
  rw [hM] at hown
  rcases hC.2.2.2.2.2.2.1.2.2.2.2.1 with h | ⟨t, h⟩
  · exact va_gets hC.1 hC.2.1 h hS hown (hC.2.2.2.2.2.1 _ tj_f) (fun x h => h) hd (kk _ rfl rfl l p e s m args below meth c mc ms cells slots H locs ls hC h1 h2 hW hS hL)
  · exact va_gets hC.1 hC.2.1 h hS hown (hC.2.2.2.2.2.1 _ tj_f) (fun x h => h) hd (kk _ rfl rfl l p e s m args below meth c mc ms cells slots H locs ls hC h1 h2 hW hS hL)
theorem q_slen {i : Nat} (hi : i < 5) (hd : decode M.2.1 pc = .ok (.arraylength, 1)) (kk : zRuns g d M rc rs (pc + 1) lv (zI (zslen i) :: st) w K) : zRuns g d M rc rs pc lv (zV g i :: st) w K := by
  intro l p e s m args below meth c mc ms cells slots H locs ls hC h1 h2 hW hS hL
  exact va_tlen hC.1 hC.2.1 (hC.2.2.2.2.2.2.1.2.1.1 i hi).2.2.2 hS rfl hd (kk l p e s m args below meth c mc ms cells slots H locs ls hC h1 h2 hW hS hL)
theorem q_sbyte {i : Nat} {j : Int} (hi : i < 5) (hj : 0 ≤ j ∧ j < zslen i) (hd : decode M.2.1 pc = .ok (.baload, 1)) (kk : zRuns g d M rc rs (pc + 1) lv (zI (zschr i j) :: st) w K) : zRuns g d M rc rs pc lv (zI j :: zV g i :: st) w K := by
  intro l p e s m args below meth c mc ms cells slots H locs ls hC h1 h2 hW hS hL
  have hb := zslen_b i hi
  have hx := zix (n := zLen.getD i 0) (i := j) (by unfold zslen at hb; omega) hj
  refine va_tb hC.1 hC.2.1 (hC.2.2.2.2.2.2.1.2.1.1 i hi).2.2.2 hS hx.1 (v := zI (zschr i j)) ?_ hd (kk l p e s m args below meth c mc ms cells slots H locs ls hC h1 h2 hW hS hL)
  show Value.int _ = Value.int _
  congr 1
  unfold zschr
  rw [Int32.ofInt_toInt, show (Int32.ofInt j).toNatClampNeg = j.toNat by omega]
theorem q_i2c {a : Int} (h : 0 ≤ a ∧ a ≤ 127) (hd : decode M.2.1 pc = .ok (.i2c, 1)) (kk : zRuns g d M rc rs (pc + 1) lv (zI a :: st) w K) : zRuns g d M rc rs pc lv (zI a :: st) w K := by
  intro l p e s m args below meth c mc ms cells slots H locs ls hC h1 h2 hW hS hL
  exact lv_i2c hC.1 hC.2.1 hd (zi2c h) (kk l p e s m args below meth c mc ms cells slots H locs ls hC h1 h2 hW hS hL)
theorem q_nreturn {a : Int} {ty : FieldType} (hd : decode M.2.1 pc = .ok (.ireturn, 1)) (hr : M.2.2.2 = some ty) (hn : narrow ty (zI a) = zI a) (k : K (some (zI a)) w) : zRuns g d M rc rs pc lv [zI a] w K := by
  intro l p e s m args below meth c mc ms cells slots H locs ls hC h1 h2 hW hS hL
  have hlocks : meth.locks = false := hC.2.2.2.2.2.2.2.2.1
  refine W.widen (k := mc) (n := ms) (by omega) (by omega) ?_
  exact W.zret hC.1 hC.2.1 (hC.2.2.1.trans hr) hn (fun t ht _ => ⟨⟨_, _, rfl, k, by rw [ht]; exact hW⟩, hS.F ht⟩) hS.2.2 hd
theorem q_invokestr {host : String} {ix n d' mc' ms' i : Nat} {M' : zMt} {As : List Value} {st0 : List Value} (hi : i < 5) (hf : zcl M.1.cls host 0 ix M' n) (hd : decode M.2.1 pc = .ok (.invokevirtual ix, 3)) (hn : As.length = n) (hst : st0 = As.reverse ++ zS g i :: st) (hcls : M'.1.cls = "java/lang/String") (hdd : d' + 1 ≤ d) (hrm : Nat.ble ((st.map fun v => v.category).sum) 8 = true) (rc' rs' : Nat) (hrc : rc' + mc' ≤ rc) (hrs : rs' + ms' ≤ rs)
    (h : zCall g d' mc' ms' M' (zS g i :: As) w (fun v w' => zRuns g d M rc' rs' (pc + 3) lv (zpush v st) w' K)) : zRuns g d M rc rs pc lv st0 w K := by
  intro l p e s m args below meth c mc ms cells slots H locs ls hC h1 h2 hW hS hL
  subst hst
  have hts := hC.2.2.2.2.2.1
  have hq := hf.2.2.2.1 (by decide)
  have hv := vk_recv hC.2.2.2.2.2.2.1.2.1 hi hS
  rw [← hcls] at hv
  have hr := va_runV (l := l) (e := e) (below := below) (meth := meth) (H := H) (locs := locs) (cells := cells) (slots := slots) (R := zrm d mc ms) (g := F0 m pc ls (As.reverse ++ zS g i :: st)) (As := As) (rest := st) (b := g.2.2.2.2.1 i) ⟨hC.1, hC.2.1, hC.2.2.2.1, hC.2.2.2.2.1, hts⟩ (h l) ⟨zcl_B (d := d) (d' := d') hf rfl hts hdd, hts _ hq.1, hts _ hq.2⟩
    ⟨zPK_blind, hv, fun U hU hw => zPK_pre hC hW hS U hU hw⟩ rfl hn hL.1 rfl (zroom hrm) hd ⟨by show cells + mc' ≤ mc; omega, by show slots + ms' ≤ ms; omega⟩
  exact zback hC h1 h2 hS hL hrc hrs hr (fun v w' hk => hk)
end ZJ
section J0
variable {g : zG} {d : Nat} {w : zWd} {K : Option Value → zWd → Prop} {i : Nat}
set_option maxRecDepth 100000 in
set_option maxHeartbeats 4000000 in
theorem c_J0_coder (hi : i < 5) (k : K (some (zI 0)) w) : zCall g d 0 0 mJ0_coder [zS g i] w K := by
  refine zenter [some _] pn_J0 rfl (Nat.le_of_ble_eq_true rfl) ?_
  refine q_scompact (pc := 0) rfl dJ0_coder_7d493_0 ?_
  refine q_if_eq (pc := 3) (by omega) 13 dJ0_coder_7d493_3 rfl (fun c3 => ?_) (fun c3 => ?_)
  · exfalso; omega
  refine q_aload_n (pc := 6) dJ0_coder_7d493_6 rfl rfl ?_
  refine q_scod (pc := 7) rfl hi dJ0_coder_7d493_7 ?_
  refine q_goto (pc := 10) 14 dJ0_coder_7d493_10 rfl ?_
  exact q_nreturn (pc := 14) dJ0_coder_7d493_14 rfl rfl k
set_option maxRecDepth 100000 in
set_option maxHeartbeats 4000000 in
theorem c_J0_isLatin1 (hi : i < 5) (k : K (some (zI (zb True))) w) : zCall g d 0 0 mJ0_isLatin1 [zS g i] w K := by
  refine zenter [some _] pn_J0 rfl (Nat.le_of_ble_eq_true rfl) ?_
  refine q_scompact (pc := 0) rfl dJ0_isLatin1_aae02_0 ?_
  refine q_if_eq (pc := 3) (by omega) 17 dJ0_isLatin1_aae02_3 rfl (fun c3 => ?_) (fun c3 => ?_)
  · exfalso; omega
  refine q_aload_n (pc := 6) dJ0_isLatin1_aae02_6 rfl rfl ?_
  refine q_scod (pc := 7) rfl hi dJ0_isLatin1_aae02_7 ?_
  refine q_if_ne (pc := 10) (by omega) 17 dJ0_isLatin1_aae02_10 rfl (fun c3 => ?_) (fun c3 => ?_)
  · exfalso; omega
  refine q_iconst (pc := 13) dJ0_isLatin1_aae02_13 ?_
  refine q_goto (pc := 14) 18 dJ0_isLatin1_aae02_14 rfl ?_
  exact q_zreturn1 (pc := 18) trivial dJ0_isLatin1_aae02_18 rfl k
set_option maxRecDepth 100000 in
set_option maxHeartbeats 4000000 in
theorem c_J0_length (hd : 1 ≤ d) (hi : i < 5) (k : K (some (zI (zslen i))) w) : zCall g d 0 0 mJ0_length [zS g i] w K := by
  have hb := zslen_b i hi
  refine zenter [some _] pn_J0 rfl (Nat.le_of_ble_eq_true rfl) ?_
  refine q_aload_n (pc := 0) dJ0_length_8abf5_0 rfl rfl ?_
  refine q_sval (pc := 1) rfl hi dJ0_length_8abf5_1 ?_
  refine q_slen (pc := 4) hi dJ0_length_8abf5_4 ?_
  refine q_aload_n (pc := 5) dJ0_length_8abf5_5 rfl rfl ?_
  refine q_invokestr (pc := 6) (d' := d - 1) (mc' := 0) (ms' := 0) (As := []) hi cl_J0_335 dJ0_length_8abf5_6 rfl rfl rfl (by omega) rfl 0 0 (Nat.le_refl 0) (Nat.le_refl 0) ?_
  refine c_J0_coder hi ?_
  refine q_ishr (pc := 9) dJ0_length_8abf5_9 ?_
  rw [zshr0 (by omega)]
  exact q_ireturn (pc := 10) dJ0_length_8abf5_10 rfl k
set_option maxRecDepth 100000 in
set_option maxHeartbeats 4000000 in
theorem c_J3_checkIndex {j n : Int} {v : Value} (hv : v.category = 1) (hvw : zwide v = false) (hj : 0 ≤ j ∧ j < n) (hn : n ≤ 100) (k : K (some (zI j)) w) : zCall g d 0 0 mJ3_checkIndex [zI j, zI n, v] w K := by
  have e : zlv0 [zI j, zI n, v] 3 = [some (zI j), some (zI n), some v] := by cases v <;> first | rfl | cases hvw
  have e2 : (zlv [zI j, zI n, v]).length ≤ 3 := by cases v <;> first | exact Nat.le_of_ble_eq_true rfl | cases hvw
  refine zenter [some _, some _, some _] pn_J3 e e2 ?_
  refine q_iload_n (pc := 0) dJ3_checkIndex_8e157_0 rfl ?_
  refine q_if_lt (pc := 1) (by omega) 9 dJ3_checkIndex_8e157_1 rfl (fun c3 => ?_) (fun c3 => ?_)
  · exfalso; omega
  refine q_iload_n (pc := 4) dJ3_checkIndex_8e157_4 rfl ?_
  refine q_iload_n (pc := 5) dJ3_checkIndex_8e157_5 rfl ?_
  refine q_icmp_lt (pc := 6) (by omega) (by omega) 16 dJ3_checkIndex_8e157_6 rfl (fun c3 => ?_) (fun c3 => ?_)
  · refine q_iload_n (pc := 16) dJ3_checkIndex_8e157_16 rfl ?_
    exact q_ireturn (pc := 17) dJ3_checkIndex_8e157_17 rfl k
  · exfalso; omega
set_option maxRecDepth 100000 in
set_option maxHeartbeats 4000000 in
theorem c_J0_checkIndex {j n : Int} (hd : 1 ≤ d) (hj : 0 ≤ j ∧ j < n) (hn : n ≤ 100) (k : K none w) : zCall g d 0 0 mJ0_checkIndex [zI j, zI n] w K := by
  refine zenter [some _, some _] pn_J0 rfl (Nat.le_of_ble_eq_true rfl) ?_
  refine q_iload_n (pc := 0) dJ0_checkIndex_df160_0 rfl ?_
  refine q_iload_n (pc := 1) dJ0_checkIndex_df160_1 rfl ?_
  refine q_sform (pc := 2) rfl dJ0_checkIndex_df160_2 (fun v hv hvw => ?_)
  refine q_invokestatic (pc := 5) (d' := d - 1) (mc' := 0) (ms' := 0) (As := [_, _, _]) cl_J0_1059 dJ0_checkIndex_df160_5 rfl rfl (by omega) rfl 0 0 (Nat.le_refl 0) (Nat.le_refl 0) ?_
  refine c_J3_checkIndex hv hvw hj hn ?_
  refine q_pop (pc := 8) rfl dJ0_checkIndex_df160_8 ?_
  exact q_return (pc := 9) dJ0_checkIndex_df160_9 rfl k
set_option maxRecDepth 100000 in
set_option maxHeartbeats 4000000 in
theorem c_J1_charAt {j : Int} (hd : 2 ≤ d) (hi : i < 5) (hj : 0 ≤ j ∧ j < zslen i) (k : K (some (zI (zschr i j))) w) : zCall g d 0 0 mJ1_charAt [zV g i, zI j] w K := by
  have hb := zslen_b i hi
  have hx := zschr_b i hi j.toNat (by unfold zslen at hj; omega)
  rw [show ((j.toNat : Nat) : Int) = j by omega] at hx
  refine zenter [some _, some _] pn_J1 rfl (Nat.le_of_ble_eq_true rfl) ?_
  refine q_iload_n (pc := 0) dJ1_charAt_3b067_0 rfl ?_
  refine q_aload_n (pc := 1) dJ1_charAt_3b067_1 rfl rfl ?_
  refine q_slen (pc := 2) hi dJ1_charAt_3b067_2 ?_
  refine q_invokestatic (pc := 3) (d' := d - 1) (mc' := 0) (ms' := 0) (As := [_, _]) cl_J1_9 dJ1_charAt_3b067_3 rfl rfl (by omega) rfl 0 0 (Nat.le_refl 0) (Nat.le_refl 0) ?_
  refine c_J0_checkIndex (by omega) hj (by omega) ?_
  refine q_aload_n (pc := 6) dJ1_charAt_3b067_6 rfl rfl ?_
  refine q_iload_n (pc := 7) dJ1_charAt_3b067_7 rfl ?_
  refine q_sbyte (pc := 8) hi hj dJ1_charAt_3b067_8 ?_
  refine q_sipush (pc := 9) (by decide) dJ1_charAt_3b067_9 ?_
  refine q_iand (pc := 12) dJ1_charAt_3b067_12 ?_
  rw [zand255 (by omega)]
  refine q_i2c (pc := 13) (by omega) dJ1_charAt_3b067_13 ?_
  exact q_nreturn (pc := 14) dJ1_charAt_3b067_14 rfl (znarc (by omega)) k
set_option maxRecDepth 100000 in
set_option maxHeartbeats 4000000 in
theorem c_J0_charAt {j : Int} (hd : 3 ≤ d) (hi : i < 5) (hj : 0 ≤ j ∧ j < zslen i) (k : K (some (zI (zschr i j))) w) : zCall g d 0 0 mJ0_charAt [zS g i, zI j] w K := by
  have hb := zslen_b i hi
  have hx := zschr_b i hi j.toNat (by unfold zslen at hj; omega)
  rw [show ((j.toNat : Nat) : Int) = j by omega] at hx
  refine zenter [some _, some _] pn_J0 rfl (Nat.le_of_ble_eq_true rfl) ?_
  refine q_aload_n (pc := 0) dJ0_charAt_5068e_0 rfl rfl ?_
  refine q_invokestr (pc := 1) (d' := d - 1) (mc' := 0) (ms' := 0) (As := []) hi cl_J0_492 dJ0_charAt_5068e_1 rfl rfl rfl (by omega) rfl 0 0 (Nat.le_refl 0) (Nat.le_refl 0) ?_
  refine c_J0_isLatin1 hi ?_
  refine q_ifb_eq (pc := 4) 16 dJ0_charAt_5068e_4 rfl (fun c3 => ?_) (fun c3 => ?_)
  · exact absurd trivial c3
  refine q_aload_n (pc := 7) dJ0_charAt_5068e_7 rfl rfl ?_
  refine q_sval (pc := 8) rfl hi dJ0_charAt_5068e_8 ?_
  refine q_iload_n (pc := 11) dJ0_charAt_5068e_11 rfl ?_
  refine q_invokestatic (pc := 12) (d' := d - 1) (mc' := 0) (ms' := 0) (As := [_, _]) cl_J0_495 dJ0_charAt_5068e_12 rfl rfl (by omega) rfl 0 0 (Nat.le_refl 0) (Nat.le_refl 0) ?_
  refine c_J1_charAt (by omega) hi hj ?_
  exact q_nreturn (pc := 15) dJ0_charAt_5068e_15 rfl (znarc (by omega)) k
end J0
