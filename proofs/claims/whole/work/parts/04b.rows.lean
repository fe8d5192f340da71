def zref : Value → Bool
  | .ref _ => true
  | _ => false
theorem zref_e {v : Value} (h : zref v = true) : ∃ a, v = .ref a := by cases v <;> first | exact ⟨_, rfl⟩ | cases h
abbrev zR32 (a : Int) : Prop := -2147483648 ≤ a ∧ a ≤ 2147483647
abbrev zR64 (a : Int) : Prop := -9223372036854775808 ≤ a ∧ a ≤ 9223372036854775807
def zb (P : Prop) [Decidable P] : Int := if P then 1 else 0
def zcmp (a b : Int) : Int := if b < a then 1 else if a = b then 0 else -1
def zand (a b : Int) : Int := (Int32.ofInt a &&& Int32.ofInt b).toInt
def zor (a b : Int) : Int := (Int32.ofInt a ||| Int32.ofInt b).toInt
def zshl (a b : Int) : Int := (Int32.ofInt a <<< (Int32.ofInt b &&& 31)).toInt
def zshr (a b : Int) : Int := (Int32.ofInt a >>> (Int32.ofInt b &&& 31)).toInt
theorem zi_t {a : Int} (h : zR32 a) : (Int32.ofInt a).toInt = a := Int32.toInt_ofInt_of_le (by omega) (by omega)
theorem zj_t {a : Int} (h : zR64 a) : (Int64.ofInt a).toInt = a := Int64.toInt_ofInt_of_le (by omega) (by omega)
theorem zi_lt {a b : Int} (ha : zR32 a) (hb : zR32 b) : Int32.ofInt a < Int32.ofInt b ↔ a < b := by rw [Int32.lt_iff_toInt_lt, zi_t ha, zi_t hb]
theorem zi_le {a b : Int} (ha : zR32 a) (hb : zR32 b) : Int32.ofInt a ≤ Int32.ofInt b ↔ a ≤ b := by rw [Int32.le_iff_toInt_le, zi_t ha, zi_t hb]
theorem zi_eq {a b : Int} (ha : zR32 a) (hb : zR32 b) : Int32.ofInt a = Int32.ofInt b ↔ a = b := by rw [← Int32.toInt_inj, zi_t ha, zi_t hb]
theorem zj_lt {a b : Int} (ha : zR64 a) (hb : zR64 b) : Int64.ofInt a < Int64.ofInt b ↔ a < b := by rw [Int64.lt_iff_toInt_lt, zj_t ha, zj_t hb]
theorem zj_eq {a b : Int} (ha : zR64 a) (hb : zR64 b) : Int64.ofInt a = Int64.ofInt b ↔ a = b := by rw [← Int64.toInt_inj, zj_t ha, zj_t hb]
theorem zi_0 : Int32.ofInt 0 = 0 := rfl
theorem zi_lt0 {a : Int} (ha : zR32 a) : Int32.ofInt a < 0 ↔ a < 0 := by rw [← zi_0]; exact zi_lt ha (by omega)
theorem zi_0lt {a : Int} (ha : zR32 a) : 0 < Int32.ofInt a ↔ 0 < a := by rw [← zi_0]; exact zi_lt (by omega) ha
theorem zi_le0 {a : Int} (ha : zR32 a) : Int32.ofInt a ≤ 0 ↔ a ≤ 0 := by rw [← zi_0]; exact zi_le ha (by omega)
theorem zi_0le {a : Int} (ha : zR32 a) : 0 ≤ Int32.ofInt a ↔ 0 ≤ a := by rw [← zi_0]; exact zi_le (by omega) ha
theorem zi_eq0 {a : Int} (ha : zR32 a) : Int32.ofInt a = 0 ↔ a = 0 := by rw [← zi_0]; exact zi_eq ha (by omega)
theorem zb_R {P : Prop} [Decidable P] : zR32 (zb P) := by unfold zb; split <;> omega
theorem zb_1 {P : Prop} [Decidable P] : zb P = 1 ↔ P := by unfold zb; split <;> simp_all
theorem zb_0 {P : Prop} [Decidable P] : zb P = 0 ↔ ¬ P := by unfold zb; split <;> simp_all
theorem zb_t {P : Prop} [Decidable P] (h : P) : zb P = 1 := zb_1.mpr h
theorem zb_f {P : Prop} [Decidable P] (h : ¬ P) : zb P = 0 := zb_0.mpr h
theorem zcmp_R {a b : Int} : zR32 (zcmp a b) := by unfold zcmp; split <;> (try split) <;> omega
theorem zi_div {a b : Int} (ha : zR32 a) (h0 : 0 ≤ a) (hb : zR32 b) (hb0 : 0 < b) : Int32.ofInt a / Int32.ofInt b = Int32.ofInt (a / b) := by
  rw [← Int32.toInt_inj, Int32.toInt_div, zi_t ha, zi_t hb, Int.tdiv_eq_ediv_of_nonneg h0]
  have h1 : 0 ≤ a / b := Int.ediv_nonneg h0 (by omega)
  have h2 : a / b ≤ a := Int.ediv_le_self b h0
  rw [zi_t (by omega)]
  exact Int.bmod_eq_of_le (by omega) (by omega)
theorem zi_rem {a b : Int} (ha : zR32 a) (h0 : 0 ≤ a) (hb : zR32 b) (hb0 : 0 < b) : Int32.ofInt a - Int32.ofInt a / Int32.ofInt b * Int32.ofInt b = Int32.ofInt (a % b) := by
  rw [zi_div ha h0 hb hb0, ← Int32.ofInt_mul, ← Int32.ofInt_sub]
  congr 1
  have := Int.emod_add_mul_ediv a b
  rw [Int.mul_comm] at this
  omega
theorem zj_div {a b : Int} (ha : zR64 a) (h0 : 0 ≤ a) (hb : zR64 b) (hb0 : 0 < b) : Int64.ofInt a / Int64.ofInt b = Int64.ofInt (a / b) := by
  rw [← Int64.toInt_inj, Int64.toInt_div, zj_t ha, zj_t hb, Int.tdiv_eq_ediv_of_nonneg h0]
  have h1 : 0 ≤ a / b := Int.ediv_nonneg h0 (by omega)
  have h2 : a / b ≤ a := Int.ediv_le_self b h0
  rw [zj_t (by omega)]
  exact Int.bmod_eq_of_le (by omega) (by omega)
theorem zj_rem {a b : Int} (ha : zR64 a) (h0 : 0 ≤ a) (hb : zR64 b) (hb0 : 0 < b) : Int64.ofInt a - Int64.ofInt a / Int64.ofInt b * Int64.ofInt b = Int64.ofInt (a % b) := by
  rw [zj_div ha h0 hb hb0, ← Int64.ofInt_mul, ← Int64.ofInt_sub]
  congr 1
  have := Int.emod_add_mul_ediv a b
  rw [Int.mul_comm] at this
  omega
theorem zi_i2l {a : Int} (ha : zR32 a) : (Int32.ofInt a).toInt64 = Int64.ofInt a := by
  rw [← Int64.toInt_inj, Int32.toInt_toInt64, zi_t ha, zj_t (by omega)]
theorem zj_l2i {a : Int} : (Int64.ofInt a).toInt32 = Int32.ofInt a := by
  rw [← Int32.toInt_inj, Int64.toInt_toInt32, Int64.toInt_ofInt, Int32.toInt_ofInt]
  exact Int.bmod_bmod_of_dvd (by decide)
theorem zb8 {n : Int} (h : -128 ≤ n ∧ n ≤ 127) : (Int8.ofInt n).toInt32 = Int32.ofInt n := by
  rw [← Int32.toInt_inj, Int8.toInt_toInt32, Int8.toInt_ofInt_of_le (by omega) (by omega), zi_t (by omega)]
theorem zb16 {n : Int} (h : -32768 ≤ n ∧ n ≤ 32767) : (Int16.ofInt n).toInt32 = Int32.ofInt n := by
  rw [← Int32.toInt_inj, Int16.toInt_toInt32, Int16.toInt_ofInt_of_le (by omega) (by omega), zi_t (by omega)]
section ZR
variable {g : zG} {d : Nat} {M : zMt} {rc rs pc : Nat} {lv : List (Option Value)} {st : List Value} {w : zWd} {K : Option Value → zWd → Prop}
theorem q_iconst {n : Int} (hd : decode M.2.1 pc = .ok (.iconst n, 1)) (k : zRuns g d M rc rs (pc + 1) lv (zI n :: st) w K) : zRuns g d M rc rs pc lv (st) w K := by
  intro l p e s m args below meth c mc ms cells slots H locs ls hC h1 h2 hW hS hL
  have k := k l p e s m args below meth c mc ms cells slots H locs ls hC h1 h2 hW hS hL
  exact lv_iconst hC.1 hC.2.1 hd rfl k
theorem q_bipush {n : Int} (hn : -128 ≤ n ∧ n ≤ 127) (hd : decode M.2.1 pc = .ok (.bipush n, 2)) (k : zRuns g d M rc rs (pc + 2) lv (zI n :: st) w K) : zRuns g d M rc rs pc lv (st) w K := by
  intro l p e s m args below meth c mc ms cells slots H locs ls hC h1 h2 hW hS hL
  have k := k l p e s m args below meth c mc ms cells slots H locs ls hC h1 h2 hW hS hL
  exact lv_bipush hC.1 hC.2.1 hd (zb8 hn) k
theorem q_sipush {n : Int} (hn : -32768 ≤ n ∧ n ≤ 32767) (hd : decode M.2.1 pc = .ok (.sipush n, 3)) (k : zRuns g d M rc rs (pc + 3) lv (zI n :: st) w K) : zRuns g d M rc rs pc lv (st) w K := by
  intro l p e s m args below meth c mc ms cells slots H locs ls hC h1 h2 hW hS hL
  have k := k l p e s m args below meth c mc ms cells slots H locs ls hC h1 h2 hW hS hL
  exact lv_sipush hC.1 hC.2.1 hd (zb16 hn) k
theorem q_ldc {ix : Nat} {n : Int} (hw : Cond.constant M.1.cls ix (Int32.ofInt n) ∈ zWL) (hd : decode M.2.1 pc = .ok (.ldc ix, 2)) (k : zRuns g d M rc rs (pc + 2) lv (zI n :: st) w K) : zRuns g d M rc rs pc lv (st) w K := by
  intro l p e s m args below meth c mc ms cells slots H locs ls hC h1 h2 hW hS hL
  have k := k l p e s m args below meth c mc ms cells slots H locs ls hC h1 h2 hW hS hL
  exact lv_ldc hC.1 hC.2.1 hC.2.2.2.2.1 (hC.2.2.2.2.2.1 _ hw) hd k
theorem q_ldc_w {ix : Nat} {n : Int} (hw : Cond.constant M.1.cls ix (Int32.ofInt n) ∈ zWL) (hd : decode M.2.1 pc = .ok (.ldc_w ix, 3)) (k : zRuns g d M rc rs (pc + 3) lv (zI n :: st) w K) : zRuns g d M rc rs pc lv (st) w K := by
  intro l p e s m args below meth c mc ms cells slots H locs ls hC h1 h2 hW hS hL
  have k := k l p e s m args below meth c mc ms cells slots H locs ls hC h1 h2 hW hS hL
  exact lv_ldcw hC.1 hC.2.1 hC.2.2.2.2.1 (hC.2.2.2.2.2.1 _ hw) hd k
theorem q_ldc2_w {ix : Nat} {n : Int} (hw : Cond.constantLong M.1.cls ix (Int64.ofInt n) ∈ zWL) (hd : decode M.2.1 pc = .ok (.ldc2_w ix, 3)) (k : zRuns g d M rc rs (pc + 3) lv (zJ n :: st) w K) : zRuns g d M rc rs pc lv (st) w K := by
  intro l p e s m args below meth c mc ms cells slots H locs ls hC h1 h2 hW hS hL
  have k := k l p e s m args below meth c mc ms cells slots H locs ls hC h1 h2 hW hS hL
  exact lv_ldc2 hC.1 hC.2.1 hC.2.2.2.2.1 (hC.2.2.2.2.2.1 _ hw) hd k
theorem q_lconst {n : Fin 2} {v : Int} (hd : decode M.2.1 pc = .ok (.lconst n, 1)) (hv : v = (n : Nat)) (k : zRuns g d M rc rs (pc + 1) lv (zJ v :: st) w K) : zRuns g d M rc rs pc lv (st) w K := by
  intro l p e s m args below meth c mc ms cells slots H locs ls hC h1 h2 hW hS hL
  have k := k l p e s m args below meth c mc ms cells slots H locs ls hC h1 h2 hW hS hL
  subst hv
  exact lv_lconst hC.1 hC.2.1 hd rfl k
theorem q_iload_n {i : Fin 4} {a : Int} (hd : decode M.2.1 pc = .ok (.iload_n i, 1)) (hl : zget lv (i : Nat) = some (zI a)) (k : zRuns g d M rc rs (pc + 1) lv (zI a :: st) w K) : zRuns g d M rc rs pc lv (st) w K := by
  intro l p e s m args below meth c mc ms cells slots H locs ls hC h1 h2 hW hS hL
  have k := k l p e s m args below meth c mc ms cells slots H locs ls hC h1 h2 hW hS hL
  exact lv_iload_n hC.1 hC.2.1 hd rfl (hL.at hl) k
theorem q_lload_n {i : Fin 4} {a : Int} (hd : decode M.2.1 pc = .ok (.lload_n i, 1)) (hl : zget lv (i : Nat) = some (zJ a)) (k : zRuns g d M rc rs (pc + 1) lv (zJ a :: st) w K) : zRuns g d M rc rs pc lv (st) w K := by
  intro l p e s m args below meth c mc ms cells slots H locs ls hC h1 h2 hW hS hL
  have k := k l p e s m args below meth c mc ms cells slots H locs ls hC h1 h2 hW hS hL
  exact lv_lload_n hC.1 hC.2.1 hd rfl (hL.at hl) k
theorem q_iload {i : Nat} {a : Int} (hd : decode M.2.1 pc = .ok (.iload i, 2)) (hl : zget lv i = some (zI a)) (k : zRuns g d M rc rs (pc + 2) lv (zI a :: st) w K) : zRuns g d M rc rs pc lv (st) w K := by
  intro l p e s m args below meth c mc ms cells slots H locs ls hC h1 h2 hW hS hL
  have k := k l p e s m args below meth c mc ms cells slots H locs ls hC h1 h2 hW hS hL
  exact lv_iload hC.1 hC.2.1 hd (hL.at hl) k
theorem q_aload_n {i : Fin 4} {v : Value} (hd : decode M.2.1 pc = .ok (.aload_n i, 1)) (hl : zget lv (i : Nat) = some v) (hv : zref v = true) (k : zRuns g d M rc rs (pc + 1) lv (v :: st) w K) : zRuns g d M rc rs pc lv st w K := by
  intro l p e s m args below meth c mc ms cells slots H locs ls hC h1 h2 hW hS hL
  obtain ⟨a, rfl⟩ := zref_e hv
  exact lv_aload_n hC.1 hC.2.1 hd rfl (hL.at hl) (k l p e s m args below meth c mc ms cells slots H locs ls hC h1 h2 hW hS hL)
theorem q_aload {i : Nat} {v : Value} (hd : decode M.2.1 pc = .ok (.aload i, 2)) (hl : zget lv i = some v) (hv : zref v = true) (k : zRuns g d M rc rs (pc + 2) lv (v :: st) w K) : zRuns g d M rc rs pc lv st w K := by
  intro l p e s m args below meth c mc ms cells slots H locs ls hC h1 h2 hW hS hL
  obtain ⟨a, rfl⟩ := zref_e hv
  exact lv_aload hC.1 hC.2.1 hd (hL.at hl) (k l p e s m args below meth c mc ms cells slots H locs ls hC h1 h2 hW hS hL)
theorem q_astore_n {i : Fin 4} {v : Value} (lv2 : List (Option Value)) (hd : decode M.2.1 pc = .ok (.astore_n i, 1)) (hv : zref v = true) (hl : zset lv (i : Nat) (some v) = lv2) (hi : (i : Nat) < lv.length) (hn : znl lv (i : Nat) = true) (k : zRuns g d M rc rs (pc + 1) lv2 st w K) : zRuns g d M rc rs pc lv (v :: st) w K := by
  intro l p e s m args below meth c mc ms cells slots H locs ls hC h1 h2 hW hS hL
  obtain ⟨a, rfl⟩ := zref_e hv
  exact lv_astore_n hC.1 hC.2.1 hd rfl hL.has (by rw [← hL.2.2.1]; exact hi) rfl (fun ls2 h3 => k l p e s m args below meth c mc ms cells slots H locs ls2 hC h1 h2 hW hS (hL.st1 hi hn hl h3))
theorem q_lload {i : Nat} {a : Int} (hd : decode M.2.1 pc = .ok (.lload i, 2)) (hl : zget lv i = some (zJ a)) (k : zRuns g d M rc rs (pc + 2) lv (zJ a :: st) w K) : zRuns g d M rc rs pc lv (st) w K := by
  intro l p e s m args below meth c mc ms cells slots H locs ls hC h1 h2 hW hS hL
  have k := k l p e s m args below meth c mc ms cells slots H locs ls hC h1 h2 hW hS hL
  exact lv_lload hC.1 hC.2.1 hd (hL.at hl) k
theorem q_istore_n {i : Fin 4} {a : Int} (lv2 : List (Option Value)) (hd : decode M.2.1 pc = .ok (.istore_n i, 1)) (hl : zset lv (i : Nat) (some (zI a)) = lv2) (hi : (i : Nat) < lv.length) (hn : znl lv (i : Nat) = true) (k : zRuns g d M rc rs (pc + 1) lv2 st w K) : zRuns g d M rc rs pc lv (zI a :: st) w K := by
  intro l p e s m args below meth c mc ms cells slots H locs ls hC h1 h2 hW hS hL
  exact lv_istore_n hC.1 hC.2.1 hd rfl hL.has (by rw [← hL.2.2.1]; exact hi) rfl (fun ls2 h3 => k l p e s m args below meth c mc ms cells slots H locs ls2 hC h1 h2 hW hS (hL.st1 hi hn hl h3))
theorem q_istore {i : Nat} {a : Int} (lv2 : List (Option Value)) (hd : decode M.2.1 pc = .ok (.istore i, 2)) (hl : zset lv i (some (zI a)) = lv2) (hi : i < lv.length) (hn : znl lv i = true) (k : zRuns g d M rc rs (pc + 2) lv2 st w K) : zRuns g d M rc rs pc lv (zI a :: st) w K := by
  intro l p e s m args below meth c mc ms cells slots H locs ls hC h1 h2 hW hS hL
  exact lv_istore hC.1 hC.2.1 hd hL.has (by rw [← hL.2.2.1]; exact hi) rfl (fun ls2 h3 => k l p e s m args below meth c mc ms cells slots H locs ls2 hC h1 h2 hW hS (hL.st1 hi hn hl h3))
theorem q_lstore_n {i : Fin 4} {a : Int} (lv2 : List (Option Value)) (hd : decode M.2.1 pc = .ok (.lstore_n i, 1)) (hl : zset (zset lv (i : Nat) (some (zJ a))) ((i : Nat) + 1) none = lv2) (hi : (i : Nat) + 1 < lv.length) (hn : znl lv (i : Nat) = true) (k : zRuns g d M rc rs (pc + 1) lv2 st w K) : zRuns g d M rc rs pc lv (zJ a :: st) w K := by
  intro l p e s m args below meth c mc ms cells slots H locs ls hC h1 h2 hW hS hL
  exact lv_lstore_n hC.1 hC.2.1 hd rfl hL.has (by rw [← hL.2.2.1]; exact hi) rfl (fun ls2 h3 => k l p e s m args below meth c mc ms cells slots H locs ls2 hC h1 h2 hW hS (hL.st2 hi hn hl h3))
theorem q_lstore {i : Nat} {a : Int} (lv2 : List (Option Value)) (hd : decode M.2.1 pc = .ok (.lstore i, 2)) (hl : zset (zset lv i (some (zJ a))) (i + 1) none = lv2) (hi : i + 1 < lv.length) (hn : znl lv i = true) (k : zRuns g d M rc rs (pc + 2) lv2 st w K) : zRuns g d M rc rs pc lv (zJ a :: st) w K := by
  intro l p e s m args below meth c mc ms cells slots H locs ls hC h1 h2 hW hS hL
  exact lv_lstore hC.1 hC.2.1 hd hL.has (by rw [← hL.2.2.1]; exact hi) rfl (fun ls2 h3 => k l p e s m args below meth c mc ms cells slots H locs ls2 hC h1 h2 hW hS (hL.st2 hi hn hl h3))
theorem q_iinc {i : Nat} {n a : Int} (lv2 : List (Option Value)) (hd : decode M.2.1 pc = .ok (.iinc i n, 3)) (ha : zget lv i = some (zI a)) (hl : zset lv i (some (zI (a + n))) = lv2) (hn : znl lv i = true) (k : zRuns g d M rc rs (pc + 3) lv2 st w K) : zRuns g d M rc rs pc lv st w K := by
  intro l p e s m args below meth c mc ms cells slots H locs ls hC h1 h2 hW hS hL
  obtain ⟨q, hq⟩ := List.getElem?_of_mem (zpairs_mem.mpr ha)
  exact lv_iinc hC.1 hC.2.1 hd hL.has hq (v := Int32.ofInt (a + n)) (Int32.ofInt_add ..).symm (by rw [← hL.2.2.1]; exact zget_lt ha) rfl (fun ls2 h3 => k l p e s m args below meth c mc ms cells slots H locs ls2 hC h1 h2 hW hS (hL.st1 (zget_lt ha) hn hl h3))
theorem q_iadd {a b : Int} (hd : decode M.2.1 pc = .ok (.iadd, 1)) (k : zRuns g d M rc rs (pc + 1) lv (zI (a + b) :: st) w K) : zRuns g d M rc rs pc lv (zI b :: zI a :: st) w K := by
  intro l p e s m args below meth c mc ms cells slots H locs ls hC h1 h2 hW hS hL
  have k := k l p e s m args below meth c mc ms cells slots H locs ls hC h1 h2 hW hS hL
  rw [zI, Int32.ofInt_add] at k
  exact lv_iadd hC.1 hC.2.1 hd k
theorem q_isub {a b : Int} (hd : decode M.2.1 pc = .ok (.isub, 1)) (k : zRuns g d M rc rs (pc + 1) lv (zI (a - b) :: st) w K) : zRuns g d M rc rs pc lv (zI b :: zI a :: st) w K := by
  intro l p e s m args below meth c mc ms cells slots H locs ls hC h1 h2 hW hS hL
  have k := k l p e s m args below meth c mc ms cells slots H locs ls hC h1 h2 hW hS hL
  rw [zI, Int32.ofInt_sub] at k
  exact lv_isub hC.1 hC.2.1 hd k
theorem q_imul {a b : Int} (hd : decode M.2.1 pc = .ok (.imul, 1)) (k : zRuns g d M rc rs (pc + 1) lv (zI (a * b) :: st) w K) : zRuns g d M rc rs pc lv (zI b :: zI a :: st) w K := by
  intro l p e s m args below meth c mc ms cells slots H locs ls hC h1 h2 hW hS hL
  have k := k l p e s m args below meth c mc ms cells slots H locs ls hC h1 h2 hW hS hL
  rw [zI, Int32.ofInt_mul] at k
  exact lv_imul hC.1 hC.2.1 hd k
theorem q_ladd {a b : Int} (hd : decode M.2.1 pc = .ok (.ladd, 1)) (k : zRuns g d M rc rs (pc + 1) lv (zJ (a + b) :: st) w K) : zRuns g d M rc rs pc lv (zJ b :: zJ a :: st) w K := by
  intro l p e s m args below meth c mc ms cells slots H locs ls hC h1 h2 hW hS hL
  have k := k l p e s m args below meth c mc ms cells slots H locs ls hC h1 h2 hW hS hL
  rw [zJ, Int64.ofInt_add] at k
  exact lv_ladd hC.1 hC.2.1 hd k
theorem q_lsub {a b : Int} (hd : decode M.2.1 pc = .ok (.lsub, 1)) (k : zRuns g d M rc rs (pc + 1) lv (zJ (a - b) :: st) w K) : zRuns g d M rc rs pc lv (zJ b :: zJ a :: st) w K := by
  intro l p e s m args below meth c mc ms cells slots H locs ls hC h1 h2 hW hS hL
  have k := k l p e s m args below meth c mc ms cells slots H locs ls hC h1 h2 hW hS hL
  rw [zJ, Int64.ofInt_sub] at k
  exact lv_lsub hC.1 hC.2.1 hd k
theorem q_lmul {a b : Int} (hd : decode M.2.1 pc = .ok (.lmul, 1)) (k : zRuns g d M rc rs (pc + 1) lv (zJ (a * b) :: st) w K) : zRuns g d M rc rs pc lv (zJ b :: zJ a :: st) w K := by
  intro l p e s m args below meth c mc ms cells slots H locs ls hC h1 h2 hW hS hL
  have k := k l p e s m args below meth c mc ms cells slots H locs ls hC h1 h2 hW hS hL
  rw [zJ, Int64.ofInt_mul] at k
  exact lv_lmul hC.1 hC.2.1 hd k
theorem q_ineg {a : Int} (hd : decode M.2.1 pc = .ok (.ineg, 1)) (k : zRuns g d M rc rs (pc + 1) lv (zI (-a) :: st) w K) : zRuns g d M rc rs pc lv (zI a :: st) w K := by
  intro l p e s m args below meth c mc ms cells slots H locs ls hC h1 h2 hW hS hL
  have k := k l p e s m args below meth c mc ms cells slots H locs ls hC h1 h2 hW hS hL
  rw [zI, Int32.ofInt_neg] at k
  exact lv_ineg hC.1 hC.2.1 hd k
theorem q_idiv {a b : Int} (hd : decode M.2.1 pc = .ok (.idiv, 1)) (ha : 0 ≤ a ∧ zR32 a) (hb0 : 0 < b) (hb : zR32 b) (k : zRuns g d M rc rs (pc + 1) lv (zI (a / b) :: st) w K) : zRuns g d M rc rs pc lv (zI b :: zI a :: st) w K := by
  intro l p e s m args below meth c mc ms cells slots H locs ls hC h1 h2 hW hS hL
  have k := k l p e s m args below meth c mc ms cells slots H locs ls hC h1 h2 hW hS hL
  rw [zI, ← zi_div ha.2 ha.1 hb hb0] at k
  exact lv_idiv hC.1 hC.2.1 hd (fun q => by have := (zi_eq0 hb).mp q; omega) k
theorem q_irem {a b : Int} (hd : decode M.2.1 pc = .ok (.irem, 1)) (ha : 0 ≤ a ∧ zR32 a) (hb0 : 0 < b) (hb : zR32 b) (k : zRuns g d M rc rs (pc + 1) lv (zI (a % b) :: st) w K) : zRuns g d M rc rs pc lv (zI b :: zI a :: st) w K := by
  intro l p e s m args below meth c mc ms cells slots H locs ls hC h1 h2 hW hS hL
  have k := k l p e s m args below meth c mc ms cells slots H locs ls hC h1 h2 hW hS hL
  rw [zI, ← zi_rem ha.2 ha.1 hb hb0] at k
  exact lv_irem hC.1 hC.2.1 hd (fun q => by have := (zi_eq0 hb).mp q; omega) k
theorem q_ldiv {a b : Int} (hd : decode M.2.1 pc = .ok (.ldiv, 1)) (ha : 0 ≤ a ∧ zR64 a) (hb0 : 0 < b) (hb : zR64 b) (k : zRuns g d M rc rs (pc + 1) lv (zJ (a / b) :: st) w K) : zRuns g d M rc rs pc lv (zJ b :: zJ a :: st) w K := by
  intro l p e s m args below meth c mc ms cells slots H locs ls hC h1 h2 hW hS hL
  have k := k l p e s m args below meth c mc ms cells slots H locs ls hC h1 h2 hW hS hL
  rw [zJ, ← zj_div ha.2 ha.1 hb hb0] at k
  exact lv_ldiv hC.1 hC.2.1 hd (fun q => by have h9 : b = 0 := (by rw [← zj_t hb, q]; rfl); omega) k
theorem q_lrem {a b : Int} (hd : decode M.2.1 pc = .ok (.lrem, 1)) (ha : 0 ≤ a ∧ zR64 a) (hb0 : 0 < b) (hb : zR64 b) (k : zRuns g d M rc rs (pc + 1) lv (zJ (a % b) :: st) w K) : zRuns g d M rc rs pc lv (zJ b :: zJ a :: st) w K := by
  intro l p e s m args below meth c mc ms cells slots H locs ls hC h1 h2 hW hS hL
  have k := k l p e s m args below meth c mc ms cells slots H locs ls hC h1 h2 hW hS hL
  rw [zJ, ← zj_rem ha.2 ha.1 hb hb0] at k
  exact lv_lrem hC.1 hC.2.1 hd (fun q => by have h9 : b = 0 := (by rw [← zj_t hb, q]; rfl); omega) k
theorem q_iand {a b : Int} (hd : decode M.2.1 pc = .ok (.iand, 1)) (k : zRuns g d M rc rs (pc + 1) lv (zI (zand a b) :: st) w K) : zRuns g d M rc rs pc lv (zI b :: zI a :: st) w K := by
  intro l p e s m args below meth c mc ms cells slots H locs ls hC h1 h2 hW hS hL
  have k := k l p e s m args below meth c mc ms cells slots H locs ls hC h1 h2 hW hS hL
  rw [zI, zand, Int32.ofInt_toInt] at k
  exact lv_iand hC.1 hC.2.1 hd k
theorem q_ior {a b : Int} (hd : decode M.2.1 pc = .ok (.ior, 1)) (k : zRuns g d M rc rs (pc + 1) lv (zI (zor a b) :: st) w K) : zRuns g d M rc rs pc lv (zI b :: zI a :: st) w K := by
  intro l p e s m args below meth c mc ms cells slots H locs ls hC h1 h2 hW hS hL
  have k := k l p e s m args below meth c mc ms cells slots H locs ls hC h1 h2 hW hS hL
  rw [zI, zor, Int32.ofInt_toInt] at k
  exact lv_ior hC.1 hC.2.1 hd k
theorem q_ishl {a b : Int} (hd : decode M.2.1 pc = .ok (.ishl, 1)) (k : zRuns g d M rc rs (pc + 1) lv (zI (zshl a b) :: st) w K) : zRuns g d M rc rs pc lv (zI b :: zI a :: st) w K := by
  intro l p e s m args below meth c mc ms cells slots H locs ls hC h1 h2 hW hS hL
  have k := k l p e s m args below meth c mc ms cells slots H locs ls hC h1 h2 hW hS hL
  rw [zI, zshl, Int32.ofInt_toInt] at k
  exact lv_ishl hC.1 hC.2.1 hd k
theorem q_ishr {a b : Int} (hd : decode M.2.1 pc = .ok (.ishr, 1)) (k : zRuns g d M rc rs (pc + 1) lv (zI (zshr a b) :: st) w K) : zRuns g d M rc rs pc lv (zI b :: zI a :: st) w K := by
  intro l p e s m args below meth c mc ms cells slots H locs ls hC h1 h2 hW hS hL
  have k := k l p e s m args below meth c mc ms cells slots H locs ls hC h1 h2 hW hS hL
  rw [zI, zshr, Int32.ofInt_toInt] at k
  exact lv_ishr hC.1 hC.2.1 hd k
theorem q_i2l {a : Int} (hd : decode M.2.1 pc = .ok (.i2l, 1)) (ha : zR32 a) (k : zRuns g d M rc rs (pc + 1) lv (zJ a :: st) w K) : zRuns g d M rc rs pc lv (zI a :: st) w K := by
  intro l p e s m args below meth c mc ms cells slots H locs ls hC h1 h2 hW hS hL
  have k := k l p e s m args below meth c mc ms cells slots H locs ls hC h1 h2 hW hS hL
  exact lv_i2l hC.1 hC.2.1 hd (zi_i2l ha) k
theorem q_l2i {a : Int} (hd : decode M.2.1 pc = .ok (.l2i, 1)) (k : zRuns g d M rc rs (pc + 1) lv (zI a :: st) w K) : zRuns g d M rc rs pc lv (zJ a :: st) w K := by
  intro l p e s m args below meth c mc ms cells slots H locs ls hC h1 h2 hW hS hL
  have k := k l p e s m args below meth c mc ms cells slots H locs ls hC h1 h2 hW hS hL
  exact lv_l2i hC.1 hC.2.1 hd zj_l2i k
theorem q_lcmp {a b : Int} (hd : decode M.2.1 pc = .ok (.lcmp, 1)) (ha : zR64 a) (hb : zR64 b) (k : zRuns g d M rc rs (pc + 1) lv (zI (zcmp a b) :: st) w K) : zRuns g d M rc rs pc lv (zJ b :: zJ a :: st) w K := by
  intro l p e s m args below meth c mc ms cells slots H locs ls hC h1 h2 hW hS hL
  have k := k l p e s m args below meth c mc ms cells slots H locs ls hC h1 h2 hW hS hL
  have e1 : lg_cmp (Int64.ofInt a) (Int64.ofInt b) = Int32.ofInt (zcmp a b) := by
    unfold lg_cmp zcmp
    by_cases q1 : b < a
    · rw [if_pos ((zj_lt hb ha).mpr q1), if_pos q1]; rfl
    · rw [if_neg (fun q => q1 ((zj_lt hb ha).mp q)), if_neg q1]
      by_cases q2 : a = b
      · rw [if_pos (by rw [q2]), if_pos q2]; rfl
      · rw [if_neg (fun q => q2 ((zj_eq ha hb).mp q)), if_neg q2]; rfl
  rw [zI, ← e1] at k
  exact W.lcmp hC.1 hC.2.1 hd k
theorem q_dup {v : Value} (hv : zwide v = false) (hd : decode M.2.1 pc = .ok (.dup, 1)) (k : zRuns g d M rc rs (pc + 1) lv (v :: v :: st) w K) : zRuns g d M rc rs pc lv (v :: st) w K := by
  intro l p e s m args below meth c mc ms cells slots H locs ls hC h1 h2 hW hS hL
  have k := k l p e s m args below meth c mc ms cells slots H locs ls hC h1 h2 hW hS hL
  exact lv_dup hC.1 hC.2.1 hd (zwide_f hv) k
theorem q_pop {v : Value} (hv : zwide v = false) (hd : decode M.2.1 pc = .ok (.pop, 1)) (k : zRuns g d M rc rs (pc + 1) lv (st) w K) : zRuns g d M rc rs pc lv (v :: st) w K := by
  intro l p e s m args below meth c mc ms cells slots H locs ls hC h1 h2 hW hS hL
  have k := k l p e s m args below meth c mc ms cells slots H locs ls hC h1 h2 hW hS hL
  exact lv_pop hC.1 hC.2.1 hd (zwide_f hv) k
theorem q_dup2 {v u : Value} (hv : zwide v = false) (hu : zwide u = false) (hd : decode M.2.1 pc = .ok (.dup2, 1)) (k : zRuns g d M rc rs (pc + 1) lv (v :: u :: v :: u :: st) w K) : zRuns g d M rc rs pc lv (v :: u :: st) w K := by
  intro l p e s m args below meth c mc ms cells slots H locs ls hC h1 h2 hW hS hL
  have k := k l p e s m args below meth c mc ms cells slots H locs ls hC h1 h2 hW hS hL
  exact lv_dup2_11 hC.1 hC.2.1 hd (zwide_f hv) (zwide_f hu) k
theorem q_goto {o : Int} (t : Nat) (hd : decode M.2.1 pc = .ok (.goto o, 3)) (ht : (pc : Int) + o = (t : Int)) (k : zRuns g d M rc rs t lv st w K) : zRuns g d M rc rs pc lv st w K := by
  intro l p e s m args below meth c mc ms cells slots H locs ls hC h1 h2 hW hS hL
  exact lv_goto hC.1 hC.2.1 hd ht (k l p e s m args below meth c mc ms cells slots H locs ls hC h1 h2 hW hS hL)
theorem q_icmp_eq {a b : Int} (ha : zR32 a) (hb : zR32 b) {o : Int} (t : Nat) (hd : decode M.2.1 pc = .ok (.if_icmp .eq o, 3)) (ht : (pc : Int) + o = (t : Int)) (kt : a = b → zRuns g d M rc rs t lv st w K) (kf : a ≠ b → zRuns g d M rc rs (pc + 3) lv st w K) : zRuns g d M rc rs pc lv (zI b :: zI a :: st) w K := by
  intro l p e s m args below meth c mc ms cells slots H locs ls hC h1 h2 hW hS hL
  exact lv_icmp_eq hC.1 hC.2.1 hd ht (fun q => kt ((zi_eq ha hb).mp q) l p e s m args below meth c mc ms cells slots H locs ls hC h1 h2 hW hS hL) (fun q => kf (fun z => q ((zi_eq ha hb).mpr z)) l p e s m args below meth c mc ms cells slots H locs ls hC h1 h2 hW hS hL)
theorem q_icmp_ne {a b : Int} (ha : zR32 a) (hb : zR32 b) {o : Int} (t : Nat) (hd : decode M.2.1 pc = .ok (.if_icmp .ne o, 3)) (ht : (pc : Int) + o = (t : Int)) (kt : a ≠ b → zRuns g d M rc rs t lv st w K) (kf : a = b → zRuns g d M rc rs (pc + 3) lv st w K) : zRuns g d M rc rs pc lv (zI b :: zI a :: st) w K := by
  intro l p e s m args below meth c mc ms cells slots H locs ls hC h1 h2 hW hS hL
  exact lv_icmp_ne hC.1 hC.2.1 hd ht (fun q => kt (fun z => q ((zi_eq ha hb).mpr z)) l p e s m args below meth c mc ms cells slots H locs ls hC h1 h2 hW hS hL) (fun q => kf ((zi_eq ha hb).mp q) l p e s m args below meth c mc ms cells slots H locs ls hC h1 h2 hW hS hL)
theorem q_icmp_lt {a b : Int} (ha : zR32 a) (hb : zR32 b) {o : Int} (t : Nat) (hd : decode M.2.1 pc = .ok (.if_icmp .lt o, 3)) (ht : (pc : Int) + o = (t : Int)) (kt : a < b → zRuns g d M rc rs t lv st w K) (kf : b ≤ a → zRuns g d M rc rs (pc + 3) lv st w K) : zRuns g d M rc rs pc lv (zI b :: zI a :: st) w K := by
  intro l p e s m args below meth c mc ms cells slots H locs ls hC h1 h2 hW hS hL
  exact lv_icmp_lt hC.1 hC.2.1 hd ht (fun q => kt ((zi_lt ha hb).mp q) l p e s m args below meth c mc ms cells slots H locs ls hC h1 h2 hW hS hL) (fun q => kf (Int.not_lt.mp (fun z => q ((zi_lt ha hb).mpr z))) l p e s m args below meth c mc ms cells slots H locs ls hC h1 h2 hW hS hL)
theorem q_icmp_ge {a b : Int} (ha : zR32 a) (hb : zR32 b) {o : Int} (t : Nat) (hd : decode M.2.1 pc = .ok (.if_icmp .ge o, 3)) (ht : (pc : Int) + o = (t : Int)) (kt : b ≤ a → zRuns g d M rc rs t lv st w K) (kf : a < b → zRuns g d M rc rs (pc + 3) lv st w K) : zRuns g d M rc rs pc lv (zI b :: zI a :: st) w K := by
  intro l p e s m args below meth c mc ms cells slots H locs ls hC h1 h2 hW hS hL
  exact lv_icmp_ge hC.1 hC.2.1 hd ht (fun q => kt ((zi_le hb ha).mp q) l p e s m args below meth c mc ms cells slots H locs ls hC h1 h2 hW hS hL) (fun q => kf (Int.not_le.mp (fun z => q ((zi_le hb ha).mpr z))) l p e s m args below meth c mc ms cells slots H locs ls hC h1 h2 hW hS hL)
theorem q_icmp_gt {a b : Int} (ha : zR32 a) (hb : zR32 b) {o : Int} (t : Nat) (hd : decode M.2.1 pc = .ok (.if_icmp .gt o, 3)) (ht : (pc : Int) + o = (t : Int)) (kt : b < a → zRuns g d M rc rs t lv st w K) (kf : a ≤ b → zRuns g d M rc rs (pc + 3) lv st w K) : zRuns g d M rc rs pc lv (zI b :: zI a :: st) w K := by
  intro l p e s m args below meth c mc ms cells slots H locs ls hC h1 h2 hW hS hL
  exact lv_icmp_gt hC.1 hC.2.1 hd ht (fun q => kt ((zi_lt hb ha).mp q) l p e s m args below meth c mc ms cells slots H locs ls hC h1 h2 hW hS hL) (fun q => kf (Int.not_lt.mp (fun z => q ((zi_lt hb ha).mpr z))) l p e s m args below meth c mc ms cells slots H locs ls hC h1 h2 hW hS hL)
theorem q_icmp_le {a b : Int} (ha : zR32 a) (hb : zR32 b) {o : Int} (t : Nat) (hd : decode M.2.1 pc = .ok (.if_icmp .le o, 3)) (ht : (pc : Int) + o = (t : Int)) (kt : a ≤ b → zRuns g d M rc rs t lv st w K) (kf : b < a → zRuns g d M rc rs (pc + 3) lv st w K) : zRuns g d M rc rs pc lv (zI b :: zI a :: st) w K := by
  intro l p e s m args below meth c mc ms cells slots H locs ls hC h1 h2 hW hS hL
  exact lv_icmp_le hC.1 hC.2.1 hd ht (fun q => kt ((zi_le ha hb).mp q) l p e s m args below meth c mc ms cells slots H locs ls hC h1 h2 hW hS hL) (fun q => kf (Int.not_le.mp (fun z => q ((zi_le ha hb).mpr z))) l p e s m args below meth c mc ms cells slots H locs ls hC h1 h2 hW hS hL)
theorem q_if_eq {a : Int} (ha : zR32 a) {o : Int} (t : Nat) (hd : decode M.2.1 pc = .ok (.ifCond .eq o, 3)) (ht : (pc : Int) + o = (t : Int)) (kt : a = 0 → zRuns g d M rc rs t lv st w K) (kf : a ≠ 0 → zRuns g d M rc rs (pc + 3) lv st w K) : zRuns g d M rc rs pc lv (zI a :: st) w K := by
  intro l p e s m args below meth c mc ms cells slots H locs ls hC h1 h2 hW hS hL
  exact lv_if_eq hC.1 hC.2.1 hd ht (fun q => kt ((zi_eq0 ha).mp q) l p e s m args below meth c mc ms cells slots H locs ls hC h1 h2 hW hS hL) (fun q => kf (fun z => q ((zi_eq0 ha).mpr z)) l p e s m args below meth c mc ms cells slots H locs ls hC h1 h2 hW hS hL)
theorem q_if_ne {a : Int} (ha : zR32 a) {o : Int} (t : Nat) (hd : decode M.2.1 pc = .ok (.ifCond .ne o, 3)) (ht : (pc : Int) + o = (t : Int)) (kt : a ≠ 0 → zRuns g d M rc rs t lv st w K) (kf : a = 0 → zRuns g d M rc rs (pc + 3) lv st w K) : zRuns g d M rc rs pc lv (zI a :: st) w K := by
  intro l p e s m args below meth c mc ms cells slots H locs ls hC h1 h2 hW hS hL
  exact lv_if_ne hC.1 hC.2.1 hd ht (fun q => kt (fun z => q ((zi_eq0 ha).mpr z)) l p e s m args below meth c mc ms cells slots H locs ls hC h1 h2 hW hS hL) (fun q => kf ((zi_eq0 ha).mp q) l p e s m args below meth c mc ms cells slots H locs ls hC h1 h2 hW hS hL)
theorem q_if_lt {a : Int} (ha : zR32 a) {o : Int} (t : Nat) (hd : decode M.2.1 pc = .ok (.ifCond .lt o, 3)) (ht : (pc : Int) + o = (t : Int)) (kt : a < 0 → zRuns g d M rc rs t lv st w K) (kf : 0 ≤ a → zRuns g d M rc rs (pc + 3) lv st w K) : zRuns g d M rc rs pc lv (zI a :: st) w K := by
  intro l p e s m args below meth c mc ms cells slots H locs ls hC h1 h2 hW hS hL
  exact lv_if_lt hC.1 hC.2.1 hd ht (fun q => kt ((zi_lt0 ha).mp q) l p e s m args below meth c mc ms cells slots H locs ls hC h1 h2 hW hS hL) (fun q => kf (Int.not_lt.mp (fun z => q ((zi_lt0 ha).mpr z))) l p e s m args below meth c mc ms cells slots H locs ls hC h1 h2 hW hS hL)
theorem q_if_ge {a : Int} (ha : zR32 a) {o : Int} (t : Nat) (hd : decode M.2.1 pc = .ok (.ifCond .ge o, 3)) (ht : (pc : Int) + o = (t : Int)) (kt : 0 ≤ a → zRuns g d M rc rs t lv st w K) (kf : a < 0 → zRuns g d M rc rs (pc + 3) lv st w K) : zRuns g d M rc rs pc lv (zI a :: st) w K := by
  intro l p e s m args below meth c mc ms cells slots H locs ls hC h1 h2 hW hS hL
  exact lv_if_ge hC.1 hC.2.1 hd ht (fun q => kt ((zi_0le ha).mp q) l p e s m args below meth c mc ms cells slots H locs ls hC h1 h2 hW hS hL) (fun q => kf (Int.not_le.mp (fun z => q ((zi_0le ha).mpr z))) l p e s m args below meth c mc ms cells slots H locs ls hC h1 h2 hW hS hL)
theorem q_if_gt {a : Int} (ha : zR32 a) {o : Int} (t : Nat) (hd : decode M.2.1 pc = .ok (.ifCond .gt o, 3)) (ht : (pc : Int) + o = (t : Int)) (kt : 0 < a → zRuns g d M rc rs t lv st w K) (kf : a ≤ 0 → zRuns g d M rc rs (pc + 3) lv st w K) : zRuns g d M rc rs pc lv (zI a :: st) w K := by
  intro l p e s m args below meth c mc ms cells slots H locs ls hC h1 h2 hW hS hL
  exact lv_if_gt hC.1 hC.2.1 hd ht (fun q => kt ((zi_0lt ha).mp q) l p e s m args below meth c mc ms cells slots H locs ls hC h1 h2 hW hS hL) (fun q => kf (Int.not_lt.mp (fun z => q ((zi_0lt ha).mpr z))) l p e s m args below meth c mc ms cells slots H locs ls hC h1 h2 hW hS hL)
theorem q_if_le {a : Int} (ha : zR32 a) {o : Int} (t : Nat) (hd : decode M.2.1 pc = .ok (.ifCond .le o, 3)) (ht : (pc : Int) + o = (t : Int)) (kt : a ≤ 0 → zRuns g d M rc rs t lv st w K) (kf : 0 < a → zRuns g d M rc rs (pc + 3) lv st w K) : zRuns g d M rc rs pc lv (zI a :: st) w K := by
  intro l p e s m args below meth c mc ms cells slots H locs ls hC h1 h2 hW hS hL
  exact lv_if_le hC.1 hC.2.1 hd ht (fun q => kt ((zi_le0 ha).mp q) l p e s m args below meth c mc ms cells slots H locs ls hC h1 h2 hW hS hL) (fun q => kf (Int.not_le.mp (fun z => q ((zi_le0 ha).mpr z))) l p e s m args below meth c mc ms cells slots H locs ls hC h1 h2 hW hS hL)
theorem q_ifb_eq {P : Prop} [Decidable P] {o : Int} (t : Nat) (hd : decode M.2.1 pc = .ok (.ifCond .eq o, 3)) (ht : (pc : Int) + o = (t : Int)) (kt : ¬ P → zRuns g d M rc rs t lv st w K) (kf : P → zRuns g d M rc rs (pc + 3) lv st w K) : zRuns g d M rc rs pc lv (zI (zb P) :: st) w K :=
  q_if_eq zb_R t hd ht (fun h => kt (zb_0.mp h)) (fun h => kf (Classical.byContradiction fun q => h (zb_0.mpr q)))
theorem q_ifb_ne {P : Prop} [Decidable P] {o : Int} (t : Nat) (hd : decode M.2.1 pc = .ok (.ifCond .ne o, 3)) (ht : (pc : Int) + o = (t : Int)) (kt : P → zRuns g d M rc rs t lv st w K) (kf : ¬ P → zRuns g d M rc rs (pc + 3) lv st w K) : zRuns g d M rc rs pc lv (zI (zb P) :: st) w K :=
  q_if_ne zb_R t hd ht (fun h => kt (Classical.byContradiction fun q => h (zb_0.mpr q))) (fun h => kf (zb_0.mp h))
theorem zcmp_0 {a b : Int} : zcmp a b = 0 ↔ a = b := by unfold zcmp; split <;> (try split) <;> omega
theorem zcmp_lt {a b : Int} : zcmp a b < 0 ↔ a < b := by unfold zcmp; split <;> (try split) <;> omega
theorem zcmp_gt {a b : Int} : 0 < zcmp a b ↔ b < a := by unfold zcmp; split <;> (try split) <;> omega
theorem q_ifc_eq {a b : Int} {o : Int} (t : Nat) (hd : decode M.2.1 pc = .ok (.ifCond .eq o, 3)) (ht : (pc : Int) + o = (t : Int)) (kt : a = b → zRuns g d M rc rs t lv st w K) (kf : a ≠ b → zRuns g d M rc rs (pc + 3) lv st w K) : zRuns g d M rc rs pc lv (zI (zcmp a b) :: st) w K :=
  q_if_eq zcmp_R t hd ht (fun h => kt (zcmp_0.mp h)) (fun h => kf (by have h3 : ¬ (a = b) := fun q => (by have := zcmp_0.mpr q; omega); omega))
theorem q_ifc_lt {a b : Int} {o : Int} (t : Nat) (hd : decode M.2.1 pc = .ok (.ifCond .lt o, 3)) (ht : (pc : Int) + o = (t : Int)) (kt : a < b → zRuns g d M rc rs t lv st w K) (kf : b ≤ a → zRuns g d M rc rs (pc + 3) lv st w K) : zRuns g d M rc rs pc lv (zI (zcmp a b) :: st) w K :=
  q_if_lt zcmp_R t hd ht (fun h => kt (zcmp_lt.mp h)) (fun h => kf (by have h3 : ¬ (a < b) := fun q => (by have := zcmp_lt.mpr q; omega); omega))
theorem q_ifc_gt {a b : Int} {o : Int} (t : Nat) (hd : decode M.2.1 pc = .ok (.ifCond .gt o, 3)) (ht : (pc : Int) + o = (t : Int)) (kt : b < a → zRuns g d M rc rs t lv st w K) (kf : a ≤ b → zRuns g d M rc rs (pc + 3) lv st w K) : zRuns g d M rc rs pc lv (zI (zcmp a b) :: st) w K :=
  q_if_gt zcmp_R t hd ht (fun h => kt (zcmp_gt.mp h)) (fun h => kf (by have h3 : ¬ (b < a) := fun q => (by have := zcmp_gt.mpr q; omega); omega))
theorem q_ifc_ne {a b : Int} {o : Int} (t : Nat) (hd : decode M.2.1 pc = .ok (.ifCond .ne o, 3)) (ht : (pc : Int) + o = (t : Int)) (kt : a ≠ b → zRuns g d M rc rs t lv st w K) (kf : a = b → zRuns g d M rc rs (pc + 3) lv st w K) : zRuns g d M rc rs pc lv (zI (zcmp a b) :: st) w K :=
  q_if_ne zcmp_R t hd ht (fun h => kt (fun q => h (zcmp_0.mpr q))) (fun h => kf (zcmp_0.mp h))
theorem q_ifc_le {a b : Int} {o : Int} (t : Nat) (hd : decode M.2.1 pc = .ok (.ifCond .le o, 3)) (ht : (pc : Int) + o = (t : Int)) (kt : a ≤ b → zRuns g d M rc rs t lv st w K) (kf : b < a → zRuns g d M rc rs (pc + 3) lv st w K) : zRuns g d M rc rs pc lv (zI (zcmp a b) :: st) w K :=
  q_if_le zcmp_R t hd ht (fun h => kt (by have := fun q => zcmp_gt.mpr (q : b < a); omega)) (fun h => kf (zcmp_gt.mp h))
theorem q_ifc_ge {a b : Int} {o : Int} (t : Nat) (hd : decode M.2.1 pc = .ok (.ifCond .ge o, 3)) (ht : (pc : Int) + o = (t : Int)) (kt : b ≤ a → zRuns g d M rc rs t lv st w K) (kf : a < b → zRuns g d M rc rs (pc + 3) lv st w K) : zRuns g d M rc rs pc lv (zI (zcmp a b) :: st) w K :=
  q_if_ge zcmp_R t hd ht (fun h => kt (by have := fun q => zcmp_lt.mpr (q : a < b); omega)) (fun h => kf (zcmp_lt.mp h))
theorem q_ifnull {k0 : Nat} {o : Int} (hd : decode M.2.1 pc = .ok (.ifnull o, 3)) (k : zRuns g d M rc rs (pc + 3) lv st w K) : zRuns g d M rc rs pc lv (.ref k0 :: st) w K := by
  intro l p e s m args below meth c mc ms cells slots H locs ls hC h1 h2 hW hS hL
  exact lv_ifnull hC.1 hC.2.1 hd (k l p e s m args below meth c mc ms cells slots H locs ls hC h1 h2 hW hS hL)
theorem q_ifnonnull {k0 : Nat} {o : Int} (t : Nat) (hd : decode M.2.1 pc = .ok (.ifnonnull o, 3)) (ht : (pc : Int) + o = (t : Int)) (k : zRuns g d M rc rs t lv st w K) : zRuns g d M rc rs pc lv (.ref k0 :: st) w K := by
  intro l p e s m args below meth c mc ms cells slots H locs ls hC h1 h2 hW hS hL
  exact lv_ifnonnull hC.1 hC.2.1 hd ht (k l p e s m args below meth c mc ms cells slots H locs ls hC h1 h2 hW hS hL)
theorem q_tableOut {dflt lo hi : Int} {offs : Array Int} {len : Nat} {x : Int} (t : Nat) (hd : decode M.2.1 pc = .ok (.tableswitch dflt lo hi offs, len)) (hx : zR32 x) (h : x < lo ∨ hi < x) (ht : (pc : Int) + dflt = (t : Int)) (k : zRuns g d M rc rs t lv st w K) : zRuns g d M rc rs pc lv (zI x :: st) w K := by
  intro l p e s m args below meth c mc ms cells slots H locs ls hC h1 h2 hW hS hL
  exact lv_tableOut hC.1 hC.2.1 hd (by rw [zi_t hx]; exact h) ht (k l p e s m args below meth c mc ms cells slots H locs ls hC h1 h2 hW hS hL)
theorem q_tableIn {dflt lo hi : Int} {offs : Array Int} {len : Nat} {x y o : Int} (t : Nat) (hd : decode M.2.1 pc = .ok (.tableswitch dflt lo hi offs, len)) (hx : x = y) (hy : zR32 y) (h1 : ¬ y < lo) (h2 : ¬ hi < y) (ho : offs[(y - lo).toNat]? = some o) (ht : (pc : Int) + o = (t : Int)) (k : zRuns g d M rc rs t lv st w K) : zRuns g d M rc rs pc lv (zI x :: st) w K := by
  subst hx
  intro l p e s m args below meth c mc ms cells slots H locs ls hC q1 q2 hW hS hL
  exact lv_tableIn hC.1 hC.2.1 hd (by rw [zi_t hy]; exact h1) (by rw [zi_t hy]; exact h2) (by rw [zi_t hy]; exact ho) ht (k l p e s m args below meth c mc ms cells slots H locs ls hC q1 q2 hW hS hL)
theorem q_lookup {dflt : Int} {ps : Array (Int × Int)} {len : Nat} {x o : Int} (t : Nat) (hd : decode M.2.1 pc = .ok (.lookupswitch dflt ps, len)) (hx : zR32 x) (hp : (ps.toList.zip (ps.toList.drop 1)).all (fun (a, next) => a.1 < next.1) = true) (ho : Op.lookupswitch.offset ps.toList dflt x = o) (ht : (pc : Int) + o = (t : Int)) (k : zRuns g d M rc rs t lv st w K) : zRuns g d M rc rs pc lv (zI x :: st) w K := by
  intro l p e s m args below meth c mc ms cells slots H locs ls hC h1 h2 hW hS hL
  exact lv_lookup hC.1 hC.2.1 hd hp (by rw [zi_t hx]; exact ho) ht (k l p e s m args below meth c mc ms cells slots H locs ls hC h1 h2 hW hS hL)
theorem q_ireturn {a : Int} (hd : decode M.2.1 pc = .ok (.ireturn, 1)) (hr : M.2.2.2 = some .int) (k : K (some (zI a)) w) : zRuns g d M rc rs pc lv [zI a] w K := by
  intro l p e s m args below meth c mc ms cells slots H locs ls hC h1 h2 hW hS hL
  have hlocks : meth.locks = false := hC.2.2.2.2.2.2.2.2.1
  refine W.widen (k := mc) (n := ms) (by omega) (by omega) ?_
  exact W.iret hC.1 hC.2.1 (hC.2.2.1.trans hr) (fun t ht _ => ⟨⟨_, _, rfl, k, by rw [ht]; exact hW⟩, hS.F ht⟩) hS.2.2 hd
theorem q_zreturn {P : Prop} [Decidable P] (hd : decode M.2.1 pc = .ok (.ireturn, 1)) (hr : M.2.2.2 = some .boolean) (k : K (some (zI (zb P))) w) : zRuns g d M rc rs pc lv [zI (zb P)] w K := by
  intro l p e s m args below meth c mc ms cells slots H locs ls hC h1 h2 hW hS hL
  have hlocks : meth.locks = false := hC.2.2.2.2.2.2.2.2.1
  refine W.widen (k := mc) (n := ms) (by omega) (by omega) ?_
  exact W.zret hC.1 hC.2.1 (hC.2.2.1.trans hr) (by unfold zb; split <;> rfl) (fun t ht _ => ⟨⟨_, _, rfl, k, by rw [ht]; exact hW⟩, hS.F ht⟩) hS.2.2 hd
theorem q_zreturn1 {P : Prop} [Decidable P] (h : P) (hd : decode M.2.1 pc = .ok (.ireturn, 1)) (hr : M.2.2.2 = some .boolean) (k : K (some (zI (zb P))) w) : zRuns g d M rc rs pc lv [zI 1] w K := by
  rw [← zb_t h]; exact q_zreturn hd hr k
theorem q_zreturn0 {P : Prop} [Decidable P] (h : ¬ P) (hd : decode M.2.1 pc = .ok (.ireturn, 1)) (hr : M.2.2.2 = some .boolean) (k : K (some (zI (zb P))) w) : zRuns g d M rc rs pc lv [zI 0] w K := by
  rw [← zb_f h]; exact q_zreturn hd hr k
theorem q_lreturn {a : Int} (hd : decode M.2.1 pc = .ok (.lreturn, 1)) (hr : M.2.2.2 = some .long) (k : K (some (zJ a)) w) : zRuns g d M rc rs pc lv [zJ a] w K := by
  intro l p e s m args below meth c mc ms cells slots H locs ls hC h1 h2 hW hS hL
  have hlocks : meth.locks = false := hC.2.2.2.2.2.2.2.2.1
  refine W.widen (k := mc) (n := ms) (by omega) (by omega) ?_
  exact W.lret hC.1 hC.2.1 (hC.2.2.1.trans hr) (fun t ht _ => ⟨⟨_, _, rfl, k, by rw [ht]; exact hW⟩, hS.F ht⟩) hS.2.2 hd
theorem q_return (hd : decode M.2.1 pc = .ok (.return_, 1)) (hr : M.2.2.2 = none) (k : K none w) : zRuns g d M rc rs pc lv [] w K := by
  intro l p e s m args below meth c mc ms cells slots H locs ls hC h1 h2 hW hS hL
  have hlocks : meth.locks = false := hC.2.2.2.2.2.2.2.2.1
  refine W.widen (k := mc) (n := ms) (by omega) (by omega) ?_
  exact W.vret hC.1 hC.2.1 (hC.2.2.1.trans hr) (fun t ht _ => ⟨⟨_, _, rfl, k, by rw [ht]; exact hW⟩, hS.F ht⟩) hS.2.2 hd
end ZR
