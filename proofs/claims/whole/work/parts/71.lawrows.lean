/-! the rows once more, for a body that reads what the start state tells (the script) -/
def zRunsX (X : State → Prop) (g : zG) (d : Nat) (M : zMt) (rc rs pc : Nat) (lv : List (Option Value)) (st : List Value) (w : zWd) (K : Option Value → zWd → Prop) : Prop :=
  ∀ (l : Launch) (p : Program) (e : Env) (s : State) (m : MethodId) (args : Array Value) (below : List Frame) (meth : Method) (c : Code) (mc ms cells slots : Nat) (H : Heap) (locs : List Loc) (ls : Array Slot),
    X s → zCx g M p s m args meth c → cells + rc ≤ mc → slots + rs ≤ ms → zHW g w H → va_S (zA g) s.heap H locs → zLH ls M.2.2.1 lv →
    W p l e (zrm d mc ms) s m args below meth c H locs cells slots (MQ below (zQK g K) args s mc ms (zA g)) (F0 m pc ls st)
section ZX
variable {X : State → Prop} {g : zG} {d : Nat} {M : zMt} {rc rs pc : Nat} {lv : List (Option Value)} {st : List Value} {w : zWd} {K : Option Value → zWd → Prop}
theorem x_new {ix ci : Nat} {fs : List Value} (hf : znw M.1.cls ix ci fs) (hd : decode M.2.1 pc = .ok (.new ix, 3)) (rc' rs' : Nat) (hrc : rc' + 1 ≤ rc) (hrs : rs' + fs.length ≤ rs) (kk : zRunsX X g d M rc' rs' (pc + 3) lv (zR g w.2 :: st) (znew w (.inl (ci, fs))) K) : zRunsX X g d M rc rs pc lv st w K := by
  intro l p e s m args below meth c mc ms cells slots H locs ls hX hC h1 h2 hW hS hL
  obtain ⟨C, T, N, tyf, hc, hlen, hcl, hins, hini, hin, hty, hdef⟩ := hf
  subst hlen
  have hwl := hC.2.2.2.2.2.1
  have hKn := hC.2.2.2.2.2.2.1.1.1 ci _ hc
  refine W.newcK hC.1 hC.2.1 hC.2.2.2.2.1 (hwl _ hcl) (hwl _ hins) (hwl _ hini) rfl hd (by show cells + 1 ≤ mc; omega) (by show slots + fs.length ≤ ms; omega) hKn.2.1 hW.2.1 fun H1 kC hkC e1 z1 o1 => ?_
  have o2 : ∀ q, q < H.size → H1[q]? = H[q]? := fun q h => o1 q (by rw [← hW.2.1]; exact h)
  have z2 : H1.size = H.size + 1 := by rw [z1, hW.2.1]
  exact kk l p e s m args below meth c mc ms (cells + 1) (slots + fs.length) H1 locs ls hX hC (by omega) (by omega) (zHW_new hW (fun a h => by cases h) z2 o2 ⟨_, hc, (u_born tyf hwl hin hKn hkC e1 hty).to hdef⟩) (va_S_new hS z2 o2) hL
theorem x_dup {v : Value} (hv : zwide v = false) (hd : decode M.2.1 pc = .ok (.dup, 1)) (k : zRunsX X g d M rc rs (pc + 1) lv (v :: v :: st) w K) : zRunsX X g d M rc rs pc lv (v :: st) w K := by
  intro l p e s m args below meth c mc ms cells slots H locs ls hX hC h1 h2 hW hS hL
  have k := k l p e s m args below meth c mc ms cells slots H locs ls hX hC h1 h2 hW hS hL
  exact lv_dup hC.1 hC.2.1 hd (zwide_f hv) k
theorem zbackX {l : Launch} {p : Program} {e : Env} {s : State} {m : MethodId} {args a : Array Value} {below : List Frame} {meth : Method} {c : Code} {mc ms cells slots mc' ms' : Nat} {H : Heap} {locs : List Loc} {ls : Array Slot} {st0 : List Value} {K' : Option Value → zWd → Prop} {rc' rs' : Nat}
    (hX : X s) (hC : zCx g M p s m args meth c) (h1 : cells + rc ≤ mc) (h2 : slots + rs ≤ ms) (hS : va_S (zA g) s.heap H locs) (hL : zLH ls M.2.2.1 lv) (hrc : rc' + mc' ≤ rc) (hrs : rs' + ms' ≤ rs)
    (hr : va_Run p l e (zrm d mc ms) s m args below meth c H locs cells slots mc' ms' (F0 m pc ls st0) st (zQK g K' a) (zA g))
    (kk : ∀ v w', K' v w' → zRunsX X g d M rc' rs' (pc + 3) lv (zpush v st) w' K) : W p l e (zrm d mc ms) s m args below meth c H locs cells slots (MQ below (zQK g K) args s mc ms (zA g)) (F0 m pc ls st0) := by
  intro T hT X
  obtain ⟨v0, st₀, t, T', L, h0, X', hL', e1, e2, ⟨⟨v, w', hv, hk, hW'⟩, hz, hkp⟩, stp⟩ := hr T hT X
  cases hv
  rw [h0] at hz hkp
  have hS' : va_S (zA g) s.heap T'.heap (locs ++ L) := ⟨Nat.le_trans hS.1 (by rw [e1]; exact hz), fun q g1 g2 => by rw [e1, hkp q (Nat.lt_of_lt_of_le g1 hS.1) g2]; exact hS.2.1 q g1 g2, fun q hq => by
      rcases List.mem_append.mp hq with h | h
      · exact hS.2.2 q h
      · exact hL' q h⟩
  have k := kk v0 w' hk l p e s m args below meth c mc ms (cells + mc') (slots + ms') T'.heap (locs ++ L) ls hX hC (by omega) (by omega) (by rw [e1]; exact hW') hS' hL
  obtain ⟨t2, a1, b1⟩ := k T' rfl X'
  refine ⟨t2, stp t2 ?_, b1⟩
  cases v0 <;> exact a1
theorem x_invokeinit {host : String} {ix n d' mc' ms' k : Nat} {M' : zMt} {As : List Value} {st0 : List Value} (hf : zcl M.1.cls host 4 ix M' n) (hd : decode M.2.1 pc = .ok (.invokespecial ix, 3)) (hn : As.length = n) (hst : st0 = As.reverse ++ zR g k :: st) (hdd : d' + 1 ≤ d) (hrm : Nat.ble ((st.map fun v => v.category).sum) 8 = true) (rc' rs' : Nat) (hrc : rc' + mc' ≤ rc) (hrs : rs' + ms' ≤ rs)
    (h : zCall g d' mc' ms' M' (zR g k :: As) w (fun v w' => zRunsX X g d M rc' rs' (pc + 3) lv (zpush v st) w' K)) : zRunsX X g d M rc rs pc lv st0 w K := by
  intro l p e s m args below meth c mc ms cells slots H locs ls hX hC h1 h2 hW hS hL
  subst hst
  have hts := hC.2.2.2.2.2.1
  have hq := hf.2.2.2.2.2.1 (by decide)
  have hB := zcl_B (d := d) (d' := d') (mc := mc) (ms := ms) (mc' := mc') (ms' := ms') hf rfl hts hdd
  rw [hq.2.2] at hB
  have hr := va_runI (l := l) (e := e) (below := below) (meth := meth) (H := H) (locs := locs) (cells := cells) (slots := slots) (R := zrm d mc ms) (g := F0 m pc ls (As.reverse ++ zR g k :: st)) (As := As) (rest := st) (b := g.base + k) ⟨hC.1, hC.2.1, hC.2.2.2.1, hC.2.2.2.2.1, hts⟩ (h l) ⟨hB, hq.2.1, hts _ hq.1⟩
    ⟨zPK_blind, fun U hU hw => zPK_pre hC hW hS U hU hw⟩ rfl hn hL.1 rfl (zroom hrm) hd ⟨by show cells + mc' ≤ mc; omega, by show slots + ms' ≤ ms; omega⟩
  exact zbackX hX hC h1 h2 hS hL hrc hrs hr (fun v w' hk => hk)
theorem x_invokevirtual {host : String} {ix n d' mc' ms' k ci : Nat} {M' : zMt} {As : List Value} {st0 : List Value} {fs : List Value} (T0 : u_T × Nat) (hf : zcl M.1.cls host 0 ix M' n) (hd : decode M.2.1 pc = .ok (.invokevirtual ix, 3)) (hn : As.length = n) (hst : st0 = As.reverse ++ zR g k :: st) (hk : w.1 k = some (.inl (ci, fs))) (hc : vwCl[ci]? = some (M'.1.cls, T0)) (hdd : d' + 1 ≤ d) (hrm : Nat.ble ((st.map fun v => v.category).sum) 8 = true) (rc' rs' : Nat) (hrc : rc' + mc' ≤ rc) (hrs : rs' + ms' ≤ rs)
    (h : zCall g d' mc' ms' M' (zR g k :: As) w (fun v w' => zRunsX X g d M rc' rs' (pc + 3) lv (zpush v st) w' K)) : zRunsX X g d M rc rs pc lv st0 w K := by
  intro l p e s m args below meth c mc ms cells slots H locs ls hX hC h1 h2 hW hS hL
  subst hst
  have hts := hC.2.2.2.2.2.1
  have hq := hf.2.2.2.1 (by decide)
  have hr := va_runV (l := l) (e := e) (below := below) (meth := meth) (H := H) (locs := locs) (cells := cells) (slots := slots) (R := zrm d mc ms) (g := F0 m pc ls (As.reverse ++ zR g k :: st)) (As := As) (rest := st) (b := g.base + k) ⟨hC.1, hC.2.1, hC.2.2.2.1, hC.2.2.2.2.1, hts⟩ (h l) ⟨zcl_B (d := d) (d' := d') hf rfl hts hdd, hts _ hq.1, hts _ hq.2⟩
    ⟨zPK_blind, va_recv (D := g.1) (tys := ztys g) hC.2.2.2.2.2.2.1.1 hW.1 hc (zlst_at hW hk), fun U hU hw => zPK_pre hC hW hS U hU hw⟩ rfl hn hL.1 rfl (zroom hrm) hd ⟨by show cells + mc' ≤ mc; omega, by show slots + ms' ≤ ms; omega⟩
  exact zbackX hX hC h1 h2 hS hL hrc hrs hr (fun v w' hk => hk)
theorem x_astore_n {i : Fin 4} {v : Value} (lv2 : List (Option Value)) (hd : decode M.2.1 pc = .ok (.astore_n i, 1)) (hv : zref v = true) (hl : zset lv (i : Nat) (some v) = lv2) (hi : (i : Nat) < lv.length) (hn : znl lv (i : Nat) = true) (k : zRunsX X g d M rc rs (pc + 1) lv2 st w K) : zRunsX X g d M rc rs pc lv (v :: st) w K := by
  intro l p e s m args below meth c mc ms cells slots H locs ls hX hC h1 h2 hW hS hL
  obtain ⟨a, rfl⟩ := zref_e hv
  exact lv_astore_n hC.1 hC.2.1 hd rfl hL.has (by rw [← hL.2.2.1]; exact hi) rfl (fun ls2 h3 => k l p e s m args below meth c mc ms cells slots H locs ls2 hX hC h1 h2 hW hS (hL.st1 hi hn hl h3))
theorem x_iconst {n : Int} (hd : decode M.2.1 pc = .ok (.iconst n, 1)) (k : zRunsX X g d M rc rs (pc + 1) lv (zI n :: st) w K) : zRunsX X g d M rc rs pc lv (st) w K := by
  intro l p e s m args below meth c mc ms cells slots H locs ls hX hC h1 h2 hW hS hL
  have k := k l p e s m args below meth c mc ms cells slots H locs ls hX hC h1 h2 hW hS hL
  exact lv_iconst hC.1 hC.2.1 hd rfl k
theorem x_istore_n {i : Fin 4} {a : Int} (lv2 : List (Option Value)) (hd : decode M.2.1 pc = .ok (.istore_n i, 1)) (hl : zset lv (i : Nat) (some (zI a)) = lv2) (hi : (i : Nat) < lv.length) (hn : znl lv (i : Nat) = true) (k : zRunsX X g d M rc rs (pc + 1) lv2 st w K) : zRunsX X g d M rc rs pc lv (zI a :: st) w K := by
  intro l p e s m args below meth c mc ms cells slots H locs ls hX hC h1 h2 hW hS hL
  exact lv_istore_n hC.1 hC.2.1 hd rfl hL.has (by rw [← hL.2.2.1]; exact hi) rfl (fun ls2 h3 => k l p e s m args below meth c mc ms cells slots H locs ls2 hX hC h1 h2 hW hS (hL.st1 hi hn hl h3))
theorem x_iload_n {i : Fin 4} {a : Int} (hd : decode M.2.1 pc = .ok (.iload_n i, 1)) (hl : zget lv (i : Nat) = some (zI a)) (k : zRunsX X g d M rc rs (pc + 1) lv (zI a :: st) w K) : zRunsX X g d M rc rs pc lv (st) w K := by
  intro l p e s m args below meth c mc ms cells slots H locs ls hX hC h1 h2 hW hS hL
  have k := k l p e s m args below meth c mc ms cells slots H locs ls hX hC h1 h2 hW hS hL
  exact lv_iload_n hC.1 hC.2.1 hd rfl (hL.at hl) k
theorem x_aload_n {i : Fin 4} {v : Value} (hd : decode M.2.1 pc = .ok (.aload_n i, 1)) (hl : zget lv (i : Nat) = some v) (hv : zref v = true) (k : zRunsX X g d M rc rs (pc + 1) lv (v :: st) w K) : zRunsX X g d M rc rs pc lv st w K := by
  intro l p e s m args below meth c mc ms cells slots H locs ls hX hC h1 h2 hW hS hL
  obtain ⟨a, rfl⟩ := zref_e hv
  exact lv_aload_n hC.1 hC.2.1 hd rfl (hL.at hl) (k l p e s m args below meth c mc ms cells slots H locs ls hX hC h1 h2 hW hS hL)
theorem x_bipush {n : Int} (hn : -128 ≤ n ∧ n ≤ 127) (hd : decode M.2.1 pc = .ok (.bipush n, 2)) (k : zRunsX X g d M rc rs (pc + 2) lv (zI n :: st) w K) : zRunsX X g d M rc rs pc lv (st) w K := by
  intro l p e s m args below meth c mc ms cells slots H locs ls hX hC h1 h2 hW hS hL
  have k := k l p e s m args below meth c mc ms cells slots H locs ls hX hC h1 h2 hW hS hL
  exact lv_bipush hC.1 hC.2.1 hd (zb8 hn) k
theorem x_isub {a b : Int} (hd : decode M.2.1 pc = .ok (.isub, 1)) (k : zRunsX X g d M rc rs (pc + 1) lv (zI (a - b) :: st) w K) : zRunsX X g d M rc rs pc lv (zI b :: zI a :: st) w K := by
  intro l p e s m args below meth c mc ms cells slots H locs ls hX hC h1 h2 hW hS hL
  have k := k l p e s m args below meth c mc ms cells slots H locs ls hX hC h1 h2 hW hS hL
  rw [zI, Int32.ofInt_sub] at k
  exact lv_isub hC.1 hC.2.1 hd k
theorem x_iadd {a b : Int} (hd : decode M.2.1 pc = .ok (.iadd, 1)) (k : zRunsX X g d M rc rs (pc + 1) lv (zI (a + b) :: st) w K) : zRunsX X g d M rc rs pc lv (zI b :: zI a :: st) w K := by
  intro l p e s m args below meth c mc ms cells slots H locs ls hX hC h1 h2 hW hS hL
  have k := k l p e s m args below meth c mc ms cells slots H locs ls hX hC h1 h2 hW hS hL
  rw [zI, Int32.ofInt_add] at k
  exact lv_iadd hC.1 hC.2.1 hd k
theorem x_icmp_gt {a b : Int} (ha : zR32 a) (hb : zR32 b) {o : Int} (t : Nat) (hd : decode M.2.1 pc = .ok (.if_icmp .gt o, 3)) (ht : (pc : Int) + o = (t : Int)) (kt : b < a → zRunsX X g d M rc rs t lv st w K) (kf : a ≤ b → zRunsX X g d M rc rs (pc + 3) lv st w K) : zRunsX X g d M rc rs pc lv (zI b :: zI a :: st) w K := by
  intro l p e s m args below meth c mc ms cells slots H locs ls hX hC h1 h2 hW hS hL
  exact lv_icmp_gt hC.1 hC.2.1 hd ht (fun q => kt ((zi_lt hb ha).mp q) l p e s m args below meth c mc ms cells slots H locs ls hX hC h1 h2 hW hS hL) (fun q => kf (Int.not_lt.mp (fun z => q ((zi_lt hb ha).mpr z))) l p e s m args below meth c mc ms cells slots H locs ls hX hC h1 h2 hW hS hL)
theorem x_icmp_eq {a b : Int} (ha : zR32 a) (hb : zR32 b) {o : Int} (t : Nat) (hd : decode M.2.1 pc = .ok (.if_icmp .eq o, 3)) (ht : (pc : Int) + o = (t : Int)) (kt : a = b → zRunsX X g d M rc rs t lv st w K) (kf : a ≠ b → zRunsX X g d M rc rs (pc + 3) lv st w K) : zRunsX X g d M rc rs pc lv (zI b :: zI a :: st) w K := by
  intro l p e s m args below meth c mc ms cells slots H locs ls hX hC h1 h2 hW hS hL
  exact lv_icmp_eq hC.1 hC.2.1 hd ht (fun q => kt ((zi_eq ha hb).mp q) l p e s m args below meth c mc ms cells slots H locs ls hX hC h1 h2 hW hS hL) (fun q => kf (fun z => q ((zi_eq ha hb).mpr z)) l p e s m args below meth c mc ms cells slots H locs ls hX hC h1 h2 hW hS hL)
theorem x_iand {a b : Int} (hd : decode M.2.1 pc = .ok (.iand, 1)) (k : zRunsX X g d M rc rs (pc + 1) lv (zI (zand a b) :: st) w K) : zRunsX X g d M rc rs pc lv (zI b :: zI a :: st) w K := by
  intro l p e s m args below meth c mc ms cells slots H locs ls hX hC h1 h2 hW hS hL
  have k := k l p e s m args below meth c mc ms cells slots H locs ls hX hC h1 h2 hW hS hL
  rw [zI, zand, Int32.ofInt_toInt] at k
  exact lv_iand hC.1 hC.2.1 hd k
theorem x_tableIn {dflt lo hi : Int} {offs : Array Int} {len : Nat} {x y o : Int} (t : Nat) (hd : decode M.2.1 pc = .ok (.tableswitch dflt lo hi offs, len)) (hx : x = y) (hy : zR32 y) (h1 : ¬ y < lo) (h2 : ¬ hi < y) (ho : offs[(y - lo).toNat]? = some o) (ht : (pc : Int) + o = (t : Int)) (k : zRunsX X g d M rc rs t lv st w K) : zRunsX X g d M rc rs pc lv (zI x :: st) w K := by
  subst hx
  intro l p e s m args below meth c mc ms cells slots H locs ls hX hC q1 q2 hW hS hL
  exact lv_tableIn hC.1 hC.2.1 hd (by rw [zi_t hy]; exact h1) (by rw [zi_t hy]; exact h2) (by rw [zi_t hy]; exact ho) ht (k l p e s m args below meth c mc ms cells slots H locs ls hX hC q1 q2 hW hS hL)
theorem x_tableOut {dflt lo hi : Int} {offs : Array Int} {len : Nat} {x : Int} (t : Nat) (hd : decode M.2.1 pc = .ok (.tableswitch dflt lo hi offs, len)) (hx : zR32 x) (h : x < lo ∨ hi < x) (ht : (pc : Int) + dflt = (t : Int)) (k : zRunsX X g d M rc rs t lv st w K) : zRunsX X g d M rc rs pc lv (zI x :: st) w K := by
  intro l p e s m args below meth c mc ms cells slots H locs ls hX hC h1 h2 hW hS hL
  exact lv_tableOut hC.1 hC.2.1 hd (by rw [zi_t hx]; exact h) ht (k l p e s m args below meth c mc ms cells slots H locs ls hX hC h1 h2 hW hS hL)
theorem x_goto {o : Int} (t : Nat) (hd : decode M.2.1 pc = .ok (.goto o, 3)) (ht : (pc : Int) + o = (t : Int)) (k : zRunsX X g d M rc rs t lv st w K) : zRunsX X g d M rc rs pc lv st w K := by
  intro l p e s m args below meth c mc ms cells slots H locs ls hX hC h1 h2 hW hS hL
  exact lv_goto hC.1 hC.2.1 hd ht (k l p e s m args below meth c mc ms cells slots H locs ls hX hC h1 h2 hW hS hL)
theorem x_iinc {i : Nat} {n a : Int} (lv2 : List (Option Value)) (hd : decode M.2.1 pc = .ok (.iinc i n, 3)) (ha : zget lv i = some (zI a)) (hl : zset lv i (some (zI (a + n))) = lv2) (hn : znl lv i = true) (k : zRunsX X g d M rc rs (pc + 3) lv2 st w K) : zRunsX X g d M rc rs pc lv st w K := by
  intro l p e s m args below meth c mc ms cells slots H locs ls hX hC h1 h2 hW hS hL
  obtain ⟨q, hq⟩ := List.getElem?_of_mem (zpairs_mem.mpr ha)
  exact lv_iinc hC.1 hC.2.1 hd hL.has hq (v := Int32.ofInt (a + n)) (Int32.ofInt_add ..).symm (by rw [← hL.2.2.1]; exact zget_lt ha) rfl (fun ls2 h3 => k l p e s m args below meth c mc ms cells slots H locs ls2 hX hC h1 h2 hW hS (hL.st1 (zget_lt ha) hn hl h3))
theorem x_lcmp {a b : Int} (hd : decode M.2.1 pc = .ok (.lcmp, 1)) (ha : zR64 a) (hb : zR64 b) (k : zRunsX X g d M rc rs (pc + 1) lv (zI (zcmp a b) :: st) w K) : zRunsX X g d M rc rs pc lv (zJ b :: zJ a :: st) w K := by
  intro l p e s m args below meth c mc ms cells slots H locs ls hX hC h1 h2 hW hS hL
  have k := k l p e s m args below meth c mc ms cells slots H locs ls hX hC h1 h2 hW hS hL
  have e1 : lg_cmp (Int64.ofInt a) (Int64.ofInt b) = Int32.ofInt (zcmp a b) := by
    unfold lg_cmp zcmp
    by_cases q1 : b < a
    · rw [if_pos ((zj_lt hb ha).mpr q1), if_pos q1]; rfl
    · rw [if_neg (fun q => q1 ((zj_lt hb ha).mp q)), if_neg q1]
      by_cases q2 : a = b
      · rw [if_pos (by rw [q2]), if_pos q2]; rfl
      · rw [if_neg (fun q => q2 ((zj_eq ha hb).mp q)), if_neg q2]; rfl
  rw [zI, ← e1] at k
  exact W.lcmp hC.1 hC.2.1 hd k
theorem x_ireturn {a : Int} (hd : decode M.2.1 pc = .ok (.ireturn, 1)) (hr : M.2.2.2 = some .int) (k : K (some (zI a)) w) : zRunsX X g d M rc rs pc lv [zI a] w K := by
  intro l p e s m args below meth c mc ms cells slots H locs ls hX hC h1 h2 hW hS hL
  have hlocks : meth.locks = false := hC.2.2.2.2.2.2.2.2.1
  refine W.widen (k := mc) (n := ms) (by omega) (by omega) ?_
  exact W.iret hC.1 hC.2.1 (hC.2.2.1.trans hr) (fun t ht _ => ⟨⟨_, _, rfl, k, by rw [ht]; exact hW⟩, hS.F ht⟩) hS.2.2 hd
theorem x_top {a : Int} (h : ∀ x, x = a → zRunsX X g d M rc rs pc lv (zI x :: st) w K) : zRunsX X g d M rc rs pc lv (zI a :: st) w K := h a rfl
theorem x_zreturn {P : Prop} [Decidable P] (hd : decode M.2.1 pc = .ok (.ireturn, 1)) (hr : M.2.2.2 = some .boolean) (k : K (some (zI (zb P))) w) : zRunsX X g d M rc rs pc lv [zI (zb P)] w K := by
  intro l p e s m args below meth c mc ms cells slots H locs ls hX hC h1 h2 hW hS hL
  have hlocks : meth.locks = false := hC.2.2.2.2.2.2.2.2.1
  refine W.widen (k := mc) (n := ms) (by omega) (by omega) ?_
  exact W.zret hC.1 hC.2.1 (hC.2.2.1.trans hr) (by unfold zb; split <;> rfl) (fun t ht _ => ⟨⟨_, _, rfl, k, by rw [ht]; exact hW⟩, hS.F ht⟩) hS.2.2 hd
theorem x_zreturn1 {P : Prop} [Decidable P] (h : P) (hd : decode M.2.1 pc = .ok (.ireturn, 1)) (hr : M.2.2.2 = some .boolean) (k : K (some (zI (zb P))) w) : zRunsX X g d M rc rs pc lv [zI 1] w K := by
  rw [← zb_t h]; exact x_zreturn hd hr k
theorem x_same {a : Int} {o : Int} (t : Nat) (hd : decode M.2.1 pc = .ok (.if_icmp .eq o, 3)) (ht : (pc : Int) + o = (t : Int)) (k : zRunsX X g d M rc rs t lv st w K) : zRunsX X g d M rc rs pc lv (zI a :: zI a :: st) w K := by
  intro l p e s m args below meth c mc ms cells slots H locs ls hX hC h1 h2 hW hS hL
  exact lv_icmp_eq hC.1 hC.2.1 hd ht (fun _ => k l p e s m args below meth c mc ms cells slots H locs ls hX hC h1 h2 hW hS hL) (fun q => absurd rfl q)
theorem x_lsame {a : Int} (hd : decode M.2.1 pc = .ok (.lcmp, 1)) (k : zRunsX X g d M rc rs (pc + 1) lv (zI 0 :: st) w K) : zRunsX X g d M rc rs pc lv (zJ a :: zJ a :: st) w K := by
  intro l p e s m args below meth c mc ms cells slots H locs ls hX hC h1 h2 hW hS hL
  have k := k l p e s m args below meth c mc ms cells slots H locs ls hX hC h1 h2 hW hS hL
  have e1 : lg_cmp (Int64.ofInt a) (Int64.ofInt a) = Int32.ofInt 0 := by
    unfold lg_cmp
    rw [if_neg (fun h => by have := Int64.lt_iff_toInt_lt.mp h; omega), if_pos rfl]; rfl
  rw [zI, ← e1] at k
  exact W.lcmp hC.1 hC.2.1 hd k
theorem x_if0 {o : Int} (t : Nat) (hd : decode M.2.1 pc = .ok (.ifCond .eq o, 3)) (ht : (pc : Int) + o = (t : Int)) (k : zRunsX X g d M rc rs t lv st w K) : zRunsX X g d M rc rs pc lv (zI 0 :: st) w K := by
  intro l p e s m args below meth c mc ms cells slots H locs ls hX hC h1 h2 hW hS hL
  exact lv_if_eq hC.1 hC.2.1 hd ht (fun _ => k l p e s m args below meth c mc ms cells slots H locs ls hX hC h1 h2 hW hS hL) (fun q => absurd rfl q)
/-- the script, as the law reads it -/
def zScp (b L : Nat) (xs : Nat → Int32) : State → Prop := fun s => va_X b L xs s s.heap ∧ b < s.heap.size
def zXs (xs : Nat → Int32) (j : Int) : Int := (xs j.toNat).toInt
theorem zXs_R {xs : Nat → Int32} {j : Int} : zR32 (zXs xs j) := by
  have h1 := Int32.le_toInt (xs j.toNat); have h2 := Int32.toInt_lt (xs j.toNat)
  unfold zXs; omega
end ZX
section ZX2
variable {b L : Nat} {xs : Nat → Int32} {g : zG} {d : Nat} {M : zMt} {rc rs pc : Nat} {lv : List (Option Value)} {st : List Value} {w : zWd} {K : Option Value → zWd → Prop}
theorem x_slen (hbg : b < g.base) (hd : decode M.2.1 pc = .ok (.arraylength, 1)) (k : zRunsX (zScp b L xs) g d M rc rs (pc + 1) lv (zI (L : Int) :: st) w K) : zRunsX (zScp b L xs) g d M rc rs pc lv (.ref b :: st) w K := by
  intro l p e s m args below meth c mc ms cells slots H locs ls hX hC h1 h2 hW hS hL
  have k := k l p e s m args below meth c mc ms cells slots H locs ls hX hC h1 h2 hW hS hL
  exact va_slen hC.1 hC.2.1 hX.1 hX.2 (by show ¬ g.base ≤ b; omega) hS hd k
theorem x_sld {i : Int} (hbg : b < g.base) (hL0 : L ≤ 384) (hi : 0 ≤ i ∧ i < (L : Int)) (hd : decode M.2.1 pc = .ok (.iaload, 1)) (k : zRunsX (zScp b L xs) g d M rc rs (pc + 1) lv (zI (zXs xs i) :: st) w K) : zRunsX (zScp b L xs) g d M rc rs pc lv (zI i :: .ref b :: st) w K := by
  intro l p e s m args below meth c mc ms cells slots H locs ls hX hC h1 h2 hW hS hL
  have k := k l p e s m args below meth c mc ms cells slots H locs ls hX hC h1 h2 hW hS hL
  have e1 : (Int32.ofInt i).toInt = i := zi_t (by omega)
  have e2 : (Int32.ofInt i).toNatClampNeg = i.toNat := by
    show (Int32.ofInt i).toInt.toNat = i.toNat
    rw [e1]
  rw [zI, zXs, Int32.ofInt_toInt, ← e2] at k
  refine va_sld hC.1 hC.2.1 hX.1 hX.2 (by show ¬ g.base ≤ b; omega) hS ?_ hd k
  intro q
  rcases q with q | q
  · have := Int32.lt_iff_toInt_lt.mp q
    rw [e1] at this
    have e0 : (0 : Int32).toInt = 0 := rfl
    omega
  · rw [e2] at q; omega
end ZX2
