/-! calls -/
def zpush (v : Option Value) (st : List Value) : List Value := match v with
  | none => st
  | some x => x :: st
section ZC
variable {g : zG} {d : Nat} {M : zMt} {rc rs pc : Nat} {lv : List (Option Value)} {st : List Value} {w : zWd} {K : Option Value → zWd → Prop}
theorem zPK_blind {args : List Value} : FrameBlind (zPK g args w) := fun a U gg mk h => ⟨h.1, h.2.1, zKK.same (u := U) (U := U.calling gg mk a) rfl h.2.2⟩
theorem zPK_pre {M : zMt} {p : Program} {s : State} {m : MethodId} {args : Array Value} {meth : Method} {c : Code} {H : Heap} {locs : List Loc} {As : List Value} (hC : zCx g M p s m args meth c) (hW : zHW g w H) (hS : va_S (zA g) s.heap H locs) (U : State) (hU : U.heap = H) (hw : s.WarmedH U.vm) : zPK g As w As.toArray U :=
  ⟨rfl, by rw [hU]; exact hW, by rw [hU]; exact zKK.warm hw hS.2.1 hC.2.2.2.2.2.2.1⟩
theorem zback {l : Launch} {p : Program} {e : Env} {s : State} {m : MethodId} {args a : Array Value} {below : List Frame} {meth : Method} {c : Code} {mc ms cells slots mc' ms' : Nat} {H : Heap} {locs : List Loc} {ls : Array Slot} {st0 : List Value} {K' : Option Value → zWd → Prop} {rc' rs' : Nat}
    (hC : zCx g M p s m args meth c) (h1 : cells + rc ≤ mc) (h2 : slots + rs ≤ ms) (hS : va_S (zA g) s.heap H locs) (hL : zLH ls M.2.2.1 lv) (hrc : rc' + mc' ≤ rc) (hrs : rs' + ms' ≤ rs)
    (hr : va_Run p l e (zrm d mc ms) s m args below meth c H locs cells slots mc' ms' (F0 m pc ls st0) st (zQK g K' a) (zA g))
    (kk : ∀ v w', K' v w' → zRuns g d M rc' rs' (pc + 3) lv (zpush v st) w' K) : W p l e (zrm d mc ms) s m args below meth c H locs cells slots (MQ below (zQK g K) args s mc ms (zA g)) (F0 m pc ls st0) := by
  intro T hT X
  obtain ⟨v0, st₀, t, T', L, h0, X', hL', e1, e2, ⟨⟨v, w', hv, hk, hW'⟩, hz, hkp⟩, stp⟩ := hr T hT X
  cases hv
  rw [h0] at hz hkp
  have hS' : va_S (zA g) s.heap T'.heap (locs ++ L) := ⟨Nat.le_trans hS.1 (by rw [e1]; exact hz), fun q g1 g2 => by rw [e1, hkp q (Nat.lt_of_lt_of_le g1 hS.1) g2]; exact hS.2.1 q g1 g2, fun q hq => by
      rcases List.mem_append.mp hq with h | h
      · exact hS.2.2 q h
      · exact hL' q h⟩
  have k := kk v0 w' hk l p e s m args below meth c mc ms (cells + mc') (slots + ms') T'.heap (locs ++ L) ls hC (by omega) (by omega) (by rw [e1]; exact hW') hS' hL
  obtain ⟨t2, a1, b1⟩ := k T' rfl X'
  refine ⟨t2, stp t2 ?_, b1⟩
  cases v0 <;> exact a1
theorem zcl_len {own host : String} {kind ix n : Nat} {M' : zMt} (h : zcl own host kind ix M' n) : ∀ sig, parseMethodDescriptor M'.1.desc = some sig → n = sig.parameters.length := fun sig hs => by
  have h2 := h.2.2.2.2.2.2.2.2.1
  rw [hs] at h2
  exact (Option.some.inj h2).symm
theorem zcl_B {own host : String} {kind ix n d' mc' ms' mc ms : Nat} {M' : zMt} {s : State} {args : Array Value} (h : zcl own host kind ix M' n) (hk : kind % 2 = 0) (hts : ∀ w ∈ zWL, w.before args s = true) (hd : d' + 1 ≤ d) : CallB (zrm d mc ms) s args own ix M'.1 M'.2.1 M'.2.2.1 M'.2.2.2 (zws M') (zrm d' mc' ms') mc' ms' n := by
  have hl := h.1
  rw [if_pos hk] at hl
  exact ⟨rfl, rfl, hd, by show 8 + (M'.2.2.1 + 11) + 38 * d' ≤ 38 * d; have := h.2.2.2.2.2.2.2.2.2; omega, pay_in hts (zcl_good h.2.1), List.mem_cons_self, hts _ h.2.1, hts _ h.2.2.1, ⟨h.2.2.2.2.2.2.1, h.2.2.2.2.2.2.2.1⟩, zcl_len h, hts _ hl⟩
theorem zcl_N {own host : String} {kind ix n d' mc' ms' mc ms : Nat} {M' : zMt} {s : State} {args : Array Value} (h : zcl own host kind ix M' n) (hk : ¬ kind % 2 = 0) (hts : ∀ w ∈ zWL, w.before args s = true) (hKK : ∀ q ∈ zNest, va_Nw (.methodLinkNest q.1 q.2.1 q.2.2 "HailCellar") s) (hd : d' + 1 ≤ d) : va_CN (zrm d mc ms) s args own ix M'.1 host M'.2.1 M'.2.2.1 M'.2.2.2 (zws M') (zrm d' mc' ms') mc' ms' n := by
  have hl := h.1
  rw [if_neg hk] at hl
  obtain ⟨hl, rfl⟩ := hl
  exact ⟨⟨rfl, rfl, hd, by show 8 + (M'.2.2.1 + 11) + 38 * d' ≤ 38 * d; have := h.2.2.2.2.2.2.2.2.2; omega, pay_in hts (zcl_good h.2.1), List.mem_cons_self⟩, hts _ h.2.1, hts _ h.2.2.1, ⟨h.2.2.2.2.2.2.1, h.2.2.2.2.2.2.2.1⟩, zcl_len h, va_Nw.use rfl (hKK _ hl)⟩
theorem zroom {m : MethodId} {pc : Nat} {ls : Array Slot} {st0 rest : List Value} (h : Nat.ble ((rest.map fun v => v.category).sum) 8 = true) : 2 * (F0 m pc ls st0).monitorRoom + (rest.map fun v => v.category).sum ≤ 8 := lv_room (Nat.le_of_ble_eq_true h)
theorem q_invokevirtual {host : String} {ix n d' mc' ms' k ci : Nat} {M' : zMt} {As : List Value} {st0 : List Value} {fs : List Value} (T0 : u_T × Nat) (hf : zcl M.1.cls host 0 ix M' n) (hd : decode M.2.1 pc = .ok (.invokevirtual ix, 3)) (hn : As.length = n) (hst : st0 = As.reverse ++ zR g k :: st) (hk : w.1 k = some (.inl (ci, fs))) (hc : vwCl[ci]? = some (M'.1.cls, T0)) (hdd : d' + 1 ≤ d) (hrm : Nat.ble ((st.map fun v => v.category).sum) 8 = true) (rc' rs' : Nat) (hrc : rc' + mc' ≤ rc) (hrs : rs' + ms' ≤ rs)
    (h : zCall g d' mc' ms' M' (zR g k :: As) w (fun v w' => zRuns g d M rc' rs' (pc + 3) lv (zpush v st) w' K)) : zRuns g d M rc rs pc lv st0 w K := by
  intro l p e s m args below meth c mc ms cells slots H locs ls hC h1 h2 hW hS hL
  subst hst
  have hts := hC.2.2.2.2.2.1
  have hq := hf.2.2.2.1 (by decide)
  have hr := va_runV (l := l) (e := e) (below := below) (meth := meth) (H := H) (locs := locs) (cells := cells) (slots := slots) (R := zrm d mc ms) (g := F0 m pc ls (As.reverse ++ zR g k :: st)) (As := As) (rest := st) (b := g.base + k) ⟨hC.1, hC.2.1, hC.2.2.2.1, hC.2.2.2.2.1, hts⟩ (h l) ⟨zcl_B (d := d) (d' := d') hf rfl hts hdd, hts _ hq.1, hts _ hq.2⟩
    ⟨zPK_blind, va_recv (D := g.1) (tys := ztys g) hC.2.2.2.2.2.2.1.1 hW.1 hc (zlst_at hW hk), fun U hU hw => zPK_pre hC hW hS U hU hw⟩ rfl hn hL.1 rfl (zroom hrm) hd ⟨by show cells + mc' ≤ mc; omega, by show slots + ms' ≤ ms; omega⟩
  exact zback hC h1 h2 hS hL hrc hrs hr (fun v w' hk => hk)
theorem q_invokenest {host : String} {ix n d' mc' ms' k ci : Nat} {M' : zMt} {As : List Value} {st0 : List Value} {fs : List Value} (T0 : u_T × Nat) (hf : zcl M.1.cls host 1 ix M' n) (hd : decode M.2.1 pc = .ok (.invokevirtual ix, 3)) (hn : As.length = n) (hst : st0 = As.reverse ++ zR g k :: st) (hk : w.1 k = some (.inl (ci, fs))) (hc : vwCl[ci]? = some (M'.1.cls, T0)) (hdd : d' + 1 ≤ d) (hrm : Nat.ble ((st.map fun v => v.category).sum) 8 = true) (rc' rs' : Nat) (hrc : rc' + mc' ≤ rc) (hrs : rs' + ms' ≤ rs)
    (h : zCall g d' mc' ms' M' (zR g k :: As) w (fun v w' => zRuns g d M rc' rs' (pc + 3) lv (zpush v st) w' K)) : zRuns g d M rc rs pc lv st0 w K := by
  intro l p e s m args below meth c mc ms cells slots H locs ls hC h1 h2 hW hS hL
  subst hst
  have hts := hC.2.2.2.2.2.1
  have hq := hf.2.2.2.1 (by decide)
  have hr := va_runVN (l := l) (e := e) (below := below) (meth := meth) (H := H) (locs := locs) (cells := cells) (slots := slots) (R := zrm d mc ms) (g := F0 m pc ls (As.reverse ++ zR g k :: st)) (As := As) (rest := st) (b := g.base + k) ⟨hC.1, hC.2.1, hC.2.2.2.1, hC.2.2.2.2.1, hts⟩ (h l) ⟨zcl_N (d := d) (d' := d') hf (by decide) hts hC.2.2.2.2.2.2.1.2.2.2.2.2 hdd, hts _ hq.1, hts _ hq.2⟩
    ⟨zPK_blind, va_recv (D := g.1) (tys := ztys g) hC.2.2.2.2.2.2.1.1 hW.1 hc (zlst_at hW hk), fun U hU hw => zPK_pre hC hW hS U hU hw⟩ rfl hn hL.1 rfl (zroom hrm) hd ⟨by show cells + mc' ≤ mc; omega, by show slots + ms' ≤ ms; omega⟩
  exact zback hC h1 h2 hS hL hrc hrs hr (fun v w' hk => hk)
theorem q_invokestatic {host : String} {ix n d' mc' ms' : Nat} {M' : zMt} {As : List Value} {st0 : List Value} (hf : zcl M.1.cls host 2 ix M' n) (hd : decode M.2.1 pc = .ok (.invokestatic ix, 3)) (hn : As.length = n) (hst : st0 = As.reverse ++ st) (hdd : d' + 1 ≤ d) (hrm : Nat.ble ((st.map fun v => v.category).sum) 8 = true) (rc' rs' : Nat) (hrc : rc' + mc' ≤ rc) (hrs : rs' + ms' ≤ rs)
    (h : zCall g d' mc' ms' M' As w (fun v w' => zRuns g d M rc' rs' (pc + 3) lv (zpush v st) w' K)) : zRuns g d M rc rs pc lv st0 w K := by
  intro l p e s m args below meth c mc ms cells slots H locs ls hC h1 h2 hW hS hL
  subst hst
  have hts := hC.2.2.2.2.2.1
  have hr := va_runS (l := l) (e := e) (below := below) (meth := meth) (H := H) (locs := locs) (cells := cells) (slots := slots) (R := zrm d mc ms) (g := F0 m pc ls (As.reverse ++ st)) (As := As) (rest := st) ⟨hC.1, hC.2.1, hC.2.2.2.1, hC.2.2.2.2.1, hts⟩ (h l) ⟨zcl_B (d := d) (d' := d') hf rfl hts hdd, hts _ (hf.2.2.2.2.1 (by decide))⟩
    ⟨zPK_blind, fun U hU hw => zPK_pre hC hW hS U hU hw⟩ rfl hn hL.1 rfl (zroom hrm) hd ⟨by show cells + mc' ≤ mc; omega, by show slots + ms' ≤ ms; omega⟩
  exact zback hC h1 h2 hS hL hrc hrs hr (fun v w' hk => hk)
theorem q_invokestnest {host : String} {ix n d' mc' ms' : Nat} {M' : zMt} {As : List Value} {st0 : List Value} (hf : zcl M.1.cls host 3 ix M' n) (hd : decode M.2.1 pc = .ok (.invokestatic ix, 3)) (hn : As.length = n) (hst : st0 = As.reverse ++ st) (hdd : d' + 1 ≤ d) (hrm : Nat.ble ((st.map fun v => v.category).sum) 8 = true) (rc' rs' : Nat) (hrc : rc' + mc' ≤ rc) (hrs : rs' + ms' ≤ rs)
    (h : zCall g d' mc' ms' M' As w (fun v w' => zRuns g d M rc' rs' (pc + 3) lv (zpush v st) w' K)) : zRuns g d M rc rs pc lv st0 w K := by
  intro l p e s m args below meth c mc ms cells slots H locs ls hC h1 h2 hW hS hL
  subst hst
  have hts := hC.2.2.2.2.2.1
  have hr := va_runSN (l := l) (e := e) (below := below) (meth := meth) (H := H) (locs := locs) (cells := cells) (slots := slots) (R := zrm d mc ms) (g := F0 m pc ls (As.reverse ++ st)) (As := As) (rest := st) ⟨hC.1, hC.2.1, hC.2.2.2.1, hC.2.2.2.2.1, hts⟩ (h l) ⟨zcl_N (d := d) (d' := d') hf (by decide) hts hC.2.2.2.2.2.2.1.2.2.2.2.2 hdd, hts _ (hf.2.2.2.2.1 (by decide)), trivial⟩
    ⟨zPK_blind, fun U hU hw => zPK_pre hC hW hS U hU hw⟩ rfl hn hL.1 rfl (zroom hrm) hd ⟨by show cells + mc' ≤ mc; omega, by show slots + ms' ≤ ms; omega⟩
  exact zback hC h1 h2 hS hL hrc hrs hr (fun v w' hk => hk)
theorem q_invokeinit {host : String} {ix n d' mc' ms' k : Nat} {M' : zMt} {As : List Value} {st0 : List Value} (hf : zcl M.1.cls host 4 ix M' n) (hd : decode M.2.1 pc = .ok (.invokespecial ix, 3)) (hn : As.length = n) (hst : st0 = As.reverse ++ zR g k :: st) (hdd : d' + 1 ≤ d) (hrm : Nat.ble ((st.map fun v => v.category).sum) 8 = true) (rc' rs' : Nat) (hrc : rc' + mc' ≤ rc) (hrs : rs' + ms' ≤ rs)
    (h : zCall g d' mc' ms' M' (zR g k :: As) w (fun v w' => zRuns g d M rc' rs' (pc + 3) lv (zpush v st) w' K)) : zRuns g d M rc rs pc lv st0 w K := by
  intro l p e s m args below meth c mc ms cells slots H locs ls hC h1 h2 hW hS hL
  subst hst
  have hts := hC.2.2.2.2.2.1
  have hq := hf.2.2.2.2.2.1 (by decide)
  have hB := zcl_B (d := d) (d' := d') (mc := mc) (ms := ms) (mc' := mc') (ms' := ms') hf rfl hts hdd
  rw [hq.2.2] at hB
  have hr := va_runI (l := l) (e := e) (below := below) (meth := meth) (H := H) (locs := locs) (cells := cells) (slots := slots) (R := zrm d mc ms) (g := F0 m pc ls (As.reverse ++ zR g k :: st)) (As := As) (rest := st) (b := g.base + k) ⟨hC.1, hC.2.1, hC.2.2.2.1, hC.2.2.2.2.1, hts⟩ (h l) ⟨hB, hq.2.1, hts _ hq.1⟩
    ⟨zPK_blind, fun U hU hw => zPK_pre hC hW hS U hU hw⟩ rfl hn hL.1 rfl (zroom hrm) hd ⟨by show cells + mc' ≤ mc; omega, by show slots + ms' ≤ ms; omega⟩
  exact zback hC h1 h2 hS hL hrc hrs hr (fun v w' hk => hk)
theorem q_invokeinitnest {host : String} {ix n d' mc' ms' k : Nat} {M' : zMt} {As : List Value} {st0 : List Value} (hf : zcl M.1.cls host 5 ix M' n) (hd : decode M.2.1 pc = .ok (.invokespecial ix, 3)) (hn : As.length = n) (hst : st0 = As.reverse ++ zR g k :: st) (hdd : d' + 1 ≤ d) (hrm : Nat.ble ((st.map fun v => v.category).sum) 8 = true) (rc' rs' : Nat) (hrc : rc' + mc' ≤ rc) (hrs : rs' + ms' ≤ rs)
    (h : zCall g d' mc' ms' M' (zR g k :: As) w (fun v w' => zRuns g d M rc' rs' (pc + 3) lv (zpush v st) w' K)) : zRuns g d M rc rs pc lv st0 w K := by
  intro l p e s m args below meth c mc ms cells slots H locs ls hC h1 h2 hW hS hL
  subst hst
  have hts := hC.2.2.2.2.2.1
  have hq := hf.2.2.2.2.2.1 (by decide)
  have hB := zcl_N (d := d) (d' := d') (mc := mc) (ms := ms) (mc' := mc') (ms' := ms') hf (by decide) hts hC.2.2.2.2.2.2.1.2.2.2.2.2 hdd
  rw [hq.2.2] at hB
  have hr := va_runIN (l := l) (e := e) (below := below) (meth := meth) (H := H) (locs := locs) (cells := cells) (slots := slots) (R := zrm d mc ms) (g := F0 m pc ls (As.reverse ++ zR g k :: st)) (As := As) (rest := st) (b := g.base + k) ⟨hC.1, hC.2.1, hC.2.2.2.1, hC.2.2.2.2.1, hts⟩ (h l) ⟨hB, hq.2.1, hts _ hq.1⟩
    ⟨zPK_blind, fun U hU hw => zPK_pre hC hW hS U hU hw⟩ rfl hn hL.1 rfl (zroom hrm) hd ⟨by show cells + mc' ≤ mc; omega, by show slots + ms' ≤ ms; omega⟩
  exact zback hC h1 h2 hS hL hrc hrs hr (fun v w' hk => hk)
theorem q_objinit {ix k : Nat} (hf : Cond.methodLink M.1.cls ix Lib.objectInit ∈ zWL) (hi : Cond.instanceMethod Lib.objectInit ∈ zWL) (hc : Cond.code Lib.objectInit ⟨#[0xb1]⟩ 1 none ∈ zWL) (hd : decode M.2.1 pc = .ok (.invokespecial ix, 3)) (hdd : 1 ≤ d) (hrm : Nat.ble ((st.map fun v => v.category).sum) 8 = true) (kk : zRuns g d M rc rs (pc + 3) lv st w K) : zRuns g d M rc rs pc lv (zR g k :: st) w K := by
  intro l p e s m args below meth c mc ms cells slots H locs ls hC h1 h2 hW hS hL
  have hts := hC.2.2.2.2.2.1
  exact W.objInit hC.1 hC.2.1 hC.2.2.2.2.1 (hts _ hf) (hts _ hi) (hts _ hc) rfl (by rw [hC.2.2.2.1]; exact hL.1) rfl hd hdd (by have := zroom (m := m) (pc := pc) (ls := ls) (st0 := zR g k :: st) hrm; show _ ≤ 38 * d; omega) (kk l p e s m args below meth c mc ms cells slots H locs ls hC h1 h2 hW hS hL)
theorem q_max {ix : Nat} {a b : Int} (hf : Cond.methodLink M.1.cls ix Lib.Math.max.name ∈ zWL) (hs : Cond.static Lib.Math.max.name ∈ zWL) (hi : Cond.initialized "java/lang/Math" ∈ zWL) (hc : Cond.code Lib.Math.max.name Lib.Math.max.code 2 (some .int) ∈ zWL) (hd : decode M.2.1 pc = .ok (.invokestatic ix, 3)) (hdd : 1 ≤ d) (hrm : Nat.ble ((st.map fun v => v.category).sum) 8 = true) (ha : zR32 a) (hb : zR32 b) (kk : zRuns g d M rc rs (pc + 3) lv (zI (max a b) :: st) w K) : zRuns g d M rc rs pc lv (zI b :: zI a :: st) w K := by
  intro l p e s m args below meth c mc ms cells slots H locs ls hC h1 h2 hW hS hL
  have hts := hC.2.2.2.2.2.1
  have kk := kk l p e s m args below meth c mc ms cells slots H locs ls hC h1 h2 hW hS hL
  have hr := Nat.le_of_ble_eq_true hrm
  refine va_mmax hC.1 hC.2.1 (by rw [hC.2.2.2.1]; exact hL.1.symm) hC.2.2.2.2.1 (hts _ hf) (hts _ hs) (hts _ hi) (hts _ hc) hdd (by show _ ≤ 38 * d; omega) (by show cells ≤ mc; omega) (by show slots ≤ ms; omega) hd ?_
  have e1 : (if Int32.ofInt a < Int32.ofInt b then Int32.ofInt b else Int32.ofInt a) = Int32.ofInt (max a b) := by
    by_cases q : a < b
    · rw [if_pos ((zi_lt ha hb).mpr q)]; congr 1; omega
    · rw [if_neg (fun z => q ((zi_lt ha hb).mp z))]; congr 1; omega
  rw [e1]
  exact kk
theorem q_min {ix : Nat} {a b : Int} (hf : Cond.methodLink M.1.cls ix Lib.Math.min.name ∈ zWL) (hs : Cond.static Lib.Math.min.name ∈ zWL) (hi : Cond.initialized "java/lang/Math" ∈ zWL) (hc : Cond.code Lib.Math.min.name Lib.Math.min.code 2 (some .int) ∈ zWL) (hd : decode M.2.1 pc = .ok (.invokestatic ix, 3)) (hdd : 1 ≤ d) (hrm : Nat.ble ((st.map fun v => v.category).sum) 8 = true) (ha : zR32 a) (hb : zR32 b) (kk : zRuns g d M rc rs (pc + 3) lv (zI (min a b) :: st) w K) : zRuns g d M rc rs pc lv (zI b :: zI a :: st) w K := by
  intro l p e s m args below meth c mc ms cells slots H locs ls hC h1 h2 hW hS hL
  have hts := hC.2.2.2.2.2.1
  have kk := kk l p e s m args below meth c mc ms cells slots H locs ls hC h1 h2 hW hS hL
  have hr := Nat.le_of_ble_eq_true hrm
  refine va_mmin hC.1 hC.2.1 (by rw [hC.2.2.2.1]; exact hL.1.symm) hC.2.2.2.2.1 (hts _ hf) (hts _ hs) (hts _ hi) (hts _ hc) hdd (by show _ ≤ 38 * d; omega) (by show cells ≤ mc; omega) (by show slots ≤ ms; omega) hd ?_
  have e1 : (if Int32.ofInt b < Int32.ofInt a then Int32.ofInt b else Int32.ofInt a) = Int32.ofInt (min a b) := by
    by_cases q : b < a
    · rw [if_pos ((zi_lt hb ha).mpr q)]; congr 1; omega
    · rw [if_neg (fun z => q ((zi_lt hb ha).mp z))]; congr 1; omega
  rw [e1]
  exact kk
def zS (g : zG) (i : Nat) : Value := .ref (g.2.2.2.2.1 i)
theorem q_ldcS {ix i : Nat} (hM : M.1.cls = "HailCellar$Reader") (hi : i < 5) (hx : zSix.getD i 0 = ix) (hd : decode M.2.1 pc = .ok (.ldc ix, 2)) (kk : zRuns g d M rc rs (pc + 2) lv (zS g i :: st) w K) : zRuns g d M rc rs pc lv st w K := by
  intro l p e s m args below meth c mc ms cells slots H locs ls hC h1 h2 hW hS hL
  subst hx
  have hR := hC.2.2.2.2.2.2.1.2.2.1 i hi
  rw [← hM] at hR
  exact va_ldcS hC.1 hC.2.1 hC.2.2.2.2.1 hR hd (kk l p e s m args below meth c mc ms cells slots H locs ls hC h1 h2 hW hS hL)
end ZC
