/-! rows on the heap, and calls -/
def zgf (own : String) (ix ci j : Nat) : Prop := ∃ (C : String) (T : u_T) (N : Nat), vwCl[ci]? = some (C, T, N) ∧ j < N ∧ Cond.fieldLink own ix (T j).1 (T j).2.1 (T j).2.2.1 ∈ zWL ∧ ∀ w ∈ u_ws C T N, w ∈ zWL
def zpf (own : String) (ix ci j : Nat) (fin : Bool) (ty : FieldType) : Prop := ∃ (C : String) (T : u_T) (N : Nat) (tyf : Nat → FieldType), vwCl[ci]? = some (C, T, N) ∧ j < N ∧ Cond.fieldLink own ix (T j).1 (T j).2.1 (T j).2.2.1 ∈ zWL ∧ (∀ w ∈ u_ws C T N, w ∈ zWL) ∧
  (∀ k, k < N → parseFieldDescriptor (T k).2.2.1 = some (tyf k)) ∧ (∀ a, a < N → ∀ b, b < N → a ≠ b → (T a).2.1 ≠ (T b).2.1) ∧ (T j).2.2.2 = fin ∧ (fin = true → (T j).1 = own) ∧ parseFieldDescriptor (T j).2.2.1 = some ty
def znw (own : String) (ix ci : Nat) (fs : List Value) : Prop := ∃ (C : String) (T : u_T) (N : Nat) (tyf : Nat → FieldType), vwCl[ci]? = some (C, T, N) ∧ fs.length = N ∧ Cond.classLink own ix C ∈ zWL ∧ Cond.instantiable C N ∈ zWL ∧ Cond.initialized C ∈ zWL ∧ (∀ w ∈ u_ws C T N, w ∈ zWL) ∧
  (∀ k, k < N → parseFieldDescriptor (T k).2.2.1 = some (tyf k)) ∧ ∀ k, k < N → defaultValue (tyf k) = vp_V fs k
/-- a call's words: of an instance method by name (0), by a nest mate's name (1); static (2), by a nest mate (3); a constructor (4), a nest mate's (5) -/
def zcl (own host : String) (kind ix : Nat) (M : zMt) (n : Nat) : Prop :=
  (if kind % 2 = 0 then Cond.methodLink own ix M.1 ∈ zWL else (own, ix, M.1) ∈ zNest ∧ host = "HailCellar") ∧ Cond.code M.1 M.2.1 M.2.2.1 M.2.2.2 ∈ zWL ∧ Cond.initialized M.1.cls ∈ zWL ∧
  (kind / 2 = 0 → Cond.instanceMethod M.1 ∈ zWL ∧ Cond.selects M.1.cls M.1 M.1 ∈ zWL) ∧ (kind / 2 = 1 → Cond.static M.1 ∈ zWL) ∧ (kind / 2 = 2 → Cond.instanceMethod M.1 ∈ zWL ∧ M.1.name = "<init>" ∧ M.2.2.2 = none) ∧
  M.1.cls ≠ "java/lang/invoke/MethodHandle" ∧ M.1.cls ≠ "java/lang/invoke/VarHandle" ∧ (parseMethodDescriptor M.1.desc).map (fun d => d.parameters.length) = some n ∧ M.2.2.1 ≤ 19
theorem zcl_good {M : zMt} (h : Cond.code M.1 M.2.1 M.2.2.1 M.2.2.2 ∈ zWL) : GoodIn zWL (zws M) := fun w hw => by
  rcases List.mem_cons.mp hw with rfl | hw
  · exact ⟨h, good_of_word (zWL_good _ h)⟩
  · exact ⟨hw, good_of_word (zWL_good _ hw)⟩
section ZH
variable {g : zG} {d : Nat} {M : zMt} {rc rs pc : Nat} {lv : List (Option Value)} {st : List Value} {w : zWd} {K : Option Value → zWd → Prop}
theorem zHW_va {H : Heap} (h : zHW g w H) : va_P g.1 vwCl (zlst g w) H := h.1
theorem q_getfield {ix ci j k : Nat} {fs : List Value} {v : Value} (hf : zgf M.1.cls ix ci j) (hd : decode M.2.1 pc = .ok (.getfield ix, 3)) (hk : w.1 k = some (.inl (ci, fs))) (hv : fs[j]? = some v) (kk : zRuns g d M rc rs (pc + 3) lv (v :: st) w K) : zRuns g d M rc rs pc lv (zR g k :: st) w K := by
  intro l p e s m args below meth c mc ms cells slots H locs ls hC h1 h2 hW hS hL
  obtain ⟨C, T, N, hc, hj, hl, hin⟩ := hf
  exact va_get (D := g.1) (ci := ci) hC.1 hC.2.1 hC.2.2.2.2.2.1 hin hC.2.2.2.2.1 hC.2.2.2.2.2.2.1.1 hW.1 k (zlst_at hW hk) hc j hj (hC.2.2.2.2.2.1 _ hl) (fun _ h9 => h9) hv hd (kk l p e s m args below meth c mc ms cells slots H locs ls hC h1 h2 hW hS hL)
theorem q_putfield {ix ci j k : Nat} {fs : List Value} {v : Value} {ty : FieldType} (hf : zpf M.1.cls ix ci j false ty) (hd : decode M.2.1 pc = .ok (.putfield ix, 3)) (hk : w.1 k = some (.inl (ci, fs))) (hn : narrow ty v = v) (hfit : fits ty v = true) (hlen : j < fs.length) (kk : zRuns g d M rc rs (pc + 3) lv st (zup w k (.inl (ci, fs.set j v))) K) : zRuns g d M rc rs pc lv (v :: zR g k :: st) w K := by
  intro l p e s m args below meth c mc ms cells slots H locs ls hC h1 h2 hW hS hL
  obtain ⟨C, T, N, tyf, hc, hj, hlk, hin, hty, hnm, hfin, -, hd2⟩ := hf
  have hK := hC.2.2.2.2.2.2.1.1
  have hwl := hC.2.2.2.2.2.1
  have he := zlst_at hW hk
  have hP := hW.1
  have hap := va_apart (own := M.1.cls) (D := g.1) hwl hin tyf hty hnm hK hc
  obtain ⟨r, q0, cell, q1, q2, q3, q4⟩ := hP k _ he
  have hr : r = (C, T, N) := Option.some.inj (q0.symm.trans hc)
  subst hr
  obtain ⟨hSl, hfc, kC, hkC, hkind⟩ := hK.1 ci _ hc
  obtain ⟨cf, kf, fi, f, hi, hsl⟩ := hSl j hj
  have hlay := hwl _ (hin _ (u_in_lay hj))
  unfold u_lay at hlay
  rw [if_neg (by rw [hfin]; decide)] at hlay
  have hst := (u_facts hfc hkC (u_lays hwl hin hj) hi).1
  have h6 := u_store hfc hkC hkind hlay hi hd2 hn hfit
  refine W.putK hC.1 hC.2.1 (f := f) ⟨hC.2.2.2.2.1, hwl _ hlk, ⟨_, _, _, hi⟩, hst⟩ (by rw [q2]; exact h6) q1 q3 (by rw [hsl]; exact k2_hasslot (q4 j hj)) rfl rfl hd fun H' e1 e2 e3 => ?_
  rw [hsl] at e1 ⊢
  have hP' := hP.set (zlst_D g w) he (e := .inr (ci, fs.set j v)) ⟨_, hc, t_OB.to (V := updV (vp_V fs) j v) ⟨_, e1, q2, q3, t_set q4 hap hj v⟩ (fun i _ => vp_updV_set hlen v i)⟩ e3
  exact kk l p e s m args below meth c mc ms cells slots H' _ ls hC h1 h2 (zHW_up hW hk (fun a h => by cases h) e2 hP') (hS.put e2 e3 (Nat.le_add_right _ _)) hL
theorem q_putfinal {ix ci j k : Nat} {fs : List Value} {v : Value} {ty : FieldType} (hf : zpf M.1.cls ix ci j true ty) (hd : decode M.2.1 pc = .ok (.putfield ix, 3)) (hini : M.1.name = "<init>") (hk : w.1 k = some (.inl (ci, fs))) (hn : narrow ty v = v) (hfit : fits ty v = true) (hlen : j < fs.length) (kk : zRuns g d M rc rs (pc + 3) lv st (zup w k (.inl (ci, fs.set j v))) K) : zRuns g d M rc rs pc lv (v :: zR g k :: st) w K := by
  intro l p e s m args below meth c mc ms cells slots H locs ls hC h1 h2 hW hS hL
  obtain ⟨C, T, N, tyf, hc, hj, hlk, hin, hty, hnm, hfin, hdecl, hd2⟩ := hf
  have hK := hC.2.2.2.2.2.2.1.1
  have hwl := hC.2.2.2.2.2.1
  have he := zlst_at hW hk
  have hP := hW.1
  have hap := va_apart (own := M.1.cls) (D := g.1) hwl hin tyf hty hnm hK hc
  obtain ⟨r, q0, cell, q1, q2, q3, q4⟩ := hP k _ he
  have hr : r = (C, T, N) := Option.some.inj (q0.symm.trans hc)
  subst hr
  obtain ⟨hSl, hfc, kC, hkC, hkind⟩ := hK.1 ci _ hc
  obtain ⟨cf, kf, fi, f, hi, hsl⟩ := hSl j hj
  have hlay := hwl _ (hin _ (u_in_lay hj))
  unfold u_lay at hlay
  rw [if_pos hfin] at hlay
  have hst := (u_facts hfc hkC (u_lays hwl hin hj) hi).1
  have hcf : m.cls = cf := by
    obtain ⟨_, _, c', _, _, _, -, -, hf', -, -, -, hown2, -⟩ := Cond.laysFinal_spec hlay
    have e1 : c' = cf := by have := hi.symm.trans hf'; simp at this; exact this.1.symm
    rw [hdecl rfl] at hown2
    rw [← e1]; exact Option.some.inj (hC.2.2.2.2.1.symm.trans hown2)
  have h6 := u_fits hfc hkC hkind (Or.inr hlay) hi hd2 hn hfit
  refine W.putFinK hC.1 hC.2.1 hC.2.2.2.2.1 (hwl _ hlk) hi hst hcf (hC.2.2.2.2.2.2.2.2.2 hini) (by rw [q2]; exact h6) q1 q3 (by rw [hsl]; exact k2_hasslot (q4 j hj)) rfl rfl hd fun H' e1 e2 e3 => ?_
  rw [hsl] at e1 ⊢
  have hP' := hP.set (zlst_D g w) he (e := .inr (ci, fs.set j v)) ⟨_, hc, t_OB.to (V := updV (vp_V fs) j v) ⟨_, e1, q2, q3, t_set q4 hap hj v⟩ (fun i _ => vp_updV_set hlen v i)⟩ e3
  exact kk l p e s m args below meth c mc ms cells slots H' _ ls hC h1 h2 (zHW_up hW hk (fun a h => by cases h) e2 hP') (hS.put e2 e3 (Nat.le_add_right _ _)) hL
theorem zix {n : Nat} {i : Int} (hn : n < 2 ^ 31) (h : 0 ≤ i ∧ i < n) : vp_in (Int32.ofInt i) n ∧ ((Int32.ofInt i).toNatClampNeg : Int) = i := by
  have hr : zR32 i := by omega
  have e : ((Int32.ofInt i).toNatClampNeg : Int) = i := by
    show (((Int32.ofInt i).toInt.toNat : Nat) : Int) = i
    rw [zi_t hr]; omega
  exact ⟨vp_in_iff.mpr (by rw [zi_t hr]; omega), e⟩
theorem q_iaload {k n : Nat} {f : Int → Int} {i : Int} (hd : decode M.2.1 pc = .ok (.iaload, 1)) (hk : w.1 k = some (.inr (false, n, f))) (hi : 0 ≤ i ∧ i < n) (kk : zRuns g d M rc rs (pc + 1) lv (zI (f i) :: st) w K) : zRuns g d M rc rs pc lv (zI i :: zR g k :: st) w K := by
  intro l p e s m args below meth c mc ms cells slots H locs ls hC h1 h2 hW hS hL
  obtain ⟨q1, q2⟩ := zix (hW.2.2.2 _ _ hk) hi
  refine va_iald (D := g.1) (tys := ztys g) hC.1 hC.2.1 hC.2.2.2.2.2.2.1.1 hW.1 k 0 (cA := g.2.1) (n := n) (f := fun j => Int32.ofInt (f (j : Int))) ((zlst_at hW hk).trans rfl) rfl q1 hd ?_
  show W p l e _ s m args below meth c H locs cells slots _ (F0 m (pc + 1) ls (.int (Int32.ofInt (f ((Int32.ofInt i).toNatClampNeg : Int))) :: st))
  rw [q2]
  exact kk l p e s m args below meth c mc ms cells slots H locs ls hC h1 h2 hW hS hL
theorem q_baload {k n : Nat} {f : Int → Int} {i : Int} (hd : decode M.2.1 pc = .ok (.baload, 1)) (hk : w.1 k = some (.inr (true, n, f))) (hi : 0 ≤ i ∧ i < n) (kk : zRuns g d M rc rs (pc + 1) lv (zI (f i) :: st) w K) : zRuns g d M rc rs pc lv (zI i :: zR g k :: st) w K := by
  intro l p e s m args below meth c mc ms cells slots H locs ls hC h1 h2 hW hS hL
  obtain ⟨q1, q2⟩ := zix (hW.2.2.2 _ _ hk) hi
  refine va_zald (D := g.1) (tys := ztys g) hC.1 hC.2.1 hC.2.2.2.2.2.2.1.1 hW.1 k 1 (cA := g.2.2.1) (n := n) (f := fun j => Int32.ofInt (f (j : Int))) ((zlst_at hW hk).trans rfl) rfl q1 hd ?_
  show W p l e _ s m args below meth c H locs cells slots _ (F0 m (pc + 1) ls (.int (Int32.ofInt (f ((Int32.ofInt i).toNatClampNeg : Int))) :: st))
  rw [q2]
  exact kk l p e s m args below meth c mc ms cells slots H locs ls hC h1 h2 hW hS hL
theorem zarr_up {f : Int → Int} {i x : Int} {j0 : Nat} (h : (j0 : Int) = i) : (fun j : Nat => Int32.ofInt (zfu f i x (j : Int))) = upd (fun j : Nat => Int32.ofInt (f (j : Int))) j0 (Int32.ofInt x) := by
  funext j
  by_cases hj : j = j0
  · subst hj
    simp [upd, zfu, h]
  · have : ¬ (j : Int) = i := by omega
    simp [upd, zfu, hj, this]
theorem q_iastore {k n : Nat} {f : Int → Int} {i x : Int} (hd : decode M.2.1 pc = .ok (.iastore, 1)) (hk : w.1 k = some (.inr (false, n, f))) (hi : 0 ≤ i ∧ i < n) (kk : zRuns g d M rc rs (pc + 1) lv st (zup w k (.inr (false, n, zfu f i x))) K) : zRuns g d M rc rs pc lv (zI x :: zI i :: zR g k :: st) w K := by
  intro l p e s m args below meth c mc ms cells slots H locs ls hC h1 h2 hW hS hL
  obtain ⟨q1, q2⟩ := zix (hW.2.2.2 _ _ hk) hi
  have hK := hC.2.2.2.2.2.2.1.1
  have he := zlst_at hW hk
  have ha : H[g.base + k]? = some (vp_cell g.2.1 (n, .inl (fun j => Int32.ofInt (f (j : Int))))) := hW.1 k _ he
  refine W.iast hC.1 hC.2.1 ha ((hK.2 0 _ rfl).1 n (fun j => .int (Int32.ofInt (f (j : Int))))) (fun q => by cases q) (by show ¬ (_ < 0 ∨ (arrV _ _ _).slots.size ≤ _); rw [arrV_size]; exact q1) rfl rfl hd fun H1 e1 z oq => ?_
  have hP' := hW.1.set (zlst_D g w) he (e := zvE g (.inr (false, n, zfu f i x))) (H1 := H1) (by
    show H1[g.base + k]? = some (vp_cell g.2.1 (n, .inl (fun j : Nat => Int32.ofInt (zfu f i x (j : Int)))))
    rw [e1, zarr_up q2, vp_cell_i, vp_cell_i, arrV_store]
    congr 2
    funext q
    by_cases hq : q = (Int32.ofInt i).toNatClampNeg
    · subst hq; simp [updV, upd]
    · simp [updV, upd, hq]) oq
  exact kk l p e s m args below meth c mc ms cells slots H1 _ ls hC h1 h2 (zHW_up hW hk (fun a h => by cases h; exact hW.2.2.2 _ (_, n, f) hk) z hP') (hS.put z oq (Nat.le_add_right _ _)) hL
theorem q_bastore {k n : Nat} {f : Int → Int} {i x : Int} (hd : decode M.2.1 pc = .ok (.bastore, 1)) (hk : w.1 k = some (.inr (true, n, f))) (hi : 0 ≤ i ∧ i < n) (hx : narrow .boolean (.int (Int32.ofInt x)) = .int (Int32.ofInt x)) (kk : zRuns g d M rc rs (pc + 1) lv st (zup w k (.inr (true, n, zfu f i x))) K) : zRuns g d M rc rs pc lv (zI x :: zI i :: zR g k :: st) w K := by
  intro l p e s m args below meth c mc ms cells slots H locs ls hC h1 h2 hW hS hL
  obtain ⟨q1, q2⟩ := zix (hW.2.2.2 _ _ hk) hi
  have hK := hC.2.2.2.2.2.2.1.1
  have he := zlst_at hW hk
  have ha : H[g.base + k]? = some (vp_cell g.2.2.1 (n, .inl (fun j => Int32.ofInt (f (j : Int))))) := hW.1 k _ he
  refine W.zast hC.1 hC.2.1 ha ((hK.2 1 _ rfl).1 n (fun j => .int (Int32.ofInt (f (j : Int))))) (fun q => by cases q) (by show ¬ (_ < 0 ∨ (arrV _ _ _).slots.size ≤ _); rw [arrV_size]; exact q1) rfl rfl hd fun H1 e1 z oq => ?_
  have hP' := hW.1.set (zlst_D g w) he (e := zvE g (.inr (true, n, zfu f i x))) (H1 := H1) (by
    show H1[g.base + k]? = some (vp_cell g.2.2.1 (n, .inl (fun j : Nat => Int32.ofInt (zfu f i x (j : Int)))))
    rw [e1, zarr_up q2, hx, vp_cell_i, vp_cell_i, arrV_store]
    congr 2
    funext q
    by_cases hq : q = (Int32.ofInt i).toNatClampNeg
    · subst hq; simp [updV, upd]
    · simp [updV, upd, hq]) oq
  exact kk l p e s m args below meth c mc ms cells slots H1 _ ls hC h1 h2 (zHW_up hW hk (fun a h => by cases h; exact hW.2.2.2 _ (_, n, f) hk) z hP') (hS.put z oq (Nat.le_add_right _ _)) hL
theorem q_arraylength {k n : Nat} {b : Bool} {f : Int → Int} (hd : decode M.2.1 pc = .ok (.arraylength, 1)) (hk : w.1 k = some (.inr (b, n, f))) (kk : zRuns g d M rc rs (pc + 1) lv (zI (n : Int) :: st) w K) : zRuns g d M rc rs pc lv (zR g k :: st) w K := by
  intro l p e s m args below meth c mc ms cells slots H locs ls hC h1 h2 hW hS hL
  have kk := kk l p e s m args below meth c mc ms cells slots H locs ls hC h1 h2 hW hS hL
  cases b with
  | false => exact va_alen (D := g.1) (tys := ztys g) hC.1 hC.2.1 hC.2.2.2.2.2.2.1.1 hW.1 k 0 ((zlst_at hW hk).trans rfl) (ty := .int) rfl (by show Int32.ofNat n = Int32.ofInt (n : Int); rfl) hd kk
  | true => exact va_alen (D := g.1) (tys := ztys g) hC.1 hC.2.1 hC.2.2.2.2.2.2.1.1 hW.1 k 1 ((zlst_at hW hk).trans rfl) (ty := .boolean) rfl (by show Int32.ofNat n = Int32.ofInt (n : Int); rfl) hd kk
theorem zHW_new {H H1 : Heap} {e : zE} (h : zHW g w H) (he : ∀ a, e = .inr a → a.2.1 < 2 ^ 31) (hz : H1.size = H.size + 1) (oq : ∀ q, q < H.size → H1[q]? = H[q]?) (hat : va_at g.1 vwCl (g.base + w.2, zvE g e) H1) : zHW g (znew w e) H1 := by
  refine ⟨?_, by rw [hz, h.2.1]; rfl, fun i x hi => ?_, fun i a hi => ?_⟩
  · rw [← zlst_new h.2.2.1]
    refine va_P.app (va_P.kept h.1 (fun k q hk => oq q.1 ((h.1 k q hk).lt))) (fun k q hk => ?_)
    have hz : k < 1 := (List.getElem?_eq_some_iff.mp hk).1
    rw [show k = 0 by omega] at hk
    cases hk
    exact hat
  · by_cases hik : i = w.2
    · subst hik; exact Nat.lt_succ_self _
    · simp [znew, hik] at hi; exact Nat.lt_succ_of_lt (h.2.2.1 i x hi)
  · by_cases hik : i = w.2
    · subst hik; simp [znew] at hi; exact he a hi
    · simp [znew, hik] at hi; exact h.2.2.2 i a hi
theorem va_S_new {A : Nat → Prop} {H0 H H1 : Heap} {locs : List Loc} (hS : va_S A H0 H locs) (hz : H1.size = H.size + 1) (oq : ∀ q, q < H.size → H1[q]? = H[q]?) : va_S A H0 H1 locs := ⟨Nat.le_trans hS.1 (by omega), fun x h1 h2 => (oq x (Nat.lt_of_lt_of_le h1 hS.1)).trans (hS.2.1 x h1 h2), hS.2.2⟩
theorem q_new {ix ci : Nat} {fs : List Value} (hf : znw M.1.cls ix ci fs) (hd : decode M.2.1 pc = .ok (.new ix, 3)) (rc' rs' : Nat) (hrc : rc' + 1 ≤ rc) (hrs : rs' + fs.length ≤ rs) (kk : zRuns g d M rc' rs' (pc + 3) lv (zR g w.2 :: st) (znew w (.inl (ci, fs))) K) : zRuns g d M rc rs pc lv st w K := by
  intro l p e s m args below meth c mc ms cells slots H locs ls hC h1 h2 hW hS hL
  obtain ⟨C, T, N, tyf, hc, hlen, hcl, hins, hini, hin, hty, hdef⟩ := hf
  subst hlen
  have hwl := hC.2.2.2.2.2.1
  have hKn := hC.2.2.2.2.2.2.1.1.1 ci _ hc
  refine W.newcK hC.1 hC.2.1 hC.2.2.2.2.1 (hwl _ hcl) (hwl _ hins) (hwl _ hini) rfl hd (by show cells + 1 ≤ mc; omega) (by show slots + fs.length ≤ ms; omega) hKn.2.1 hW.2.1 fun H1 kC hkC e1 z1 o1 => ?_
  have o2 : ∀ q, q < H.size → H1[q]? = H[q]? := fun q h => o1 q (by rw [← hW.2.1]; exact h)
  have z2 : H1.size = H.size + 1 := by rw [z1, hW.2.1]
  exact kk l p e s m args below meth c mc ms (cells + 1) (slots + fs.length) H1 locs ls hC (by omega) (by omega) (zHW_new hW (fun a h => by cases h) z2 o2 ⟨_, hc, (u_born tyf hwl hin hKn hkC e1 hty).to hdef⟩) (va_S_new hS z2 o2) hL
theorem q_newint {n : Int} (hd : decode M.2.1 pc = .ok (.newarray .int, 2)) (ha : Cond.arrayClass .int ∈ zWL) (hn : 0 ≤ n ∧ n ≤ 100000) (rc' rs' : Nat) (hrc : rc' + 1 ≤ rc) (hrs : rs' + n.toNat ≤ rs) (kk : zRuns g d M rc' rs' (pc + 2) lv (zR g w.2 :: st) (znew w (.inr (false, n.toNat, fun _ => 0))) K) : zRuns g d M rc rs pc lv (zI n :: st) w K := by
  intro l p e s m args below meth c mc ms cells slots H locs ls hC h1 h2 hW hS hL
  have hwl := hC.2.2.2.2.2.1
  have hr : zR32 n := by omega
  refine va_newaK (atype := .int) hC.1 hC.2.1 (hwl _ ha) rfl hd (n := Int32.ofInt n) (N := n.toNat) rfl (by rw [zi_lt0 hr]; omega) (by show (Int32.ofInt n).toInt.toNat = _; rw [zi_t hr]) (by show n.toNat * 4 ≤ _; omega) (by show cells + 1 ≤ mc; omega) (by show slots + n.toNat ≤ ms; omega) hW.2.1 fun H1 cA e1 z1 o1 _ hfc => ?_
  have hcA : cA = g.2.1 := Option.some.inj (hfc.symm.trans (hC.2.2.2.2.2.2.1.1.2 0 _ rfl).2)
  subst hcA
  have o2 : ∀ q, q < H.size → H1[q]? = H[q]? := fun q h => o1 q (by rw [← hW.2.1]; exact h)
  have z2 : H1.size = H.size + 1 := by rw [z1, hW.2.1]
  exact kk l p e s m args below meth c mc ms (cells + 1) (slots + n.toNat) H1 locs ls hC (by omega) (by omega) (zHW_new hW (fun a h => by cases h; show n.toNat < _; omega) z2 o2 e1) (va_S_new hS z2 o2) hL
theorem q_newbool {n : Int} (hd : decode M.2.1 pc = .ok (.newarray .boolean, 2)) (ha : Cond.arrayClass .boolean ∈ zWL) (hn : 0 ≤ n ∧ n ≤ 100000) (rc' rs' : Nat) (hrc : rc' + 1 ≤ rc) (hrs : rs' + n.toNat ≤ rs) (kk : zRuns g d M rc' rs' (pc + 2) lv (zR g w.2 :: st) (znew w (.inr (true, n.toNat, fun _ => 0))) K) : zRuns g d M rc rs pc lv (zI n :: st) w K := by
  intro l p e s m args below meth c mc ms cells slots H locs ls hC h1 h2 hW hS hL
  have hwl := hC.2.2.2.2.2.1
  have hr : zR32 n := by omega
  refine va_newaK (atype := .boolean) hC.1 hC.2.1 (hwl _ ha) rfl hd (n := Int32.ofInt n) (N := n.toNat) rfl (by rw [zi_lt0 hr]; omega) (by show (Int32.ofInt n).toInt.toNat = _; rw [zi_t hr]) (by show n.toNat * 1 ≤ _; omega) (by show cells + 1 ≤ mc; omega) (by show slots + n.toNat ≤ ms; omega) hW.2.1 fun H1 cA e1 z1 o1 _ hfc => ?_
  have hcA : cA = g.2.2.1 := Option.some.inj (hfc.symm.trans (hC.2.2.2.2.2.2.1.1.2 1 _ rfl).2)
  subst hcA
  have o2 : ∀ q, q < H.size → H1[q]? = H[q]? := fun q h => o1 q (by rw [← hW.2.1]; exact h)
  have z2 : H1.size = H.size + 1 := by rw [z1, hW.2.1]
  exact kk l p e s m args below meth c mc ms (cells + 1) (slots + n.toNat) H1 locs ls hC (by omega) (by omega) (zHW_new hW (fun a h => by cases h; show n.toNat < _; omega) z2 o2 e1) (va_S_new hS z2 o2) hL
end ZH
