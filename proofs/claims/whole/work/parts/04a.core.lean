/-! THE LAYER OVER THE KIT'S W. A world is a function from offsets (behind the heap's size at the law's entry) to cells; ints are Int32.ofInt of an Int.
zCall g d mc ms M args w K: method M on args in world w returns v in a world w' with K v w'. zRuns: the same from the middle of a method. -/
def zWL : List Cond := lw_tbl.filter goodWord
theorem zWL_of {w : Cond} (h : w ∈ lw_tbl) (q : goodWord w = true) : w ∈ zWL := List.mem_filter.mpr ⟨h, q⟩
theorem zWL_good : ∀ w ∈ zWL, goodWord w = true := fun _ h => (List.mem_filter.mp h).2
abbrev zMt : Type := MethodName × ByteArray × Nat × Option FieldType
def zws (M : zMt) : List Cond := Cond.code M.1 M.2.1 M.2.2.1 M.2.2.2 :: zWL
def zrm (d mc ms : Nat) : Room := { frames := d, cells := mc, slots := ms, locals := 38 * d }
/-- an object: its class's number and fields; or an array (of booleans?), its length, its contents -/
abbrev zE : Type := (Nat × List Value) ⊕ (Bool × Nat × (Int → Int))
abbrev zWd : Type := (Nat → Option zE) × Nat
/-- class ids and slots, the class ids of int[] and boolean[], the heap's size at the law's entry, the String constants and their arrays -/
abbrev zG : Type := va_G × ClassId × ClassId × Nat × (Nat → Nat) × (Nat → Nat)
abbrev zG.base (g : zG) : Nat := g.2.2.2.1
def zA (g : zG) : Nat → Prop := fun q => g.base ≤ q
def zvE (g : zG) (e : zE) : va_E := match e with
  | .inl o => .inr o
  | .inr a => .inl (if a.1 = true then g.2.2.1 else g.2.1, a.2.1, .inl (fun j => Int32.ofInt (a.2.2 (j : Int))))
def zlst (g : zG) (w : zWd) : va_W := (List.range w.2).map (fun i => (g.base + i, zvE g ((w.1 i).getD (.inl (0, [])))))
def zHW (g : zG) (w : zWd) (H : Heap) : Prop := va_P g.1 vwCl (zlst g w) H ∧ H.size = g.base + w.2 ∧ (∀ i e, w.1 i = some e → i < w.2) ∧ ∀ i a, w.1 i = some (.inr a) → a.2.1 < 2 ^ 31
def ztys (g : zG) : List (ClassId × FieldType) := [(g.2.1, .int), (g.2.2.1, .boolean)]
def zI (e : Int) : Value := .int (Int32.ofInt e)
def zJ (e : Int) : Value := .long (Int64.ofInt e)
def zR (g : zG) (k : Nat) : Value := .ref (g.base + k)
def zup (w : zWd) (k : Nat) (e : zE) : zWd := (fun i => if i = k then some e else w.1 i, w.2)
def znew (w : zWd) (e : zE) : zWd := (fun i => if i = w.2 then some e else w.1 i, w.2 + 1)
def zfu (f : Int → Int) (k v : Int) : Int → Int := fun j => if j = k then v else f j
theorem zlst_D (g : zG) (w : zWd) : va_D (zA g) (zlst g w) := by
  have key : ∀ (k : Nat) (q : Nat × va_E), (zlst g w)[k]? = some q → q.1 = g.base + k := by
    intro k q h
    simp only [zlst, List.getElem?_map, Option.map_eq_some_iff] at h
    obtain ⟨a, h1, h2⟩ := h
    obtain ⟨h3, h4⟩ := List.getElem?_eq_some_iff.mp h1
    simp at h4
    rw [← h2, ← h4]
  refine ⟨fun i j p q hi hj e => ?_, fun k q h => ?_⟩
  · rw [key i p hi, key j q hj] at e
    omega
  · show g.base ≤ q.1
    rw [key k q h]; omega
theorem zlst_at {g : zG} {w : zWd} {H : Heap} (h : zHW g w H) {k : Nat} {e : zE} (hk : w.1 k = some e) : (zlst g w)[k]? = some (g.base + k, zvE g e) := by
  have hl := h.2.2.1 k e hk
  simp [zlst, hl, hk]
theorem zlst_up {g : zG} {w : zWd} {k : Nat} {e : zE} : (zlst g w).set k (g.base + k, zvE g e) = zlst g (zup w k e) := by
  refine List.ext_getElem? fun i => ?_
  rw [List.getElem?_set]
  by_cases hik : k = i
  · subst hik
    by_cases hl : k < w.2
    · simp [zlst, zup, hl]
    · simp [zlst, zup, hl]
  · have hne : i ≠ k := fun q => hik q.symm
    by_cases hl : i < w.2
    · simp [zlst, zup, hl, hik, hne]
    · simp [zlst, zup, hl, hik]
theorem zHW_up {g : zG} {w : zWd} {H H1 : Heap} {k : Nat} {e0 e : zE} (h : zHW g w H) (hk : w.1 k = some e0) (he : ∀ a, e = .inr a → a.2.1 < 2 ^ 31) (hz : H1.size = H.size) (hP : va_P g.1 vwCl ((zlst g w).set k (g.base + k, zvE g e)) H1) : zHW g (zup w k e) H1 := by
  refine ⟨by rw [← zlst_up]; exact hP, by rw [hz]; exact h.2.1, fun i x hi => ?_, fun i a hi => ?_⟩
  · by_cases hik : i = k
    · subst hik; exact h.2.2.1 _ _ hk
    · simp [zup, hik] at hi; exact h.2.2.1 i x hi
  · by_cases hik : i = k
    · subst hik
      simp [zup] at hi
      exact he a hi
    · simp [zup, hik] at hi; exact h.2.2.2 i a hi
theorem zlst_new {g : zG} {w : zWd} (hw : ∀ i e, w.1 i = some e → i < w.2) {e : zE} : zlst g w ++ [(g.base + w.2, zvE g e)] = zlst g (znew w e) := by
  simp only [zlst, znew, List.range_succ, List.map_append, List.map_cons, List.map_nil]
  congr 1
  · apply List.map_congr_left
    intro i hi
    have := List.mem_range.mp hi
    rw [if_neg (by omega)]
/-- String constants and the JDK's statics that the class's code reads -/
def zLen : List Nat := [5, 6, 7, 5, 5]
def zByt : List (List Int32) := [[115, 116, 111, 114, 101], [99, 101, 108, 108, 97, 114], [115, 108, 105, 110, 103, 101, 114], [99, 108, 111, 117, 100], [119, 101, 101, 107, 115]]
def zSix : List Nat := [35, 48, 53, 58, 63]
def zStx : List String := ["store", "cellar", "slinger", "cloud", "weeks"]
/-- the calls by a nest mate's name: their words don't keep by themselves -/
def zNest : List (String × Nat × MethodName) := [("HailCellar$Reader", 115, yX7_within), ("HailCellar$Store", 85, yX7_isRings), ("HailCellar", 9, yX6_init)]
def zKK (g : zG) (U : State) (H : Heap) : Prop := va_K g.1 vwCl (ztys g) U ∧ vk_S 5 zLen zByt g.2.2.2.2.1 g.2.2.2.2.2 (zA g) U H ∧ (∀ i, i < 5 → vk_R "HailCellar$Reader" (zSix.getD i 0) (zStx.getD i "") (g.2.2.2.2.1 i) U) ∧
  va_Z "java/lang/String" "COMPACT_STRINGS" "Z" (.int 1) (zA g) U H ∧ va_Zq "jdk/internal/util/Preconditions" "SIOOBE_FORMATTER" "Ljava/util/function/BiFunction;" (zA g) U H ∧ ∀ q ∈ zNest, va_Nw (.methodLinkNest q.1 q.2.1 q.2.2 "HailCellar") U
theorem zKK.warm {g : zG} {u U : State} {H H1 : Heap} (hW : u.WarmedH U.vm) (hq : ∀ a : Nat, a < H.size → ¬ zA g a → H1[a]? = H[a]?) (h : zKK g u H) : zKK g U H1 :=
  ⟨va_K.moved hW.alike h.1, (h.2.1.moved hW.alike).kept hq, fun i hi => vk_R.warm hW (h.2.2.1 i hi), (h.2.2.2.1.moved hW.alike).kept hq, (h.2.2.2.2.1.moved hW.alike).kept hq, fun q hq2 => va_Nw.warmM hW (h.2.2.2.2.2 q hq2)⟩
theorem zKK.same {g : zG} {u U : State} {H : Heap} (hv : U.vm = u.vm) (h : zKK g u H) : zKK g U H := by
  have hA : u.vm.Alike U.vm := by rw [hv]; exact Vm.Alike.refl u.vm
  exact ⟨va_K.moved hA h.1, h.2.1.moved hA, fun i hi => vk_R.same hv (h.2.2.1 i hi), h.2.2.2.1.moved hA, h.2.2.2.2.1.moved hA, fun q hq2 => va_Nw.same rfl hv.symm (h.2.2.2.2.2 q hq2)⟩
/-! locals, by their places -/
def zget : List (Option Value) → Nat → Option Value
  | [], _ => none
  | v :: _, 0 => v
  | _ :: l, n + 1 => zget l n
def zset : List (Option Value) → Nat → Option Value → List (Option Value)
  | [], _, _ => []
  | _ :: l, 0, x => x :: l
  | v :: l, n + 1, x => v :: zset l n x
def zwide : Value → Bool
  | .long _ => true
  | .double _ => true
  | _ => false
theorem zwide_f {v : Value} (h : zwide v = false) : v.category = 1 := by cases v <;> first | rfl | cases h
theorem zwide_t {v : Value} (h : zwide v = true) : v.category = 2 := by cases v <;> first | rfl | cases h
/-- the place before isn't the first half of a wide value -/
def znl (lv : List (Option Value)) : Nat → Bool
  | 0 => true
  | n + 1 => match zget lv n with
    | none => true
    | some v => !zwide v
def zLH (ls : Array Slot) (n : Nat) (lv : List (Option Value)) : Prop := ls.size = n ∧ lv_wf ls ∧ lv.length = n ∧ ∀ i v, zget lv i = some v → ls[i]? = some (.val v)
theorem zset_len : ∀ (lv : List (Option Value)) (i : Nat) (x : Option Value), (zset lv i x).length = lv.length
  | [], _, _ => rfl
  | _ :: _, 0, _ => rfl
  | _ :: l, n + 1, x => by simp [zset, zset_len l n x]
theorem zget_set : ∀ (lv : List (Option Value)) (i j : Nat) (x : Option Value), zget (zset lv i x) j = if j = i ∧ i < lv.length then x else zget lv j
  | [], i, j, x => by simp [zset, zget]
  | v :: l, 0, 0, x => by simp [zset, zget]
  | v :: l, 0, j + 1, x => by simp [zset, zget]
  | v :: l, i + 1, 0, x => by simp [zset, zget]
  | v :: l, i + 1, j + 1, x => by simp [zset, zget, zget_set l i j x]
theorem zget_lt : ∀ {lv : List (Option Value)} {i : Nat} {v : Value}, zget lv i = some v → i < lv.length
  | [], _, _, h => by simp [zget] at h
  | _ :: _, 0, _, _ => by simp
  | _ :: l, n + 1, v, h => by simp [zget] at h; have := zget_lt h; simp; omega
/-- the list of the kit -/
def zpairs (lv : List (Option Value)) : List (Nat × Value) := (List.range lv.length).filterMap (fun i => (zget lv i).map (fun v => (i, v)))
theorem zpairs_mem {lv : List (Option Value)} {i : Nat} {v : Value} : (i, v) ∈ zpairs lv ↔ zget lv i = some v := by
  simp only [zpairs, List.mem_filterMap, List.mem_range, Option.map_eq_some_iff, Prod.mk.injEq]
  constructor
  · rintro ⟨a, -, b, h1, rfl, rfl⟩; exact h1
  · intro h; exact ⟨i, zget_lt h, v, h, rfl, rfl⟩
theorem zLH.has {ls : Array Slot} {n : Nat} {lv : List (Option Value)} (h : zLH ls n lv) : lv_has ls n (zpairs lv) := ⟨h.1, h.2.1, fun q hq => h.2.2.2 q.1 q.2 (zpairs_mem.mp hq)⟩
theorem zLH.at {ls : Array Slot} {n : Nat} {lv : List (Option Value)} (h : zLH ls n lv) {i : Nat} {v : Value} (hi : zget lv i = some v) : ls[i]? = some (.val v) := h.2.2.2 i v hi
theorem zLH.st1 {ls ls' : Array Slot} {n i : Nat} {lv lv' : List (Option Value)} {v : Value} (h : zLH ls n lv) (hi : i < lv.length) (hn : znl lv i = true) (he : zset lv i (some v) = lv') (h' : lv_has ls' n ((i, v) :: (zpairs lv).filter (fun q => !(q.1 == i) && !(q.1 + 1 == i && q.2.category == 2)))) : zLH ls' n lv' := by
  subst he
  refine ⟨h'.1, h'.2.1, by rw [zset_len]; exact h.2.2.1, fun j x hj => ?_⟩
  rw [zget_set] at hj
  by_cases hji : j = i
  · subst hji
    rw [if_pos ⟨rfl, hi⟩] at hj
    cases hj
    exact h'.2.2 (j, v) List.mem_cons_self
  · rw [if_neg (fun q => hji q.1)] at hj
    refine h'.2.2 (j, x) (List.mem_cons_of_mem _ (List.mem_filter.mpr ⟨zpairs_mem.mpr hj, ?_⟩))
    have hx : ¬ (j + 1 = i ∧ x.category = 2) := by
      rintro ⟨rfl, hc⟩
      simp only [znl, hj] at hn
      have := zwide_f (v := x) (by simpa using hn)
      omega
    simp only [Bool.and_eq_true, Bool.not_eq_true', beq_eq_false_iff_ne, ne_eq, Bool.and_eq_false_iff]
    refine ⟨hji, ?_⟩
    by_cases hj1 : j + 1 = i
    · exact Or.inr (fun hc => hx ⟨hj1, hc⟩)
    · exact Or.inl hj1
theorem zLH.st2 {ls ls' : Array Slot} {n i : Nat} {lv lv' : List (Option Value)} {v : Value} (h : zLH ls n lv) (hi : i + 1 < lv.length) (hn : znl lv i = true) (he : zset (zset lv i (some v)) (i + 1) none = lv') (h' : lv_has ls' n ((i, v) :: (zpairs lv).filter (fun q => !(q.1 == i) && (!(q.1 == i + 1) && !(q.1 + 1 == i && q.2.category == 2))))) : zLH ls' n lv' := by
  subst he
  refine ⟨h'.1, h'.2.1, by rw [zset_len, zset_len]; exact h.2.2.1, fun j x hj => ?_⟩
  rw [zget_set, zset_len] at hj
  by_cases hj1 : j = i + 1
  · subst hj1
    rw [if_pos ⟨rfl, hi⟩] at hj
    cases hj
  rw [if_neg (fun q => hj1 q.1), zget_set] at hj
  by_cases hji : j = i
  · subst hji
    rw [if_pos ⟨rfl, by omega⟩] at hj
    cases hj
    exact h'.2.2 (j, v) List.mem_cons_self
  · rw [if_neg (fun q => hji q.1)] at hj
    refine h'.2.2 (j, x) (List.mem_cons_of_mem _ (List.mem_filter.mpr ⟨zpairs_mem.mpr hj, ?_⟩))
    have hx : ¬ (j + 1 = i ∧ x.category = 2) := by
      rintro ⟨rfl, hc⟩
      simp only [znl, hj] at hn
      have := zwide_f (v := x) (by simpa using hn)
      omega
    simp only [Bool.and_eq_true, Bool.not_eq_true', beq_eq_false_iff_ne, ne_eq, Bool.and_eq_false_iff]
    refine ⟨hji, hj1, ?_⟩
    by_cases hj1 : j + 1 = i
    · exact Or.inr (fun hc => hx ⟨hj1, hc⟩)
    · exact Or.inl hj1
def zlv : List Value → List (Option Value)
  | [] => []
  | v :: vs => match zwide v with
    | true => some v :: none :: zlv vs
    | false => some v :: zlv vs
def zlv0 (vs : List Value) (n : Nat) : List (Option Value) := zlv vs ++ List.replicate (n - (zlv vs).length) none
theorem zget_app : ∀ (a b : List (Option Value)) (i : Nat), zget (a ++ b) i = if i < a.length then zget a i else zget b (i - a.length)
  | [], b, i => by simp
  | v :: a, b, 0 => by simp [zget]
  | v :: a, b, i + 1 => by
    have h := zget_app a b i
    simp only [List.cons_append, zget, List.length_cons, h]
    by_cases hi : i < a.length
    · rw [if_pos hi, if_pos (by omega)]
    · rw [if_neg hi, if_neg (by omega), show i + 1 - (a.length + 1) = i - a.length by omega]
theorem zget_rep : ∀ (n i : Nat), zget (List.replicate n none) i = none
  | 0, _ => rfl
  | n + 1, 0 => rfl
  | n + 1, i + 1 => by show zget (List.replicate n none) i = none; exact zget_rep n i
theorem zlv_mem : ∀ (vs : List Value) (k i : Nat) (v : Value), zget (zlv vs) i = some v → (k + i, v) ∈ lv_args k vs
  | [], _, _, _, h => by simp [zlv, zget] at h
  | u :: vs, k, i, v, h => by
    rw [lv_args]
    cases hu : zwide u with
    | true =>
      simp only [zlv, hu] at h
      rw [if_pos (zwide_t hu)]
      match i, h with
      | 0, h => simp [zget] at h; subst h; simp
      | 1, h => simp [zget] at h
      | i + 2, h =>
        have := zlv_mem vs (k + 2) i v (by simpa [zget] using h)
        rw [show k + (i + 2) = k + 2 + i by omega]
        exact List.mem_cons_of_mem _ this
    | false =>
      simp only [zlv, hu] at h
      rw [if_neg (by rw [zwide_f hu]; decide)]
      match i, h with
      | 0, h => simp [zget] at h; subst h; simp
      | i + 1, h =>
        have := zlv_mem vs (k + 1) i v (by simpa [zget] using h)
        rw [show k + (i + 1) = k + 1 + i by omega]
        exact List.mem_cons_of_mem _ this
theorem zlv_len : ∀ vs : List Value, (zlv vs).length = (lg_sl vs).length
  | [] => rfl
  | u :: vs => by
    have h := zlv_len vs
    cases hu : zwide u with
    | true =>
      have hc := zwide_t hu
      simp only [zlv, hu, lg_sl, List.flatMap_cons, List.length_append, List.length_cons] at h ⊢
      rw [h]
      simp [hc]; omega
    | false =>
      have hc := zwide_f hu
      simp only [zlv, hu, lg_sl, List.flatMap_cons, List.length_append, List.length_cons] at h ⊢
      rw [h]
      simp [hc]; omega
theorem zLH.entry {vs : List Value} {n : Nat} {lv : List (Option Value)} (h : zlv0 vs n = lv) (hn : (zlv vs).length ≤ n) : zLH ((lg_sl vs ++ List.replicate (n - (lg_sl vs).length) Slot.unset).toArray) n lv := by
  obtain ⟨h1, h2, h3⟩ := lv_entry vs (n := n) (by rw [← zlv_len]; exact hn)
  subst h
  refine ⟨h1, h2, by simp [zlv0]; omega, fun i v hi => ?_⟩
  rw [zlv0, zget_app] at hi
  by_cases hl : i < (zlv vs).length
  · rw [if_pos hl] at hi
    have := zlv_mem vs 0 i v hi
    rw [Nat.zero_add] at this
    exact h3 _ this
  · rw [if_neg hl, zget_rep] at hi
    cases hi
/-! the two judgements -/
def zQK (g : zG) (K : Option Value → zWd → Prop) : Array Value → State → Outcome → State → Prop := fun _ st o t => (∃ v w, o = .returned v ∧ K v w ∧ zHW g w t.heap) ∧ va_F (zA g) st t
def zPK (g : zG) (args : List Value) (w : zWd) : Array Value → State → Prop := va_Pc args (fun U => zHW g w U.heap ∧ zKK g U U.heap)
def zCall (g : zG) (d mc ms : Nat) (M : zMt) (args : List Value) (w : zWd) (K : Option Value → zWd → Prop) : Prop :=
  ∀ l : Launch, Met l M.1 (zws M) (zrm d mc ms) (zPK g args w) (zQK g K) mc ms (zA g)
def zCx (g : zG) (M : zMt) (p : Program) (s : State) (m : MethodId) (args : Array Value) (meth : Method) (c : Code) : Prop :=
  p.tables.exec = Jvm.exec ∧ c.code = M.2.1 ∧ meth.sig.returnType = M.2.2.2 ∧ c.maxLocals = M.2.2.1 ∧ s.vm.findClass M.1.cls = some m.cls ∧ (∀ w ∈ zWL, w.before args s = true) ∧ zKK g s s.heap ∧ g.base ≤ s.heap.size ∧ meth.locks = false ∧ (M.1.name = "<init>" → meth.name = "<init>")
def zRuns (g : zG) (d : Nat) (M : zMt) (rc rs pc : Nat) (lv : List (Option Value)) (st : List Value) (w : zWd) (K : Option Value → zWd → Prop) : Prop :=
  ∀ (l : Launch) (p : Program) (e : Env) (s : State) (m : MethodId) (args : Array Value) (below : List Frame) (meth : Method) (c : Code) (mc ms cells slots : Nat) (H : Heap) (locs : List Loc) (ls : Array Slot),
    zCx g M p s m args meth c → cells + rc ≤ mc → slots + rs ≤ ms → zHW g w H → va_S (zA g) s.heap H locs → zLH ls M.2.2.1 lv →
    W p l e (zrm d mc ms) s m args below meth c H locs cells slots (MQ below (zQK g K) args s mc ms (zA g)) (F0 m pc ls st)
theorem zenter {g : zG} {d mc ms : Nat} {M : zMt} {args : List Value} {w : zWd} {K : Option Value → zWd → Prop} (lv : List (Option Value)) (hp : plainName M.1.cls = true) (hlv : zlv0 args M.2.2.1 = lv) (hn : (zlv args).length ≤ M.2.2.1) (h : zRuns g d M mc ms 0 lv [] w K) : zCall g d mc ms M args w K := by
  intro l
  refine Met.ofW (cc := M.2.1) (maxL := M.2.2.1) (ret := M.2.2.2) hp rfl ?_
  intro p e s m args' below meth c s₁ B hml hv
  obtain ⟨rfl, hW, hKK⟩ := hv
  rw [lg_entry_eq]
  have hts := atoms_spec (ws := zws M) B.pre
  refine h l p e s m _ below meth c mc ms 0 0 s.heap [] _ ⟨B.exec, B.bytes, B.returns, hml, findClass_of_methodNamed B.named, fun w hw => hts w (List.mem_cons_of_mem _ hw), hKK, by rw [hW.2.1]; omega, B.notSynchronized, fun hi => ?_⟩ (by omega) (by omega) hW va_S.rf (zLH.entry hlv hn)
  rw [← hi]
  exact (name_of_methodNamed B.named B.method).1
theorem zRuns.mono {g : zG} {d : Nat} {M : zMt} {rc rs rc' rs' pc : Nat} {lv : List (Option Value)} {st : List Value} {w : zWd} {K : Option Value → zWd → Prop} (h1 : rc' ≤ rc) (h2 : rs' ≤ rs) (h : zRuns g d M rc' rs' pc lv st w K) : zRuns g d M rc rs pc lv st w K :=
  fun l p e s m args below meth c mc ms cells slots H locs ls hC hc hs hW hS hL => h l p e s m args below meth c mc ms cells slots H locs ls hC (by omega) (by omega) hW hS hL
