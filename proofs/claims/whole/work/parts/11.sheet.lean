/-! a Sheet: rows of numbers in one array -/
def zSame (w w' : zWd) (b len : Nat) : Prop := w'.2 = w.2 ∧ ∀ i, (i < b ∨ b + len ≤ i) → w'.1 i = w.1 i
theorem zSame.rf {w : zWd} {b len : Nat} : zSame w w b len := ⟨rfl, fun _ _ => rfl⟩
theorem zSame.tr {w1 w2 w3 : zWd} {b len : Nat} (h1 : zSame w1 w2 b len) (h2 : zSame w2 w3 b len) : zSame w1 w3 b len := ⟨h2.1.trans h1.1, fun i hi => (h2.2 i hi).trans (h1.2 i hi)⟩
theorem zSame.wide {w1 w2 : zWd} {b len b' len' : Nat} (h : zSame w1 w2 b len) (h1 : b' ≤ b) (h2 : b + len ≤ b' + len') : zSame w1 w2 b' len' := ⟨h.1, fun i hi => h.2 i (by omega)⟩
theorem zSame.up {w : zWd} {b len k : Nat} {e : zE} (h : b ≤ k ∧ k < b + len) : zSame w (zup w k e) b len := ⟨rfl, fun i hi => by simp only [zup]; rw [if_neg (by omega)]⟩
abbrev zSheet (g : zG) (w : zWd) (b n : Nat) (mo wi ro : Int) (f : Int → Int) : Prop := w.1 b = some (.inl (3, [zI mo, zI wi, zR g (b + 1), zI ro])) ∧ w.1 (b + 1) = some (.inr (false, n, f))
abbrev zShN (n : Nat) (mo wi ro : Int) : Prop := 0 ≤ ro ∧ ro ≤ mo ∧ 1 ≤ wi ∧ mo ≤ 10 ∧ wi ≤ 100 ∧ (n : Int) = mo * wi
theorem zShN_ix {n : Nat} {mo wi ro r c : Int} (h : zShN n mo wi ro) (hr : 0 ≤ r ∧ r < ro) (hc : 0 ≤ c ∧ c < wi) : 0 ≤ r * wi + c ∧ r * wi + c < n ∧ (n : Int) ≤ 1000 ∧ 0 ≤ r * wi := by
  obtain ⟨h1, h2, h3, h4, h5, h6⟩ := h
  have e1 : (r + 1) * wi ≤ mo * wi := Int.mul_le_mul_of_nonneg_right (by omega) (by omega)
  have e2 : 0 ≤ r * wi := Int.mul_nonneg hr.1 (by omega)
  have e3 : mo * wi ≤ 10 * 100 := Int.mul_le_mul h4 h5 (by omega) (by omega)
  rw [Int.add_mul, Int.one_mul] at e1
  omega
def zblank (f : Int → Int) (a l : Int) : Int → Int := fun j => if a ≤ j ∧ j < a + l then 0 else f j
theorem zblank_0 {f : Int → Int} {a : Int} : zblank f a 0 = f := by funext j; simp only [zblank]; rw [if_neg (by omega)]
theorem zblank_s {f : Int → Int} {a l : Int} (h : 0 ≤ l) : zfu (zblank f a l) (a + l) 0 = zblank f a (l + 1) := by
  funext j
  simp only [zfu, zblank]
  by_cases h1 : j = a + l
  · rw [if_pos h1, if_pos (by omega)]
  · rw [if_neg h1]
    by_cases h2 : a ≤ j ∧ j < a + l
    · rw [if_pos h2, if_pos (by omega)]
    · rw [if_neg h2, if_neg (by omega)]
def zrow5 (f : Int → Int) (a wi x0 x1 x2 x3 x4 : Int) : Int → Int := fun j => if a ≤ j ∧ j < a + wi then (if j = a then x0 else if j = a + 1 then x1 else if j = a + 2 then x2 else if j = a + 3 then x3 else if j = a + 4 then x4 else 0) else f j
def zmix (f : Int → Int) : Nat → Int → Int
  | 0, h => h
  | m + 1, h => 31 * zmix f m h + f (m : Int)
theorem zsh_up2 {g : zG} {w : zWd} {b n : Nat} {mo wi ro ro2 : Int} {f : Int → Int} (hS : zSheet g w b n mo wi ro f) : zSheet g (zup w b (.inl (3, [zI mo, zI wi, zR g (b + 1), zI ro2]))) b n mo wi ro2 f := ⟨by simp [zup], by simp only [zup]; rw [if_neg (by omega)]; exact hS.2⟩
theorem zSheet.keep {g : zG} {w w' : zWd} {b n b' len : Nat} {mo wi ro : Int} {f : Int → Int} (hS : zSheet g w b n mo wi ro f) (h : zSame w w' b' len) (ho : b + 2 ≤ b' ∨ b' + len ≤ b) : zSheet g w' b n mo wi ro f := ⟨by rw [h.2 b (by omega)]; exact hS.1, by rw [h.2 (b + 1) (by omega)]; exact hS.2⟩
section X4
variable {g : zG} {d : Nat} {w : zWd} {K : Option Value → zWd → Prop} {b n : Nat} {mo wi ro : Int} {f : Int → Int}
set_option maxRecDepth 100000 in
set_option maxHeartbeats 4000000 in
theorem c_X4_holds {r : Int} (hS : zSheet g w b n mo wi ro f) (hN : zShN n mo wi ro) (hr : zR32 r) (k : K (some (zI (zb (0 ≤ r ∧ r < ro)))) w) : zCall g d 0 0 mX4_holds [zR g b, zI r] w K := by
  obtain ⟨hS1, hS2⟩ := hS
  refine zenter [some _, some _] pn_X4 rfl (Nat.le_of_ble_eq_true rfl) ?_
  refine q_iload_n (pc := 0) dX4_holds_0 rfl ?_
  refine q_if_lt (pc := 1) (by omega) 16 dX4_holds_1 rfl (fun c1 => ?_) (fun c1 => ?_)
  · refine q_iconst (pc := 16) dX4_holds_16 ?_
    exact q_zreturn0 (pc := 17) (by omega) dX4_holds_17 rfl k
  refine q_iload_n (pc := 4) dX4_holds_4 rfl ?_
  refine q_aload_n (pc := 5) dX4_holds_5 rfl rfl ?_
  refine q_getfield (pc := 6) gf_X4_28 dX4_holds_6 (by assumption) rfl ?_
  refine q_icmp_ge (pc := 9) (by omega) (by omega) 16 dX4_holds_9 rfl (fun c9 => ?_) (fun c9 => ?_)
  · refine q_iconst (pc := 16) dX4_holds_16 ?_
    exact q_zreturn0 (pc := 17) (by omega) dX4_holds_17 rfl k
  refine q_iconst (pc := 12) dX4_holds_12 ?_
  refine q_goto (pc := 13) 17 dX4_holds_13 rfl ?_
  exact q_zreturn1 (pc := 17) (by omega) dX4_holds_17 rfl k
set_option maxRecDepth 100000 in
set_option maxHeartbeats 4000000 in
theorem c_X4_isFull (hS : zSheet g w b n mo wi ro f) (hN : zShN n mo wi ro) (k : K (some (zI (zb (mo ≤ ro)))) w) : zCall g d 0 0 mX4_isFull [zR g b] w K := by
  obtain ⟨hS1, hS2⟩ := hS
  refine zenter [some _] pn_X4 rfl (Nat.le_of_ble_eq_true rfl) ?_
  refine q_aload_n (pc := 0) dX4_isFull_0 rfl rfl ?_
  refine q_getfield (pc := 1) gf_X4_28 dX4_isFull_1 (by assumption) rfl ?_
  refine q_aload_n (pc := 4) dX4_isFull_4 rfl rfl ?_
  refine q_getfield (pc := 5) gf_X4_15 dX4_isFull_5 (by assumption) rfl ?_
  refine q_icmp_lt (pc := 8) (by omega) (by omega) 15 dX4_isFull_8 rfl (fun c8 => ?_) (fun c8 => ?_)
  · refine q_iconst (pc := 15) dX4_isFull_15 ?_
    exact q_zreturn0 (pc := 16) (by omega) dX4_isFull_16 rfl k
  refine q_iconst (pc := 11) dX4_isFull_11 ?_
  refine q_goto (pc := 12) 16 dX4_isFull_12 rfl ?_
  exact q_zreturn1 (pc := 16) (by omega) dX4_isFull_16 rfl k
set_option maxRecDepth 100000 in
set_option maxHeartbeats 4000000 in
theorem c_X4_placeOf {r c : Int} (hS : zSheet g w b n mo wi ro f) (hN : zShN n mo wi ro) (hr : zR32 r) (hc : zR32 c) (k : ∀ p, (p = -1 ∧ ¬ (0 ≤ r ∧ r < ro ∧ 0 ≤ c ∧ c < wi)) ∨ (p = r * wi + c ∧ 0 ≤ p ∧ p < n ∧ (n : Int) ≤ 1000 ∧ 0 ≤ r ∧ r < ro ∧ 0 ≤ c ∧ c < wi) → K (some (zI p)) w) : zCall g d 0 0 mX4_placeOf [zR g b, zI r, zI c] w K := by
  obtain ⟨hS1, hS2⟩ := hS
  refine zenter [some _, some _, some _] pn_X4 rfl (Nat.le_of_ble_eq_true rfl) ?_
  refine q_iload_n (pc := 0) dX4_placeOf_0 rfl ?_
  refine q_if_lt (pc := 1) (by omega) 35 dX4_placeOf_1 rfl (fun c1 => ?_) (fun c1 => ?_)
  · refine q_iconst (pc := 35) dX4_placeOf_35 ?_
    exact q_ireturn (pc := 36) dX4_placeOf_36 rfl (k _ (Or.inl ⟨rfl, by omega⟩))
  refine q_iload_n (pc := 4) dX4_placeOf_4 rfl ?_
  refine q_aload_n (pc := 5) dX4_placeOf_5 rfl rfl ?_
  refine q_getfield (pc := 6) gf_X4_28 dX4_placeOf_6 (by assumption) rfl ?_
  refine q_icmp_ge (pc := 9) (by omega) (by omega) 35 dX4_placeOf_9 rfl (fun c9 => ?_) (fun c9 => ?_)
  · refine q_iconst (pc := 35) dX4_placeOf_35 ?_
    exact q_ireturn (pc := 36) dX4_placeOf_36 rfl (k _ (Or.inl ⟨rfl, by omega⟩))
  refine q_iload_n (pc := 12) dX4_placeOf_12 rfl ?_
  refine q_if_lt (pc := 13) (by omega) 35 dX4_placeOf_13 rfl (fun c13 => ?_) (fun c13 => ?_)
  · refine q_iconst (pc := 35) dX4_placeOf_35 ?_
    exact q_ireturn (pc := 36) dX4_placeOf_36 rfl (k _ (Or.inl ⟨rfl, by omega⟩))
  refine q_iload_n (pc := 16) dX4_placeOf_16 rfl ?_
  refine q_aload_n (pc := 17) dX4_placeOf_17 rfl rfl ?_
  refine q_getfield (pc := 18) gf_X4_21 dX4_placeOf_18 (by assumption) rfl ?_
  refine q_icmp_ge (pc := 21) (by omega) (by omega) 35 dX4_placeOf_21 rfl (fun c21 => ?_) (fun c21 => ?_)
  · refine q_iconst (pc := 35) dX4_placeOf_35 ?_
    exact q_ireturn (pc := 36) dX4_placeOf_36 rfl (k _ (Or.inl ⟨rfl, by omega⟩))
  refine q_iload_n (pc := 24) dX4_placeOf_24 rfl ?_
  refine q_aload_n (pc := 25) dX4_placeOf_25 rfl rfl ?_
  refine q_getfield (pc := 26) gf_X4_21 dX4_placeOf_26 (by assumption) rfl ?_
  refine q_imul (pc := 29) dX4_placeOf_29 ?_
  refine q_iload_n (pc := 30) dX4_placeOf_30 rfl ?_
  refine q_iadd (pc := 31) dX4_placeOf_31 ?_
  refine q_goto (pc := 32) 36 dX4_placeOf_32 rfl ?_
  refine q_ireturn (pc := 36) dX4_placeOf_36 rfl ?_
  have h9 := zShN_ix hN (r := r) (c := c) (by omega) (by omega)
  exact k _ (Or.inr ⟨rfl, h9.1, h9.2.1, h9.2.2.1, by omega⟩)
set_option maxRecDepth 100000 in
set_option maxHeartbeats 4000000 in
theorem c_X4_get {r c : Int} (hd : 1 ≤ d) (hS : zSheet g w b n mo wi ro f) (hN : zShN n mo wi ro) (hr : 0 ≤ r ∧ r < ro) (hc : 0 ≤ c ∧ c < wi) (k : K (some (zI (f (r * wi + c)))) w) : zCall g d 0 0 mX4_get [zR g b, zI r, zI c] w K := by
  have hS0 := hS
  obtain ⟨hS1, hS2⟩ := hS
  have hn := zShN_ix hN hr hc
  refine zenter [some _, some _, some _, none] pn_X4 rfl (Nat.le_of_ble_eq_true rfl) ?_
  refine q_aload_n (pc := 0) dX4_get_0 rfl rfl ?_
  refine q_iload_n (pc := 1) dX4_get_1 rfl ?_
  refine q_iload_n (pc := 2) dX4_get_2 rfl ?_
  refine q_invokevirtual (pc := 3) (d' := d - 1) (mc' := 0) (ms' := 0) (As := [_, _]) (TX4, 4) cl_X4_31 dX4_get_3 rfl rfl (by assumption) rfl (by omega) rfl 0 0 (Nat.le_refl 0) (Nat.le_refl 0) ?_
  refine c_X4_placeOf hS0 hN (by omega) (by omega) (fun p hp => ?_)
  have hp : p = r * wi + c ∧ 0 ≤ p ∧ p < n := (by rcases hp with h | h <;> omega)
  refine q_istore_n (pc := 6) [some _, some _, some _, some _] dX4_get_6 rfl (Nat.le_of_ble_eq_true rfl) rfl ?_
  refine q_iload_n (pc := 7) dX4_get_7 rfl ?_
  refine q_if_lt (pc := 8) (by omega) 29 dX4_get_8 rfl (fun c8 => ?_) (fun c8 => ?_)
  · exfalso; omega
  refine q_iload_n (pc := 11) dX4_get_11 rfl ?_
  refine q_aload_n (pc := 12) dX4_get_12 rfl rfl ?_
  refine q_getfield (pc := 13) gf_X4_24 dX4_get_13 (by assumption) rfl ?_
  refine q_arraylength (pc := 16) dX4_get_16 (by assumption) ?_
  refine q_icmp_ge (pc := 17) (by omega) (by omega) 29 dX4_get_17 rfl (fun c17 => ?_) (fun c17 => ?_)
  · exfalso; omega
  refine q_aload_n (pc := 20) dX4_get_20 rfl rfl ?_
  refine q_getfield (pc := 21) gf_X4_24 dX4_get_21 (by assumption) rfl ?_
  refine q_iload_n (pc := 24) dX4_get_24 rfl ?_
  refine q_iaload (pc := 25) dX4_get_25 (by assumption) (by omega) ?_
  refine q_goto (pc := 26) 30 dX4_get_26 rfl ?_
  refine q_ireturn (pc := 30) dX4_get_30 rfl ?_
  rw [hp.1]; exact k
set_option maxRecDepth 100000 in
set_option maxHeartbeats 4000000 in
theorem c_X4_put {r c v : Int} (hd : 1 ≤ d) (hS : zSheet g w b n mo wi ro f) (hN : zShN n mo wi ro) (hr : zR32 r) (hc : zR32 c) (k : ∀ w', zSame w w' b 2 → zSheet g w' b n mo wi ro (if 0 ≤ r ∧ r < ro ∧ 0 ≤ c ∧ c < wi then zfu f (r * wi + c) v else f) → K none w') : zCall g d 0 0 mX4_put [zR g b, zI r, zI c, zI v] w K := by
  have hS0 := hS
  obtain ⟨hS1, hS2⟩ := hS
  refine zenter [some _, some _, some _, some _, none] pn_X4 rfl (Nat.le_of_ble_eq_true rfl) ?_
  refine q_aload_n (pc := 0) dX4_put_0 rfl rfl ?_
  refine q_iload_n (pc := 1) dX4_put_1 rfl ?_
  refine q_iload_n (pc := 2) dX4_put_2 rfl ?_
  refine q_invokevirtual (pc := 3) (d' := d - 1) (mc' := 0) (ms' := 0) (As := [_, _]) (TX4, 4) cl_X4_31 dX4_put_3 rfl rfl (by assumption) rfl (by omega) rfl 0 0 (Nat.le_refl 0) (Nat.le_refl 0) ?_
  refine c_X4_placeOf hS0 hN (by omega) (by omega) (fun p hp => ?_)
  refine q_istore (pc := 6) [some _, some _, some _, some _, some _] dX4_put_6 rfl (Nat.le_of_ble_eq_true rfl) rfl ?_
  refine q_iload (pc := 8) dX4_put_8 rfl ?_
  refine q_if_lt (pc := 10) (by omega) 31 dX4_put_10 rfl (fun c10 => ?_) (fun c10 => ?_)
  · refine q_return (pc := 31) dX4_put_31 rfl ?_
    rcases hp with h | h
    · first | exact k _ zSame.rf (by rw [if_neg (by omega)]; exact hS0) | (exfalso; omega)
    obtain ⟨h, h2⟩ := h
    subst h
    first | exact k _ (zSame.up (by omega)) (by rw [if_pos (by omega)]; exact ⟨by simp [zup, hS1], by simp [zup]⟩) | (exfalso; omega)
  refine q_iload (pc := 13) dX4_put_13 rfl ?_
  refine q_aload_n (pc := 15) dX4_put_15 rfl rfl ?_
  refine q_getfield (pc := 16) gf_X4_24 dX4_put_16 (by assumption) rfl ?_
  refine q_arraylength (pc := 19) dX4_put_19 (by assumption) ?_
  refine q_icmp_ge (pc := 20) (by omega) (by omega) 31 dX4_put_20 rfl (fun c20 => ?_) (fun c20 => ?_)
  · refine q_return (pc := 31) dX4_put_31 rfl ?_
    rcases hp with h | h
    · first | exact k _ zSame.rf (by rw [if_neg (by omega)]; exact hS0) | (exfalso; omega)
    obtain ⟨h, h2⟩ := h
    subst h
    first | exact k _ (zSame.up (by omega)) (by rw [if_pos (by omega)]; exact ⟨by simp [zup, hS1], by simp [zup]⟩) | (exfalso; omega)
  refine q_aload_n (pc := 23) dX4_put_23 rfl rfl ?_
  refine q_getfield (pc := 24) gf_X4_24 dX4_put_24 (by assumption) rfl ?_
  refine q_iload (pc := 27) dX4_put_27 rfl ?_
  refine q_iload_n (pc := 29) dX4_put_29 rfl ?_
  refine q_iastore (pc := 30) dX4_put_30 (by assumption) (by omega) ?_
  refine q_return (pc := 31) dX4_put_31 rfl ?_
  rcases hp with h | h
  · first | exact k _ zSame.rf (by rw [if_neg (by omega)]; exact hS0) | (exfalso; omega)
  obtain ⟨h, h2⟩ := h
  subst h
  first | exact k _ (zSame.up (by omega)) (by rw [if_pos (by omega)]; exact ⟨by simp [zup, hS1], by simp [zup]⟩) | (exfalso; omega)
set_option maxRecDepth 100000 in
set_option maxHeartbeats 4000000 in
theorem c_X4_put_in {r c v : Int} (hd : 1 ≤ d) (hS : zSheet g w b n mo wi ro f) (hN : zShN n mo wi ro) (hr : 0 ≤ r ∧ r < ro) (hc : 0 ≤ c ∧ c < wi) (k : ∀ w', zSame w w' b 2 → zSheet g w' b n mo wi ro (zfu f (r * wi + c) v) → K none w') : zCall g d 0 0 mX4_put [zR g b, zI r, zI c, zI v] w K :=
  c_X4_put hd hS hN (by omega) (by omega) (fun w' h1 h2 => k w' h1 (by rw [if_pos ⟨hr.1, hr.2, hc.1, hc.2⟩] at h2; exact h2))
set_option maxRecDepth 100000 in
set_option maxHeartbeats 4000000 in
theorem c_X4_openRow (hd : 2 ≤ d) (hS : zSheet g w b n mo wi ro f) (hN : zShN n mo wi ro) (hf : ro < mo) (k : ∀ w', zSame w w' b 2 → zSheet g w' b n mo wi (ro + 1) (zblank f (ro * wi) wi) → K (some (zI ro)) w') : zCall g d 0 0 mX4_openRow [zR g b] w K := by
  have hN2 : zShN n mo wi (ro + 1) := ⟨by omega, by omega, hN.2.2⟩
  have L : ∀ (m : Nat) (i : Int) (w' : zWd), 0 ≤ i → i + m = wi → zSame w w' b 2 → zSheet g w' b n mo wi (ro + 1) (zblank f (ro * wi) i) → zRuns g d mX4_openRow 0 0 21 [some (zR g b), some (zI i)] [] w' K := by
    intro m
    induction m with
    | zero =>
      intro i w' h0 hm hs hS2
      have hS0 := hS2
      obtain ⟨hS3, hS4⟩ := hS2
      refine q_iload_n (pc := 21) dX4_openRow_21 rfl ?_
      refine q_aload_n (pc := 22) dX4_openRow_22 rfl rfl ?_
      refine q_getfield (pc := 23) gf_X4_21 dX4_openRow_23 (by assumption) rfl ?_
      refine q_icmp_ge (pc := 26) (by omega) (by omega) 47 dX4_openRow_26 rfl (fun c26 => ?_) (fun c26 => ?_)
      · refine q_aload_n (pc := 47) dX4_openRow_47 rfl rfl ?_
        refine q_getfield (pc := 48) gf_X4_28 dX4_openRow_48 (by assumption) rfl ?_
        refine q_iconst (pc := 51) dX4_openRow_51 ?_
        refine q_isub (pc := 52) dX4_openRow_52 ?_
        refine q_ireturn (pc := 53) dX4_openRow_53 rfl ?_
        rw [show ro + 1 - 1 = ro by omega]
        exact k _ hs (by rw [show wi = i by omega] at hS0 ⊢; exact hS0)
      exfalso; omega
    | succ m ih =>
      intro i w' h0 hm hs hS2
      have hS0 := hS2
      obtain ⟨hS3, hS4⟩ := hS2
      refine q_iload_n (pc := 21) dX4_openRow_21 rfl ?_
      refine q_aload_n (pc := 22) dX4_openRow_22 rfl rfl ?_
      refine q_getfield (pc := 23) gf_X4_21 dX4_openRow_23 (by assumption) rfl ?_
      refine q_icmp_ge (pc := 26) (by omega) (by omega) 47 dX4_openRow_26 rfl (fun c26 => ?_) (fun c26 => ?_)
      · exfalso; omega
      refine q_aload_n (pc := 29) dX4_openRow_29 rfl rfl ?_
      refine q_aload_n (pc := 30) dX4_openRow_30 rfl rfl ?_
      refine q_getfield (pc := 31) gf_X4_28 dX4_openRow_31 (by assumption) rfl ?_
      refine q_iconst (pc := 34) dX4_openRow_34 ?_
      refine q_isub (pc := 35) dX4_openRow_35 ?_
      refine q_iload_n (pc := 36) dX4_openRow_36 rfl ?_
      refine q_iconst (pc := 37) dX4_openRow_37 ?_
      refine q_invokevirtual (pc := 38) (d' := d - 1) (mc' := 0) (ms' := 0) (As := [_, _, _]) (TX4, 4) cl_X4_38 dX4_openRow_38 rfl rfl (by assumption) rfl (by omega) rfl 0 0 (Nat.le_refl 0) (Nat.le_refl 0) ?_
      refine c_X4_put_in (by omega) hS0 hN2 (by omega) (by omega) (fun w2 hs2 hS5 => ?_)
      rw [show ro + 1 - 1 = ro by omega, zblank_s h0] at hS5
      refine q_iinc (pc := 41) [some _, some _] dX4_openRow_41 rfl rfl rfl ?_
      refine q_goto (pc := 44) 21 dX4_openRow_44 rfl ?_
      exact ih _ _ (by omega) (by omega) (hs.tr hs2) hS5
  have hS0 := hS
  obtain ⟨hS1, hS2⟩ := hS
  have hwi : (wi.toNat : Int) = wi := by omega
  refine zenter [some _, none] pn_X4 rfl (Nat.le_of_ble_eq_true rfl) ?_
  refine q_aload_n (pc := 0) dX4_openRow_0 rfl rfl ?_
  refine q_invokevirtual (pc := 1) (d' := d - 1) (mc' := 0) (ms' := 0) (As := []) (TX4, 4) cl_X4_34 dX4_openRow_1 rfl rfl (by assumption) rfl (by omega) rfl 0 0 (Nat.le_refl 0) (Nat.le_refl 0) ?_
  refine c_X4_isFull hS0 hN ?_
  refine q_ifb_eq (pc := 4) 9 dX4_openRow_4 rfl (fun c4 => ?_) (fun c4 => ?_)
  · refine q_aload_n (pc := 9) dX4_openRow_9 rfl rfl ?_
    refine q_dup (pc := 10) rfl dX4_openRow_10 ?_
    refine q_getfield (pc := 11) gf_X4_28 dX4_openRow_11 (by assumption) rfl ?_
    refine q_iconst (pc := 14) dX4_openRow_14 ?_
    refine q_iadd (pc := 15) dX4_openRow_15 ?_
    refine q_putfield2 (pc := 16) [_, _, _, _] pf_X4_28 dX4_openRow_16 (by assumption) rfl rfl (Nat.le_of_ble_eq_true rfl) rfl ?_
    refine q_iconst (pc := 19) dX4_openRow_19 ?_
    refine q_istore_n (pc := 20) [some _, some _] dX4_openRow_20 rfl (Nat.le_of_ble_eq_true rfl) rfl ?_
    exact L wi.toNat 0 _ (by omega) (by omega) (zSame.up (by omega)) (by rw [zblank_0]; exact zsh_up2 hS0)
  exfalso; omega
set_option maxRecDepth 100000 in
set_option maxHeartbeats 4000000 in
theorem c_X4_addRow {x0 x1 x2 x3 x4 : Int} (hd : 3 ≤ d) (hS : zSheet g w b n mo wi ro f) (hN : zShN n mo wi ro) (hf : ro < mo) (hwi : 4 ≤ wi ∧ wi ≤ 5) (k : ∀ w', zSame w w' b 2 → zSheet g w' b n mo wi (ro + 1) (zrow5 f (ro * wi) wi x0 x1 x2 x3 x4) → K (some (zI (ro + 1))) w') : zCall g d 0 0 mX4_addRow [zR g b, zI x0, zI x1, zI x2, zI x3, zI x4] w K := by
  have hN2 : zShN n mo wi (ro + 1) := ⟨by omega, by omega, hN.2.2⟩
  have hS0 := hS
  obtain ⟨hS1, hS2⟩ := hS
  refine zenter [some _, some _, some _, some _, some _, some _, none] pn_X4 rfl (Nat.le_of_ble_eq_true rfl) ?_
  refine q_aload_n (pc := 0) dX4_addRow_0 rfl rfl ?_
  refine q_invokevirtual (pc := 1) (d' := d - 1) (mc' := 0) (ms' := 0) (As := []) (TX4, 4) cl_X4_42 dX4_addRow_1 rfl rfl (by assumption) rfl (by omega) rfl 0 0 (Nat.le_refl 0) (Nat.le_refl 0) ?_
  refine c_X4_openRow (by omega) hS0 hN hf (fun w2 hs2 hT2 => ?_)
  have hU2 := hT2.1
  refine q_istore (pc := 4) [some _, some _, some _, some _, some _, some _, some _] dX4_addRow_4 rfl (Nat.le_of_ble_eq_true rfl) rfl ?_
  refine q_aload_n (pc := 6) dX4_addRow_6 rfl rfl ?_
  refine q_iload (pc := 7) dX4_addRow_7 rfl ?_
  refine q_iconst (pc := 9) dX4_addRow_9 ?_
  refine q_iload_n (pc := 10) dX4_addRow_10 rfl ?_
  refine q_invokevirtual (pc := 11) (d' := d - 1) (mc' := 0) (ms' := 0) (As := [_, _, _]) (TX4, 4) cl_X4_38 dX4_addRow_11 rfl rfl (by assumption) rfl (by omega) rfl 0 0 (Nat.le_refl 0) (Nat.le_refl 0) ?_
  refine c_X4_put_in (by omega) hT2 hN2 (by omega) (by omega) (fun w3 hs3 hT3 => ?_)
  have hU3 := hT3.1
  refine q_aload_n (pc := 14) dX4_addRow_14 rfl rfl ?_
  refine q_iload (pc := 15) dX4_addRow_15 rfl ?_
  refine q_iconst (pc := 17) dX4_addRow_17 ?_
  refine q_iload_n (pc := 18) dX4_addRow_18 rfl ?_
  refine q_invokevirtual (pc := 19) (d' := d - 1) (mc' := 0) (ms' := 0) (As := [_, _, _]) (TX4, 4) cl_X4_38 dX4_addRow_19 rfl rfl (by assumption) rfl (by omega) rfl 0 0 (Nat.le_refl 0) (Nat.le_refl 0) ?_
  refine c_X4_put_in (by omega) hT3 hN2 (by omega) (by omega) (fun w4 hs4 hT4 => ?_)
  have hU4 := hT4.1
  refine q_aload_n (pc := 22) dX4_addRow_22 rfl rfl ?_
  refine q_iload (pc := 23) dX4_addRow_23 rfl ?_
  refine q_iconst (pc := 25) dX4_addRow_25 ?_
  refine q_iload_n (pc := 26) dX4_addRow_26 rfl ?_
  refine q_invokevirtual (pc := 27) (d' := d - 1) (mc' := 0) (ms' := 0) (As := [_, _, _]) (TX4, 4) cl_X4_38 dX4_addRow_27 rfl rfl (by assumption) rfl (by omega) rfl 0 0 (Nat.le_refl 0) (Nat.le_refl 0) ?_
  refine c_X4_put_in (by omega) hT4 hN2 (by omega) (by omega) (fun w5 hs5 hT5 => ?_)
  have hU5 := hT5.1
  refine q_aload_n (pc := 30) dX4_addRow_30 rfl rfl ?_
  refine q_iload (pc := 31) dX4_addRow_31 rfl ?_
  refine q_iconst (pc := 33) dX4_addRow_33 ?_
  refine q_iload (pc := 34) dX4_addRow_34 rfl ?_
  refine q_invokevirtual (pc := 36) (d' := d - 1) (mc' := 0) (ms' := 0) (As := [_, _, _]) (TX4, 4) cl_X4_38 dX4_addRow_36 rfl rfl (by assumption) rfl (by omega) rfl 0 0 (Nat.le_refl 0) (Nat.le_refl 0) ?_
  refine c_X4_put_in (by omega) hT5 hN2 (by omega) (by omega) (fun w6 hs6 hT6 => ?_)
  have hU6 := hT6.1
  refine q_aload_n (pc := 39) dX4_addRow_39 rfl rfl ?_
  refine q_iload (pc := 40) dX4_addRow_40 rfl ?_
  refine q_iconst (pc := 42) dX4_addRow_42 ?_
  refine q_iload (pc := 43) dX4_addRow_43 rfl ?_
  refine q_invokevirtual (pc := 45) (d' := d - 1) (mc' := 0) (ms' := 0) (As := [_, _, _]) (TX4, 4) cl_X4_38 dX4_addRow_45 rfl rfl (by assumption) rfl (by omega) rfl 0 0 (Nat.le_refl 0) (Nat.le_refl 0) ?_
  refine c_X4_put (by omega) hT6 hN2 (by omega) (by omega) (fun w7 hs7 hT7 => ?_)
  have hU7 := hT7.1
  refine q_aload_n (pc := 48) dX4_addRow_48 rfl rfl ?_
  refine q_getfield (pc := 49) gf_X4_28 dX4_addRow_49 (by assumption) rfl ?_
  refine q_ireturn (pc := 52) dX4_addRow_52 rfl ?_
  refine k _ ((((((hs2.tr hs3).tr hs4).tr hs5).tr hs6).tr hs7)) ?_
  have e : zrow5 f (ro * wi) wi x0 x1 x2 x3 x4 = (if 0 ≤ ro ∧ ro < ro + 1 ∧ 0 ≤ (4 : Int) ∧ 4 < wi then zfu (zfu (zfu (zfu (zfu (zblank f (ro * wi) wi) (ro * wi + 0) x0) (ro * wi + 1) x1) (ro * wi + 2) x2) (ro * wi + 3) x3) (ro * wi + 4) x4 else zfu (zfu (zfu (zfu (zblank f (ro * wi) wi) (ro * wi + 0) x0) (ro * wi + 1) x1) (ro * wi + 2) x2) (ro * wi + 3) x3) := (by
    funext j
    have hw5 : wi = 4 ∨ wi = 5 := by omega
    have hro := hN.1
    generalize ro * wi = q
    have hj : j = q ∨ j = q + 1 ∨ j = q + 2 ∨ j = q + 3 ∨ j = q + 4 ∨ ¬ (q ≤ j ∧ j < q + 5) := by omega
    rcases hw5 with h5 | h5 <;> rcases hj with h6 | h6 | h6 | h6 | h6 | h6 <;> (first | rw [if_pos (by omega)] | rw [if_neg (by omega)]) <;> simp only [zrow5, zfu, zblank] <;> repeat first | rw [if_pos (by omega)] | rw [if_neg (by omega)])
  rw [e]
  exact hT7
set_option maxRecDepth 100000 in
set_option maxHeartbeats 4000000 in
theorem c_X4_empty (hS : zSheet g w b n mo wi ro f) (k : ∀ w', zSame w w' b 2 → zSheet g w' b n mo wi 0 f → K (some (zI ro)) w') : zCall g d 0 0 mX4_empty [zR g b] w K := by
  have hS0 := hS
  obtain ⟨hS1, hS2⟩ := hS
  refine zenter [some _, none] pn_X4 rfl (Nat.le_of_ble_eq_true rfl) ?_
  refine q_aload_n (pc := 0) dX4_empty_0 rfl rfl ?_
  refine q_getfield (pc := 1) gf_X4_28 dX4_empty_1 (by assumption) rfl ?_
  refine q_istore_n (pc := 4) [some _, some _] dX4_empty_4 rfl (Nat.le_of_ble_eq_true rfl) rfl ?_
  refine q_aload_n (pc := 5) dX4_empty_5 rfl rfl ?_
  refine q_iconst (pc := 6) dX4_empty_6 ?_
  refine q_putfield2 (pc := 7) [_, _, _, _] pf_X4_28 dX4_empty_7 (by assumption) rfl rfl (Nat.le_of_ble_eq_true rfl) rfl ?_
  refine q_iload_n (pc := 10) dX4_empty_10 rfl ?_
  refine q_ireturn (pc := 11) dX4_empty_11 rfl ?_
  exact k _ (zSame.up (by omega)) (zsh_up2 hS0)
theorem zShN_1 {n : Nat} {mo wi ro : Int} (h : zShN n mo wi ro) (hr : 1 ≤ ro) : wi ≤ n ∧ (n : Int) ≤ 1000 := by
  obtain ⟨h1, h2, h3, h4, h5, h6⟩ := h
  have e1 : 1 * wi ≤ mo * wi := Int.mul_le_mul_of_nonneg_right (by omega) (by omega)
  have e3 : mo * wi ≤ 10 * 100 := Int.mul_le_mul h4 h5 (by omega) (by omega)
  omega
set_option maxRecDepth 100000 in
set_option maxHeartbeats 4000000 in
theorem c_X4_dropFirst (hd : 1 ≤ d) (hS : zSheet g w b n mo wi ro f) (hN : zShN n mo wi ro) (hr : 1 ≤ ro) (k : ∀ w', zSame w w' b 2 → zSheet g w' b n mo wi (ro - 1) (zcpy f f wi 0 (n - wi)) → K none w') : zCall g d 0 0 mX4_dropFirst [zR g b] w K := by
  have hS0 := hS
  obtain ⟨hS1, hS2⟩ := hS
  have h1 := zShN_1 hN hr
  refine zenter [some _] pn_X4 rfl (Nat.le_of_ble_eq_true rfl) ?_
  refine q_aload_n (pc := 0) dX4_dropFirst_0 rfl rfl ?_
  refine q_getfield (pc := 1) gf_X4_28 dX4_dropFirst_1 (by assumption) rfl ?_
  refine q_if_le (pc := 4) (by omega) 55 dX4_dropFirst_4 rfl (fun c4 => ?_) (fun c4 => ?_)
  · first | (exfalso; omega; done) | exact q_return (pc := 55) dX4_dropFirst_55 rfl (k _ ((zSame.up (by omega)).tr (zSame.up (by omega))) (zsh_up2 (n := n) (ro := ro) ⟨hS3, by simp [zup]⟩))
  refine q_aload_n (pc := 7) dX4_dropFirst_7 rfl rfl ?_
  refine q_getfield (pc := 8) gf_X4_21 dX4_dropFirst_8 (by assumption) rfl ?_
  refine q_aload_n (pc := 11) dX4_dropFirst_11 rfl rfl ?_
  refine q_getfield (pc := 12) gf_X4_24 dX4_dropFirst_12 (by assumption) rfl ?_
  refine q_arraylength (pc := 15) dX4_dropFirst_15 (by assumption) ?_
  refine q_icmp_gt (pc := 16) (by omega) (by omega) 55 dX4_dropFirst_16 rfl (fun c16 => ?_) (fun c16 => ?_)
  · first | (exfalso; omega; done) | exact q_return (pc := 55) dX4_dropFirst_55 rfl (k _ ((zSame.up (by omega)).tr (zSame.up (by omega))) (zsh_up2 (n := n) (ro := ro) ⟨hS3, by simp [zup]⟩))
  refine q_aload_n (pc := 19) dX4_dropFirst_19 rfl rfl ?_
  refine q_getfield (pc := 20) gf_X4_24 dX4_dropFirst_20 (by assumption) rfl ?_
  refine q_aload_n (pc := 23) dX4_dropFirst_23 rfl rfl ?_
  refine q_getfield (pc := 24) gf_X4_21 dX4_dropFirst_24 (by assumption) rfl ?_
  refine q_aload_n (pc := 27) dX4_dropFirst_27 rfl rfl ?_
  refine q_getfield (pc := 28) gf_X4_24 dX4_dropFirst_28 (by assumption) rfl ?_
  refine q_iconst (pc := 31) dX4_dropFirst_31 ?_
  refine q_aload_n (pc := 32) dX4_dropFirst_32 rfl rfl ?_
  refine q_getfield (pc := 33) gf_X4_24 dX4_dropFirst_33 (by assumption) rfl ?_
  refine q_arraylength (pc := 36) dX4_dropFirst_36 (by assumption) ?_
  refine q_aload_n (pc := 37) dX4_dropFirst_37 rfl rfl ?_
  refine q_getfield (pc := 38) gf_X4_21 dX4_dropFirst_38 (by assumption) rfl ?_
  refine q_isub (pc := 41) dX4_dropFirst_41 ?_
  refine q_arraycopy (pc := 42) tw_3_14 dX4_dropFirst_42 (by assumption) (by assumption) (by omega) (by omega) (by omega) (by omega) rfl ?_
  have hS3 : (zup w (b + 1) (.inr (false, n, zcpy f f wi 0 (n - wi)))).1 b = some (.inl (3, [zI mo, zI wi, zR g (b + 1), zI ro])) := by simp [zup, hS1]
  refine q_aload_n (pc := 45) dX4_dropFirst_45 rfl rfl ?_
  refine q_dup (pc := 46) rfl dX4_dropFirst_46 ?_
  refine q_getfield (pc := 47) gf_X4_28 dX4_dropFirst_47 (by assumption) rfl ?_
  refine q_iconst (pc := 50) dX4_dropFirst_50 ?_
  refine q_isub (pc := 51) dX4_dropFirst_51 ?_
  refine q_putfield2 (pc := 52) [_, _, _, _] pf_X4_28 dX4_dropFirst_52 (by assumption) rfl rfl (Nat.le_of_ble_eq_true rfl) rfl ?_
  first | (exfalso; omega; done) | exact q_return (pc := 55) dX4_dropFirst_55 rfl (k _ ((zSame.up (by omega)).tr (zSame.up (by omega))) (zsh_up2 (n := n) (ro := ro) ⟨hS3, by simp [zup]⟩))
set_option maxRecDepth 100000 in
set_option maxHeartbeats 4000000 in
theorem c_X4_putSheet {r c mo2 wi2 ro2 : Int} {b2 n2 : Nat} {f2 : Int → Int} (hd : 1 ≤ d) (hS : zSheet g w b n mo wi ro f) (hN : zShN n mo wi ro) (hr : 0 ≤ r ∧ r < ro) (hc : 0 ≤ c ∧ c + n2 ≤ wi ∧ 1 ≤ n2) (hT : zSheet g w b2 n2 mo2 wi2 ro2 f2) (k : ∀ w', zSame w w' b 2 → zSheet g w' b n mo wi ro (zcpy f2 f 0 (r * wi + c) n2) → K none w') : zCall g d 0 0 mX4_putSheet [zR g b, zI r, zI c, zR g b2] w K := by
  have hS0 := hS
  obtain ⟨hS1, hS2⟩ := hS
  obtain ⟨hT1, hT2⟩ := hT
  have hn := zShN_ix hN hr (c := c) (by omega)
  have hn2 := zShN_ix hN hr (c := c + n2 - 1) (by omega)
  have hw : wi ≤ 100 := hN.2.2.2.2.1
  refine zenter [some _, some _, some _, some _, none] pn_X4 rfl (Nat.le_of_ble_eq_true rfl) ?_
  refine q_aload_n (pc := 0) dX4_putSheet_0 rfl rfl ?_
  refine q_iload_n (pc := 1) dX4_putSheet_1 rfl ?_
  refine q_iload_n (pc := 2) dX4_putSheet_2 rfl ?_
  refine q_invokevirtual (pc := 3) (d' := d - 1) (mc' := 0) (ms' := 0) (As := [_, _]) (TX4, 4) cl_X4_31 dX4_putSheet_3 rfl rfl (by assumption) rfl (by omega) rfl 0 0 (Nat.le_refl 0) (Nat.le_refl 0) ?_
  refine c_X4_placeOf hS0 hN (by omega) (by omega) (fun p hp => ?_)
  have hp2 : p = r * wi + c := (by rcases hp with h | h <;> omega)
  refine q_istore (pc := 6) [some _, some _, some _, some _, some _] dX4_putSheet_6 rfl (Nat.le_of_ble_eq_true rfl) rfl ?_
  refine q_iload (pc := 8) dX4_putSheet_8 rfl ?_
  refine q_if_lt (pc := 10) (by omega) 66 dX4_putSheet_10 rfl (fun c10 => ?_) (fun c10 => ?_)
  · first | (exfalso; omega; done) | (rw [hp2]; exact q_return (pc := 66) dX4_putSheet_66 rfl (k _ (zSame.up (by omega)) ⟨by simp [zup, hS1], by simp [zup]⟩))
  refine q_aload_n (pc := 13) dX4_putSheet_13 rfl rfl ?_
  refine q_ifnull (pc := 14) dX4_putSheet_14 ?_
  refine q_aload_n (pc := 17) dX4_putSheet_17 rfl rfl ?_
  refine q_getfield (pc := 18) gf_X4_24 dX4_putSheet_18 (by assumption) rfl ?_
  refine q_arraylength (pc := 21) dX4_putSheet_21 (by assumption) ?_
  refine q_aload_n (pc := 22) dX4_putSheet_22 rfl rfl ?_
  refine q_getfield (pc := 23) gf_X4_21 dX4_putSheet_23 (by assumption) rfl ?_
  refine q_iload_n (pc := 26) dX4_putSheet_26 rfl ?_
  refine q_isub (pc := 27) dX4_putSheet_27 ?_
  refine q_icmp_gt (pc := 28) (by omega) (by omega) 66 dX4_putSheet_28 rfl (fun c28 => ?_) (fun c28 => ?_)
  · first | (exfalso; omega; done) | (rw [hp2]; exact q_return (pc := 66) dX4_putSheet_66 rfl (k _ (zSame.up (by omega)) ⟨by simp [zup, hS1], by simp [zup]⟩))
  refine q_aload_n (pc := 31) dX4_putSheet_31 rfl rfl ?_
  refine q_getfield (pc := 32) gf_X4_24 dX4_putSheet_32 (by assumption) rfl ?_
  refine q_arraylength (pc := 35) dX4_putSheet_35 (by assumption) ?_
  refine q_aload_n (pc := 36) dX4_putSheet_36 rfl rfl ?_
  refine q_getfield (pc := 37) gf_X4_24 dX4_putSheet_37 (by assumption) rfl ?_
  refine q_arraylength (pc := 40) dX4_putSheet_40 (by assumption) ?_
  refine q_iload (pc := 41) dX4_putSheet_41 rfl ?_
  refine q_isub (pc := 43) dX4_putSheet_43 ?_
  refine q_icmp_gt (pc := 44) (by omega) (by omega) 66 dX4_putSheet_44 rfl (fun c44 => ?_) (fun c44 => ?_)
  · first | (exfalso; omega; done) | (rw [hp2]; exact q_return (pc := 66) dX4_putSheet_66 rfl (k _ (zSame.up (by omega)) ⟨by simp [zup, hS1], by simp [zup]⟩))
  refine q_aload_n (pc := 47) dX4_putSheet_47 rfl rfl ?_
  refine q_getfield (pc := 48) gf_X4_24 dX4_putSheet_48 (by assumption) rfl ?_
  refine q_iconst (pc := 51) dX4_putSheet_51 ?_
  refine q_aload_n (pc := 52) dX4_putSheet_52 rfl rfl ?_
  refine q_getfield (pc := 53) gf_X4_24 dX4_putSheet_53 (by assumption) rfl ?_
  refine q_iload (pc := 56) dX4_putSheet_56 rfl ?_
  refine q_aload_n (pc := 58) dX4_putSheet_58 rfl rfl ?_
  refine q_getfield (pc := 59) gf_X4_24 dX4_putSheet_59 (by assumption) rfl ?_
  refine q_arraylength (pc := 62) dX4_putSheet_62 (by assumption) ?_
  refine q_arraycopy (pc := 63) tw_3_14 dX4_putSheet_63 (by assumption) (by assumption) (by omega) (by omega) (by omega) (by omega) rfl ?_
  first | (exfalso; omega; done) | (rw [hp2]; exact q_return (pc := 66) dX4_putSheet_66 rfl (k _ (zSame.up (by omega)) ⟨by simp [zup, hS1], by simp [zup]⟩))
set_option maxRecDepth 100000 in
set_option maxHeartbeats 4000000 in
theorem c_X4_getSheet {r c mo2 wi2 ro2 : Int} {b2 n2 : Nat} {f2 : Int → Int} (hd : 1 ≤ d) (hS : zSheet g w b n mo wi ro f) (hN : zShN n mo wi ro) (hr : 0 ≤ r ∧ r < ro) (hc : 0 ≤ c ∧ c + n2 ≤ wi ∧ 1 ≤ n2) (hT : zSheet g w b2 n2 mo2 wi2 ro2 f2) (k : ∀ w', zSame w w' b2 2 → zSheet g w' b2 n2 mo2 wi2 ro2 (zcpy f f2 (r * wi + c) 0 n2) → K none w') : zCall g d 0 0 mX4_getSheet [zR g b, zI r, zI c, zR g b2] w K := by
  have hS0 := hS
  obtain ⟨hS1, hS2⟩ := hS
  obtain ⟨hT1, hT2⟩ := hT
  have hn := zShN_ix hN hr (c := c) (by omega)
  have hn2 := zShN_ix hN hr (c := c + n2 - 1) (by omega)
  have hw : wi ≤ 100 := hN.2.2.2.2.1
  refine zenter [some _, some _, some _, some _, none] pn_X4 rfl (Nat.le_of_ble_eq_true rfl) ?_
  refine q_aload_n (pc := 0) dX4_getSheet_0 rfl rfl ?_
  refine q_iload_n (pc := 1) dX4_getSheet_1 rfl ?_
  refine q_iload_n (pc := 2) dX4_getSheet_2 rfl ?_
  refine q_invokevirtual (pc := 3) (d' := d - 1) (mc' := 0) (ms' := 0) (As := [_, _]) (TX4, 4) cl_X4_31 dX4_getSheet_3 rfl rfl (by assumption) rfl (by omega) rfl 0 0 (Nat.le_refl 0) (Nat.le_refl 0) ?_
  refine c_X4_placeOf hS0 hN (by omega) (by omega) (fun p hp => ?_)
  have hp2 : p = r * wi + c := (by rcases hp with h | h <;> omega)
  refine q_istore (pc := 6) [some _, some _, some _, some _, some _] dX4_getSheet_6 rfl (Nat.le_of_ble_eq_true rfl) rfl ?_
  refine q_iload (pc := 8) dX4_getSheet_8 rfl ?_
  refine q_if_lt (pc := 10) (by omega) 66 dX4_getSheet_10 rfl (fun c10 => ?_) (fun c10 => ?_)
  · first | (exfalso; omega; done) | (rw [hp2]; exact q_return (pc := 66) dX4_getSheet_66 rfl (k _ (zSame.up (by omega)) ⟨by simp [zup, hT1], by simp [zup]⟩))
  refine q_aload_n (pc := 13) dX4_getSheet_13 rfl rfl ?_
  refine q_ifnull (pc := 14) dX4_getSheet_14 ?_
  refine q_aload_n (pc := 17) dX4_getSheet_17 rfl rfl ?_
  refine q_getfield (pc := 18) gf_X4_24 dX4_getSheet_18 (by assumption) rfl ?_
  refine q_arraylength (pc := 21) dX4_getSheet_21 (by assumption) ?_
  refine q_aload_n (pc := 22) dX4_getSheet_22 rfl rfl ?_
  refine q_getfield (pc := 23) gf_X4_21 dX4_getSheet_23 (by assumption) rfl ?_
  refine q_iload_n (pc := 26) dX4_getSheet_26 rfl ?_
  refine q_isub (pc := 27) dX4_getSheet_27 ?_
  refine q_icmp_gt (pc := 28) (by omega) (by omega) 66 dX4_getSheet_28 rfl (fun c28 => ?_) (fun c28 => ?_)
  · first | (exfalso; omega; done) | (rw [hp2]; exact q_return (pc := 66) dX4_getSheet_66 rfl (k _ (zSame.up (by omega)) ⟨by simp [zup, hT1], by simp [zup]⟩))
  refine q_aload_n (pc := 31) dX4_getSheet_31 rfl rfl ?_
  refine q_getfield (pc := 32) gf_X4_24 dX4_getSheet_32 (by assumption) rfl ?_
  refine q_arraylength (pc := 35) dX4_getSheet_35 (by assumption) ?_
  refine q_aload_n (pc := 36) dX4_getSheet_36 rfl rfl ?_
  refine q_getfield (pc := 37) gf_X4_24 dX4_getSheet_37 (by assumption) rfl ?_
  refine q_arraylength (pc := 40) dX4_getSheet_40 (by assumption) ?_
  refine q_iload (pc := 41) dX4_getSheet_41 rfl ?_
  refine q_isub (pc := 43) dX4_getSheet_43 ?_
  refine q_icmp_gt (pc := 44) (by omega) (by omega) 66 dX4_getSheet_44 rfl (fun c44 => ?_) (fun c44 => ?_)
  · first | (exfalso; omega; done) | (rw [hp2]; exact q_return (pc := 66) dX4_getSheet_66 rfl (k _ (zSame.up (by omega)) ⟨by simp [zup, hT1], by simp [zup]⟩))
  refine q_aload_n (pc := 47) dX4_getSheet_47 rfl rfl ?_
  refine q_getfield (pc := 48) gf_X4_24 dX4_getSheet_48 (by assumption) rfl ?_
  refine q_iload (pc := 51) dX4_getSheet_51 rfl ?_
  refine q_aload_n (pc := 53) dX4_getSheet_53 rfl rfl ?_
  refine q_getfield (pc := 54) gf_X4_24 dX4_getSheet_54 (by assumption) rfl ?_
  refine q_iconst (pc := 57) dX4_getSheet_57 ?_
  refine q_aload_n (pc := 58) dX4_getSheet_58 rfl rfl ?_
  refine q_getfield (pc := 59) gf_X4_24 dX4_getSheet_59 (by assumption) rfl ?_
  refine q_arraylength (pc := 62) dX4_getSheet_62 (by assumption) ?_
  refine q_arraycopy (pc := 63) tw_3_14 dX4_getSheet_63 (by assumption) (by assumption) (by omega) (by omega) (by omega) (by omega) rfl ?_
  first | (exfalso; omega; done) | (rw [hp2]; exact q_return (pc := 66) dX4_getSheet_66 rfl (k _ (zSame.up (by omega)) ⟨by simp [zup, hT1], by simp [zup]⟩))
set_option maxRecDepth 100000 in
set_option maxHeartbeats 4000000 in
theorem c_X4_copyFrom {wi2 ro2 : Int} {b2 : Nat} {f2 : Int → Int} (hd : 1 ≤ d) (hS : zSheet g w b n mo wi ro f) (hN : 0 ≤ mo ∧ mo ≤ 10 ∧ n ≤ 1000) (hT : zSheet g w b2 n mo wi2 ro2 f2) (hb : b2 ≠ b ∧ b2 ≠ b + 1 ∧ b2 + 1 ≠ b) (k : ∀ w', zSame w w' b 2 → zSheet g w' b n mo wi ro2 (zcpy f2 f 0 0 n) → K none w') : zCall g d 0 0 mX4_copyFrom [zR g b, zR g b2] w K := by
  have hS0 := hS
  obtain ⟨hS1, hS2⟩ := hS
  obtain ⟨hT1, hT2⟩ := hT
  refine zenter [some _, some _] pn_X4 rfl (Nat.le_of_ble_eq_true rfl) ?_
  refine q_aload_n (pc := 0) dX4_copyFrom_0 rfl rfl ?_
  refine q_ifnull (pc := 1) dX4_copyFrom_1 ?_
  refine q_aload_n (pc := 4) dX4_copyFrom_4 rfl rfl ?_
  refine q_getfield (pc := 5) gf_X4_15 dX4_copyFrom_5 (by assumption) rfl ?_
  refine q_aload_n (pc := 8) dX4_copyFrom_8 rfl rfl ?_
  refine q_getfield (pc := 9) gf_X4_15 dX4_copyFrom_9 (by assumption) rfl ?_
  refine q_icmp_ne (pc := 12) (by omega) (by omega) 54 dX4_copyFrom_12 rfl (fun c12 => ?_) (fun c12 => ?_)
  · first | (exfalso; omega; done) | exact q_return (pc := 54) dX4_copyFrom_54 rfl (k _ ((zSame.up (by omega)).tr (zSame.up (by omega))) (zsh_up2 (n := n) (ro := ro) ⟨hS3, by simp [zup]⟩))
  refine q_aload_n (pc := 15) dX4_copyFrom_15 rfl rfl ?_
  refine q_getfield (pc := 16) gf_X4_24 dX4_copyFrom_16 (by assumption) rfl ?_
  refine q_arraylength (pc := 19) dX4_copyFrom_19 (by assumption) ?_
  refine q_aload_n (pc := 20) dX4_copyFrom_20 rfl rfl ?_
  refine q_getfield (pc := 21) gf_X4_24 dX4_copyFrom_21 (by assumption) rfl ?_
  refine q_arraylength (pc := 24) dX4_copyFrom_24 (by assumption) ?_
  refine q_icmp_ne (pc := 25) (by omega) (by omega) 54 dX4_copyFrom_25 rfl (fun c25 => ?_) (fun c25 => ?_)
  · first | (exfalso; omega; done) | exact q_return (pc := 54) dX4_copyFrom_54 rfl (k _ ((zSame.up (by omega)).tr (zSame.up (by omega))) (zsh_up2 (n := n) (ro := ro) ⟨hS3, by simp [zup]⟩))
  refine q_aload_n (pc := 28) dX4_copyFrom_28 rfl rfl ?_
  refine q_getfield (pc := 29) gf_X4_24 dX4_copyFrom_29 (by assumption) rfl ?_
  refine q_iconst (pc := 32) dX4_copyFrom_32 ?_
  refine q_aload_n (pc := 33) dX4_copyFrom_33 rfl rfl ?_
  refine q_getfield (pc := 34) gf_X4_24 dX4_copyFrom_34 (by assumption) rfl ?_
  refine q_iconst (pc := 37) dX4_copyFrom_37 ?_
  refine q_aload_n (pc := 38) dX4_copyFrom_38 rfl rfl ?_
  refine q_getfield (pc := 39) gf_X4_24 dX4_copyFrom_39 (by assumption) rfl ?_
  refine q_arraylength (pc := 42) dX4_copyFrom_42 (by assumption) ?_
  refine q_arraycopy (pc := 43) tw_3_14 dX4_copyFrom_43 (by assumption) (by assumption) (by omega) (by omega) (by omega) (by omega) rfl ?_
  have hS3 : (zup w (b + 1) (.inr (false, n, zcpy f2 f 0 0 n))).1 b = some (.inl (3, [zI mo, zI wi, zR g (b + 1), zI ro])) := by simp [zup, hS1]
  have hS4 : (zup w (b + 1) (.inr (false, n, zcpy f2 f 0 0 n))).1 b2 = some (.inl (3, [zI mo, zI wi2, zR g (b2 + 1), zI ro2])) := by simp only [zup]; rw [if_neg (by omega)]; exact hT1
  refine q_aload_n (pc := 46) dX4_copyFrom_46 rfl rfl ?_
  refine q_aload_n (pc := 47) dX4_copyFrom_47 rfl rfl ?_
  refine q_getfield (pc := 48) gf_X4_28 dX4_copyFrom_48 (by assumption) rfl ?_
  refine q_putfield2 (pc := 51) [_, _, _, _] pf_X4_28 dX4_copyFrom_51 (by assumption) rfl rfl (Nat.le_of_ble_eq_true rfl) rfl ?_
  first | (exfalso; omega; done) | exact q_return (pc := 54) dX4_copyFrom_54 rfl (k _ ((zSame.up (by omega)).tr (zSame.up (by omega))) (zsh_up2 (n := n) (ro := ro) ⟨hS3, by simp [zup]⟩))
set_option maxRecDepth 100000 in
set_option maxHeartbeats 4000000 in
theorem c_X4_mixInto {h : Int} (hS : zSheet g w b n mo wi ro f) (hN : zShN n mo wi ro) (hf : ∀ j, 0 ≤ j → j < ro * wi → zR32 (f j)) (k : K (some (zJ (zmix f (ro * wi).toNat h))) w) : zCall g d 0 0 mX4_mixInto [zR g b, zJ h] w K := by
  have hS0 := hS
  obtain ⟨hS1, hS2⟩ := hS
  have hq : 0 ≤ ro * wi ∧ ro * wi ≤ n ∧ (n : Int) ≤ 1000 := by
    obtain ⟨h1, h2, h3, h4, h5, h6⟩ := hN
    have e1 : ro * wi ≤ mo * wi := Int.mul_le_mul_of_nonneg_right h2 (by omega)
    have e2 : 0 ≤ ro * wi := Int.mul_nonneg h1 (by omega)
    have e3 : mo * wi ≤ 10 * 100 := Int.mul_le_mul h4 h5 (by omega) (by omega)
    omega
  generalize hqe : ro * wi = q at *
  have L : ∀ (m i : Nat), i + m = q.toNat → zRuns g d mX4_mixInto 0 0 5 [some (zR g b), some (zJ h), none, some (zJ (zmix f i h)), none, some (zI (i : Int))] [] w K := by
    intro m
    induction m with
    | zero =>
      intro i hi
      refine q_iload (pc := 5) dX4_mixInto_5 rfl ?_
      refine q_aload_n (pc := 7) dX4_mixInto_7 rfl rfl ?_
      refine q_getfield (pc := 8) gf_X4_28 dX4_mixInto_8 (by assumption) rfl ?_
      refine q_aload_n (pc := 11) dX4_mixInto_11 rfl rfl ?_
      refine q_getfield (pc := 12) gf_X4_21 dX4_mixInto_12 (by assumption) rfl ?_
      refine q_imul (pc := 15) dX4_mixInto_15 ?_
      rw [hqe]
      refine q_icmp_ge (pc := 16) (by omega) (by omega) 50 dX4_mixInto_16 rfl (fun c16 => ?_) (fun c16 => ?_)
      · refine q_lload_n (pc := 50) dX4_mixInto_50 rfl ?_
        refine q_lreturn (pc := 51) dX4_mixInto_51 rfl ?_
        rw [show q.toNat = i by omega] at k; exact k
      exfalso; omega
    | succ m ih =>
      intro i hi
      have hfi := hf i (by omega) (by omega)
      refine q_iload (pc := 5) dX4_mixInto_5 rfl ?_
      refine q_aload_n (pc := 7) dX4_mixInto_7 rfl rfl ?_
      refine q_getfield (pc := 8) gf_X4_28 dX4_mixInto_8 (by assumption) rfl ?_
      refine q_aload_n (pc := 11) dX4_mixInto_11 rfl rfl ?_
      refine q_getfield (pc := 12) gf_X4_21 dX4_mixInto_12 (by assumption) rfl ?_
      refine q_imul (pc := 15) dX4_mixInto_15 ?_
      rw [hqe]
      refine q_icmp_ge (pc := 16) (by omega) (by omega) 50 dX4_mixInto_16 rfl (fun c16 => ?_) (fun c16 => ?_)
      · exfalso; omega
      refine q_iload (pc := 19) dX4_mixInto_19 rfl ?_
      refine q_aload_n (pc := 21) dX4_mixInto_21 rfl rfl ?_
      refine q_getfield (pc := 22) gf_X4_24 dX4_mixInto_22 (by assumption) rfl ?_
      refine q_arraylength (pc := 25) dX4_mixInto_25 (by assumption) ?_
      refine q_icmp_ge (pc := 26) (by omega) (by omega) 50 dX4_mixInto_26 rfl (fun c26 => ?_) (fun c26 => ?_)
      · exfalso; omega
      refine q_ldc2_w (pc := 29) tw_4_228 dX4_mixInto_29 ?_
      refine q_lload_n (pc := 32) dX4_mixInto_32 rfl ?_
      refine q_lmul (pc := 33) dX4_mixInto_33 ?_
      refine q_aload_n (pc := 34) dX4_mixInto_34 rfl rfl ?_
      refine q_getfield (pc := 35) gf_X4_24 dX4_mixInto_35 (by assumption) rfl ?_
      refine q_iload (pc := 38) dX4_mixInto_38 rfl ?_
      refine q_iaload (pc := 40) dX4_mixInto_40 (by assumption) (by omega) ?_
      refine q_i2l (pc := 41) dX4_mixInto_41 (by omega) ?_
      refine q_ladd (pc := 42) dX4_mixInto_42 ?_
      refine q_lstore_n (pc := 43) [some _, some _, none, some _, none, some _] dX4_mixInto_43 rfl (Nat.le_of_ble_eq_true rfl) rfl ?_
      refine q_iinc (pc := 44) [some _, some _, none, some _, none, some _] dX4_mixInto_44 rfl rfl rfl ?_
      refine q_goto (pc := 47) 5 dX4_mixInto_47 rfl ?_
      exact ih (i + 1) (by omega)
  refine zenter [some _, some _, none, none, none, none] pn_X4 rfl (Nat.le_of_ble_eq_true rfl) ?_
  refine q_lload_n (pc := 0) dX4_mixInto_0 rfl ?_
  refine q_lstore_n (pc := 1) [some _, some _, none, some _, none, none] dX4_mixInto_1 rfl (Nat.le_of_ble_eq_true rfl) rfl ?_
  refine q_iconst (pc := 2) dX4_mixInto_2 ?_
  refine q_istore (pc := 3) [some _, some _, none, some _, none, some _] dX4_mixInto_3 rfl (Nat.le_of_ble_eq_true rfl) rfl ?_
  exact L q.toNat 0 (by omega)
end X4
