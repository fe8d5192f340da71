/-! a Sheet: rows of numbers in one array -/
def zSame (w w' : zWd) (b len : Nat) : Prop := w'.2 = w.2 ∧ ∀ i, (i < b ∨ b + len ≤ i) → w'.1 i = w.1 i
theorem zSame.rf {w : zWd} {b len : Nat} : zSame w w b len := ⟨rfl, fun _ _ => rfl⟩
theorem zSame.tr {w1 w2 w3 : zWd} {b len : Nat} (h1 : zSame w1 w2 b len) (h2 : zSame w2 w3 b len) : zSame w1 w3 b len := ⟨h2.1.trans h1.1, fun i hi => (h2.2 i hi).trans (h1.2 i hi)⟩
theorem zSame.wide {w1 w2 : zWd} {b len b' len' : Nat} (h : zSame w1 w2 b len) (h1 : b' ≤ b) (h2 : b + len ≤ b' + len') : zSame w1 w2 b' len' := ⟨h.1, fun i hi => h.2 i (by omega)⟩
theorem zSame.up {w : zWd} {b len k : Nat} {e : zE} (h : b ≤ k ∧ k < b + len) : zSame w (zup w k e) b len := ⟨rfl, fun i hi => by simp only [zup]; rw [if_neg (by omega)]⟩
abbrev zSheet (g : zG) (w : zWd) (b n : Nat) (mo wi ro : Int) (f : Int → Int) : Prop := w.1 b = some (.inl (3, [zI mo, zI wi, zR g (b + 1), zI ro])) ∧ w.1 (b + 1) = some (.inr (false, n, f))
abbrev zShN (n : Nat) (mo wi ro : Int) : Prop := 0 ≤ ro ∧ ro ≤ mo ∧ 1 ≤ wi ∧ mo ≤ 10 ∧ wi ≤ 100 ∧ (n : Int) = mo * wi
theorem zShN_ix {n : Nat} {mo wi ro r c : Int} (h : zShN n mo wi ro) (hr : 0 ≤ r ∧ r < ro) (hc : 0 ≤ c ∧ c < wi) : 0 ≤ r * wi + c ∧ r * wi + c < n ∧ (n : Int) ≤ 1000 ∧ 0 ≤ r * wi := by
  obtain ⟨h1, h2, h3, h4, h5, h6⟩ := h
  have e1 : (r + 1) * wi ≤ mo * wi := Int.mul_le_mul_of_nonneg_right (by omega) (by omega)
  have e2 : 0 ≤ r * wi := Int.mul_nonneg hr.1 (by omega)
  have e3 : mo * wi ≤ 10 * 100 := Int.mul_le_mul h4 h5 (by omega) (by omega)
  rw [Int.add_mul, Int.one_mul] at e1
  omega
section X4
variable {g : zG} {d : Nat} {w : zWd} {K : Option Value → zWd → Prop} {b n : Nat} {mo wi ro : Int} {f : Int → Int}
set_option maxRecDepth 100000 in
set_option maxHeartbeats 4000000 in
theorem c_X4_holds {r : Int} (hS : zSheet g w b n mo wi ro f) (hN : zShN n mo wi ro) (hr : zR32 r) (k : K (some (zI (zb (0 ≤ r ∧ r < ro)))) w) : zCall g d 0 0 mX4_holds [zR g b, zI r] w K := by
  obtain ⟨hS1, hS2⟩ := hS
  refine zenter [some _, some _] pn_X4 rfl (Nat.le_of_ble_eq_true rfl) ?_
  refine q_iload_n (pc := 0) dX4_holds_0 rfl ?_
  first | refine q_ifc_lt (pc := 1) 16 dX4_holds_1 rfl (fun c1 => ?_) (fun c1 => ?_) | refine q_if_lt (pc := 1) (by omega) 16 dX4_holds_1 rfl (fun c1 => ?_) (fun c1 => ?_)
  · refine q_iconst (pc := 16) dX4_holds_16 ?_
    first | exact q_zreturn1 (pc := 17) (by omega) dX4_holds_17 rfl k | exact q_zreturn0 (pc := 17) (by omega) dX4_holds_17 rfl k
  refine q_iload_n (pc := 4) dX4_holds_4 rfl ?_
  refine q_aload_n (pc := 5) dX4_holds_5 rfl rfl ?_
  refine q_getfield (pc := 6) gf_X4_28 dX4_holds_6 (by assumption) rfl ?_
  refine q_icmp_ge (pc := 9) (by omega) (by omega) 16 dX4_holds_9 rfl (fun c9 => ?_) (fun c9 => ?_)
  · refine q_iconst (pc := 16) dX4_holds_16 ?_
    first | exact q_zreturn1 (pc := 17) (by omega) dX4_holds_17 rfl k | exact q_zreturn0 (pc := 17) (by omega) dX4_holds_17 rfl k
  refine q_iconst (pc := 12) dX4_holds_12 ?_
  refine q_goto (pc := 13) 17 dX4_holds_13 rfl ?_
  first | exact q_zreturn1 (pc := 17) (by omega) dX4_holds_17 rfl k | exact q_zreturn0 (pc := 17) (by omega) dX4_holds_17 rfl k
set_option maxRecDepth 100000 in
set_option maxHeartbeats 4000000 in
theorem c_X4_isFull (hS : zSheet g w b n mo wi ro f) (hN : zShN n mo wi ro) (k : K (some (zI (zb (mo ≤ ro)))) w) : zCall g d 0 0 mX4_isFull [zR g b] w K := by
  obtain ⟨hS1, hS2⟩ := hS
  refine zenter [some _] pn_X4 rfl (Nat.le_of_ble_eq_true rfl) ?_
  refine q_aload_n (pc := 0) dX4_isFull_0 rfl rfl ?_
  refine q_getfield (pc := 1) gf_X4_28 dX4_isFull_1 (by assumption) rfl ?_
  refine q_aload_n (pc := 4) dX4_isFull_4 rfl rfl ?_
  refine q_getfield (pc := 5) gf_X4_15 dX4_isFull_5 (by assumption) rfl ?_
  refine q_icmp_lt (pc := 8) (by omega) (by omega) 15 dX4_isFull_8 rfl (fun c8 => ?_) (fun c8 => ?_)
  · refine q_iconst (pc := 15) dX4_isFull_15 ?_
    first | exact q_zreturn1 (pc := 16) (by omega) dX4_isFull_16 rfl k | exact q_zreturn0 (pc := 16) (by omega) dX4_isFull_16 rfl k
  refine q_iconst (pc := 11) dX4_isFull_11 ?_
  refine q_goto (pc := 12) 16 dX4_isFull_12 rfl ?_
  first | exact q_zreturn1 (pc := 16) (by omega) dX4_isFull_16 rfl k | exact q_zreturn0 (pc := 16) (by omega) dX4_isFull_16 rfl k
set_option maxRecDepth 100000 in
set_option maxHeartbeats 4000000 in
theorem c_X4_placeOf {r c : Int} (hS : zSheet g w b n mo wi ro f) (hN : zShN n mo wi ro) (hr : zR32 r) (hc : zR32 c) (k : ∀ p, (p = -1 ∧ ¬ (0 ≤ r ∧ r < ro ∧ 0 ≤ c ∧ c < wi)) ∨ (p = r * wi + c ∧ 0 ≤ p ∧ p < n ∧ (n : Int) ≤ 1000 ∧ 0 ≤ r ∧ r < ro ∧ 0 ≤ c ∧ c < wi) → K (some (zI p)) w) : zCall g d 0 0 mX4_placeOf [zR g b, zI r, zI c] w K := by
  obtain ⟨hS1, hS2⟩ := hS
  refine zenter [some _, some _, some _] pn_X4 rfl (Nat.le_of_ble_eq_true rfl) ?_
  refine q_iload_n (pc := 0) dX4_placeOf_0 rfl ?_
  first | refine q_ifc_lt (pc := 1) 35 dX4_placeOf_1 rfl (fun c1 => ?_) (fun c1 => ?_) | refine q_if_lt (pc := 1) (by omega) 35 dX4_placeOf_1 rfl (fun c1 => ?_) (fun c1 => ?_)
  · refine q_iconst (pc := 35) dX4_placeOf_35 ?_
    exact q_ireturn (pc := 36) dX4_placeOf_36 rfl (k _ (Or.inl ⟨rfl, by omega⟩))
  refine q_iload_n (pc := 4) dX4_placeOf_4 rfl ?_
  refine q_aload_n (pc := 5) dX4_placeOf_5 rfl rfl ?_
  refine q_getfield (pc := 6) gf_X4_28 dX4_placeOf_6 (by assumption) rfl ?_
  refine q_icmp_ge (pc := 9) (by omega) (by omega) 35 dX4_placeOf_9 rfl (fun c9 => ?_) (fun c9 => ?_)
  · refine q_iconst (pc := 35) dX4_placeOf_35 ?_
    exact q_ireturn (pc := 36) dX4_placeOf_36 rfl (k _ (Or.inl ⟨rfl, by omega⟩))
  refine q_iload_n (pc := 12) dX4_placeOf_12 rfl ?_
  first | refine q_ifc_lt (pc := 13) 35 dX4_placeOf_13 rfl (fun c13 => ?_) (fun c13 => ?_) | refine q_if_lt (pc := 13) (by omega) 35 dX4_placeOf_13 rfl (fun c13 => ?_) (fun c13 => ?_)
  · refine q_iconst (pc := 35) dX4_placeOf_35 ?_
    exact q_ireturn (pc := 36) dX4_placeOf_36 rfl (k _ (Or.inl ⟨rfl, by omega⟩))
  refine q_iload_n (pc := 16) dX4_placeOf_16 rfl ?_
  refine q_aload_n (pc := 17) dX4_placeOf_17 rfl rfl ?_
  refine q_getfield (pc := 18) gf_X4_21 dX4_placeOf_18 (by assumption) rfl ?_
  refine q_icmp_ge (pc := 21) (by omega) (by omega) 35 dX4_placeOf_21 rfl (fun c21 => ?_) (fun c21 => ?_)
  · refine q_iconst (pc := 35) dX4_placeOf_35 ?_
    exact q_ireturn (pc := 36) dX4_placeOf_36 rfl (k _ (Or.inl ⟨rfl, by omega⟩))
  refine q_iload_n (pc := 24) dX4_placeOf_24 rfl ?_
  refine q_aload_n (pc := 25) dX4_placeOf_25 rfl rfl ?_
  refine q_getfield (pc := 26) gf_X4_21 dX4_placeOf_26 (by assumption) rfl ?_
  refine q_imul (pc := 29) dX4_placeOf_29 ?_
  refine q_iload_n (pc := 30) dX4_placeOf_30 rfl ?_
  refine q_iadd (pc := 31) dX4_placeOf_31 ?_
  refine q_goto (pc := 32) 36 dX4_placeOf_32 rfl ?_
  refine q_ireturn (pc := 36) dX4_placeOf_36 rfl ?_
  have h9 := zShN_ix hN (r := r) (c := c) (by omega) (by omega)
  exact k _ (Or.inr ⟨rfl, h9.1, h9.2.1, h9.2.2.1, by omega⟩)
set_option maxRecDepth 100000 in
set_option maxHeartbeats 4000000 in
theorem c_X4_get {r c : Int} (hd : 1 ≤ d) (hS : zSheet g w b n mo wi ro f) (hN : zShN n mo wi ro) (hr : 0 ≤ r ∧ r < ro) (hc : 0 ≤ c ∧ c < wi) (k : K (some (zI (f (r * wi + c)))) w) : zCall g d 0 0 mX4_get [zR g b, zI r, zI c] w K := by
  have hS0 := hS
  obtain ⟨hS1, hS2⟩ := hS
  have hn := zShN_ix hN hr hc
  refine zenter [some _, some _, some _, none] pn_X4 rfl (Nat.le_of_ble_eq_true rfl) ?_
  refine q_aload_n (pc := 0) dX4_get_0 rfl rfl ?_
  refine q_iload_n (pc := 1) dX4_get_1 rfl ?_
  refine q_iload_n (pc := 2) dX4_get_2 rfl ?_
  refine q_invokevirtual (pc := 3) (d' := d - 1) (As := [_, _]) (TX4, 4) cl_X4_31 dX4_get_3 rfl rfl (by assumption) rfl (by omega) rfl 0 0 (Nat.le_refl 0) (Nat.le_refl 0) ?_
  refine c_X4_placeOf hS0 hN (by omega) (by omega) (fun p hp => ?_)
  have hp : p = r * wi + c ∧ 0 ≤ p ∧ p < n := (by rcases hp with h | h <;> omega)
  refine q_istore_n (pc := 6) [some _, some _, some _, some _] dX4_get_6 rfl (Nat.le_of_ble_eq_true rfl) rfl ?_
  refine q_iload_n (pc := 7) dX4_get_7 rfl ?_
  first | refine q_ifc_lt (pc := 8) 29 dX4_get_8 rfl (fun c8 => ?_) (fun c8 => ?_) | refine q_if_lt (pc := 8) (by omega) 29 dX4_get_8 rfl (fun c8 => ?_) (fun c8 => ?_)
  · exfalso; omega
  refine q_iload_n (pc := 11) dX4_get_11 rfl ?_
  refine q_aload_n (pc := 12) dX4_get_12 rfl rfl ?_
  refine q_getfield (pc := 13) gf_X4_24 dX4_get_13 (by assumption) rfl ?_
  refine q_arraylength (pc := 16) dX4_get_16 (by assumption) ?_
  refine q_icmp_ge (pc := 17) (by omega) (by omega) 29 dX4_get_17 rfl (fun c17 => ?_) (fun c17 => ?_)
  · exfalso; omega
  refine q_aload_n (pc := 20) dX4_get_20 rfl rfl ?_
  refine q_getfield (pc := 21) gf_X4_24 dX4_get_21 (by assumption) rfl ?_
  refine q_iload_n (pc := 24) dX4_get_24 rfl ?_
  refine q_iaload (pc := 25) dX4_get_25 (by assumption) (by omega) ?_
  refine q_goto (pc := 26) 30 dX4_get_26 rfl ?_
  refine q_ireturn (pc := 30) dX4_get_30 rfl ?_
  rw [hp.1]; exact k
set_option maxRecDepth 100000 in
set_option maxHeartbeats 4000000 in
theorem c_X4_put {r c v : Int} (hd : 1 ≤ d) (hS : zSheet g w b n mo wi ro f) (hN : zShN n mo wi ro) (hr : zR32 r) (hc : zR32 c) (k : ∀ w', zSame w w' b 2 → zSheet g w' b n mo wi ro (if 0 ≤ r ∧ r < ro ∧ 0 ≤ c ∧ c < wi then zfu f (r * wi + c) v else f) → K none w') : zCall g d 0 0 mX4_put [zR g b, zI r, zI c, zI v] w K := by
  have hS0 := hS
  obtain ⟨hS1, hS2⟩ := hS
  refine zenter [some _, some _, some _, some _, none] pn_X4 rfl (Nat.le_of_ble_eq_true rfl) ?_
  refine q_aload_n (pc := 0) dX4_put_0 rfl rfl ?_
  refine q_iload_n (pc := 1) dX4_put_1 rfl ?_
  refine q_iload_n (pc := 2) dX4_put_2 rfl ?_
  refine q_invokevirtual (pc := 3) (d' := d - 1) (As := [_, _]) (TX4, 4) cl_X4_31 dX4_put_3 rfl rfl (by assumption) rfl (by omega) rfl 0 0 (Nat.le_refl 0) (Nat.le_refl 0) ?_
  refine c_X4_placeOf hS0 hN (by omega) (by omega) (fun p hp => ?_)
  refine q_istore (pc := 6) [some _, some _, some _, some _, some _] dX4_put_6 rfl (Nat.le_of_ble_eq_true rfl) rfl ?_
  refine q_iload (pc := 8) dX4_put_8 rfl ?_
  first | refine q_ifc_lt (pc := 10) 31 dX4_put_10 rfl (fun c10 => ?_) (fun c10 => ?_) | refine q_if_lt (pc := 10) (by omega) 31 dX4_put_10 rfl (fun c10 => ?_) (fun c10 => ?_)
  · refine q_return (pc := 31) dX4_put_31 rfl ?_
    rcases hp with h | h
    · first | exact k _ zSame.rf (by rw [if_neg (by omega)]; exact hS0) | (exfalso; omega)
    obtain ⟨h, h2⟩ := h
    subst h
    first | exact k _ (zSame.up (by omega)) (by rw [if_pos (by omega)]; exact ⟨by simp [zup, hS1], by simp [zup]⟩) | (exfalso; omega)
  refine q_iload (pc := 13) dX4_put_13 rfl ?_
  refine q_aload_n (pc := 15) dX4_put_15 rfl rfl ?_
  refine q_getfield (pc := 16) gf_X4_24 dX4_put_16 (by assumption) rfl ?_
  refine q_arraylength (pc := 19) dX4_put_19 (by assumption) ?_
  refine q_icmp_ge (pc := 20) (by omega) (by omega) 31 dX4_put_20 rfl (fun c20 => ?_) (fun c20 => ?_)
  · refine q_return (pc := 31) dX4_put_31 rfl ?_
    rcases hp with h | h
    · first | exact k _ zSame.rf (by rw [if_neg (by omega)]; exact hS0) | (exfalso; omega)
    obtain ⟨h, h2⟩ := h
    subst h
    first | exact k _ (zSame.up (by omega)) (by rw [if_pos (by omega)]; exact ⟨by simp [zup, hS1], by simp [zup]⟩) | (exfalso; omega)
  refine q_aload_n (pc := 23) dX4_put_23 rfl rfl ?_
  refine q_getfield (pc := 24) gf_X4_24 dX4_put_24 (by assumption) rfl ?_
  refine q_iload (pc := 27) dX4_put_27 rfl ?_
  refine q_iload_n (pc := 29) dX4_put_29 rfl ?_
  refine q_iastore (pc := 30) dX4_put_30 (by assumption) (by omega) ?_
  refine q_return (pc := 31) dX4_put_31 rfl ?_
  rcases hp with h | h
  · first | exact k _ zSame.rf (by rw [if_neg (by omega)]; exact hS0) | (exfalso; omega)
  obtain ⟨h, h2⟩ := h
  subst h
  first | exact k _ (zSame.up (by omega)) (by rw [if_pos (by omega)]; exact ⟨by simp [zup, hS1], by simp [zup]⟩) | (exfalso; omega)
end X4
