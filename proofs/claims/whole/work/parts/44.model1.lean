/-! THE REFERENCE (X8): its object at 72, its rows at 73 to 87; rows whose far places don't matter -/
theorem arrV_c {c : ClassId} {n : Nat} {f f2 : Nat → Value} (h : ∀ j, j < n → f j = f2 j) : arrV c n f = arrV c n f2 := by
  have e : (fun j : Fin n => f j.val) = fun j : Fin n => f2 j.val := funext fun j => h _ j.2
  unfold arrV; rw [e]
theorem zHW_nrm {g : zG} {w : zWd} {H : Heap} {k n : Nat} {b : Bool} {f f2 : Int → Int} (h : zHW g w H) (hk : w.1 k = some (.inr (b, n, f))) (e : ∀ j, 0 ≤ j → j < (n : Int) → f j = f2 j) : zHW g (zup w k (.inr (b, n, f2))) H := by
  refine zHW_up h hk (fun a ha => by cases ha; exact h.2.2.2 _ (_, n, f) hk) rfl (fun i q hi => ?_)
  rw [List.getElem?_set] at hi
  by_cases hik : k = i
  · subst hik
    have h1 := h.1 _ _ (zlst_at h hk)
    rw [if_pos rfl] at hi
    split at hi
    · cases hi
      have h1 : H[g.base + k]? = some (vp_cell (if b = true then g.2.2.1 else g.2.1) (n, .inl (fun j => Int32.ofInt (f (j : Int))))) := h1
      show H[g.base + k]? = some (vp_cell (if b = true then g.2.2.1 else g.2.1) (n, .inl (fun j => Int32.ofInt (f2 (j : Int)))))
      rw [h1, vp_cell_i, vp_cell_i]
      congr 1
      exact arrV_c (fun j hj => by show Value.int _ = Value.int _; rw [e (j : Int) (by omega) (by omega)])
    · cases hi
  · rw [if_neg hik] at hi
    exact h.1 i q hi
section ZN
variable {g : zG} {d : Nat} {M : zMt} {rc rs pc : Nat} {lv : List (Option Value)} {st : List Value} {w : zWd} {K : Option Value → zWd → Prop}
theorem q_norm {k n : Nat} {b : Bool} {f : Int → Int} (f2 : Int → Int) (hk : w.1 k = some (.inr (b, n, f))) (e : ∀ j, 0 ≤ j → j < (n : Int) → f j = f2 j) (kk : zRuns g d M rc rs pc lv st (zup w k (.inr (b, n, f2))) K) : zRuns g d M rc rs pc lv st w K := by
  intro l p e1 s m args below meth c mc ms cells slots H locs ls hC h1 h2 hW hS hL
  exact kk l p e1 s m args below meth c mc ms cells slots H locs ls hC h1 h2 (zHW_nrm hW hk e) hS hL
end ZN
abbrev zMO (g : zG) (ab be u len p0 p1 p2 p3 p4 it sm : Int) : zE := .inl (7, [zR g 73, zR g 74, zJ ab, zJ be, zI u, zR g 75, zR g 76, zI len, zI p0, zI p1, zI p2, zI p3, zI p4, zR g 77, zI it, zR g 78, zR g 79, zR g 80, zR g 81, zR g 82, zR g 83, zR g 84, zR g 85, zR g 86, zR g 87, zJ sm])
def zml (f : Int → Int) (fr n : Int) : Int → Int := fun j => if fr + 1 ≤ j ∧ j ≤ fr + 9 then (if j - fr + n ≤ 9 then f (j + n) else 0) else f j
def zmt (f : Int → Int) (fr n r : Int) : Int → Int := fun j => if fr + 1 ≤ j ∧ j < fr + r then (if j - fr + n ≤ 9 then f (j + n) else 0) else f j
theorem zml_lose {N : Int → Int} {c n : Int} : zml N (18 + 10 * c) n = zlose N c n := rfl
theorem zmt_1 {f : Int → Int} {fr n : Int} : zmt f fr n 1 = f := by funext j; simp only [zmt]; rw [if_neg (by omega)]
theorem zmt_10 {f : Int → Int} {fr n : Int} : zmt f fr n 10 = zml f fr n := by
  funext j; simp only [zmt, zml]
  by_cases h : fr + 1 ≤ j ∧ j < fr + 10
  · rw [if_pos h, if_pos (show fr + 1 ≤ j ∧ j ≤ fr + 9 by omega)]
  · rw [if_neg h, if_neg (show ¬ (fr + 1 ≤ j ∧ j ≤ fr + 9) by omega)]
theorem zmt_at {f : Int → Int} {fr n r j : Int} (h : fr + r ≤ j) : zmt f fr n r j = f j := by simp only [zmt]; rw [if_neg (by omega)]
theorem zmt_s {f : Int → Int} {fr n r v : Int} (hr : 1 ≤ r) (hv : v = if r + n ≤ 9 then f (fr + r + n) else 0) : zfu (zmt f fr n r) (fr + r) v = zmt f fr n (r + 1) := by
  funext j
  simp only [zfu, zmt]
  by_cases h1 : j = fr + r
  · subst h1
    rw [if_pos rfl, if_pos (by omega), hv]
    by_cases h2 : r + n ≤ 9
    · rw [if_pos h2, if_pos (by omega)]
    · rw [if_neg h2, if_neg (by omega)]
  · rw [if_neg h1]
    by_cases h2 : fr + 1 ≤ j ∧ j < fr + r
    · rw [if_pos h2, if_pos (show fr + 1 ≤ j ∧ j < fr + (r + 1) by omega)]
    · rw [if_neg h2, if_neg (show ¬ (fr + 1 ≤ j ∧ j < fr + (r + 1)) by omega)]
section X8A
variable {g : zG} {d : Nat} {w : zWd} {K : Option Value → zWd → Prop}
set_option maxRecDepth 100000 in
set_option maxHeartbeats 4000000 in
theorem c_X8_in {v lo hi : Int} (hv : zR64 v) (h1 : zR64 lo) (h2 : zR64 hi) (k : K (some (zI (zb (lo ≤ v ∧ v ≤ hi)))) w) : zCall g d 0 0 mX8_in [zJ v, zJ lo, zJ hi] w K := by
  refine zenter [some _, none, some _, none, some _, none] pn_X8 rfl (Nat.le_of_ble_eq_true rfl) ?_
  refine q_lload_n (pc := 0) dX8_in_0 rfl ?_
  refine q_lload_n (pc := 1) dX8_in_1 rfl ?_
  refine q_lcmp (pc := 2) dX8_in_2 (by omega) (by omega) ?_
  refine q_ifc_lt (pc := 3) 17 dX8_in_3 rfl (fun c3 => ?_) (fun c3 => ?_)
  · refine q_iconst (pc := 17) dX8_in_17 ?_
    exact q_zreturn0 (pc := 18) (by omega) dX8_in_18 rfl k
  refine q_lload_n (pc := 6) dX8_in_6 rfl ?_
  refine q_lload (pc := 7) dX8_in_7 rfl ?_
  refine q_lcmp (pc := 9) dX8_in_9 (by omega) (by omega) ?_
  refine q_ifc_gt (pc := 10) 17 dX8_in_10 rfl (fun c10 => ?_) (fun c10 => ?_)
  · refine q_iconst (pc := 17) dX8_in_17 ?_
    exact q_zreturn0 (pc := 18) (by omega) dX8_in_18 rfl k
  refine q_iconst (pc := 13) dX8_in_13 ?_
  refine q_goto (pc := 14) 18 dX8_in_14 rfl ?_
  exact q_zreturn1 (pc := 18) (by omega) dX8_in_18 rfl k
set_option maxRecDepth 100000 in
set_option maxHeartbeats 4000000 in
theorem c_X8_meltsBy {kind wk s : Int} (hk : 0 ≤ kind ∧ kind ≤ 5) (hw : 0 ≤ wk ∧ wk ≤ 100000) (hs : zR32 s) (k : K (some (zI (zmelt kind wk s))) w) : zCall g d 0 0 mX8_meltsBy [zI kind, zI wk, zI s] w K := by
  have J2 : ∀ p q, p = zplain wk s → q = zdeep wk s → zRuns g d mX8_meltsBy 0 0 28 [some (zI kind), some (zI wk), some (zI s), some (zI p), none] [zI q] w K := by
    intro p q hp hq
    have h1 := zplain_b wk s
    have h2 := zdeep_b wk s
    refine q_istore (pc := 28) [some _, some _, some _, some _, some _] dX8_meltsBy_28 rfl (Nat.le_of_ble_eq_true rfl) rfl ?_
    refine q_iload_n (pc := 30) dX8_meltsBy_30 rfl ?_
    refine q_top (fun x31 hx31 => ?_)
    by_cases c31_0 : x31 = 0
    · refine q_tableIn (pc := 31) 64 dX8_meltsBy_31 c31_0 (by omega) (by decide) (by decide) rfl rfl ?_
      refine q_iload_n (pc := 64) dX8_meltsBy_64 rfl ?_
      refine q_ireturn (pc := 65) dX8_meltsBy_65 rfl ?_
      exact zK_eq k (by unfold zmelt; (repeat' split) <;> omega)
    by_cases c31_1 : x31 = 1
    · refine q_tableIn (pc := 31) 66 dX8_meltsBy_31 c31_1 (by omega) (by decide) (by decide) rfl rfl ?_
      refine q_iload (pc := 66) dX8_meltsBy_66 rfl ?_
      refine q_ireturn (pc := 68) dX8_meltsBy_68 rfl ?_
      exact zK_eq k (by unfold zmelt; (repeat' split) <;> omega)
    by_cases c31_2 : x31 = 2
    · refine q_tableIn (pc := 31) 69 dX8_meltsBy_31 c31_2 (by omega) (by decide) (by decide) rfl rfl ?_
      refine q_iload_n (pc := 69) dX8_meltsBy_69 rfl ?_
      refine q_iconst (pc := 70) dX8_meltsBy_70 ?_
      refine q_iadd (pc := 71) dX8_meltsBy_71 ?_
      refine q_ireturn (pc := 72) dX8_meltsBy_72 rfl ?_
      exact zK_eq k (by unfold zmelt; (repeat' split) <;> omega)
    by_cases c31_3 : x31 = 3
    · refine q_tableIn (pc := 31) 73 dX8_meltsBy_31 c31_3 (by omega) (by decide) (by decide) rfl rfl ?_
      refine q_iconst (pc := 73) dX8_meltsBy_73 ?_
      refine q_ireturn (pc := 74) dX8_meltsBy_74 rfl ?_
      exact zK_eq k (by unfold zmelt; (repeat' split) <;> omega)
    by_cases c31_4 : x31 = 4
    · refine q_tableIn (pc := 31) 75 dX8_meltsBy_31 c31_4 (by omega) (by decide) (by decide) rfl rfl ?_
      refine q_iload_n (pc := 75) dX8_meltsBy_75 rfl ?_
      refine q_bipush (pc := 76) (by decide) dX8_meltsBy_76 ?_
      refine q_icmp_lt (pc := 78) (by omega) (by omega) 85 dX8_meltsBy_78 rfl (fun c78 => ?_) (fun c78 => ?_)
      · refine q_iload (pc := 85) dX8_meltsBy_85 rfl ?_
        refine q_ireturn (pc := 87) dX8_meltsBy_87 rfl ?_
        exact zK_eq k (by unfold zmelt; (repeat' split) <;> omega)
      refine q_iconst (pc := 81) dX8_meltsBy_81 ?_
      refine q_goto (pc := 82) 87 dX8_meltsBy_82 rfl ?_
      refine q_ireturn (pc := 87) dX8_meltsBy_87 rfl ?_
      exact zK_eq k (by unfold zmelt; (repeat' split) <;> omega)
    refine q_tableOut (pc := 31) 88 dX8_meltsBy_31 (by omega) (by omega) rfl ?_
    refine q_iload_n (pc := 88) dX8_meltsBy_88 rfl ?_
    refine q_iconst (pc := 89) dX8_meltsBy_89 ?_
    refine q_iadd (pc := 90) dX8_meltsBy_90 ?_
    refine q_ireturn (pc := 91) dX8_meltsBy_91 rfl ?_
    exact zK_eq k (by unfold zmelt; (repeat' split) <;> omega)
  have J1 : ∀ p, p = zplain wk s → zRuns g d mX8_meltsBy 0 0 16 [some (zI kind), some (zI wk), some (zI s), none, none] [zI p] w K := by
    intro p hp
    refine q_istore_n (pc := 16) [some _, some _, some _, some _, none] dX8_meltsBy_16 rfl (Nat.le_of_ble_eq_true rfl) rfl ?_
    refine q_iload_n (pc := 17) dX8_meltsBy_17 rfl ?_
    refine q_iconst (pc := 18) dX8_meltsBy_18 ?_
    refine q_irem (pc := 19) dX8_meltsBy_19 (by omega) (by omega) (by omega) ?_
    refine q_if_ne (pc := 20) (by omega) 27 dX8_meltsBy_20 rfl (fun c20 => ?_) (fun c20 => ?_)
    · refine q_iload_n (pc := 27) dX8_meltsBy_27 rfl ?_
      exact J2 _ _ hp (by unfold zdeep; split <;> omega)
    refine q_iconst (pc := 23) dX8_meltsBy_23 ?_
    refine q_goto (pc := 24) 28 dX8_meltsBy_24 rfl ?_
    exact J2 _ _ hp (by unfold zdeep; split <;> omega)
  refine zenter [some _, some _, some _, none, none] pn_X8 rfl (Nat.le_of_ble_eq_true rfl) ?_
  refine q_iload_n (pc := 0) dX8_meltsBy_0 rfl ?_
  refine q_iconst (pc := 1) dX8_meltsBy_1 ?_
  refine q_irem (pc := 2) dX8_meltsBy_2 (by omega) (by omega) (by omega) ?_
  refine q_if_ne (pc := 3) (by omega) 15 dX8_meltsBy_3 rfl (fun c3 => ?_) (fun c3 => ?_)
  · refine q_iconst (pc := 15) dX8_meltsBy_15 ?_
    exact J1 _ (by unfold zplain; split <;> omega)
  refine q_iload_n (pc := 6) dX8_meltsBy_6 rfl ?_
  refine q_iconst (pc := 7) dX8_meltsBy_7 ?_
  refine q_icmp_lt (pc := 8) (by omega) (by omega) 15 dX8_meltsBy_8 rfl (fun c8 => ?_) (fun c8 => ?_)
  · refine q_iconst (pc := 15) dX8_meltsBy_15 ?_
    exact J1 _ (by unfold zplain; split <;> omega)
  refine q_iconst (pc := 11) dX8_meltsBy_11 ?_
  refine q_goto (pc := 12) 16 dX8_meltsBy_12 rfl ?_
  exact J1 _ (by unfold zplain; split <;> omega)
set_option maxRecDepth 100000 in
set_option maxHeartbeats 4000000 in
theorem c_X8_costBy {kind : Int} (hk : 0 ≤ kind ∧ kind ≤ 5) (k : K (some (zI (zcost kind))) w) : zCall g d 0 0 mX8_costBy [zI kind] w K := by
  refine zenter [some _] pn_X8 rfl (Nat.le_of_ble_eq_true rfl) ?_
  refine q_iload_n (pc := 0) dX8_costBy_0 rfl ?_
  refine q_iconst (pc := 1) dX8_costBy_1 ?_
  refine q_icmp_ne (pc := 2) (by omega) (by omega) 9 dX8_costBy_2 rfl (fun c2 => ?_) (fun c2 => ?_)
  · refine q_iload_n (pc := 9) dX8_costBy_9 rfl ?_
    refine q_iconst (pc := 10) dX8_costBy_10 ?_
    refine q_icmp_ne (pc := 11) (by omega) (by omega) 18 dX8_costBy_11 rfl (fun c11 => ?_) (fun c11 => ?_)
    · refine q_iconst (pc := 18) dX8_costBy_18 ?_
      refine q_ireturn (pc := 19) dX8_costBy_19 rfl ?_
      exact zK_eq k (by unfold zcost; (repeat' split) <;> omega)
    refine q_iconst (pc := 14) dX8_costBy_14 ?_
    refine q_goto (pc := 15) 19 dX8_costBy_15 rfl ?_
    refine q_ireturn (pc := 19) dX8_costBy_19 rfl ?_
    exact zK_eq k (by unfold zcost; (repeat' split) <;> omega)
  refine q_iconst (pc := 5) dX8_costBy_5 ?_
  refine q_goto (pc := 6) 19 dX8_costBy_6 rfl ?_
  refine q_ireturn (pc := 19) dX8_costBy_19 rfl ?_
  exact zK_eq k (by unfold zcost; (repeat' split) <;> omega)
set_option maxRecDepth 100000 in
set_option maxHeartbeats 4000000 in
theorem c_X8_sizeOf {r : Int} (hr : 0 ≤ r ∧ r ≤ 100) (k : K (some (zI ((r + 2) / 3))) w) : zCall g d 0 0 mX8_sizeOf [zI r] w K := by
  refine zenter [some _] pn_X8 rfl (Nat.le_of_ble_eq_true rfl) ?_
  refine q_iload_n (pc := 0) dX8_sizeOf_0 rfl ?_
  refine q_iconst (pc := 1) dX8_sizeOf_1 ?_
  refine q_iadd (pc := 2) dX8_sizeOf_2 ?_
  refine q_iconst (pc := 3) dX8_sizeOf_3 ?_
  refine q_idiv (pc := 4) dX8_sizeOf_4 (by omega) (by omega) (by omega) ?_
  refine q_ireturn (pc := 5) dX8_sizeOf_5 rfl ?_
  exact k
set_option maxRecDepth 100000 in
set_option maxHeartbeats 4000000 in
theorem c_X8_least0 {v : Int} (hv : zR32 v) (k : K (some (zI (max 0 v))) w) : zCall g d 0 0 mX8_least0 [zI v] w K := by
  refine zenter [some _] pn_X8 rfl (Nat.le_of_ble_eq_true rfl) ?_
  refine q_iload_n (pc := 0) dX8_least0_0 rfl ?_
  refine q_if_le (pc := 1) (by omega) 8 dX8_least0_1 rfl (fun c1 => ?_) (fun c1 => ?_)
  · refine q_iconst (pc := 8) dX8_least0_8 ?_
    refine q_ireturn (pc := 9) dX8_least0_9 rfl ?_
    exact zK_eq k (by omega)
  refine q_iload_n (pc := 4) dX8_least0_4 rfl ?_
  refine q_goto (pc := 5) 9 dX8_least0_5 rfl ?_
  refine q_ireturn (pc := 9) dX8_least0_9 rfl ?_
  exact zK_eq k (by omega)
set_option maxRecDepth 100000 in
set_option maxHeartbeats 4000000 in
theorem c_X8_farBy {kind a r v : Int} (hd : 1 ≤ d) (hk : 0 ≤ kind ∧ kind ≤ 5) (ha : 0 ≤ a ∧ a ≤ 9) (hr : 1 ≤ r ∧ r ≤ 9) (hv : 0 ≤ v ∧ v ≤ 13) (k : K (some (zI (zfar kind a r v))) w) : zCall g d 0 0 mX8_farBy [zI kind, zI a, zI r, zI v] w K := by
  have h1 := zfarp_b (v := v) ha (by omega : 0 ≤ r ∧ r ≤ 9) hv
  have e : max 0 (2 * a + r - v) = zfarp a r v := rfl
  refine zenter [some _, some _, some _, some _, none] pn_X8 rfl (Nat.le_of_ble_eq_true rfl) ?_
  refine q_iconst (pc := 0) dX8_farBy_0 ?_
  refine q_iload_n (pc := 1) dX8_farBy_1 rfl ?_
  refine q_imul (pc := 2) dX8_farBy_2 ?_
  refine q_iload_n (pc := 3) dX8_farBy_3 rfl ?_
  refine q_iadd (pc := 4) dX8_farBy_4 ?_
  refine q_iload_n (pc := 5) dX8_farBy_5 rfl ?_
  refine q_isub (pc := 6) dX8_farBy_6 ?_
  refine q_invokestatic (pc := 7) (d' := d - 1) (mc' := 0) (ms' := 0) (As := [_]) cl_X8_64 dX8_farBy_7 rfl rfl (by omega) rfl 0 0 (Nat.le_refl 0) (Nat.le_refl 0) ?_
  refine c_X8_least0 (by omega) ?_
  rw [e]
  refine q_istore (pc := 10) [some _, some _, some _, some _, some _] dX8_farBy_10 rfl (Nat.le_of_ble_eq_true rfl) rfl ?_
  refine q_iload_n (pc := 12) dX8_farBy_12 rfl ?_
  refine q_top (fun x13 hx13 => ?_)
  by_cases c13_0 : x13 = 0
  · refine q_tableIn (pc := 13) 48 dX8_farBy_13 c13_0 (by omega) (by decide) (by decide) rfl rfl ?_
    refine q_iload (pc := 48) dX8_farBy_48 rfl ?_
    refine q_ireturn (pc := 50) dX8_farBy_50 rfl ?_
    exact zK_eq k (by unfold zfar; (repeat' split) <;> omega)
  by_cases c13_1 : x13 = 1
  · refine q_tableIn (pc := 13) 72 dX8_farBy_13 c13_1 (by omega) (by decide) (by decide) rfl rfl ?_
    refine q_iload_n (pc := 72) dX8_farBy_72 rfl ?_
    refine q_iconst (pc := 73) dX8_farBy_73 ?_
    refine q_icmp_le (pc := 74) (by omega) (by omega) 81 dX8_farBy_74 rfl (fun c74 => ?_) (fun c74 => ?_)
    · refine q_iload (pc := 81) dX8_farBy_81 rfl ?_
      refine q_ireturn (pc := 83) dX8_farBy_83 rfl ?_
      exact zK_eq k (by unfold zfar; (repeat' split) <;> omega)
    refine q_iconst (pc := 77) dX8_farBy_77 ?_
    refine q_goto (pc := 78) 83 dX8_farBy_78 rfl ?_
    refine q_ireturn (pc := 83) dX8_farBy_83 rfl ?_
    exact zK_eq k (by unfold zfar; (repeat' split) <;> omega)
  by_cases c13_2 : x13 = 2
  · refine q_tableIn (pc := 13) 51 dX8_farBy_13 c13_2 (by omega) (by decide) (by decide) rfl rfl ?_
    refine q_iload (pc := 51) dX8_farBy_51 rfl ?_
    refine q_iconst (pc := 53) dX8_farBy_53 ?_
    refine q_iadd (pc := 54) dX8_farBy_54 ?_
    refine q_ireturn (pc := 55) dX8_farBy_55 rfl ?_
    exact zK_eq k (by unfold zfar; (repeat' split) <;> omega)
  by_cases c13_3 : x13 = 3
  · refine q_tableIn (pc := 13) 56 dX8_farBy_13 c13_3 (by omega) (by decide) (by decide) rfl rfl ?_
    refine q_iload (pc := 56) dX8_farBy_56 rfl ?_
    refine q_iload_n (pc := 58) dX8_farBy_58 rfl ?_
    refine q_isub (pc := 59) dX8_farBy_59 ?_
    refine q_invokestatic (pc := 60) (d' := d - 1) (mc' := 0) (ms' := 0) (As := [_]) cl_X8_64 dX8_farBy_60 rfl rfl (by omega) rfl 0 0 (Nat.le_refl 0) (Nat.le_refl 0) ?_
    refine c_X8_least0 (by omega) ?_
    refine q_ireturn (pc := 63) dX8_farBy_63 rfl ?_
    exact zK_eq k (by unfold zfar; (repeat' split) <;> omega)
  by_cases c13_4 : x13 = 4
  · refine q_tableIn (pc := 13) 64 dX8_farBy_13 c13_4 (by omega) (by decide) (by decide) rfl rfl ?_
    refine q_iconst (pc := 64) dX8_farBy_64 ?_
    refine q_iload_n (pc := 65) dX8_farBy_65 rfl ?_
    refine q_imul (pc := 66) dX8_farBy_66 ?_
    refine q_iload_n (pc := 67) dX8_farBy_67 rfl ?_
    refine q_iadd (pc := 68) dX8_farBy_68 ?_
    refine q_iconst (pc := 69) dX8_farBy_69 ?_
    refine q_iadd (pc := 70) dX8_farBy_70 ?_
    refine q_ireturn (pc := 71) dX8_farBy_71 rfl ?_
    exact zK_eq k (by unfold zfar; (repeat' split) <;> omega)
  refine q_tableOut (pc := 13) 72 dX8_farBy_13 (by omega) (by omega) rfl ?_
  refine q_iload_n (pc := 72) dX8_farBy_72 rfl ?_
  refine q_iconst (pc := 73) dX8_farBy_73 ?_
  refine q_icmp_le (pc := 74) (by omega) (by omega) 81 dX8_farBy_74 rfl (fun c74 => ?_) (fun c74 => ?_)
  · refine q_iload (pc := 81) dX8_farBy_81 rfl ?_
    refine q_ireturn (pc := 83) dX8_farBy_83 rfl ?_
    exact zK_eq k (by unfold zfar; (repeat' split) <;> omega)
  refine q_iconst (pc := 77) dX8_farBy_77 ?_
  refine q_goto (pc := 78) 83 dX8_farBy_78 rfl ?_
  refine q_ireturn (pc := 83) dX8_farBy_83 rfl ?_
  exact zK_eq k (by unfold zfar; (repeat' split) <;> omega)
set_option maxRecDepth 100000 in
set_option maxHeartbeats 4000000 in
theorem c_X8_hitsBy {kind r : Int} (hd : 1 ≤ d) (hk : 0 ≤ kind ∧ kind ≤ 5) (hr : 1 ≤ r ∧ r ≤ 9) (k : K (some (zI (zhits kind r))) w) : zCall g d 0 0 mX8_hitsBy [zI kind, zI r] w K := by
  refine zenter [some _, some _, none] pn_X8 rfl (Nat.le_of_ble_eq_true rfl) ?_
  refine q_iload_n (pc := 0) dX8_hitsBy_0 rfl ?_
  refine q_invokestatic (pc := 1) (d' := d - 1) (mc' := 0) (ms' := 0) (As := [_]) cl_X8_68 dX8_hitsBy_1 rfl rfl (by omega) rfl 0 0 (Nat.le_refl 0) (Nat.le_refl 0) ?_
  refine c_X8_sizeOf (by omega) ?_
  refine q_istore_n (pc := 4) [some _, some _, some _] dX8_hitsBy_4 rfl (Nat.le_of_ble_eq_true rfl) rfl ?_
  refine q_iload_n (pc := 5) dX8_hitsBy_5 rfl ?_
  refine q_top (fun x6 hx6 => ?_)
  by_cases c6_1 : x6 = 1
  · refine q_tableIn (pc := 6) 40 dX8_hitsBy_6 c6_1 (by omega) (by decide) (by decide) rfl rfl ?_
    refine q_iload_n (pc := 40) dX8_hitsBy_40 rfl ?_
    refine q_iconst (pc := 41) dX8_hitsBy_41 ?_
    refine q_iadd (pc := 42) dX8_hitsBy_42 ?_
    refine q_ireturn (pc := 43) dX8_hitsBy_43 rfl ?_
    exact zK_eq k (by unfold zhits; (repeat' split) <;> omega)
  by_cases c6_2 : x6 = 2
  · refine q_tableIn (pc := 6) 64 dX8_hitsBy_6 c6_2 (by omega) (by decide) (by decide) rfl rfl ?_
    refine q_iload_n (pc := 64) dX8_hitsBy_64 rfl ?_
    refine q_ireturn (pc := 65) dX8_hitsBy_65 rfl ?_
    exact zK_eq k (by unfold zhits; (repeat' split) <;> omega)
  by_cases c6_3 : x6 = 3
  · refine q_tableIn (pc := 6) 44 dX8_hitsBy_6 c6_3 (by omega) (by decide) (by decide) rfl rfl ?_
    refine q_iload_n (pc := 44) dX8_hitsBy_44 rfl ?_
    refine q_bipush (pc := 45) (by decide) dX8_hitsBy_45 ?_
    refine q_icmp_lt (pc := 47) (by omega) (by omega) 56 dX8_hitsBy_47 rfl (fun c47 => ?_) (fun c47 => ?_)
    · refine q_iload_n (pc := 56) dX8_hitsBy_56 rfl ?_
      refine q_ireturn (pc := 57) dX8_hitsBy_57 rfl ?_
      exact zK_eq k (by unfold zhits; (repeat' split) <;> omega)
    refine q_iload_n (pc := 50) dX8_hitsBy_50 rfl ?_
    refine q_iconst (pc := 51) dX8_hitsBy_51 ?_
    refine q_iadd (pc := 52) dX8_hitsBy_52 ?_
    refine q_goto (pc := 53) 57 dX8_hitsBy_53 rfl ?_
    refine q_ireturn (pc := 57) dX8_hitsBy_57 rfl ?_
    exact zK_eq k (by unfold zhits; (repeat' split) <;> omega)
  by_cases c6_4 : x6 = 4
  · refine q_tableIn (pc := 6) 64 dX8_hitsBy_6 c6_4 (by omega) (by decide) (by decide) rfl rfl ?_
    refine q_iload_n (pc := 64) dX8_hitsBy_64 rfl ?_
    refine q_ireturn (pc := 65) dX8_hitsBy_65 rfl ?_
    exact zK_eq k (by unfold zhits; (repeat' split) <;> omega)
  by_cases c6_5 : x6 = 5
  · refine q_tableIn (pc := 6) 58 dX8_hitsBy_6 c6_5 (by omega) (by decide) (by decide) rfl rfl ?_
    refine q_iconst (pc := 58) dX8_hitsBy_58 ?_
    refine q_iload_n (pc := 59) dX8_hitsBy_59 rfl ?_
    refine q_iconst (pc := 60) dX8_hitsBy_60 ?_
    refine q_iadd (pc := 61) dX8_hitsBy_61 ?_
    refine q_imul (pc := 62) dX8_hitsBy_62 ?_
    refine q_ireturn (pc := 63) dX8_hitsBy_63 rfl ?_
    exact zK_eq k (by unfold zhits; (repeat' split) <;> omega)
  refine q_tableOut (pc := 6) 64 dX8_hitsBy_6 (by omega) (by omega) rfl ?_
  refine q_iload_n (pc := 64) dX8_hitsBy_64 rfl ?_
  refine q_ireturn (pc := 65) dX8_hitsBy_65 rfl ?_
  exact zK_eq k (by unfold zhits; (repeat' split) <;> omega)
set_option maxRecDepth 100000 in
set_option maxHeartbeats 4000000 in
theorem c_X8_undoneAt {x : Int} (hx : 0 ≤ x ∧ x < 60) (k : K (some (zI (zat x))) w) : zCall g d 0 0 mX8_undoneAt [zI x] w K := by
  refine zenter [some _] pn_X8 rfl (Nat.le_of_ble_eq_true rfl) ?_
  refine q_iload_n (pc := 0) dX8_undoneAt_0 rfl ?_
  refine q_iconst (pc := 1) dX8_undoneAt_1 ?_
  refine q_icmp_ge (pc := 2) (by omega) (by omega) 11 dX8_undoneAt_2 rfl (fun c2 => ?_) (fun c2 => ?_)
  · refine q_iload_n (pc := 11) dX8_undoneAt_11 rfl ?_
    refine q_bipush (pc := 12) (by decide) dX8_undoneAt_12 ?_
    refine q_icmp_ge (pc := 14) (by omega) (by omega) 26 dX8_undoneAt_14 rfl (fun c14 => ?_) (fun c14 => ?_)
    · refine q_iload_n (pc := 26) dX8_undoneAt_26 rfl ?_
      refine q_bipush (pc := 27) (by decide) dX8_undoneAt_27 ?_
      refine q_icmp_ge (pc := 29) (by omega) (by omega) 42 dX8_undoneAt_29 rfl (fun c29 => ?_) (fun c29 => ?_)
      · refine q_bipush (pc := 42) (by decide) dX8_undoneAt_42 ?_
        refine q_iload_n (pc := 44) dX8_undoneAt_44 rfl ?_
        refine q_iadd (pc := 45) dX8_undoneAt_45 ?_
        refine q_bipush (pc := 46) (by decide) dX8_undoneAt_46 ?_
        refine q_isub (pc := 48) dX8_undoneAt_48 ?_
        refine q_ireturn (pc := 49) dX8_undoneAt_49 rfl ?_
        exact zK_eq k (by unfold zat; (repeat' split) <;> omega)
      refine q_bipush (pc := 32) (by decide) dX8_undoneAt_32 ?_
      refine q_iload_n (pc := 34) dX8_undoneAt_34 rfl ?_
      refine q_iadd (pc := 35) dX8_undoneAt_35 ?_
      refine q_bipush (pc := 36) (by decide) dX8_undoneAt_36 ?_
      refine q_isub (pc := 38) dX8_undoneAt_38 ?_
      refine q_goto (pc := 39) 49 dX8_undoneAt_39 rfl ?_
      refine q_ireturn (pc := 49) dX8_undoneAt_49 rfl ?_
      exact zK_eq k (by unfold zat; (repeat' split) <;> omega)
    refine q_bipush (pc := 17) (by decide) dX8_undoneAt_17 ?_
    refine q_iload_n (pc := 19) dX8_undoneAt_19 rfl ?_
    refine q_iadd (pc := 20) dX8_undoneAt_20 ?_
    refine q_iconst (pc := 21) dX8_undoneAt_21 ?_
    refine q_isub (pc := 22) dX8_undoneAt_22 ?_
    refine q_goto (pc := 23) 49 dX8_undoneAt_23 rfl ?_
    refine q_ireturn (pc := 49) dX8_undoneAt_49 rfl ?_
    exact zK_eq k (by unfold zat; (repeat' split) <;> omega)
  refine q_iconst (pc := 5) dX8_undoneAt_5 ?_
  refine q_iload_n (pc := 6) dX8_undoneAt_6 rfl ?_
  refine q_iadd (pc := 7) dX8_undoneAt_7 ?_
  refine q_goto (pc := 8) 49 dX8_undoneAt_8 rfl ?_
  refine q_ireturn (pc := 49) dX8_undoneAt_49 rfl ?_
  exact zK_eq k (by unfold zat; (repeat' split) <;> omega)
set_option maxRecDepth 100000 in
set_option maxHeartbeats 4000000 in
theorem c_X8_hasKind {set kd : Int} (k : K (some (zI (zb (zhas set kd)))) w) : zCall g d 0 0 mX8_hasKind [zI set, zI kd] w K := by
  have hR := zand_R (a := zshr set kd) (b := 1)
  refine zenter [some _, some _] pn_X8 rfl (Nat.le_of_ble_eq_true rfl) ?_
  refine q_iload_n (pc := 0) dX8_hasKind_0 rfl ?_
  refine q_iload_n (pc := 1) dX8_hasKind_1 rfl ?_
  refine q_ishr (pc := 2) dX8_hasKind_2 ?_
  refine q_iconst (pc := 3) dX8_hasKind_3 ?_
  refine q_iand (pc := 4) dX8_hasKind_4 ?_
  refine q_iconst (pc := 5) dX8_hasKind_5 ?_
  refine q_icmp_ne (pc := 6) (by omega) (by omega) 13 dX8_hasKind_6 rfl (fun c6 => ?_) (fun c6 => ?_)
  · refine q_iconst (pc := 13) dX8_hasKind_13 ?_
    exact q_zreturn0 (pc := 14) (by assumption) dX8_hasKind_14 rfl k
  refine q_iconst (pc := 9) dX8_hasKind_9 ?_
  refine q_goto (pc := 10) 14 dX8_hasKind_10 rfl ?_
  exact q_zreturn1 (pc := 14) (by assumption) dX8_hasKind_14 rfl k
set_option maxRecDepth 100000 in
set_option maxHeartbeats 4000000 in
theorem c_X8_melt {ad n0 : Nat} {f : Int → Int} {fr n : Int} (hA : w.1 ad = some (.inr (false, n0, f))) (hf : 0 ≤ fr ∧ fr + 9 < n0 ∧ (n0 : Int) ≤ 1000) (hn : 0 ≤ n ∧ n ≤ 100) (k : ∀ w', zSame w w' ad 1 → w'.1 ad = some (.inr (false, n0, zml f fr n)) → K none w') : zCall g d 0 0 mX8_melt [zR g ad, zI fr, zI n] w K := by
  have L : ∀ (q : Nat) (r : Int) (w1 : zWd), r + q = 10 → 1 ≤ r → zSame w w1 ad 1 → w1.1 ad = some (.inr (false, n0, zmt f fr n r)) → zRuns g d mX8_melt 0 0 2 [some (zR g ad), some (zI fr), some (zI n), some (zI r)] [] w1 K := by
    intro q
    induction q with
    | zero =>
      intro r w1 h1 h2 hs hA
      obtain rfl : r = 10 := by omega
      rw [zmt_10] at hA
      refine q_iload_n (pc := 2) dX8_melt_2 rfl ?_
      refine q_bipush (pc := 3) (by decide) dX8_melt_3 ?_
      refine q_icmp_ge (pc := 5) (by omega) (by omega) 38 dX8_melt_5 rfl (fun c5 => ?_) (fun c5 => ?_)
      · refine q_return (pc := 38) dX8_melt_38 rfl ?_
        exact k _ hs hA
      exfalso; omega
    | succ q ih =>
      intro r w1 h1 h2 hs hA
      have hih := ih (r + 1)
      refine q_iload_n (pc := 2) dX8_melt_2 rfl ?_
      refine q_bipush (pc := 3) (by decide) dX8_melt_3 ?_
      refine q_icmp_ge (pc := 5) (by omega) (by omega) 38 dX8_melt_5 rfl (fun c5 => ?_) (fun c5 => ?_)
      · exfalso; omega
      refine q_aload_n (pc := 8) dX8_melt_8 rfl rfl ?_
      refine q_iload_n (pc := 9) dX8_melt_9 rfl ?_
      refine q_iload_n (pc := 10) dX8_melt_10 rfl ?_
      refine q_iadd (pc := 11) dX8_melt_11 ?_
      refine q_iload_n (pc := 12) dX8_melt_12 rfl ?_
      refine q_iload_n (pc := 13) dX8_melt_13 rfl ?_
      refine q_iadd (pc := 14) dX8_melt_14 ?_
      refine q_bipush (pc := 15) (by decide) dX8_melt_15 ?_
      refine q_icmp_ge (pc := 17) (by omega) (by omega) 30 dX8_melt_17 rfl (fun c17 => ?_) (fun c17 => ?_)
      · refine q_iconst (pc := 30) dX8_melt_30 ?_
        have hv := zmt_s (f := f) (fr := fr) (n := n) (r := r) h2 rfl
        refine q_iastore (pc := 31) dX8_melt_31 (by assumption) (by omega) ?_
        refine q_iinc (pc := 32) [some _, some _, some _, some _] dX8_melt_32 rfl rfl rfl ?_
        refine q_goto (pc := 35) 2 dX8_melt_35 rfl ?_
        refine hih _ (by omega) (by omega) (hs.tr (zSame.up (by omega))) ?_
        simp only [zup]; rw [if_pos trivial, ← hv]; first | (rw [if_pos (show r + n ≤ 9 by omega), ← zmt_at (f := f) (fr := fr) (n := n) (r := r) (j := fr + r + n) (by omega)]) | (rw [if_neg (show ¬ r + n ≤ 9 by omega)])
      refine q_aload_n (pc := 20) dX8_melt_20 rfl rfl ?_
      refine q_iload_n (pc := 21) dX8_melt_21 rfl ?_
      refine q_iload_n (pc := 22) dX8_melt_22 rfl ?_
      refine q_iadd (pc := 23) dX8_melt_23 ?_
      refine q_iload_n (pc := 24) dX8_melt_24 rfl ?_
      refine q_iadd (pc := 25) dX8_melt_25 ?_
      refine q_iaload (pc := 26) dX8_melt_26 (by assumption) (by omega) ?_
      refine q_goto (pc := 27) 31 dX8_melt_27 rfl ?_
      have hv := zmt_s (f := f) (fr := fr) (n := n) (r := r) h2 rfl
      refine q_iastore (pc := 31) dX8_melt_31 (by assumption) (by omega) ?_
      refine q_iinc (pc := 32) [some _, some _, some _, some _] dX8_melt_32 rfl rfl rfl ?_
      refine q_goto (pc := 35) 2 dX8_melt_35 rfl ?_
      refine hih _ (by omega) (by omega) (hs.tr (zSame.up (by omega))) ?_
      simp only [zup]; rw [if_pos trivial, ← hv]; first | (rw [if_pos (show r + n ≤ 9 by omega), ← zmt_at (f := f) (fr := fr) (n := n) (r := r) (j := fr + r + n) (by omega)]) | (rw [if_neg (show ¬ r + n ≤ 9 by omega)])
  refine zenter [some _, some _, some _, none] pn_X8 rfl (Nat.le_of_ble_eq_true rfl) ?_
  refine q_iconst (pc := 0) dX8_melt_0 ?_
  refine q_istore_n (pc := 1) [some _, some _, some _, some _] dX8_melt_1 rfl (Nat.le_of_ble_eq_true rfl) rfl ?_
  exact L 9 1 _ (by omega) (by omega) zSame.rf (by rw [zmt_1]; exact hA)
set_option maxRecDepth 100000 in
set_option maxHeartbeats 4000000 in
theorem c_X8_stonesIn {ad n0 : Nat} {f : Int → Int} {fr : Int} (hA : w.1 ad = some (.inr (false, n0, f))) (hf : 0 ≤ fr ∧ fr + 9 < n0 ∧ (n0 : Int) ≤ 1000) (k : K (some (zI (zsg (fun i => f (fr + i)) 9 1))) w) : zCall g d 0 0 mX8_stonesIn [zR g ad, zI fr] w K := by
  have L : ∀ (q m : Nat), m + q = 9 → zRuns g d mX8_stonesIn 0 0 4 [some (zR g ad), some (zI fr), some (zI (zsg (fun i => f (fr + i)) m 1)), some (zI (1 + (m : Int)))] [] w K := by
    intro q
    induction q with
    | zero =>
      intro m h1
      obtain rfl : m = 9 := by omega
      refine q_iload_n (pc := 4) dX8_stonesIn_4 rfl ?_
      refine q_bipush (pc := 5) (by decide) dX8_stonesIn_5 ?_
      refine q_icmp_ge (pc := 7) (by omega) (by omega) 24 dX8_stonesIn_7 rfl (fun c7 => ?_) (fun c7 => ?_)
      · refine q_iload_n (pc := 24) dX8_stonesIn_24 rfl ?_
        refine q_ireturn (pc := 25) dX8_stonesIn_25 rfl ?_
        exact k
      exfalso; omega
    | succ q ih =>
      intro m h1
      have hih := ih (m + 1) (by omega)
      rw [zsg, show 1 + ((m + 1 : Nat) : Int) = 1 + (m : Int) + 1 by omega] at hih
      refine q_iload_n (pc := 4) dX8_stonesIn_4 rfl ?_
      refine q_bipush (pc := 5) (by decide) dX8_stonesIn_5 ?_
      refine q_icmp_ge (pc := 7) (by omega) (by omega) 24 dX8_stonesIn_7 rfl (fun c7 => ?_) (fun c7 => ?_)
      · exfalso; omega
      refine q_iload_n (pc := 10) dX8_stonesIn_10 rfl ?_
      refine q_aload_n (pc := 11) dX8_stonesIn_11 rfl rfl ?_
      refine q_iload_n (pc := 12) dX8_stonesIn_12 rfl ?_
      refine q_iload_n (pc := 13) dX8_stonesIn_13 rfl ?_
      refine q_iadd (pc := 14) dX8_stonesIn_14 ?_
      refine q_iaload (pc := 15) dX8_stonesIn_15 (by assumption) (by omega) ?_
      refine q_iadd (pc := 16) dX8_stonesIn_16 ?_
      refine q_istore_n (pc := 17) [some _, some _, some _, some _] dX8_stonesIn_17 rfl (Nat.le_of_ble_eq_true rfl) rfl ?_
      refine q_iinc (pc := 18) [some _, some _, some _, some _] dX8_stonesIn_18 rfl rfl rfl ?_
      refine q_goto (pc := 21) 4 dX8_stonesIn_21 rfl ?_
      exact hih
  refine zenter [some _, some _, none, none] pn_X8 rfl (Nat.le_of_ble_eq_true rfl) ?_
  refine q_iconst (pc := 0) dX8_stonesIn_0 ?_
  refine q_istore_n (pc := 1) [some _, some _, some _, none] dX8_stonesIn_1 rfl (Nat.le_of_ble_eq_true rfl) rfl ?_
  refine q_iconst (pc := 2) dX8_stonesIn_2 ?_
  refine q_istore_n (pc := 3) [some _, some _, some _, some _] dX8_stonesIn_3 rfl (Nat.le_of_ble_eq_true rfl) rfl ?_
  exact L 9 0 (by omega)
end X8A
