/-! what the kinds do, in numbers; the class's Kinds -/
def zplain (wk s : Int) : Int := if wk % 2 = 0 ∧ 5 ≤ s then 0 else 1
def zdeep (wk s : Int) : Int := if wk % 3 = 0 then 0 else zplain wk s
def zmelt (kind wk s : Int) : Int := if kind = 1 then zdeep wk s else if kind = 2 then zplain wk s + 1 else if kind = 3 then 0 else if kind = 4 then (if 8 ≤ s then 0 else zdeep wk s) else if kind = 5 then zplain wk s + 1 else zplain wk s
def zcost (kind : Int) : Int := if kind = 4 then 0 else if kind = 5 then 2 else 1
def zfarp (a r v : Int) : Int := max 0 (2 * a + r - v)
def zfar (kind a r v : Int) : Int := if kind = 1 ∨ kind = 5 then (if r ≤ 3 then zfarp a r v else 0) else if kind = 2 then zfarp a r v + 4 else if kind = 3 then max 0 (zfarp a r v - v) else if kind = 4 then 2 * a + r + 4 else zfarp a r v
def zhits (kind r : Int) : Int := if kind = 1 then (r + 2) / 3 + 2 else if kind = 3 then (if 7 ≤ r then (r + 2) / 3 + 1 else (r + 2) / 3) else if kind = 5 then 2 * ((r + 2) / 3 + 2) else (r + 2) / 3
theorem zplain_b (wk s : Int) : 0 ≤ zplain wk s ∧ zplain wk s ≤ 1 := by unfold zplain; split <;> omega
theorem zdeep_b (wk s : Int) : 0 ≤ zdeep wk s ∧ zdeep wk s ≤ 1 := by have := zplain_b wk s; unfold zdeep; split <;> omega
theorem zmelt_b (kind wk s : Int) : 0 ≤ zmelt kind wk s ∧ zmelt kind wk s ≤ 2 := by
  have := zplain_b wk s
  have := zdeep_b wk s
  unfold zmelt
  repeat' split
  all_goals omega
theorem zcost_b (kind : Int) : 0 ≤ zcost kind ∧ zcost kind ≤ 2 := by unfold zcost; (repeat' split) <;> omega
theorem zfarp_b {a r v : Int} (ha : 0 ≤ a ∧ a ≤ 9) (hr : 0 ≤ r ∧ r ≤ 9) (hv : 0 ≤ v ∧ v ≤ 13) : 0 ≤ zfarp a r v ∧ zfarp a r v ≤ 27 := by unfold zfarp; omega
theorem zfar_b {kind a r v : Int} (ha : 0 ≤ a ∧ a ≤ 9) (hr : 0 ≤ r ∧ r ≤ 9) (hv : 0 ≤ v ∧ v ≤ 13) : 0 ≤ zfar kind a r v ∧ zfar kind a r v ≤ 31 := by
  have := zfarp_b ha hr hv
  unfold zfar
  repeat' split
  all_goals omega
theorem zhits_b {kind r : Int} (hr : 1 ≤ r ∧ r ≤ 9) : 1 ≤ zhits kind r ∧ zhits kind r ≤ 10 := by
  unfold zhits
  repeat' split
  all_goals omega
theorem zK_eq {K : Option Value → zWd → Prop} {a b : Int} {w : zWd} (k : K (some (zI a)) w) (h : b = a) : K (some (zI b)) w := h ▸ k
section X2
variable {g : zG} {d : Nat} {w : zWd} {K : Option Value → zWd → Prop}
set_option maxRecDepth 100000 in
set_option maxHeartbeats 4000000 in
theorem c_X2_meltBy {kind wk s : Int} (hk : 0 ≤ kind ∧ kind ≤ 5) (hw : 0 ≤ wk ∧ wk ≤ 100000) (hs : zR32 s) (k : K (some (zI (zmelt kind wk s))) w) : zCall g d 0 0 mX2_meltBy [zI kind, zI wk, zI s] w K := by
  have J2 : ∀ p q, p = zplain wk s → q = zdeep wk s → zRuns g d mX2_meltBy 0 0 28 [some (zI kind), some (zI wk), some (zI s), some (zI p), none, none] [zI q] w K := by
    intro p q hp hq
    have h1 := zplain_b wk s
    have h2 := zdeep_b wk s
    refine q_istore (pc := 28) [some _, some _, some _, some _, some _, none] dX2_meltBy_28 rfl (Nat.le_of_ble_eq_true rfl) rfl ?_
    refine q_iload_n (pc := 30) dX2_meltBy_30 rfl ?_
    refine q_iconst (pc := 31) dX2_meltBy_31 ?_
    refine q_iadd (pc := 32) dX2_meltBy_32 ?_
    refine q_istore (pc := 33) [some _, some _, some _, some _, some _, some _] dX2_meltBy_33 rfl (Nat.le_of_ble_eq_true rfl) rfl ?_
    refine q_iload_n (pc := 35) dX2_meltBy_35 rfl ?_
    refine q_top (fun x36 hx36 => ?_)
    by_cases c36_1 : x36 = 1
    · refine q_tableIn (pc := 36) 72 dX2_meltBy_36 c36_1 (by omega) (by decide) (by decide) rfl rfl ?_
      refine q_iload (pc := 72) dX2_meltBy_72 rfl ?_
      refine q_ireturn (pc := 74) dX2_meltBy_74 rfl ?_
      exact zK_eq k (by unfold zmelt; (repeat' split) <;> omega)
    by_cases c36_2 : x36 = 2
    · refine q_tableIn (pc := 36) 75 dX2_meltBy_36 c36_2 (by omega) (by decide) (by decide) rfl rfl ?_
      refine q_iload (pc := 75) dX2_meltBy_75 rfl ?_
      refine q_ireturn (pc := 77) dX2_meltBy_77 rfl ?_
      exact zK_eq k (by unfold zmelt; (repeat' split) <;> omega)
    by_cases c36_3 : x36 = 3
    · refine q_tableIn (pc := 36) 78 dX2_meltBy_36 c36_3 (by omega) (by decide) (by decide) rfl rfl ?_
      refine q_iconst (pc := 78) dX2_meltBy_78 ?_
      refine q_ireturn (pc := 79) dX2_meltBy_79 rfl ?_
      exact zK_eq k (by unfold zmelt; (repeat' split) <;> omega)
    by_cases c36_4 : x36 = 4
    · refine q_tableIn (pc := 36) 80 dX2_meltBy_36 c36_4 (by omega) (by decide) (by decide) rfl rfl ?_
      refine q_iload_n (pc := 80) dX2_meltBy_80 rfl ?_
      refine q_bipush (pc := 81) (by decide) dX2_meltBy_81 ?_
      refine q_icmp_lt (pc := 83) (by omega) (by omega) 90 dX2_meltBy_83 rfl (fun c83 => ?_) (fun c83 => ?_)
      · refine q_iload (pc := 90) dX2_meltBy_90 rfl ?_
        refine q_ireturn (pc := 92) dX2_meltBy_92 rfl ?_
        exact zK_eq k (by unfold zmelt; (repeat' split) <;> omega)
      refine q_iconst (pc := 86) dX2_meltBy_86 ?_
      refine q_goto (pc := 87) 92 dX2_meltBy_87 rfl ?_
      refine q_ireturn (pc := 92) dX2_meltBy_92 rfl ?_
      exact zK_eq k (by unfold zmelt; (repeat' split) <;> omega)
    by_cases c36_5 : x36 = 5
    · refine q_tableIn (pc := 36) 93 dX2_meltBy_36 c36_5 (by omega) (by decide) (by decide) rfl rfl ?_
      refine q_iload (pc := 93) dX2_meltBy_93 rfl ?_
      refine q_ireturn (pc := 95) dX2_meltBy_95 rfl ?_
      exact zK_eq k (by unfold zmelt; (repeat' split) <;> omega)
    refine q_tableOut (pc := 36) 96 dX2_meltBy_36 (by omega) (by omega) rfl ?_
    refine q_iload_n (pc := 96) dX2_meltBy_96 rfl ?_
    refine q_ireturn (pc := 97) dX2_meltBy_97 rfl ?_
    exact zK_eq k (by unfold zmelt; (repeat' split) <;> omega)
  have J1 : ∀ p, p = zplain wk s → zRuns g d mX2_meltBy 0 0 16 [some (zI kind), some (zI wk), some (zI s), none, none, none] [zI p] w K := by
    intro p hp
    refine q_istore_n (pc := 16) [some _, some _, some _, some _, none, none] dX2_meltBy_16 rfl (Nat.le_of_ble_eq_true rfl) rfl ?_
    refine q_iload_n (pc := 17) dX2_meltBy_17 rfl ?_
    refine q_iconst (pc := 18) dX2_meltBy_18 ?_
    refine q_irem (pc := 19) dX2_meltBy_19 (by omega) (by omega) (by omega) ?_
    refine q_if_ne (pc := 20) (by omega) 27 dX2_meltBy_20 rfl (fun c20 => ?_) (fun c20 => ?_)
    · refine q_iload_n (pc := 27) dX2_meltBy_27 rfl ?_
      exact J2 _ _ hp (by unfold zdeep; split <;> omega)
    refine q_iconst (pc := 23) dX2_meltBy_23 ?_
    refine q_goto (pc := 24) 28 dX2_meltBy_24 rfl ?_
    exact J2 _ _ hp (by unfold zdeep; split <;> omega)
  refine zenter [some _, some _, some _, none, none, none] pn_X2 rfl (Nat.le_of_ble_eq_true rfl) ?_
  refine q_iload_n (pc := 0) dX2_meltBy_0 rfl ?_
  refine q_iconst (pc := 1) dX2_meltBy_1 ?_
  refine q_irem (pc := 2) dX2_meltBy_2 (by omega) (by omega) (by omega) ?_
  refine q_if_ne (pc := 3) (by omega) 15 dX2_meltBy_3 rfl (fun c3 => ?_) (fun c3 => ?_)
  · refine q_iconst (pc := 15) dX2_meltBy_15 ?_
    exact J1 _ (by unfold zplain; split <;> omega)
  refine q_iload_n (pc := 6) dX2_meltBy_6 rfl ?_
  refine q_iconst (pc := 7) dX2_meltBy_7 ?_
  refine q_icmp_lt (pc := 8) (by omega) (by omega) 15 dX2_meltBy_8 rfl (fun c8 => ?_) (fun c8 => ?_)
  · refine q_iconst (pc := 15) dX2_meltBy_15 ?_
    exact J1 _ (by unfold zplain; split <;> omega)
  refine q_iconst (pc := 11) dX2_meltBy_11 ?_
  refine q_goto (pc := 12) 16 dX2_meltBy_12 rfl ?_
  exact J1 _ (by unfold zplain; split <;> omega)
set_option maxRecDepth 100000 in
set_option maxHeartbeats 4000000 in
theorem c_X2_costOfDoor {kind : Int} (hk : 0 ≤ kind ∧ kind ≤ 5) (k : K (some (zI (zcost kind))) w) : zCall g d 0 0 mX2_costOfDoor [zI kind] w K := by
  refine zenter [some _] pn_X2 rfl (Nat.le_of_ble_eq_true rfl) ?_
  refine q_iload_n (pc := 0) dX2_costOfDoor_0 rfl ?_
  refine q_top (fun x1 hx1 => ?_)
  by_cases c1_4 : x1 = 4
  · refine q_lookup (pc := 1) 28 dX2_costOfDoor_1 (by omega) rfl (by rw [c1_4]) rfl ?_
    refine q_iconst (pc := 28) dX2_costOfDoor_28 ?_
    refine q_ireturn (pc := 29) dX2_costOfDoor_29 rfl ?_
    exact zK_eq k (by unfold zcost; (repeat' split) <;> omega)
  by_cases c1_5 : x1 = 5
  · refine q_lookup (pc := 1) 30 dX2_costOfDoor_1 (by omega) rfl (by rw [c1_5]) rfl ?_
    refine q_iconst (pc := 30) dX2_costOfDoor_30 ?_
    refine q_ireturn (pc := 31) dX2_costOfDoor_31 rfl ?_
    exact zK_eq k (by unfold zcost; (repeat' split) <;> omega)
  refine q_lookup (pc := 1) (o := 31) 32 dX2_costOfDoor_1 (by omega) rfl (by rw [Op.lookupswitch.offset_cons, if_neg (fun q9 => c1_4 q9.symm), Op.lookupswitch.offset_cons, if_neg (fun q9 => c1_5 q9.symm)]; try rfl) rfl ?_
  refine q_iconst (pc := 32) dX2_costOfDoor_32 ?_
  refine q_ireturn (pc := 33) dX2_costOfDoor_33 rfl ?_
  exact zK_eq k (by unfold zcost; (repeat' split) <;> omega)
set_option maxRecDepth 100000 in
set_option maxHeartbeats 4000000 in
theorem c_X2_farBy {kind a r v : Int} (hd : 1 ≤ d) (hk : 0 ≤ kind ∧ kind ≤ 5) (ha : 0 ≤ a ∧ a ≤ 9) (hr : 1 ≤ r ∧ r ≤ 9) (hv : 0 ≤ v ∧ v ≤ 13) (k : K (some (zI (zfar kind a r v))) w) : zCall g d 0 0 mX2_farBy [zI kind, zI a, zI r, zI v] w K := by
  have h1 := zfarp_b (v := v) ha (by omega : 0 ≤ r ∧ r ≤ 9) hv
  have J1 : ∀ p q, p = zfarp a r v → q = (if r ≤ 3 then zfarp a r v else 0) → zRuns g d mX2_farBy 0 0 24 [some (zI kind), some (zI a), some (zI r), some (zI v), some (zI p), none] [zI q] w K := by
    intro p q hp hq
    refine q_istore (pc := 24) [some _, some _, some _, some _, some _, some _] dX2_farBy_24 rfl (Nat.le_of_ble_eq_true rfl) rfl ?_
    refine q_iload_n (pc := 26) dX2_farBy_26 rfl ?_
    refine q_top (fun x27 hx27 => ?_)
    by_cases c27_1 : x27 = 1
    · refine q_tableIn (pc := 27) 60 dX2_farBy_27 c27_1 (by omega) (by decide) (by decide) rfl rfl ?_
      refine q_iload (pc := 60) dX2_farBy_60 rfl ?_
      refine q_ireturn (pc := 62) dX2_farBy_62 rfl ?_
      exact zK_eq k (by unfold zfar; (repeat' split) <;> omega)
    by_cases c27_2 : x27 = 2
    · refine q_tableIn (pc := 27) 63 dX2_farBy_27 c27_2 (by omega) (by decide) (by decide) rfl rfl ?_
      refine q_iload (pc := 63) dX2_farBy_63 rfl ?_
      refine q_iconst (pc := 65) dX2_farBy_65 ?_
      refine q_iadd (pc := 66) dX2_farBy_66 ?_
      refine q_ireturn (pc := 67) dX2_farBy_67 rfl ?_
      exact zK_eq k (by unfold zfar; (repeat' split) <;> omega)
    by_cases c27_3 : x27 = 3
    · refine q_tableIn (pc := 27) 68 dX2_farBy_27 c27_3 (by omega) (by decide) (by decide) rfl rfl ?_
      refine q_iconst (pc := 68) dX2_farBy_68 ?_
      refine q_iload (pc := 69) dX2_farBy_69 rfl ?_
      refine q_iload_n (pc := 71) dX2_farBy_71 rfl ?_
      refine q_isub (pc := 72) dX2_farBy_72 ?_
      refine q_max (pc := 73) tw_3_96 tw_1_37 tw_1_4 tw_1_38 dX2_farBy_73 (by omega) rfl (by omega) (by omega) ?_
      refine q_ireturn (pc := 76) dX2_farBy_76 rfl ?_
      exact zK_eq k (by unfold zfar; (repeat' split) <;> omega)
    by_cases c27_4 : x27 = 4
    · refine q_tableIn (pc := 27) 77 dX2_farBy_27 c27_4 (by omega) (by decide) (by decide) rfl rfl ?_
      refine q_iconst (pc := 77) dX2_farBy_77 ?_
      refine q_iconst (pc := 78) dX2_farBy_78 ?_
      refine q_iload_n (pc := 79) dX2_farBy_79 rfl ?_
      refine q_imul (pc := 80) dX2_farBy_80 ?_
      refine q_iload_n (pc := 81) dX2_farBy_81 rfl ?_
      refine q_iadd (pc := 82) dX2_farBy_82 ?_
      refine q_max (pc := 83) tw_3_96 tw_1_37 tw_1_4 tw_1_38 dX2_farBy_83 (by omega) rfl (by omega) (by omega) ?_
      refine q_iconst (pc := 86) dX2_farBy_86 ?_
      refine q_iadd (pc := 87) dX2_farBy_87 ?_
      refine q_ireturn (pc := 88) dX2_farBy_88 rfl ?_
      exact zK_eq k (by unfold zfar; (repeat' split) <;> omega)
    by_cases c27_5 : x27 = 5
    · refine q_tableIn (pc := 27) 89 dX2_farBy_27 c27_5 (by omega) (by decide) (by decide) rfl rfl ?_
      refine q_iload (pc := 89) dX2_farBy_89 rfl ?_
      refine q_ireturn (pc := 91) dX2_farBy_91 rfl ?_
      exact zK_eq k (by unfold zfar; (repeat' split) <;> omega)
    refine q_tableOut (pc := 27) 92 dX2_farBy_27 (by omega) (by omega) rfl ?_
    refine q_iload (pc := 92) dX2_farBy_92 rfl ?_
    refine q_ireturn (pc := 94) dX2_farBy_94 rfl ?_
    exact zK_eq k (by unfold zfar; (repeat' split) <;> omega)
  refine zenter [some _, some _, some _, some _, none, none] pn_X2 rfl (Nat.le_of_ble_eq_true rfl) ?_
  refine q_iconst (pc := 0) dX2_farBy_0 ?_
  refine q_iconst (pc := 1) dX2_farBy_1 ?_
  refine q_iload_n (pc := 2) dX2_farBy_2 rfl ?_
  refine q_imul (pc := 3) dX2_farBy_3 ?_
  refine q_iload_n (pc := 4) dX2_farBy_4 rfl ?_
  refine q_iadd (pc := 5) dX2_farBy_5 ?_
  refine q_iload_n (pc := 6) dX2_farBy_6 rfl ?_
  refine q_isub (pc := 7) dX2_farBy_7 ?_
  refine q_max (pc := 8) tw_3_96 tw_1_37 tw_1_4 tw_1_38 dX2_farBy_8 (by omega) rfl (by omega) (by omega) ?_
  refine q_istore (pc := 11) [some _, some _, some _, some _, some _, none] dX2_farBy_11 rfl (Nat.le_of_ble_eq_true rfl) rfl ?_
  refine q_iload_n (pc := 13) dX2_farBy_13 rfl ?_
  refine q_iconst (pc := 14) dX2_farBy_14 ?_
  refine q_icmp_le (pc := 15) (by omega) (by omega) 22 dX2_farBy_15 rfl (fun c15 => ?_) (fun c15 => ?_)
  · refine q_iload (pc := 22) dX2_farBy_22 rfl ?_
    exact J1 _ _ rfl (by split <;> first | rfl | omega)
  refine q_iconst (pc := 18) dX2_farBy_18 ?_
  refine q_goto (pc := 19) 24 dX2_farBy_19 rfl ?_
  exact J1 _ _ rfl (by split <;> first | rfl | omega)
set_option maxRecDepth 100000 in
set_option maxHeartbeats 4000000 in
theorem c_X2_hitsBy {kind r : Int} (hk : 0 ≤ kind ∧ kind ≤ 5) (hr : 1 ≤ r ∧ r ≤ 9) (k : K (some (zI (zhits kind r))) w) : zCall g d 0 0 mX2_hitsBy [zI kind, zI r] w K := by
  refine zenter [some _, some _, none, none] pn_X2 rfl (Nat.le_of_ble_eq_true rfl) ?_
  refine q_iload_n (pc := 0) dX2_hitsBy_0 rfl ?_
  refine q_iconst (pc := 1) dX2_hitsBy_1 ?_
  refine q_iadd (pc := 2) dX2_hitsBy_2 ?_
  refine q_iconst (pc := 3) dX2_hitsBy_3 ?_
  refine q_idiv (pc := 4) dX2_hitsBy_4 (by omega) (by omega) (by omega) ?_
  refine q_istore_n (pc := 5) [some _, some _, some _, none] dX2_hitsBy_5 rfl (Nat.le_of_ble_eq_true rfl) rfl ?_
  refine q_iload_n (pc := 6) dX2_hitsBy_6 rfl ?_
  refine q_iconst (pc := 7) dX2_hitsBy_7 ?_
  refine q_iadd (pc := 8) dX2_hitsBy_8 ?_
  refine q_istore_n (pc := 9) [some _, some _, some _, some _] dX2_hitsBy_9 rfl (Nat.le_of_ble_eq_true rfl) rfl ?_
  refine q_iload_n (pc := 10) dX2_hitsBy_10 rfl ?_
  refine q_top (fun x11 hx11 => ?_)
  by_cases c11_1 : x11 = 1
  · refine q_tableIn (pc := 11) 44 dX2_hitsBy_11 c11_1 (by omega) (by decide) (by decide) rfl rfl ?_
    refine q_iload_n (pc := 44) dX2_hitsBy_44 rfl ?_
    refine q_ireturn (pc := 45) dX2_hitsBy_45 rfl ?_
    exact zK_eq k (by unfold zhits; (repeat' split) <;> omega)
  by_cases c11_2 : x11 = 2
  · refine q_tableIn (pc := 11) 64 dX2_hitsBy_11 c11_2 (by omega) (by decide) (by decide) rfl rfl ?_
    refine q_iload_n (pc := 64) dX2_hitsBy_64 rfl ?_
    refine q_ireturn (pc := 65) dX2_hitsBy_65 rfl ?_
    exact zK_eq k (by unfold zhits; (repeat' split) <;> omega)
  by_cases c11_3 : x11 = 3
  · refine q_tableIn (pc := 11) 46 dX2_hitsBy_11 c11_3 (by omega) (by decide) (by decide) rfl rfl ?_
    refine q_iload_n (pc := 46) dX2_hitsBy_46 rfl ?_
    refine q_bipush (pc := 47) (by decide) dX2_hitsBy_47 ?_
    refine q_icmp_lt (pc := 49) (by omega) (by omega) 58 dX2_hitsBy_49 rfl (fun c49 => ?_) (fun c49 => ?_)
    · refine q_iload_n (pc := 58) dX2_hitsBy_58 rfl ?_
      refine q_ireturn (pc := 59) dX2_hitsBy_59 rfl ?_
      exact zK_eq k (by unfold zhits; (repeat' split) <;> omega)
    refine q_iload_n (pc := 52) dX2_hitsBy_52 rfl ?_
    refine q_iconst (pc := 53) dX2_hitsBy_53 ?_
    refine q_iadd (pc := 54) dX2_hitsBy_54 ?_
    refine q_goto (pc := 55) 59 dX2_hitsBy_55 rfl ?_
    refine q_ireturn (pc := 59) dX2_hitsBy_59 rfl ?_
    exact zK_eq k (by unfold zhits; (repeat' split) <;> omega)
  by_cases c11_4 : x11 = 4
  · refine q_tableIn (pc := 11) 64 dX2_hitsBy_11 c11_4 (by omega) (by decide) (by decide) rfl rfl ?_
    refine q_iload_n (pc := 64) dX2_hitsBy_64 rfl ?_
    refine q_ireturn (pc := 65) dX2_hitsBy_65 rfl ?_
    exact zK_eq k (by unfold zhits; (repeat' split) <;> omega)
  by_cases c11_5 : x11 = 5
  · refine q_tableIn (pc := 11) 60 dX2_hitsBy_11 c11_5 (by omega) (by decide) (by decide) rfl rfl ?_
    refine q_iconst (pc := 60) dX2_hitsBy_60 ?_
    refine q_iload_n (pc := 61) dX2_hitsBy_61 rfl ?_
    refine q_imul (pc := 62) dX2_hitsBy_62 ?_
    refine q_ireturn (pc := 63) dX2_hitsBy_63 rfl ?_
    exact zK_eq k (by unfold zhits; (repeat' split) <;> omega)
  refine q_tableOut (pc := 11) 64 dX2_hitsBy_11 (by omega) (by omega) rfl ?_
  refine q_iload_n (pc := 64) dX2_hitsBy_64 rfl ?_
  refine q_ireturn (pc := 65) dX2_hitsBy_65 rfl ?_
  exact zK_eq k (by unfold zhits; (repeat' split) <;> omega)
end X2
