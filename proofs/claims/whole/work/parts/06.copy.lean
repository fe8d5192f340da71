/-! System.arraycopy of ints -/
def zcpy (f0 f1 : Int → Int) (sp dp n : Int) : Int → Int := fun j => if dp ≤ j ∧ j < dp + n then f0 (sp + (j - dp)) else f1 j
section ZY
variable {g : zG} {d : Nat} {M : zMt} {rc rs pc : Nat} {lv : List (Option Value)} {st : List Value} {w : zWd} {K : Option Value → zWd → Prop}
theorem zi_cl {a : Int} (h : 0 ≤ a ∧ zR32 a) : ((Int32.ofInt a).toNatClampNeg : Int) = a := by
  show (((Int32.ofInt a).toInt.toNat : Nat) : Int) = a
  rw [zi_t h.2]; omega
set_option maxHeartbeats 4000000 in
theorem q_arraycopy {ix k0 k1 n0 n1 : Nat} {f0 f1 : Int → Int} {sp dp n : Int} (hf : Cond.methodLink M.1.cls ix arraycopyName ∈ zWL) (hd : decode M.2.1 pc = .ok (.invokestatic ix, 3)) (ha : w.1 k0 = some (.inr (false, n0, f0))) (hb : w.1 k1 = some (.inr (false, n1, f1))) (h1 : 0 ≤ sp ∧ zR32 sp) (h2 : 0 ≤ dp ∧ zR32 dp) (h3 : 0 ≤ n ∧ zR32 n) (h4 : (sp + n ≤ n0 ∧ dp + n ≤ n1) ∧ 1 ≤ d) (hrm : Nat.ble ((st.map fun v => v.category).sum) 8 = true) (kk : zRuns g d M rc rs (pc + 3) lv st (zup w k1 (.inr (false, n1, zcpy f0 f1 sp dp n))) K) : zRuns g d M rc rs pc lv (zI n :: zI dp :: zR g k1 :: zI sp :: zR g k0 :: st) w K := by
  intro l p e s m args below meth c mc ms cells slots H locs ls hC q1 q2 hW hS hL
  have hts := hC.2.2.2.2.2.1
  have hK := hC.2.2.2.2.2.2.1.1
  have hr := Nat.le_of_ble_eq_true hrm
  have ea := zlst_at hW ha
  have eb := zlst_at hW hb
  have hc0 : H[g.base + k0]? = some (vp_cell g.2.1 (n0, .inl (fun j => Int32.ofInt (f0 (j : Int))))) := hW.1 k0 _ ea
  have hc1 : H[g.base + k1]? = some (vp_cell g.2.1 (n1, .inl (fun j => Int32.ofInt (f1 (j : Int))))) := hW.1 k1 _ eb
  obtain ⟨-, kA, hkA, cA, hkkA⟩ := (hK.2 0 _ rfl).1 n0 (fun j => .int (Int32.ofInt (f0 (j : Int))))
  obtain ⟨-, kB, hkB, cB, hkkB⟩ := (hK.2 0 _ rfl).1 n1 (fun j => .int (Int32.ofInt (f1 (j : Int))))
  have s1 := zi_cl h1
  have s2 := zi_cl h2
  have s3 := zi_cl h3
  have t1 := zi_t h1.2
  have t2 := zi_t h2.2
  have t3 := zi_t h3.2
  intro T hT X
  obtain ⟨vm', X', step⟩ := X.arraycopy hC.1 hC.2.2.2.2.1 (hts _ hf) (hts _ tw_3_16) (hts _ tw_3_15) (hts _ tw_1_15) (src := g.base + k0) (dst := g.base + k1) (cs := vp_cell g.2.1 (n0, .inl (fun j => Int32.ofInt (f0 (j : Int))))) (cd := vp_cell g.2.1 (n1, .inl (fun j => Int32.ofInt (f1 (j : Int))))) (srcPos := Int32.ofInt sp) (destPos := Int32.ofInt dp) (n := Int32.ofInt n) (by rw [hT]; exact hc0) (by rw [hT]; exact hc1)
    (fun _ h => by cases h) (fun _ h => by cases h) (fun h => by cases h) (fun h => by cases h) hkA hkB hkkA hkkB (by simp [refKind]) (by rw [zi_lt0 h1.2]; omega) (by rw [zi_lt0 h2.2]; omega) (by rw [zi_lt0 h3.2]; omega)
    (by rw [t1, t3]; show ¬ _ > ((arrV g.2.1 n0 (fun j => .int (Int32.ofInt (f0 (j : Int))))).slots.size : Int); rw [arrV_size]; omega)
    (by rw [t2, t3]; show ¬ _ > ((arrV g.2.1 n1 (fun j => .int (Int32.ofInt (f1 (j : Int))))).slots.size : Int); rw [arrV_size]; omega)
    (fun vm₁ _ i hi => by
      have e : (vp_cell g.2.1 (n0, .inl (fun j => Int32.ofInt (f0 (j : Int))))).slots.getD ((Int32.ofInt sp).toNatClampNeg + i) .null = .int (Int32.ofInt (f0 (((Int32.ofInt sp).toNatClampNeg + i : Nat) : Int))) := by
        show (arrV g.2.1 n0 (fun j => .int (Int32.ofInt (f0 (j : Int))))).slots.getD _ _ = _
        rw [Array.getD_eq_getD_getElem?, arrV_read _ _ (by omega)]
        rfl
      refine ⟨?_, ?_⟩
      · rw [e]; rfl
      · rw [e]; exact trivial)
    (g := F0 m pc ls (zI n :: zI dp :: zR g k1 :: zI sp :: zR g k0 :: st)) rfl (by rw [hC.2.2.2.1]; exact hL.1) (rest := st) rfl (by rw [hC.2.1]; exact hd) h4.2 (by
      have e : nativeFrameWords "java/lang/System" "arraycopy" 5 = 7 := by decide +kernel
      show 2 * 0 + _ + _ ≤ 38 * d
      rw [e]; omega)
  have e1 : copied (vp_cell g.2.1 (n0, .inl (fun j => Int32.ofInt (f0 (j : Int))))) (vp_cell g.2.1 (n1, .inl (fun j => Int32.ofInt (f1 (j : Int))))) (Int32.ofInt sp) (Int32.ofInt dp) (Int32.ofInt n) = vp_cell g.2.1 (n1, .inl (va_cpy (fun j => Int32.ofInt (f0 (j : Int))) (fun j => Int32.ofInt (f1 (j : Int))) (Int32.ofInt sp).toNatClampNeg (Int32.ofInt dp).toNatClampNeg (Int32.ofInt n).toNatClampNeg)) := va_copied (fun z => .int z) g.2.1 g.2.1 (fun j => Int32.ofInt (f0 (j : Int))) (fun j => Int32.ofInt (f1 (j : Int))) (by omega)
  have e2 : va_cpy (fun j : Nat => Int32.ofInt (f0 (j : Int))) (fun j : Nat => Int32.ofInt (f1 (j : Int))) (Int32.ofInt sp).toNatClampNeg (Int32.ofInt dp).toNatClampNeg (Int32.ofInt n).toNatClampNeg = (fun j : Nat => Int32.ofInt (zcpy f0 f1 sp dp n (j : Int))) := by
    funext j
    simp only [va_cpy, zcpy]
    by_cases hj : dp ≤ (j : Int) ∧ (j : Int) < dp + n
    · rw [if_pos (by omega), if_pos hj]
      congr 2
      omega
    · rw [if_neg (by omega), if_neg hj]
  rw [e1, e2] at X' step
  have hl : g.base + k1 < H.size := (Array.getElem?_eq_some_iff.mp hc1).1
  have hheap : ((T.setVm vm').setCell (g.base + k1) (vp_cell g.2.1 (n1, .inl (fun j : Nat => Int32.ofInt (zcpy f0 f1 sp dp n (j : Int)))))).heap = H.setIfInBounds (g.base + k1) (vp_cell g.2.1 (n1, .inl (fun j : Nat => Int32.ofInt (zcpy f0 f1 sp dp n (j : Int))))) := by rw [← hT]; rfl
  have oq : ∀ q : Nat, q ≠ g.base + k1 → (H.setIfInBounds (g.base + k1) (vp_cell g.2.1 (n1, .inl (fun j : Nat => Int32.ofInt (zcpy f0 f1 sp dp n (j : Int))))))[q]? = H[q]? := fun q hq => by simp [Array.getElem?_setIfInBounds, Ne.symm hq]
  have hP' := hW.1.set (zlst_D g w) eb (e := zvE g (.inr (false, n1, zcpy f0 f1 sp dp n))) (show (H.setIfInBounds (g.base + k1) (vp_cell g.2.1 (n1, .inl (fun j : Nat => Int32.ofInt (zcpy f0 f1 sp dp n (j : Int))))))[g.base + k1]? = some _ by simp [Array.getElem?_setIfInBounds, hl]) oq
  obtain ⟨t, a1, b1⟩ := kk l p e s m args below meth c mc ms cells slots _ _ ls hC q1 q2 (zHW_up hW hb (fun a h => by cases h; exact hW.2.2.2 _ (_, n1, f1) hb) (by simp) hP') ⟨by simp; exact hS.1, fun q g1 g2 => by
      rw [oq q (fun e => g2 (by rw [e]; exact Nat.le_add_right _ _))]
      exact hS.2.1 q g1 g2, fun q hq => by
      rcases List.mem_append.mp hq with h | h
      · exact hS.2.2 q h
      · obtain ⟨z, -, hz⟩ := List.mem_map.mp h
        rw [← hz]
        exact Nat.le_add_right _ _⟩ hL _ hheap X'
  exact ⟨t, step t a1, b1⟩
end ZY
