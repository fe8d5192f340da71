/-! the law's whole body -/
theorem zShp.low {g : zG} {w w' : zWd} {b : Nat} (h : zShp g w b) (e : ∀ i, b ≤ i → i < b + 15 → w'.1 i = w.1 i) : zShp g w' b := by
  obtain ⟨N, C0, C1, C2, C3, C4, C5, C6, u, hO, h0, h1, h2, h3, h4, h5, h6⟩ := h
  exact ⟨N, C0, C1, C2, C3, C4, C5, C6, u, (e b (by omega) (by omega)).trans hO, h0.low (fun i a b => e i (by omega) (by omega)), h1.low (fun i a b => e i (by omega) (by omega)), h2.low (fun i a b => e i (by omega) (by omega)), h3.low (fun i a b => e i (by omega) (by omega)), h4.low (fun i a b => e i (by omega) (by omega)), h5.low (fun i a b => e i (by omega) (by omega)), h6.low (fun i a b => e i (by omega) (by omega))⟩
theorem zCl.low {g : zG} {w w' : zWd} {S : zSt} (h : zCl g w S) (e : ∀ i, i < 72 → w'.1 i = w.1 i) : zCl g w' S := by
  obtain ⟨h1, h2, h3, h4, h5, h6, h7, ⟨a, b, c, n, h8, h8'⟩, h9, k1, k2, ⟨f3, k3⟩, ⟨f4, k4⟩, ⟨f5, k5⟩, ⟨f6, k6⟩, ⟨f7, k7⟩, k8, f9, k9⟩ := h
  exact ⟨(e 0 (by omega)).trans h1, h2.low (fun i a b => e i (by omega)), h3.low (fun i a b => e i (by omega)), h4.low (fun i a b => e i (by omega)), h5.low (fun i a b => e i (by omega)), fun z => (h6 z).low (fun i a b => e i (by omega)), fun z => (h7 z).low (fun i a b => e i (by omega)), ⟨a, b, c, n, (e 61 (by omega)).trans h8, h8'⟩, (e 62 (by omega)).trans h9, (e 63 (by omega)).trans k1, (e 64 (by omega)).trans k2, ⟨f3, (e 65 (by omega)).trans k3⟩, ⟨f4, (e 66 (by omega)).trans k4⟩, ⟨f5, (e 67 (by omega)).trans k5⟩, ⟨f6, (e 68 (by omega)).trans k6⟩, ⟨f7, (e 69 (by omega)).trans k7⟩, (e 70 (by omega)).trans k8, f9, (e 71 (by omega)).trans k9⟩
theorem zS0_ok : zOKS zS0 := by
  have hz : zOK (fun _ => 0) := zOK_eq (zempty_ok (v := 0) (by omega)) (fun j a b => by unfold zempty; split <;> rfl)
  refine ⟨⟨hz, ?_, fun i a b => ?_⟩, ⟨?_, fun i a b => ?_⟩, fun i a b => ⟨Or.inl rfl, fun z => ?_⟩⟩
  · show (0 : Int) ≤ 0 ∧ (0 : Int) ≤ 8; omega
  · have b : i < 0 := b
    omega
  · show (0 : Int) ≤ 0 ∧ (0 : Int) ≤ 150; omega
  · have b : i < 0 := b
    omega
  · exact absurd (show (0 : Int) = 1 from z) (by decide)
section LAWB
variable {b L : Nat} {xs : Nat → Int32} {g : zG}
set_option maxRecDepth 100000 in
set_option maxHeartbeats 8000000 in
theorem law_body (hbg : b < g.base) (hL0 : L ≤ 384) : zRunsX (zScp b L xs) g 9 mL_law 88 5772 0 [some (.ref b), none, none, none] [] (fun _ => none, 0) (fun v _ => v = some (zI 1)) := by
  refine x_new (pc := 0) nw_L_7 dL_law_0 87 5757 (Nat.le_of_ble_eq_true rfl) (Nat.le_of_ble_eq_true rfl) ?_
  refine x_dup (pc := 3) rfl dL_law_3 ?_
  refine x_invokeinit (pc := 4) (d' := 9 - 1) (mc' := 71) (ms' := 3229) (As := []) cl_L_9 dL_law_4 rfl rfl (by omega) rfl 16 2528 (Nat.le_of_ble_eq_true rfl) (Nat.le_of_ble_eq_true rfl) ?_
  refine c_X7_init (by omega) rfl znew_at (fun w1 e1 hC => ?_)
  obtain ⟨f1, m1⟩ := w1
  obtain rfl : m1 = 72 := e1
  refine x_astore_n (pc := 7) [some _, some _, none, none] dL_law_7 rfl rfl (Nat.le_of_ble_eq_true rfl) rfl ?_
  refine x_new (pc := 8) nw_L_10 dL_law_8 15 2502 (Nat.le_of_ble_eq_true rfl) (Nat.le_of_ble_eq_true rfl) ?_
  refine x_dup (pc := 11) rfl dL_law_11 ?_
  refine x_invokeinit (pc := 12) (d' := 9 - 1) (mc' := 15) (ms' := 2502) (As := []) cl_L_12 dL_law_12 rfl rfl (by omega) rfl 0 0 (Nat.le_of_ble_eq_true rfl) (Nat.le_of_ble_eq_true rfl) ?_
  refine c_X8_init (by omega) rfl znew_at (fun w2 e2 hl2 hM => ?_)
  have hC2 : zCl g w2 zS0 := hC.low (fun i hi => (hl2 i (by omega)).trans (znew_ne (show i ≠ 72 by omega)))
  refine x_astore_n (pc := 15) [some _, some _, some _, none] dL_law_15 rfl rfl (Nat.le_of_ble_eq_true rfl) rfl ?_
  refine x_iconst (pc := 16) dL_law_16 ?_
  refine x_istore_n (pc := 17) [some _, some _, some _, some _] dL_law_17 rfl (Nat.le_of_ble_eq_true rfl) rfl ?_
  exact law_loop hbg hL0 (L + 1) 0 w2 zS0 (by omega) (by omega) (by omega) hC2 hM zS0_ok
end LAWB
