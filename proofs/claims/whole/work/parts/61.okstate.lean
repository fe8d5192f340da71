/-! what holds of every whole state is kept by every call -/
section ZOKP
variable {N P : Int → Int} {u : Int}
theorem zundo_e {i j : Int} (h : ¬ zUz j) : zundo N P i j = N j := by
  unfold zundo
  rw [if_neg (by omega), if_neg (by omega), if_neg (by omega), if_neg (by omega), if_neg (by omega)]
theorem zundo_fu {i j v : Int} (h : ¬ zUz j) : zundo (zfu N j v) P i = zfu (zundo N P i) j v := by
  funext n
  simp only [zundo, zfu]
  (repeat' split) <;> first | rfl | (exfalso; omega)
theorem zundo_un {i k : Int} : zundo (zundo N P k) P i = zundo N P i := by
  funext n
  unfold zundo
  (repeat' split) <;> first | rfl | (exfalso; omega)
theorem zOKu_sn {F : (Int → Int) → Int → Int} (h : zOKu N u P) (hF : ∀ M, zOK M → M 0 = N 0 → M 1 = N 1 → M 5 = N 5 → M 6 = N 6 → M 7 = N 7 → zOK (F M)) (hc : ∀ i, zundo (F N) P i = F (zundo N P i)) : zOKu (F N) u P :=
  ⟨hF N h.1 rfl rfl rfl rfl rfl, h.2.1, fun i a b => by rw [hc]; exact hF _ (h.2.2 i a b) (zundo_e (by omega)) (zundo_e (by omega)) (zundo_e (by omega)) (zundo_e (by omega)) (zundo_e (by omega))⟩
theorem zOK_eq {N' : Int → Int} (h : zOK N) (e : ∀ j, 0 ≤ j → j < 168 → N' j = N j) : zOK N' := by
  obtain ⟨h0, h1, h2, h3, h4, h5, h6, h7⟩ := h
  refine ⟨?_, fun c a b => ?_, fun c r a b a2 b2 => ?_, fun s a b => ?_, fun s a b => ?_, fun i a b => ?_, fun i a b => ?_, fun i a b => ?_⟩
  · rw [zHd, e 0 (by omega) (by omega), e 1 (by omega) (by omega), e 2 (by omega) (by omega), e 3 (by omega) (by omega), e 4 (by omega) (by omega), e 5 (by omega) (by omega), e 6 (by omega) (by omega), e 7 (by omega) (by omega)]
    exact h0
  · rw [e 0 (by omega) (by omega)] at b; rw [e _ (by omega) (by omega), e _ (by omega) (by omega)]; exact h1 c a b
  · rw [e 0 (by omega) (by omega), e _ (by omega) (by omega)]; exact h2 c r a b a2 b2
  · rw [e 1 (by omega) (by omega)] at b; rw [e _ (by omega) (by omega), e _ (by omega) (by omega)]; exact h3 s a b
  · rw [e 2 (by omega) (by omega)] at b; rw [e _ (by omega) (by omega), e _ (by omega) (by omega), e _ (by omega) (by omega)]; exact h4 s a b
  · rw [e 5 (by omega) (by omega)] at b; rw [e 0 (by omega) (by omega), e _ (by omega) (by omega), e _ (by omega) (by omega), e _ (by omega) (by omega), e _ (by omega) (by omega)]; exact h5 i a b
  · rw [e 6 (by omega) (by omega)] at b; rw [e 0 (by omega) (by omega), e _ (by omega) (by omega), e _ (by omega) (by omega), e _ (by omega) (by omega), e _ (by omega) (by omega), e _ (by omega) (by omega)]; exact h6 i a b
  · rw [e 7 (by omega) (by omega)] at b; rw [e 1 (by omega) (by omega), e _ (by omega) (by omega), e _ (by omega) (by omega), e _ (by omega) (by omega), e _ (by omega) (by omega), e _ (by omega) (by omega)]; exact h7 i a b
theorem zOKu_eq {N' P' : Int → Int} (h : zOKu N u P) (e : ∀ j, 0 ≤ j → j < 168 → N' j = N j) (eP : ∀ j, 0 ≤ j → j < 480 → P' j = P j) : zOKu N' u P' := by
  refine ⟨zOK_eq h.1 e, h.2.1, fun i a b => zOK_eq (h.2.2 i a b) (fun j a2 b2 => ?_)⟩
  have hu := h.2.1
  unfold zundo
  (repeat' split) <;> first | exact eP _ (by omega) (by omega) | exact e j a2 b2
theorem znewr_e {c wk x y j : Int} (h : ¬ (j = 5 ∨ (92 + 4 * N 5 ≤ j ∧ j ≤ 95 + 4 * N 5))) : znewr N c wk x y j = N j := by
  unfold znewr; rw [zfu_ne (by omega), zfu_ne (by omega), zfu_ne (by omega), zfu_ne (by omega), zfu_ne (by omega)]
theorem znewr_5 {c wk x y : Int} : znewr N c wk x y 5 = N 5 + 1 := zfu_at
theorem znewr_v {c wk x y : Int} (h : 0 ≤ N 5) : znewr N c wk x y (92 + 4 * N 5) = c ∧ znewr N c wk x y (93 + 4 * N 5) = wk ∧ znewr N c wk x y (94 + 4 * N 5) = x ∧ znewr N c wk x y (95 + 4 * N 5) = y := by
  unfold znewr
  refine ⟨?_, ?_, ?_, ?_⟩
  · rw [zfu_ne (by omega), zfu_ne (by omega), zfu_ne (by omega), zfu_ne (by omega), zfu_at]
  · rw [show (93 : Int) + 4 * N 5 = 92 + 4 * N 5 + 1 by omega, zfu_ne (by omega), zfu_ne (by omega), zfu_ne (by omega), zfu_at]
  · rw [show (94 : Int) + 4 * N 5 = 92 + 4 * N 5 + 2 by omega, zfu_ne (by omega), zfu_ne (by omega), zfu_at]
  · rw [show (95 : Int) + 4 * N 5 = 92 + 4 * N 5 + 3 by omega, zfu_ne (by omega), zfu_at]
theorem znewr_ok {c wk x y : Int} (h : zOK N) (hf : N 5 < 4) (hc : 0 ≤ c ∧ c < N 0) (hw : 0 ≤ wk ∧ wk ≤ 99) (hx : 1 ≤ x ∧ x ≤ 9) (hy : 0 ≤ y ∧ y ≤ 9) : zOK (znewr N c wk x y) := by
  obtain ⟨h0, h1, h2, h3, h4, h5, h6, h7⟩ := h
  have e : ∀ j, ¬ (j = 5 ∨ (92 + 4 * N 5 ≤ j ∧ j ≤ 95 + 4 * N 5)) → znewr N c wk x y j = N j := fun j hj => znewr_e hj
  refine ⟨?_, fun c a b => ?_, fun c r a b a2 b2 => ?_, fun s a b => ?_, fun s a b => ?_, fun i a b => ?_, fun i a b => ?_, fun i a b => ?_⟩
  · rw [zHd, e 0 (by omega), e 1 (by omega), e 2 (by omega), e 3 (by omega), e 4 (by omega), znewr_5, e 6 (by omega), e 7 (by omega)]
    omega
  · rw [e 0 (by omega)] at b; rw [e _ (by omega), e _ (by omega)]; exact h1 c a b
  · rw [e 0 (by omega), e _ (by omega)]; exact h2 c r a b a2 b2
  · rw [e 1 (by omega)] at b; rw [e _ (by omega), e _ (by omega)]; exact h3 s a b
  · rw [e 2 (by omega)] at b; rw [e _ (by omega), e _ (by omega), e _ (by omega)]; exact h4 s a b
  · rw [znewr_5] at b
    rw [e 0 (by omega)]
    by_cases hi : i = N 5
    · obtain ⟨v0, v1, v2, v3⟩ := znewr_v (N := N) (c := c) (wk := wk) (x := x) (y := y) (by omega)
      rw [hi, v0, v1, v2, v3]; omega
    · rw [e (92 + 4 * i) (by omega), e (93 + 4 * i) (by omega), e (94 + 4 * i) (by omega), e (95 + 4 * i) (by omega)]; exact h5 i a (by omega)
  · rw [e 6 (by omega)] at b; rw [e 0 (by omega), e (108 + 5 * i) (by omega), e (109 + 5 * i) (by omega), e (110 + 5 * i) (by omega), e (111 + 5 * i) (by omega), e (112 + 5 * i) (by omega)]; exact h6 i a b
  · rw [e 7 (by omega)] at b; rw [e 1 (by omega), e (138 + 5 * i) (by omega), e (139 + 5 * i) (by omega), e (140 + 5 * i) (by omega), e (141 + 5 * i) (by omega), e (142 + 5 * i) (by omega)]; exact h7 i a b
theorem znewn_e {q z x0 x1 x2 x3 x4 j : Int} (h : ¬ (j = q ∨ (z + 5 * N q ≤ j ∧ j ≤ z + 5 * N q + 4))) : znewn N q z x0 x1 x2 x3 x4 j = N j := by
  unfold znewn; rw [zfu_ne (by omega), zfu_ne (by omega), zfu_ne (by omega), zfu_ne (by omega), zfu_ne (by omega), zfu_ne (by omega)]
theorem znewn_q {q z x0 x1 x2 x3 x4 : Int} : znewn N q z x0 x1 x2 x3 x4 q = N q + 1 := zfu_at
theorem znewn_v {q z x0 x1 x2 x3 x4 : Int} (h : q < z + 5 * N q) : znewn N q z x0 x1 x2 x3 x4 (z + 5 * N q) = x0 ∧ znewn N q z x0 x1 x2 x3 x4 (z + 5 * N q + 1) = x1 ∧ znewn N q z x0 x1 x2 x3 x4 (z + 5 * N q + 2) = x2 ∧ znewn N q z x0 x1 x2 x3 x4 (z + 5 * N q + 3) = x3 ∧ znewn N q z x0 x1 x2 x3 x4 (z + 5 * N q + 4) = x4 := by
  unfold znewn
  refine ⟨?_, ?_, ?_, ?_, ?_⟩
  · rw [zfu_ne (by omega), zfu_ne (by omega), zfu_ne (by omega), zfu_ne (by omega), zfu_ne (by omega), zfu_at]
  · rw [zfu_ne (by omega), zfu_ne (by omega), zfu_ne (by omega), zfu_ne (by omega), zfu_at]
  · rw [zfu_ne (by omega), zfu_ne (by omega), zfu_ne (by omega), zfu_at]
  · rw [zfu_ne (by omega), zfu_ne (by omega), zfu_at]
  · rw [zfu_ne (by omega), zfu_at]
theorem znewn6_ok {c s wk x co : Int} (h : zOK N) (hf : N 6 < 6) (hc : 0 ≤ c ∧ c < N 0) (hs : 0 ≤ s ∧ s ≤ 9) (hw : 0 ≤ wk ∧ wk ≤ 99) (hx : 0 ≤ x ∧ x ≤ 4) (hy : 0 ≤ co ∧ co ≤ 4) : zOK (znewn N 6 108 c s wk x co) := by
  obtain ⟨h0, h1, h2, h3, h4, h5, h6, h7⟩ := h
  have e : ∀ j, ¬ (j = 6 ∨ (108 + 5 * N 6 ≤ j ∧ j ≤ 108 + 5 * N 6 + 4)) → znewn N 6 108 c s wk x co j = N j := fun j hj => znewn_e hj
  refine ⟨?_, fun c a b => ?_, fun c r a b a2 b2 => ?_, fun s a b => ?_, fun s a b => ?_, fun i a b => ?_, fun i a b => ?_, fun i a b => ?_⟩
  · rw [zHd, e 0 (by omega), e 1 (by omega), e 2 (by omega), e 3 (by omega), e 4 (by omega), e 5 (by omega), znewn_q, e 7 (by omega)]
    omega
  · rw [e 0 (by omega)] at b; rw [e _ (by omega), e _ (by omega)]; exact h1 c a b
  · rw [e 0 (by omega), e _ (by omega)]; exact h2 c r a b a2 b2
  · rw [e 1 (by omega)] at b; rw [e _ (by omega), e _ (by omega)]; exact h3 s a b
  · rw [e 2 (by omega)] at b; rw [e _ (by omega), e _ (by omega), e _ (by omega)]; exact h4 s a b
  · rw [e 5 (by omega)] at b; rw [e 0 (by omega), e (92 + 4 * i) (by omega), e (93 + 4 * i) (by omega), e (94 + 4 * i) (by omega), e (95 + 4 * i) (by omega)]; exact h5 i a b
  · rw [znewn_q] at b
    rw [e 0 (by omega)]
    by_cases hi : i = N 6
    · obtain ⟨v0, v1, v2, v3, v4⟩ := znewn_v (N := N) (q := 6) (z := 108) (x0 := c) (x1 := s) (x2 := wk) (x3 := x) (x4 := co) (by omega)
      rw [hi, show (109 : Int) + 5 * N 6 = 108 + 5 * N 6 + 1 by omega, show (110 : Int) + 5 * N 6 = 108 + 5 * N 6 + 2 by omega, show (111 : Int) + 5 * N 6 = 108 + 5 * N 6 + 3 by omega, show (112 : Int) + 5 * N 6 = 108 + 5 * N 6 + 4 by omega, v0, v1, v2, v3, v4]; omega
    · rw [e (108 + 5 * i) (by omega), e (109 + 5 * i) (by omega), e (110 + 5 * i) (by omega), e (111 + 5 * i) (by omega), e (112 + 5 * i) (by omega)]; exact h6 i a (by omega)
  · rw [e 7 (by omega)] at b; rw [e 1 (by omega), e (138 + 5 * i) (by omega), e (139 + 5 * i) (by omega), e (140 + 5 * i) (by omega), e (141 + 5 * i) (by omega), e (142 + 5 * i) (by omega)]; exact h7 i a b
theorem znewn7_ok {s r v x y : Int} (h : zOK N) (hf : N 7 < 6) (hc : 0 ≤ s ∧ s < N 1) (hs : 1 ≤ r ∧ r ≤ 9) (hw : 0 ≤ v ∧ v ≤ 9) (hx : 0 ≤ x ∧ x ≤ 60) (hy : 0 ≤ y ∧ y ≤ 12) : zOK (znewn N 7 138 s r v x y) := by
  obtain ⟨h0, h1, h2, h3, h4, h5, h6, h7⟩ := h
  have e : ∀ j, ¬ (j = 7 ∨ (138 + 5 * N 7 ≤ j ∧ j ≤ 138 + 5 * N 7 + 4)) → znewn N 7 138 s r v x y j = N j := fun j hj => znewn_e hj
  refine ⟨?_, fun c a b => ?_, fun c r a b a2 b2 => ?_, fun s a b => ?_, fun s a b => ?_, fun i a b => ?_, fun i a b => ?_, fun i a b => ?_⟩
  · rw [zHd, e 0 (by omega), e 1 (by omega), e 2 (by omega), e 3 (by omega), e 4 (by omega), e 5 (by omega), e 6 (by omega), znewn_q]
    omega
  · rw [e 0 (by omega)] at b; rw [e _ (by omega), e _ (by omega)]; exact h1 c a b
  · rw [e 0 (by omega), e _ (by omega)]; exact h2 c r a b a2 b2
  · rw [e 1 (by omega)] at b; rw [e _ (by omega), e _ (by omega)]; exact h3 s a b
  · rw [e 2 (by omega)] at b; rw [e _ (by omega), e _ (by omega), e _ (by omega)]; exact h4 s a b
  · rw [e 5 (by omega)] at b; rw [e 0 (by omega), e (92 + 4 * i) (by omega), e (93 + 4 * i) (by omega), e (94 + 4 * i) (by omega), e (95 + 4 * i) (by omega)]; exact h5 i a b
  · rw [e 6 (by omega)] at b; rw [e 0 (by omega), e (108 + 5 * i) (by omega), e (109 + 5 * i) (by omega), e (110 + 5 * i) (by omega), e (111 + 5 * i) (by omega), e (112 + 5 * i) (by omega)]; exact h6 i a b
  · rw [znewn_q] at b
    rw [e 1 (by omega)]
    by_cases hi : i = N 7
    · obtain ⟨v0, v1, v2, v3, v4⟩ := znewn_v (N := N) (q := 7) (z := 138) (x0 := s) (x1 := r) (x2 := v) (x3 := x) (x4 := y) (by omega)
      rw [hi, show (139 : Int) + 5 * N 7 = 138 + 5 * N 7 + 1 by omega, show (140 : Int) + 5 * N 7 = 138 + 5 * N 7 + 2 by omega, show (141 : Int) + 5 * N 7 = 138 + 5 * N 7 + 3 by omega, show (142 : Int) + 5 * N 7 = 138 + 5 * N 7 + 4 by omega, v0, v1, v2, v3, v4]; omega
    · rw [e (138 + 5 * i) (by omega), e (139 + 5 * i) (by omega), e (140 + 5 * i) (by omega), e (141 + 5 * i) (by omega), e (142 + 5 * i) (by omega)]; exact h7 i a (by omega)
theorem zundo_newr {c wk x y i : Int} (h : 0 ≤ N 5) : zundo (znewr N c wk x y) P i = znewr (zundo N P i) c wk x y := by
  unfold znewr
  rw [show zundo N P i 5 = N 5 from zundo_e (by omega), zundo_fu (by omega), zundo_fu (by omega), zundo_fu (by omega), zundo_fu (by omega), zundo_fu (by omega)]
theorem zundo_newn {q z x0 x1 x2 x3 x4 i : Int} (h : 0 ≤ N q) (hq : q = 6 ∨ q = 7) (hz : 92 ≤ z) : zundo (znewn N q z x0 x1 x2 x3 x4) P i = znewn (zundo N P i) q z x0 x1 x2 x3 x4 := by
  unfold znewn
  rw [show zundo N P i q = N q from zundo_e (by omega), zundo_fu (by omega), zundo_fu (by omega), zundo_fu (by omega), zundo_fu (by omega), zundo_fu (by omega), zundo_fu (by omega)]
end ZOKP
section ZOKQ
variable {S : zSt}
theorem zOKS.n0 (h : zOKS S) {N : Int → Int} (hN : zOK N) : zOKS (sN0 S N 0) := ⟨⟨hN, by show (0 : Int) ≤ 0 ∧ (0 : Int) ≤ 8; omega, fun i a b => by have b : i < 0 := b; omega⟩, h.2⟩
theorem zOKS.mv (h : zOKS S) {N : Int → Int} (hN : zOK N) (e : ∀ j, ¬ zUz j → N j = S.1.1 j) : zOKS (sMv S N) := ⟨zOKu_next h.1 hN e, h.2⟩
theorem zOKS.sn (h : zOKS S) {N : Int → Int} (hN : zOKu N S.1.2.1 S.1.2.2) : zOKS (sN S N) := ⟨hN, h.2⟩
theorem zOKS.hd (h : zOKS S) : zHd S.1.1 := h.1.1.1
theorem k_store {v : Int} (h : zOKS S) : zOKS (o_store S v).2 := by
  unfold o_store; split
  · exact h.n0 (zempty_ok (by omega))
  · exact h
theorem k_cellar {a b : Int} (h : zOKS S) : zOKS (o_cellar S a b).2 := by
  have hH := h.hd
  unfold o_cellar; split
  · split
    · exact h
    · exact h.n0 (znewc_ok h.1.1 (by omega) (by omega) (by omega))
  · exact h
theorem k_stones {c r n : Int} (h : zOKS S) : zOKS (o_stones S c r n).2 := by
  unfold o_stones; split
  · rename_i q
    have hs := h.1.1.2.2.1 c r (by omega) (by have := h.hd; omega) (by omega) (by omega)
    exact h.n0 (zput_ok h.1.1 (by omega) (by omega) (by omega))
  · exact h
theorem k_straw {c s : Int} (h : zOKS S) : zOKS (o_straw S c s).2 := by
  unfold o_straw; split
  · exact h.n0 (zstraw_ok h.1.1 (by omega) (by omega))
  · exact h
theorem k_slinger {a b : Int} (h : zOKS S) : zOKS (o_slinger S a b).2 := by
  have hH := h.hd
  unfold o_slinger; split
  · split
    · exact h
    · exact h.n0 (znews_ok h.1.1 (by omega) (by omega) (by omega))
  · exact h
theorem k_cloud {a b : Int} (h : zOKS S) : zOKS (o_cloud S a b).2 := by
  have hH := h.hd
  unfold o_cloud; split
  · split
    · exact h
    · exact h.n0 (znewk_ok h.1.1 (by omega) (by omega) (by omega))
  · exact h
theorem k_type {c : Int} (h : zOKS S) : zOKS (o_type S c).2 := by
  unfold o_type; split
  · split
    · exact h
    · have hT := h.2.1
      refine ⟨h.1, ⟨?_, fun i a b => ?_⟩, h.2.2⟩
      · have := hT.1
        show 0 ≤ S.2.1.2 + 1 ∧ S.2.1.2 + 1 ≤ 150
        omega
      · have b : i < S.2.1.2 + 1 := b
        show 0 ≤ zfu S.2.1.1 S.2.1.2 c i ∧ zfu S.2.1.1 S.2.1.2 c i ≤ 127
        by_cases q : i = S.2.1.2
        · rw [q, zfu_at]; omega
        · rw [zfu_ne q]; exact hT.2 i a (by omega)
  · exact h
theorem k_clear (h : zOKS S) : zOKS (o_clear S).2 := by
  refine ⟨h.1, ⟨?_, fun i a b => ?_⟩, h.2.2⟩
  · show (0 : Int) ≤ 0 ∧ (0 : Int) ≤ 150; omega
  · have b : i < 0 := b
    omega
theorem k_read (h : zOKS S) : zOKS (o_read S).2 := by
  unfold o_read; split
  · rename_i q
    exact h.n0 ((zread_ok h.2.1).1 q)
  · exact h
theorem k_week {n : Int} (h : zOKS S) : zOKS (o_week S n).2 := by
  unfold o_week; split
  · exact h.mv (zweeks_ok h.1.1 _) (fun j hj => zweeks_out h.1.1 (by omega) (by omega) _)
  · exact h
theorem k_door {c : Int} (h : zOKS S) : zOKS (o_door S c).2 := by
  have hH := h.hd
  unfold o_door; split
  · have hc := zcost_b (S.1.1 (8 + c))
    exact h.mv (zlose_ok h.1.1 (by omega) hc.1) (fun j hj => zlose_out (by omega) (by omega))
  · exact h
theorem k_throwing {s c r q : Int} (h : zOKS S) : zOKS (o_throwing S s c r q).2 := by
  have hH := h.hd
  unfold o_throwing; split
  · split
    · exact h
    · refine h.mv (zthrow_ok h.1.1 (by omega) (by omega) (by omega) (by omega) (by omega)) (fun j hj => ?_)
      unfold zthrow
      rw [zfu_ne (by omega), zlose_out (by omega) (by omega), zfu_ne (by omega)]
  · exact h
theorem k_hour (h : zOKS S) : zOKS (o_hour S).2 := by
  have hH := h.hd
  exact h.mv (zhourTo_ok h.1.1 (by omega)) (fun j hj => zhourTo_out (by omega))
theorem k_wind {v : Int} (h : zOKS S) : zOKS (o_wind S v).2 := by
  unfold o_wind; split
  · exact h.mv (zfu4_ok h.1.1 (by omega)) (fun j hj => zfu_ne (by omega))
  · exact h
theorem k_undo (h : zOKS S) : zOKS (o_undo S).2 := by
  have hu := h.1.2.1
  unfold o_undo; split
  · exact h
  · refine ⟨⟨h.1.2.2 _ (by omega) (by omega), ?_, fun i a b => ?_⟩, h.2⟩
    · show 0 ≤ S.1.2.1 - 1 ∧ S.1.2.1 - 1 ≤ 8; omega
    · have b : i < S.1.2.1 - 1 := b
      show zOK (zundo (zundo S.1.1 S.1.2.2 (S.1.2.1 - 1)) S.1.2.2 i)
      rw [zundo_un]; exact h.1.2.2 i a (by omega)
theorem k_rings {c wk x y : Int} (h : zOKS S) : zOKS (o_rings S c wk x y).2 := by
  have hH := h.hd
  unfold o_rings; split
  · split
    · exact h
    · exact h.sn (zOKu_sn (F := fun M => znewr M c wk x y) h.1 (fun M hM e0 e1 e5 e6 e7 => znewr_ok hM (by omega) (by omega) (by omega) (by omega) (by omega)) (fun i => zundo_newr (by omega)))
  · exact h
theorem k_note {c s wk x co : Int} (h : zOKS S) : zOKS (o_note S c s wk x co).2 := by
  have hH := h.hd
  unfold o_note; split
  · split
    · exact h
    · exact h.sn (zOKu_sn (F := fun M => znewn M 6 108 c s wk x co) h.1 (fun M hM e0 e1 e5 e6 e7 => znewn6_ok hM (by omega) (by omega) (by omega) (by omega) (by omega) (by omega)) (fun i => zundo_newn (by omega) (by omega) (by omega)))
  · exact h
theorem k_flew {s r v x y : Int} (h : zOKS S) : zOKS (o_flew S s r v x y).2 := by
  have hH := h.hd
  unfold o_flew; split
  · split
    · exact h
    · exact h.sn (zOKu_sn (F := fun M => znewn M 7 138 s r v x y) h.1 (fun M hM e0 e1 e5 e6 e7 => znewn7_ok hM (by omega) (by omega) (by omega) (by omega) (by omega) (by omega)) (fun i => zundo_newn (by omega) (by omega) (by omega)))
  · exact h
theorem k_forget {x : Int} (h : zOKS S) : zOKS (o_forget S x).2 := by
  unfold o_forget; split
  · have hx : x = 0 ∨ x = 1 ∨ x = 2 := by omega
    rcases hx with hx | hx | hx
    · subst hx; exact h.sn (zOKu_sn (F := fun M => zfu M 5 0) h.1 (fun M hM _ _ _ _ _ => zforget5_ok hM) (fun i => zundo_fu (by omega)))
    · subst hx; exact h.sn (zOKu_sn (F := fun M => zfu M 6 0) h.1 (fun M hM _ _ _ _ _ => zforget6_ok hM) (fun i => zundo_fu (by omega)))
    · subst hx; exact h.sn (zOKu_sn (F := fun M => zfu M 7 0) h.1 (fun M hM _ _ _ _ _ => zforget7_ok hM) (fun i => zundo_fu (by omega)))
  · exact h
theorem k_from {i : Int} (h : zOKS S) : zOKS (o_from S i).2 := by
  unfold o_from; split
  · rename_i q
    have h9 := h.2.2 i (by omega) (by omega)
    split
    · exact h
    · exact ⟨h9.2 (by omega), h.2⟩
  · exact h
theorem k_image {i : Int} (h : zOKS S) : zOKS (o_image S i).2 := by
  unfold o_image; split
  · refine ⟨h.1, h.2.1, fun m a b => ?_⟩
    have h9 := h.2.2 m a b
    show (zfu S.2.2.2.2.2.1 i 1 m = 0 ∨ zfu S.2.2.2.2.2.1 i 1 m = 1) ∧ (zfu S.2.2.2.2.2.1 i 1 m = 1 → zOKu (fun j => zimg S.2.2.2.2.1 S.1.1 168 i (168 * m + j)) (zfu S.2.2.2.2.2.2.1 i S.1.2.1 m) (fun j => zimg S.2.2.2.2.2.2.2 S.1.2.2 480 i (480 * m + j)))
    by_cases hm : m = i
    · rw [hm, zfu_at, zfu_at]
      refine ⟨Or.inr rfl, fun _ => zOKu_eq h.1 (fun j a b => ?_) (fun j a b => ?_)⟩
      · show zimg S.2.2.2.2.1 S.1.1 168 i (168 * i + j) = _
        unfold zimg; rw [if_pos (by omega)]; exact congrArg _ (by omega)
      · show zimg S.2.2.2.2.2.2.2 S.1.2.2 480 i (480 * i + j) = _
        unfold zimg; rw [if_pos (by omega)]; exact congrArg _ (by omega)
    · rw [zfu_ne hm, zfu_ne hm]
      refine ⟨h9.1, fun z => zOKu_eq (h9.2 z) (fun j a b => ?_) (fun j a b => ?_)⟩
      · show zimg S.2.2.2.2.1 S.1.1 168 i (168 * m + j) = S.2.2.2.2.1 (168 * m + j)
        unfold zimg; rw [if_neg (by omega)]
      · show zimg S.2.2.2.2.2.2.2 S.1.2.2 480 i (480 * m + j) = S.2.2.2.2.2.2.2 (480 * m + j)
        unfold zimg; rw [if_neg (by omega)]
  · exact h
theorem k_of {c x : Int} (h : zOKS S) : zOKS (o_of S c x).2 := by
  unfold o_of
  (repeat' split) <;> exact h
theorem k_has {c r : Int} (h : zOKS S) : zOKS (o_has S c r).2 := by
  unfold o_has
  (repeat' split) <;> exact h
theorem k_about {s x : Int} (h : zOKS S) : zOKS (o_about S s x).2 := by
  unfold o_about
  (repeat' split) <;> exact h
theorem k_sky {q x : Int} (h : zOKS S) : zOKS (o_sky S q x).2 := by
  unfold o_sky
  (repeat' split) <;> exact h
theorem k_melts {c wk : Int} (h : zOKS S) : zOKS (o_melts S c wk).2 := by
  unfold o_melts
  (repeat' split) <;> exact h
theorem k_then {c m dd x : Int} (h : zOKS S) : zOKS (o_then S c m dd x).2 := by
  unfold o_then
  (repeat' split) <;> exact h
theorem k_lasts {c r : Int} (h : zOKS S) : zOKS (o_lasts S c r).2 := by
  unfold o_lasts
  (repeat' split) <;> exact h
theorem k_least {c r m : Int} (h : zOKS S) : zOKS (o_least S c r m).2 := by
  unfold o_least
  (repeat' split) <;> exact h
theorem k_throwsOf {s r x : Int} (h : zOKS S) : zOKS (o_throwsOf S s r x).2 := by
  unfold o_throwsOf
  (repeat' split) <;> exact h
theorem k_reach {s q : Int} (h : zOKS S) : zOKS (o_reach S s q).2 := by
  unfold o_reach
  (repeat' split) <;> exact h
theorem k_turn {q s c x : Int} (h : zOKS S) : zOKS (o_turn S q s c x).2 := by
  unfold o_turn
  (repeat' split) <;> exact h
theorem k_meet {r s : Int} (h : zOKS S) : zOKS (o_meet S r s).2 := by
  unfold o_meet
  (repeat' split) <;> exact h
theorem k_doors {r x : Int} (h : zOKS S) : zOKS (o_doors S r x).2 := by
  unfold o_doors
  (repeat' split) <;> exact h
theorem k_cooled {i : Int} (h : zOKS S) : zOKS (o_cooled S i).2 := by
  unfold o_cooled
  (repeat' split) <;> exact h
theorem k_even {c : Int} (h : zOKS S) : zOKS (o_even S c).2 := by
  unfold o_even
  (repeat' split) <;> exact h
theorem k_is {c : Int} (h : zOKS S) : zOKS (o_is S c).2 := by
  unfold o_is
  (repeat' split) <;> exact h
theorem k_watch {c : Int} (h : zOKS S) : zOKS (o_watch S c).2 := by
  unfold o_watch
  (repeat' split) <;> exact h
theorem k_who {s : Int} (h : zOKS S) : zOKS (o_who S s).2 := by
  unfold o_who
  (repeat' split) <;> exact h
theorem k_ask {s : Int} (h : zOKS S) : zOKS (o_ask S s).2 := by
  unfold o_ask
  (repeat' split) <;> exact h
theorem k_parishes {a b q r : Int} (h : zOKS S) : zOKS (o_parishes S a b q r).2 := by
  unfold o_parishes
  (repeat' split) <;> exact h
theorem k_gusts {s q r n c : Int} (h : zOKS S) : zOKS (o_gusts S s q r n c).2 := by
  unfold o_gusts
  (repeat' split) <;> exact h
theorem k_summers {a b : Int} (h : zOKS S) : zOKS (o_summers S a b).2 := by
  unfold o_summers
  (repeat' split) <;> exact h
theorem k_part {x : Int} (h : zOKS S) : zOKS (o_part S x).2 := by
  unfold o_part
  (repeat' split) <;> exact h
theorem k_status {x : Int} (h : zOKS S) : zOKS (o_status S x).2 := by
  unfold o_status
  (repeat' split) <;> exact h
theorem k_count {x : Int} (h : zOKS S) : zOKS (o_count S x).2 := by
  unfold o_count
  (repeat' split) <;> exact h
theorem k_digest (h : zOKS S) : zOKS (o_digest S ).2 := by
  unfold o_digest
  (repeat' split) <;> exact h
end ZOKQ
