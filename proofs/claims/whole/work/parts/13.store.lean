/-! the Store's methods, in the reference's numbers -/
def zsg (f : Int → Int) : Nat → Int → Int
  | 0, _ => 0
  | n + 1, a => zsg f n a + f (a + (n : Int))
def zfrom (N : Int → Int) (c r : Int) : Int := zsg (fun i => N (18 + 10 * c + i)) (10 - max 1 r).toNat (max 1 r)
def zall (N : Int → Int) : Int := zsg (fun c => zfrom N c 1) (N 0).toNat 0
def zgr (f : Int → Int) : Nat → Int
  | 0 => 0
  | n + 1 => if 0 < f ((n : Int) + 1) then (n : Int) + 1 else zgr f n
def zgreat (N : Int → Int) (c : Int) : Int := zgr (fun r => N (18 + 10 * c + r)) 9
def zlose (N : Int → Int) (c n : Int) : Int → Int := fun j => if 18 + 10 * c + 1 ≤ j ∧ j ≤ 18 + 10 * c + 9 then (if j - (18 + 10 * c) + n ≤ 9 then N (j + n) else 0) else N j
def zweekTo (N : Int → Int) : Nat → Int → Int
  | 0 => N
  | m + 1 => zlose (zweekTo N m) (m : Int) (zmelt (N (8 + (m : Int))) (N 3) (N (13 + (m : Int))))
def zweek (N : Int → Int) : Int → Int := zfu (zweekTo N (N 0).toNat) 3 (N 3 + 1)
def zweeks (N : Int → Int) : Nat → Int → Int
  | 0 => N
  | m + 1 => if zweeks N m 3 < 999 then zweek (zweeks N m) else zweeks N m
abbrev zTn (N : Int → Int) (k : Int) : Prop := N (84 + k) ≤ N (88 + k)
def zturned (N : Int → Int) : Int := zsg (fun k => zb (zTn N k)) (N 2).toNat 0
abbrev zRch (N : Int → Int) (s k r v : Int) : Prop := 0 < N (80 + k) ∧ N (80 + k) ≤ zfar (N (68 + s)) (N (74 + s)) r v
def zhat (N : Int → Int) (s k r v : Int) : Int := if zRch N s k r v then zhits (N (68 + s)) r else 0
def zthrow (N : Int → Int) (s c r k : Int) : Int → Int := zfu (zlose (zfu N (18 + 10 * c + r) (N (18 + 10 * c + r) - 1)) c (zcost (N (8 + c)))) (88 + k) (min 40 (N (88 + k) + zhat N s k r (N 4)))
def zhourTo (N : Int → Int) : Nat → Int → Int
  | 0 => N
  | m + 1 => if zTn N (m : Int) then zhourTo N m else zfu (zhourTo N m) (80 + (m : Int)) (max 0 (N (80 + (m : Int)) - 1))
def zhour (N : Int → Int) : Int → Int := zhourTo N (N 2).toNat
def zhere (N : Int → Int) : Int := zsg (fun k => zb (zhour N (80 + k) = 0)) (N 2).toNat 0
section X6
variable {g : zG} {d : Nat} {w : zWd} {K : Option Value → zWd → Prop} {b : Nat} {N P : Int → Int} {u : Int}
theorem s_get_kind {c : Int} (hd : 1 ≤ d) (hS : zSto g w b N u P) (hH : zHd N) (hc : 0 ≤ c ∧ c < N 0) (k : K (some (zI (N (8 + c)))) w) : zCall g d 0 0 mX4_get [zR g (b + 1), zI c, zI 0] w K := by
  obtain ⟨C0, C1, C2, C3, C4, C5, C6, hO, h0, h1, h2, h3, h4, h5, h6, r0, r1, r2, r3, r4, r5, r6⟩ := hS
  have hh := hH
  exact c_X4_get hd h0 ⟨by omega, by omega, by omega, by omega, by omega, by omega⟩ hc (by omega) (by rw [(r0 c hc.1 hc.2).1]; exact k)
theorem s_get_straw {c : Int} (hd : 1 ≤ d) (hS : zSto g w b N u P) (hH : zHd N) (hc : 0 ≤ c ∧ c < N 0) (k : K (some (zI (N (13 + c)))) w) : zCall g d 0 0 mX4_get [zR g (b + 1), zI c, zI 1] w K := by
  obtain ⟨C0, C1, C2, C3, C4, C5, C6, hO, h0, h1, h2, h3, h4, h5, h6, r0, r1, r2, r3, r4, r5, r6⟩ := hS
  have hh := hH
  exact c_X4_get hd h0 ⟨by omega, by omega, by omega, by omega, by omega, by omega⟩ hc (by omega) (by rw [(r0 c hc.1 hc.2).2.1]; exact k)
theorem s_get_stone {c r : Int} (hd : 1 ≤ d) (hS : zSto g w b N u P) (hH : zHd N) (hc : 0 ≤ c ∧ c < N 0) (hr : 1 ≤ r ∧ r ≤ 9) (k : K (some (zI (N (18 + 10 * c + r)))) w) : zCall g d 0 0 mX4_get [zR g (b + 1), zI c, zI (1 + r)] w K := by
  obtain ⟨C0, C1, C2, C3, C4, C5, C6, hO, h0, h1, h2, h3, h4, h5, h6, r0, r1, r2, r3, r4, r5, r6⟩ := hS
  have hh := hH
  exact c_X4_get hd h0 ⟨by omega, by omega, by omega, by omega, by omega, by omega⟩ hc (by omega) (by rw [(r0 c hc.1 hc.2).2.2 r hr.1 hr.2]; exact k)
theorem s_get_sort {s : Int} (hd : 1 ≤ d) (hS : zSto g w b N u P) (hH : zHd N) (hs : 0 ≤ s ∧ s < N 1) (k : K (some (zI (N (68 + s)))) w) : zCall g d 0 0 mX4_get [zR g (b + 3), zI s, zI 0] w K := by
  obtain ⟨C0, C1, C2, C3, C4, C5, C6, hO, h0, h1, h2, h3, h4, h5, h6, r0, r1, r2, r3, r4, r5, r6⟩ := hS
  have hh := hH
  exact c_X4_get hd h1 ⟨by omega, by omega, by omega, by omega, by omega, by omega⟩ hs (by omega) (by rw [(r1 s hs.1 hs.2).1]; exact k)
theorem s_get_arm {s : Int} (hd : 1 ≤ d) (hS : zSto g w b N u P) (hH : zHd N) (hs : 0 ≤ s ∧ s < N 1) (k : K (some (zI (N (74 + s)))) w) : zCall g d 0 0 mX4_get [zR g (b + 3), zI s, zI 1] w K := by
  obtain ⟨C0, C1, C2, C3, C4, C5, C6, hO, h0, h1, h2, h3, h4, h5, h6, r0, r1, r2, r3, r4, r5, r6⟩ := hS
  have hh := hH
  exact c_X4_get hd h1 ⟨by omega, by omega, by omega, by omega, by omega, by omega⟩ hs (by omega) (by rw [(r1 s hs.1 hs.2).2]; exact k)
theorem s_get_far {q : Int} (hd : 1 ≤ d) (hS : zSto g w b N u P) (hH : zHd N) (hs : 0 ≤ q ∧ q < N 2) (k : K (some (zI (N (80 + q)))) w) : zCall g d 0 0 mX4_get [zR g (b + 5), zI q, zI 0] w K := by
  obtain ⟨C0, C1, C2, C3, C4, C5, C6, hO, h0, h1, h2, h3, h4, h5, h6, r0, r1, r2, r3, r4, r5, r6⟩ := hS
  have hh := hH
  exact c_X4_get hd h2 ⟨by omega, by omega, by omega, by omega, by omega, by omega⟩ hs (by omega) (by rw [(r2 q hs.1 hs.2).1]; exact k)
theorem s_get_need {q : Int} (hd : 1 ≤ d) (hS : zSto g w b N u P) (hH : zHd N) (hs : 0 ≤ q ∧ q < N 2) (k : K (some (zI (N (84 + q)))) w) : zCall g d 0 0 mX4_get [zR g (b + 5), zI q, zI 1] w K := by
  obtain ⟨C0, C1, C2, C3, C4, C5, C6, hO, h0, h1, h2, h3, h4, h5, h6, r0, r1, r2, r3, r4, r5, r6⟩ := hS
  have hh := hH
  exact c_X4_get hd h2 ⟨by omega, by omega, by omega, by omega, by omega, by omega⟩ hs (by omega) (by rw [(r2 q hs.1 hs.2).2.1]; exact k)
theorem s_get_hits {q : Int} (hd : 1 ≤ d) (hS : zSto g w b N u P) (hH : zHd N) (hs : 0 ≤ q ∧ q < N 2) (k : K (some (zI (N (88 + q)))) w) : zCall g d 0 0 mX4_get [zR g (b + 5), zI q, zI 2] w K := by
  obtain ⟨C0, C1, C2, C3, C4, C5, C6, hO, h0, h1, h2, h3, h4, h5, h6, r0, r1, r2, r3, r4, r5, r6⟩ := hS
  have hh := hH
  exact c_X4_get hd h2 ⟨by omega, by omega, by omega, by omega, by omega, by omega⟩ hs (by omega) (by rw [(r2 q hs.1 hs.2).2.2]; exact k)
theorem s_get_ring {i j : Int} (hd : 1 ≤ d) (hS : zSto g w b N u P) (hH : zHd N) (hi : 0 ≤ i ∧ i < N 5) (hj : 0 ≤ j ∧ j < 4) (k : K (some (zI (N (92 + 4 * i + j)))) w) : zCall g d 0 0 mX4_get [zR g (b + 7), zI i, zI j] w K := by
  obtain ⟨C0, C1, C2, C3, C4, C5, C6, hO, h0, h1, h2, h3, h4, h5, h6, r0, r1, r2, r3, r4, r5, r6⟩ := hS
  have hh := hH
  exact c_X4_get hd h3 ⟨by omega, by omega, by omega, by omega, by omega, by omega⟩ hi hj (by rw [r3 i j hi.1 hi.2 hj.1 hj.2]; exact k)
theorem s_get_note {i j : Int} (hd : 1 ≤ d) (hS : zSto g w b N u P) (hH : zHd N) (hi : 0 ≤ i ∧ i < N 6) (hj : 0 ≤ j ∧ j < 5) (k : K (some (zI (N (108 + 5 * i + j)))) w) : zCall g d 0 0 mX4_get [zR g (b + 9), zI i, zI j] w K := by
  obtain ⟨C0, C1, C2, C3, C4, C5, C6, hO, h0, h1, h2, h3, h4, h5, h6, r0, r1, r2, r3, r4, r5, r6⟩ := hS
  have hh := hH
  exact c_X4_get hd h4 ⟨by omega, by omega, by omega, by omega, by omega, by omega⟩ hi hj (by rw [r4 i j hi.1 hi.2 hj.1 hj.2]; exact k)
theorem s_get_flight {i j : Int} (hd : 1 ≤ d) (hS : zSto g w b N u P) (hH : zHd N) (hi : 0 ≤ i ∧ i < N 7) (hj : 0 ≤ j ∧ j < 5) (k : K (some (zI (N (138 + 5 * i + j)))) w) : zCall g d 0 0 mX4_get [zR g (b + 11), zI i, zI j] w K := by
  obtain ⟨C0, C1, C2, C3, C4, C5, C6, hO, h0, h1, h2, h3, h4, h5, h6, r0, r1, r2, r3, r4, r5, r6⟩ := hS
  have hh := hH
  exact c_X4_get hd h5 ⟨by omega, by omega, by omega, by omega, by omega, by omega⟩ hi hj (by rw [r5 i j hi.1 hi.2 hj.1 hj.2]; exact k)
theorem s_put_stone {c r v : Int} (hd : 1 ≤ d) (hS : zSto g w b N u P) (hH : zHd N) (hc : 0 ≤ c ∧ c < N 0) (hr : 1 ≤ r ∧ r ≤ 9) (k : ∀ w', zSame w w' b 15 → zSto g w' b (zfu N (18 + 10 * c + r) v) u P → K none w') : zCall g d 0 0 mX4_put [zR g (b + 1), zI c, zI (1 + r), zI v] w K := by
  obtain ⟨C0, C1, C2, C3, C4, C5, C6, hO, h0, h1, h2, h3, h4, h5, h6, r0, r1, r2, r3, r4, r5, r6⟩ := hS
  have hh := hH
  refine c_X4_put_in hd h0 ⟨by omega, by omega, by omega, by omega, by omega, by omega⟩ (by omega) (by omega) (fun w' hs hT => k w' (hs.wide (by omega) (by omega)) ?_)
  have e : ∀ j, j ≠ 18 + 10 * c + r → zfu N (18 + 10 * c + r) v j = N j := fun j hj => if_neg hj
  refine ⟨zfu C0 (c * 11 + (1 + r)) v, C1, C2, C3, C4, C5, C6, ?_, ?_, ?_, ?_, ?_, ?_, ?_, ?_, ?_, ?_, ?_, ?_, ?_, ?_, ?_⟩
  · rw [hs.2 b (by omega), hO, zSobj, zSobj, e 3 (by omega), e 4 (by omega)]
  · rw [e 0 (by omega)]; exact hT
  · rw [e 1 (by omega)]; exact h1.keep hs (by omega)
  · rw [e 2 (by omega)]; exact h2.keep hs (by omega)
  · rw [e 5 (by omega)]; exact h3.keep hs (by omega)
  · rw [e 6 (by omega)]; exact h4.keep hs (by omega)
  · rw [e 7 (by omega)]; exact h5.keep hs (by omega)
  · exact h6.keep hs (by omega)
  · intro c2 h1 h2
    rw [e 0 (by omega)] at h2
    obtain ⟨q1, q2, q3⟩ := r0 c2 h1 h2
    refine ⟨?_, ?_, fun r2 h3 h4 => ?_⟩
    · rw [e _ (by omega), ← q1]; exact if_neg (by omega)
    · rw [e _ (by omega), ← q2]; exact if_neg (by omega)
    · by_cases h5 : c2 = c ∧ r2 = r
      · rw [h5.1, h5.2]; simp only [zfu, if_pos]
      · rw [e _ (by omega), ← q3 r2 h3 h4]; exact if_neg (by omega)
  · intro s h1 h2
    rw [e 1 (by omega)] at h2
    rw [e _ (by omega), e _ (by omega)]; exact r1 s h1 h2
  · intro s h1 h2
    rw [e 2 (by omega)] at h2
    rw [e _ (by omega), e _ (by omega), e _ (by omega)]; exact r2 s h1 h2
  · intro i j h1 h2 h3 h4
    rw [e 5 (by omega)] at h2
    rw [e _ (by omega)]; exact r3 i j h1 h2 h3 h4
  · intro i j h1 h2 h3 h4
    rw [e 6 (by omega)] at h2
    rw [e _ (by omega)]; exact r4 i j h1 h2 h3 h4
  · intro i j h1 h2 h3 h4
    rw [e 7 (by omega)] at h2
    rw [e _ (by omega)]; exact r5 i j h1 h2 h3 h4
  · intro i h1 h2
    obtain ⟨q1, q2, q3, q4⟩ := r6 i h1 h2
    refine ⟨q1, q2, fun c2 h3 h4 => ?_, fun k2 h3 h4 => ?_⟩
    · rw [e 0 (by omega)] at h4
      rw [e _ (by omega), e _ (by omega)]; exact q3 c2 h3 h4
    · rw [e 2 (by omega)] at h4
      rw [e _ (by omega)]; exact q4 k2 h3 h4
theorem s_put_straw {c v : Int} (hd : 1 ≤ d) (hS : zSto g w b N 0 P) (hH : zHd N) (hc : 0 ≤ c ∧ c < N 0) (k : ∀ w', zSame w w' b 15 → zSto g w' b (zfu N (13 + c) v) 0 P → K none w') : zCall g d 0 0 mX4_put [zR g (b + 1), zI c, zI 1, zI v] w K := by
  obtain ⟨C0, C1, C2, C3, C4, C5, C6, hO, h0, h1, h2, h3, h4, h5, h6, r0, r1, r2, r3, r4, r5, r6⟩ := hS
  have hh := hH
  refine c_X4_put_in hd h0 ⟨by omega, by omega, by omega, by omega, by omega, by omega⟩ (by omega) (by omega) (fun w' hs hT => k w' (hs.wide (by omega) (by omega)) ?_)
  have e : ∀ j, j ≠ 13 + c → zfu N (13 + c) v j = N j := fun j hj => if_neg hj
  refine ⟨zfu C0 (c * 11 + 1) v, C1, C2, C3, C4, C5, C6, ?_, ?_, ?_, ?_, ?_, ?_, ?_, ?_, ?_, ?_, ?_, ?_, ?_, ?_, ?_⟩
  · rw [hs.2 b (by omega), hO, zSobj, zSobj, e 3 (by omega), e 4 (by omega)]
  · rw [e 0 (by omega)]; exact hT
  · rw [e 1 (by omega)]; exact h1.keep hs (by omega)
  · rw [e 2 (by omega)]; exact h2.keep hs (by omega)
  · rw [e 5 (by omega)]; exact h3.keep hs (by omega)
  · rw [e 6 (by omega)]; exact h4.keep hs (by omega)
  · rw [e 7 (by omega)]; exact h5.keep hs (by omega)
  · exact h6.keep hs (by omega)
  · intro c2 h1 h2
    rw [e 0 (by omega)] at h2
    obtain ⟨q1, q2, q3⟩ := r0 c2 h1 h2
    refine ⟨?_, ?_, fun r2 h3 h4 => ?_⟩
    · rw [e _ (by omega), ← q1]; exact if_neg (by omega)
    · by_cases h5 : c2 = c
      · rw [h5]; simp only [zfu, if_pos]
      · rw [e _ (by omega), ← q2]; exact if_neg (by omega)
    · rw [e _ (by omega), ← q3 r2 h3 h4]; exact if_neg (by omega)
  · intro s h1 h2
    rw [e 1 (by omega)] at h2
    rw [e _ (by omega), e _ (by omega)]; exact r1 s h1 h2
  · intro s h1 h2
    rw [e 2 (by omega)] at h2
    rw [e _ (by omega), e _ (by omega), e _ (by omega)]; exact r2 s h1 h2
  · intro i j h1 h2 h3 h4
    rw [e 5 (by omega)] at h2
    rw [e _ (by omega)]; exact r3 i j h1 h2 h3 h4
  · intro i j h1 h2 h3 h4
    rw [e 6 (by omega)] at h2
    rw [e _ (by omega)]; exact r4 i j h1 h2 h3 h4
  · intro i j h1 h2 h3 h4
    rw [e 7 (by omega)] at h2
    rw [e _ (by omega)]; exact r5 i j h1 h2 h3 h4
  · intro i h1 h2
    omega
theorem s_put_far {q v : Int} (hd : 1 ≤ d) (hS : zSto g w b N u P) (hH : zHd N) (hq : 0 ≤ q ∧ q < N 2) (k : ∀ w', zSame w w' b 15 → zSto g w' b (zfu N (80 + q) v) u P → K none w') : zCall g d 0 0 mX4_put [zR g (b + 5), zI q, zI 0, zI v] w K := by
  obtain ⟨C0, C1, C2, C3, C4, C5, C6, hO, h0, h1, h2, h3, h4, h5, h6, r0, r1, r2, r3, r4, r5, r6⟩ := hS
  have hh := hH
  refine c_X4_put_in hd h2 ⟨by omega, by omega, by omega, by omega, by omega, by omega⟩ (by omega) (by omega) (fun w' hs hT => k w' (hs.wide (by omega) (by omega)) ?_)
  have e : ∀ j, j ≠ 80 + q → zfu N (80 + q) v j = N j := fun j hj => if_neg hj
  refine ⟨C0, C1, zfu C2 (q * 3 + 0) v, C3, C4, C5, C6, ?_, ?_, ?_, ?_, ?_, ?_, ?_, ?_, ?_, ?_, ?_, ?_, ?_, ?_, ?_⟩
  · rw [hs.2 b (by omega), hO, zSobj, zSobj, e 3 (by omega), e 4 (by omega)]
  · rw [e 0 (by omega)]; exact h0.keep hs (by omega)
  · rw [e 1 (by omega)]; exact h1.keep hs (by omega)
  · rw [e 2 (by omega)]; exact hT
  · rw [e 5 (by omega)]; exact h3.keep hs (by omega)
  · rw [e 6 (by omega)]; exact h4.keep hs (by omega)
  · rw [e 7 (by omega)]; exact h5.keep hs (by omega)
  · exact h6.keep hs (by omega)
  · intro c2 h1 h2
    rw [e 0 (by omega)] at h2
    obtain ⟨q1, q2, q3⟩ := r0 c2 h1 h2
    exact ⟨by rw [e _ (by omega)]; exact q1, by rw [e _ (by omega)]; exact q2, fun r2 h3 h4 => by rw [e _ (by omega)]; exact q3 r2 h3 h4⟩
  · intro s h1 h2
    rw [e 1 (by omega)] at h2
    rw [e _ (by omega), e _ (by omega)]; exact r1 s h1 h2
  · intro s h1 h2
    rw [e 2 (by omega)] at h2
    obtain ⟨q1, q2, q3⟩ := r2 s h1 h2
    by_cases h5 : s = q
    · subst h5
      refine ⟨?_, ?_, ?_⟩
      · simp only [zfu, if_pos]
      · rw [e _ (by omega), ← q2]; exact if_neg (by omega)
      · rw [e _ (by omega), ← q3]; exact if_neg (by omega)
    · exact ⟨by rw [e _ (by omega), ← q1]; exact if_neg (by omega), by rw [e _ (by omega), ← q2]; exact if_neg (by omega), by rw [e _ (by omega), ← q3]; exact if_neg (by omega)⟩
  · intro i j h1 h2 h3 h4
    rw [e 5 (by omega)] at h2
    rw [e _ (by omega)]; exact r3 i j h1 h2 h3 h4
  · intro i j h1 h2 h3 h4
    rw [e 6 (by omega)] at h2
    rw [e _ (by omega)]; exact r4 i j h1 h2 h3 h4
  · intro i j h1 h2 h3 h4
    rw [e 7 (by omega)] at h2
    rw [e _ (by omega)]; exact r5 i j h1 h2 h3 h4
  · intro i h1 h2
    obtain ⟨q1, q2, q3, q4⟩ := r6 i h1 h2
    refine ⟨q1, q2, fun c2 h3 h4 => ?_, fun k2 h3 h4 => ?_⟩
    · rw [e 0 (by omega)] at h4
      rw [e _ (by omega), e _ (by omega)]; exact q3 c2 h3 h4
    · rw [e 2 (by omega)] at h4
      rw [e _ (by omega)]; exact q4 k2 h3 h4
theorem s_put_hits {q v : Int} (hd : 1 ≤ d) (hS : zSto g w b N u P) (hH : zHd N) (hq : 0 ≤ q ∧ q < N 2) (k : ∀ w', zSame w w' b 15 → zSto g w' b (zfu N (88 + q) v) u P → K none w') : zCall g d 0 0 mX4_put [zR g (b + 5), zI q, zI 2, zI v] w K := by
  obtain ⟨C0, C1, C2, C3, C4, C5, C6, hO, h0, h1, h2, h3, h4, h5, h6, r0, r1, r2, r3, r4, r5, r6⟩ := hS
  have hh := hH
  refine c_X4_put_in hd h2 ⟨by omega, by omega, by omega, by omega, by omega, by omega⟩ (by omega) (by omega) (fun w' hs hT => k w' (hs.wide (by omega) (by omega)) ?_)
  have e : ∀ j, j ≠ 88 + q → zfu N (88 + q) v j = N j := fun j hj => if_neg hj
  refine ⟨C0, C1, zfu C2 (q * 3 + 2) v, C3, C4, C5, C6, ?_, ?_, ?_, ?_, ?_, ?_, ?_, ?_, ?_, ?_, ?_, ?_, ?_, ?_, ?_⟩
  · rw [hs.2 b (by omega), hO, zSobj, zSobj, e 3 (by omega), e 4 (by omega)]
  · rw [e 0 (by omega)]; exact h0.keep hs (by omega)
  · rw [e 1 (by omega)]; exact h1.keep hs (by omega)
  · rw [e 2 (by omega)]; exact hT
  · rw [e 5 (by omega)]; exact h3.keep hs (by omega)
  · rw [e 6 (by omega)]; exact h4.keep hs (by omega)
  · rw [e 7 (by omega)]; exact h5.keep hs (by omega)
  · exact h6.keep hs (by omega)
  · intro c2 h1 h2
    rw [e 0 (by omega)] at h2
    obtain ⟨q1, q2, q3⟩ := r0 c2 h1 h2
    exact ⟨by rw [e _ (by omega)]; exact q1, by rw [e _ (by omega)]; exact q2, fun r2 h3 h4 => by rw [e _ (by omega)]; exact q3 r2 h3 h4⟩
  · intro s h1 h2
    rw [e 1 (by omega)] at h2
    rw [e _ (by omega), e _ (by omega)]; exact r1 s h1 h2
  · intro s h1 h2
    rw [e 2 (by omega)] at h2
    obtain ⟨q1, q2, q3⟩ := r2 s h1 h2
    by_cases h5 : s = q
    · subst h5
      refine ⟨?_, ?_, ?_⟩
      · rw [e _ (by omega), ← q1]; exact if_neg (by omega)
      · rw [e _ (by omega), ← q2]; exact if_neg (by omega)
      · simp only [zfu, if_pos]
    · exact ⟨by rw [e _ (by omega), ← q1]; exact if_neg (by omega), by rw [e _ (by omega), ← q2]; exact if_neg (by omega), by rw [e _ (by omega), ← q3]; exact if_neg (by omega)⟩
  · intro i j h1 h2 h3 h4
    rw [e 5 (by omega)] at h2
    rw [e _ (by omega)]; exact r3 i j h1 h2 h3 h4
  · intro i j h1 h2 h3 h4
    rw [e 6 (by omega)] at h2
    rw [e _ (by omega)]; exact r4 i j h1 h2 h3 h4
  · intro i j h1 h2 h3 h4
    rw [e 7 (by omega)] at h2
    rw [e _ (by omega)]; exact r5 i j h1 h2 h3 h4
  · intro i h1 h2
    obtain ⟨q1, q2, q3, q4⟩ := r6 i h1 h2
    refine ⟨q1, q2, fun c2 h3 h4 => ?_, fun k2 h3 h4 => ?_⟩
    · rw [e 0 (by omega)] at h4
      rw [e _ (by omega), e _ (by omega)]; exact q3 c2 h3 h4
    · rw [e 2 (by omega)] at h4
      rw [e _ (by omega)]; exact q4 k2 h3 h4
end X6
