/-! what the class's last calls stand on: the digest, images, the fraction -/
def zfC (N : Int → Int) : Int → Int := fun i => if i % 11 = 0 then N (8 + i / 11) else if i % 11 = 1 then N (13 + i / 11) else N (18 + 10 * (i / 11) + (i % 11 - 1))
def zfS (N : Int → Int) : Int → Int := fun i => if i % 2 = 0 then N (68 + i / 2) else N (74 + i / 2)
def zfK (N : Int → Int) : Int → Int := fun i => if i % 3 = 0 then N (80 + i / 3) else if i % 3 = 1 then N (84 + i / 3) else N (88 + i / 3)
def zcmx (S : zSt) : Nat → Int
  | 0 => 1471
  | m + 1 => 31 * zcmx S m + zcnt S (m : Int)
def zdig (S : zSt) : Int :=
  31 * (31 * zmix (fun i => S.1.1 (138 + i)) (S.1.1 7 * 5).toNat (zmix (fun i => S.1.1 (108 + i)) (S.1.1 6 * 5).toNat (zmix (fun i => S.1.1 (92 + i)) (S.1.1 5 * 4).toNat (zmix (zfK S.1.1) (S.1.1 2 * 3).toNat (zmix (zfS S.1.1) (S.1.1 1 * 2).toNat (zmix (zfC S.1.1) (S.1.1 0 * 11).toNat (zcmx S 12)))))) + S.2.2.2.1.1) + S.2.2.2.1.2
def o_digest (S : zSt) : Int × zSt := (zdig S, S)
theorem zmix_c {f f2 : Int → Int} {h : Int} : ∀ m : Nat, (∀ i, 0 ≤ i → i < (m : Int) → f i = f2 i) → zmix f m h = zmix f2 m h
  | 0, _ => rfl
  | m + 1, e => by rw [zmix, zmix, zmix_c m (fun i a b => e i a (by omega)), e m (by omega) (by omega)]
theorem zsg_bd {f : Int → Int} {M : Int} : ∀ (m : Nat) (a : Int), (∀ i, a ≤ i → i < a + (m : Int) → 0 ≤ f i ∧ f i ≤ M) → 0 ≤ zsg f m a ∧ zsg f m a ≤ M * (m : Int)
  | 0, a, _ => by rw [zsg]; omega
  | m + 1, a, e => by
    have h1 := zsg_bd m a (fun i p q => e i p (by omega))
    have h2 := e (a + (m : Int)) (by omega) (by omega)
    have h3 : M * ((m + 1 : Nat) : Int) = M * (m : Int) + M := by rw [Int.natCast_add, Int.mul_add]; omega
    rw [zsg, h3]; omega
section HL2
variable {g : zG} {d : Nat} {w w' : zWd} {K : Option Value → zWd → Prop} {b : Nat} {N P : Int → Int} {u : Int} {S : zSt}
theorem zall_b (h : zOK N) : 0 ≤ zall N ∧ zall N ≤ 4455 := by
  have hh := h.1
  have := zsg_bd (f := fun c => zfrom N c 1) (M := 891) (N 0).toNat 0 (fun i p q => zfrom_b h (by omega))
  unfold zall; omega
theorem zturned_b (h : zOK N) : 0 ≤ zturned N ∧ zturned N ≤ 4 := by
  have hh := h.1
  have := zsg_bd (f := fun k => zb (zTn N k)) (M := 1) (N 2).toNat 0 (fun i p q => by unfold zb; split <;> omega)
  unfold zturned; omega
theorem zcnt_b (h : zOKS S) {x : Int} : 0 ≤ zcnt S x ∧ zcnt S x ≤ 4455 := by
  have h1 := h.1.1.1
  have h2 := h.1.2.1
  have h3 := h.2.1.1
  have h4 := zall_b h.1.1
  have h5 := zturned_b h.1.1
  unfold zcnt
  repeat' split
  all_goals omega
theorem s_mix0 {h : Int} (hS : zSto g w b N u P) (hO : zOK N) (k : K (some (zJ (zmix (zfC N) (N 0 * 11).toNat h))) w) : zCall g d 0 0 mX4_mixInto [zR g (b + 1), zJ h] w K := by
  obtain ⟨C0, C1, C2, C3, C4, C5, C6, hS, r0, r1, r2, r3, r4, r5, r6⟩ := hS.s7
  have hh := hO.1
  have e : ∀ i, 0 ≤ i → i < N 0 * 11 → C0 i = zfC N i := fun i p q => by
    have h1 := r0 (i / 11) (by omega) (by omega)
    unfold zfC
    by_cases a : i % 11 = 0
    · rw [if_pos a, ← h1.1]; congr 1; omega
    · rw [if_neg a]
      by_cases a2 : i % 11 = 1
      · rw [if_pos a2, ← h1.2.1]; congr 1; omega
      · rw [if_neg a2, ← h1.2.2 (i % 11 - 1) (by omega) (by omega)]; congr 1; omega
  have bd : ∀ i, 0 ≤ i → i < N 0 * 11 → zR32 (zfC N i) := fun i p q => by
    have h1 := hO.2.1 (i / 11) (by omega) (by omega)
    unfold zfC
    by_cases a : i % 11 = 0
    · rw [if_pos a]; omega
    · rw [if_neg a]
      by_cases a2 : i % 11 = 1
      · rw [if_pos a2]; omega
      · rw [if_neg a2]
        have h2 := (hO.2.2.1 (i / 11) (i % 11 - 1) (by omega) (by omega) (by omega) (by omega)).1
        omega
  refine c_X4_mixInto hS.h0 ⟨by omega, by omega, by omega, by omega, by omega, by omega⟩ (fun j p q => by rw [e j p q]; exact bd j p q) ?_
  rw [zmix_c _ (fun i p q => e i p (by omega))]; exact k
theorem s_mix1 {h : Int} (hS : zSto g w b N u P) (hO : zOK N) (k : K (some (zJ (zmix (zfS N) (N 1 * 2).toNat h))) w) : zCall g d 0 0 mX4_mixInto [zR g (b + 3), zJ h] w K := by
  obtain ⟨C0, C1, C2, C3, C4, C5, C6, hS, r0, r1, r2, r3, r4, r5, r6⟩ := hS.s7
  have hh := hO.1
  have e : ∀ i, 0 ≤ i → i < N 1 * 2 → C1 i = zfS N i := fun i p q => by
    have h1 := r1 (i / 2) (by omega) (by omega)
    unfold zfS
    by_cases a : i % 2 = 0
    · rw [if_pos a, ← h1.1]; congr 1; omega
    · rw [if_neg a, ← h1.2]; congr 1; omega
  have bd : ∀ i, 0 ≤ i → i < N 1 * 2 → zR32 (zfS N i) := fun i p q => by
    have h1 := hO.2.2.2.1 (i / 2) (by omega) (by omega)
    unfold zfS
    split <;> omega
  refine c_X4_mixInto hS.h1 ⟨by omega, by omega, by omega, by omega, by omega, by omega⟩ (fun j p q => by rw [e j p q]; exact bd j p q) ?_
  rw [zmix_c _ (fun i p q => e i p (by omega))]; exact k
theorem s_mix2 {h : Int} (hS : zSto g w b N u P) (hO : zOK N) (k : K (some (zJ (zmix (zfK N) (N 2 * 3).toNat h))) w) : zCall g d 0 0 mX4_mixInto [zR g (b + 5), zJ h] w K := by
  obtain ⟨C0, C1, C2, C3, C4, C5, C6, hS, r0, r1, r2, r3, r4, r5, r6⟩ := hS.s7
  have hh := hO.1
  have e : ∀ i, 0 ≤ i → i < N 2 * 3 → C2 i = zfK N i := fun i p q => by
    have h1 := r2 (i / 3) (by omega) (by omega)
    unfold zfK
    by_cases a : i % 3 = 0
    · rw [if_pos a, ← h1.1]; congr 1; omega
    · rw [if_neg a]
      by_cases a2 : i % 3 = 1
      · rw [if_pos a2, ← h1.2.1]; congr 1; omega
      · rw [if_neg a2, ← h1.2.2]; congr 1; omega
  have bd : ∀ i, 0 ≤ i → i < N 2 * 3 → zR32 (zfK N i) := fun i p q => by
    have h1 := hO.2.2.2.2.1 (i / 3) (by omega) (by omega)
    unfold zfK
    repeat' split
    all_goals omega
  refine c_X4_mixInto hS.h2 ⟨by omega, by omega, by omega, by omega, by omega, by omega⟩ (fun j p q => by rw [e j p q]; exact bd j p q) ?_
  rw [zmix_c _ (fun i p q => e i p (by omega))]; exact k
theorem s_mix3 {h : Int} (hS : zSto g w b N u P) (hO : zOK N) (k : K (some (zJ (zmix (fun i => N (92 + i)) (N 5 * 4).toNat h))) w) : zCall g d 0 0 mX4_mixInto [zR g (b + 7), zJ h] w K := by
  obtain ⟨C0, C1, C2, C3, C4, C5, C6, hS, r0, r1, r2, r3, r4, r5, r6⟩ := hS.s7
  have hh := hO.1
  have e : ∀ i, 0 ≤ i → i < N 5 * 4 → C3 i = N (92 + i) := fun i p q => by
    have h1 := r3 (i / 4) (i % 4) (by omega) (by omega) (by omega) (by omega)
    rw [show i / 4 * 4 + i % 4 = i by omega, show 92 + 4 * (i / 4) + i % 4 = 92 + i by omega] at h1
    exact h1
  have bd : ∀ i, 0 ≤ i → i < N 5 * 4 → zR32 (N (92 + i)) := fun i p q => by
    have h1 := hO.2.2.2.2.2.1 (i / 4) (by omega) (by omega)
    obtain ⟨g0, g1, g2, g3⟩ := h1
    have hi : i % 4 = 0 ∨ i % 4 = 1 ∨ i % 4 = 2 ∨ i % 4 = 3 := by omega
    rcases hi with hi | hi | hi | hi
    · rw [show 92 + i = 92 + 4 * (i / 4) by omega]; omega
    · rw [show 92 + i = 93 + 4 * (i / 4) by omega]; omega
    · rw [show 92 + i = 94 + 4 * (i / 4) by omega]; omega
    · rw [show 92 + i = 95 + 4 * (i / 4) by omega]; omega
  refine c_X4_mixInto hS.h3 ⟨by omega, by omega, by omega, by omega, by omega, by omega⟩ (fun j p q => by rw [e j p q]; exact bd j p q) ?_
  rw [zmix_c _ (fun i p q => e i p (by omega))]; exact k
theorem s_mix4 {h : Int} (hS : zSto g w b N u P) (hO : zOK N) (k : K (some (zJ (zmix (fun i => N (108 + i)) (N 6 * 5).toNat h))) w) : zCall g d 0 0 mX4_mixInto [zR g (b + 9), zJ h] w K := by
  obtain ⟨C0, C1, C2, C3, C4, C5, C6, hS, r0, r1, r2, r3, r4, r5, r6⟩ := hS.s7
  have hh := hO.1
  have e : ∀ i, 0 ≤ i → i < N 6 * 5 → C4 i = N (108 + i) := fun i p q => by
    have h1 := r4 (i / 5) (i % 5) (by omega) (by omega) (by omega) (by omega)
    rw [show i / 5 * 5 + i % 5 = i by omega, show 108 + 5 * (i / 5) + i % 5 = 108 + i by omega] at h1
    exact h1
  have bd : ∀ i, 0 ≤ i → i < N 6 * 5 → zR32 (N (108 + i)) := fun i p q => by
    have h1 := hO.2.2.2.2.2.2.1 (i / 5) (by omega) (by omega)
    obtain ⟨g0, g1, g2, g3, g4⟩ := h1
    have hi : i % 5 = 0 ∨ i % 5 = 1 ∨ i % 5 = 2 ∨ i % 5 = 3 ∨ i % 5 = 4 := by omega
    rcases hi with hi | hi | hi | hi | hi
    · rw [show 108 + i = 108 + 5 * (i / 5) by omega]; omega
    · rw [show 108 + i = 109 + 5 * (i / 5) by omega]; omega
    · rw [show 108 + i = 110 + 5 * (i / 5) by omega]; omega
    · rw [show 108 + i = 111 + 5 * (i / 5) by omega]; omega
    · rw [show 108 + i = 112 + 5 * (i / 5) by omega]; omega
  refine c_X4_mixInto hS.h4 ⟨by omega, by omega, by omega, by omega, by omega, by omega⟩ (fun j p q => by rw [e j p q]; exact bd j p q) ?_
  rw [zmix_c _ (fun i p q => e i p (by omega))]; exact k
theorem s_mix5 {h : Int} (hS : zSto g w b N u P) (hO : zOK N) (k : K (some (zJ (zmix (fun i => N (138 + i)) (N 7 * 5).toNat h))) w) : zCall g d 0 0 mX4_mixInto [zR g (b + 11), zJ h] w K := by
  obtain ⟨C0, C1, C2, C3, C4, C5, C6, hS, r0, r1, r2, r3, r4, r5, r6⟩ := hS.s7
  have hh := hO.1
  have e : ∀ i, 0 ≤ i → i < N 7 * 5 → C5 i = N (138 + i) := fun i p q => by
    have h1 := r5 (i / 5) (i % 5) (by omega) (by omega) (by omega) (by omega)
    rw [show i / 5 * 5 + i % 5 = i by omega, show 138 + 5 * (i / 5) + i % 5 = 138 + i by omega] at h1
    exact h1
  have bd : ∀ i, 0 ≤ i → i < N 7 * 5 → zR32 (N (138 + i)) := fun i p q => by
    have h1 := hO.2.2.2.2.2.2.2 (i / 5) (by omega) (by omega)
    obtain ⟨g0, g1, g2, g3, g4⟩ := h1
    have hi : i % 5 = 0 ∨ i % 5 = 1 ∨ i % 5 = 2 ∨ i % 5 = 3 ∨ i % 5 = 4 := by omega
    rcases hi with hi | hi | hi | hi | hi
    · rw [show 138 + i = 138 + 5 * (i / 5) by omega]; omega
    · rw [show 138 + i = 139 + 5 * (i / 5) by omega]; omega
    · rw [show 138 + i = 140 + 5 * (i / 5) by omega]; omega
    · rw [show 138 + i = 141 + 5 * (i / 5) by omega]; omega
    · rw [show 138 + i = 142 + 5 * (i / 5) by omega]; omega
  refine c_X4_mixInto hS.h5 ⟨by omega, by omega, by omega, by omega, by omega, by omega⟩ (fun j p q => by rw [e j p q]; exact bd j p q) ?_
  rw [zmix_c _ (fun i p q => e i p (by omega))]; exact k
theorem zimg_in {f x : Int → Int} {n i j : Int} (h : 0 ≤ j ∧ j < n) : zimg f x n i (n * i + j) = x j := by
  unfold zimg; rw [if_pos (by omega)]; congr 1; omega
theorem zimg_ne {f x : Int → Int} {n j : Int} (h : 0 ≤ j ∧ j < n) : zimg f x n 0 (n * 1 + j) = f (n * 1 + j) ∧ zimg f x n 1 (n * 0 + j) = f (n * 0 + j) := by
  unfold zimg
  rw [Int.mul_one, Int.mul_zero]
  exact ⟨by rw [if_neg (by omega)], by rw [if_neg (by omega)]⟩
theorem zCl.img0 (h : zCl g w S) (hO : zOKS S) (hs : zSame w w' 16 15) (hN : zSto g w' 16 S.1.1 S.1.2.1 S.1.2.2) {e : zE} (he : e = zObj g (S.1, S.2.1, S.2.2.1, S.2.2.2.1, (zimg S.2.2.2.2.1 S.1.1 168 0, zfu S.2.2.2.2.2.1 0 1, zfu S.2.2.2.2.2.2.1 0 S.1.2.1, zimg S.2.2.2.2.2.2.2 S.1.2.2 480 0))) : zCl g (zup w' 0 e) (S.1, S.2.1, S.2.2.1, S.2.2.2.1, (zimg S.2.2.2.2.1 S.1.1 168 0, zfu S.2.2.2.2.2.1 0 1, zfu S.2.2.2.2.2.2.1 0 S.1.2.1, zimg S.2.2.2.2.2.2.2 S.1.2.2 480 0)) := by
  have ht : zSame w' (zup w' 0 e) 0 1 := zSame.up (by omega)
  obtain ⟨h1, h2, h3, h4, h5, h6, h7, h8, h9, h10⟩ := h
  have k1 : zSto g (zup w' 0 e) 16 S.1.1 S.1.2.1 S.1.2.2 := hN.keep ht (by omega)
  have hx := hO.2.2 1 (by omega) (by omega)
  refine ⟨by rw [← he]; simp only [zup]; rw [if_pos trivial], (h2.keep hs (by omega)).keep ht (by omega), k1.shp, (h4.keep hs (by omega)).keep ht (by omega), (h5.keep hs (by omega)).keep ht (by omega), fun _ => ?_, fun z => ?_, (h8.keep hs (by omega)).keep ht (by omega), by rw [ht.2 _ (by omega), hs.2 _ (by omega)]; exact h9, (h10.keep hs (by omega)).keep ht (by omega)⟩
  · show zSto g (zup w' 0 e) 16 _ (zfu S.2.2.2.2.2.2.1 0 S.1.2.1 0) _
    rw [zfu_00.1]
    exact k1.cong hO.1.1.1 hO.1.2.1.2 (fun j a b => zimg_in ⟨a, b⟩) (fun j a b => zimg_in ⟨a, b⟩)
  · have z : zfu S.2.2.2.2.2.1 0 1 1 = 1 := z
    rw [zfu_00.2.1] at z
    show zSto g (zup w' 0 e) 31 _ (zfu S.2.2.2.2.2.2.1 0 S.1.2.1 1) _
    rw [zfu_00.2.1]
    have hy := hx.2 z
    exact (((h7 z).keep hs (by omega)).keep ht (by omega)).cong hy.1.1 hy.2.1.2 (fun j a b => (zimg_ne ⟨a, b⟩).1) (fun j a b => (zimg_ne ⟨a, b⟩).1)
theorem zCl.img1 (h : zCl g w S) (hO : zOKS S) (hs : zSame w w' 31 15) (hN : zSto g w' 31 S.1.1 S.1.2.1 S.1.2.2) {e : zE} (he : e = zObj g (S.1, S.2.1, S.2.2.1, S.2.2.2.1, (zimg S.2.2.2.2.1 S.1.1 168 1, zfu S.2.2.2.2.2.1 1 1, zfu S.2.2.2.2.2.2.1 1 S.1.2.1, zimg S.2.2.2.2.2.2.2 S.1.2.2 480 1))) : zCl g (zup w' 0 e) (S.1, S.2.1, S.2.2.1, S.2.2.2.1, (zimg S.2.2.2.2.1 S.1.1 168 1, zfu S.2.2.2.2.2.1 1 1, zfu S.2.2.2.2.2.2.1 1 S.1.2.1, zimg S.2.2.2.2.2.2.2 S.1.2.2 480 1)) := by
  have ht : zSame w' (zup w' 0 e) 0 1 := zSame.up (by omega)
  obtain ⟨h1, h2, h3, h4, h5, h6, h7, h8, h9, h10⟩ := h
  have k1 : zSto g (zup w' 0 e) 31 S.1.1 S.1.2.1 S.1.2.2 := hN.keep ht (by omega)
  have hx := hO.2.2 0 (by omega) (by omega)
  refine ⟨by rw [← he]; simp only [zup]; rw [if_pos trivial], (h2.keep hs (by omega)).keep ht (by omega), (h3.keep hs (by omega)).keep ht (by omega), k1.shp, (h5.keep hs (by omega)).keep ht (by omega), fun z => ?_, fun _ => ?_, (h8.keep hs (by omega)).keep ht (by omega), by rw [ht.2 _ (by omega), hs.2 _ (by omega)]; exact h9, (h10.keep hs (by omega)).keep ht (by omega)⟩
  · have z : zfu S.2.2.2.2.2.1 1 1 0 = 1 := z
    rw [zfu_11.1] at z
    show zSto g (zup w' 0 e) 16 _ (zfu S.2.2.2.2.2.2.1 1 S.1.2.1 0) _
    rw [zfu_11.1]
    have hy := hx.2 z
    exact (((h6 z).keep hs (by omega)).keep ht (by omega)).cong hy.1.1 hy.2.1.2 (fun j a b => (zimg_ne ⟨a, b⟩).2) (fun j a b => (zimg_ne ⟨a, b⟩).2)
  · show zSto g (zup w' 0 e) 31 _ (zfu S.2.2.2.2.2.2.1 1 S.1.2.1 1) _
    rw [zfu_11.2.1]
    exact k1.cong hO.1.1.1 hO.1.2.1.2 (fun j a b => zimg_in ⟨a, b⟩) (fun j a b => zimg_in ⟨a, b⟩)
set_option maxRecDepth 100000 in
set_option maxHeartbeats 8000000 in
theorem c_X7_amount {x : Int} (hd : 5 ≤ d) (hC : zCl g w S) (hO : zOKS S) (hx : 0 ≤ x ∧ x ≤ 11) (k : K (some (zI (zcnt S x))) w) : zCall g d 0 0 mX7_amount [zR g 0, zI x] w K := by
  obtain ⟨hX, hS, hA, hB, hD, hI, hJ, hR, hT, hH⟩ := id hC
  obtain ⟨nx1, st1, tk1, nm1, hR1, hm1⟩ := hR
  have hO2 := hO.1.1
  have hO3 := hO2.1
  refine zenter [some _, some _] pn_X7 rfl (Nat.le_of_ble_eq_true rfl) ?_
  refine q_iload_n (pc := 0) dX7_amount_0 rfl ?_
  refine q_top (fun x1 hx1 => ?_)
  by_cases c1_0 : x1 = 0
  · refine q_tableIn (pc := 1) 60 dX7_amount_1 c1_0 (by omega) (by decide) (by decide) rfl rfl ?_
    refine q_aload_n (pc := 60) dX7_amount_60 rfl rfl ?_
    refine q_getfield (pc := 61) gf_X7_10 dX7_amount_61 (by first | assumption | exact hS.o | exact hS.s0 | exact hS.s1 | exact hS.s2 | exact hS.s3 | exact hS.s4 | exact hS.s5 | exact hS.s6) rfl ?_
    refine q_getfield (pc := 64) gf_X7_70 dX7_amount_64 (by first | assumption | exact hS.o | exact hS.s0 | exact hS.s1 | exact hS.s2 | exact hS.s3 | exact hS.s4 | exact hS.s5 | exact hS.s6) rfl ?_
    refine q_getfield (pc := 67) gf_X7_74 dX7_amount_67 (by first | assumption | exact hS.o | exact hS.s0 | exact hS.s1 | exact hS.s2 | exact hS.s3 | exact hS.s4 | exact hS.s5 | exact hS.s6) rfl ?_
    refine q_ireturn (pc := 70) dX7_amount_70 rfl ?_
    exact zK_eq k (by unfold zcnt; rw [if_pos (by omega)])
  by_cases c1_1 : x1 = 1
  · refine q_tableIn (pc := 1) 71 dX7_amount_1 c1_1 (by omega) (by decide) (by decide) rfl rfl ?_
    refine q_aload_n (pc := 71) dX7_amount_71 rfl rfl ?_
    refine q_getfield (pc := 72) gf_X7_10 dX7_amount_72 (by first | assumption | exact hS.o | exact hS.s0 | exact hS.s1 | exact hS.s2 | exact hS.s3 | exact hS.s4 | exact hS.s5 | exact hS.s6) rfl ?_
    refine q_getfield (pc := 75) gf_X7_126 dX7_amount_75 (by first | assumption | exact hS.o | exact hS.s0 | exact hS.s1 | exact hS.s2 | exact hS.s3 | exact hS.s4 | exact hS.s5 | exact hS.s6) rfl ?_
    refine q_getfield (pc := 78) gf_X7_74 dX7_amount_78 (by first | assumption | exact hS.o | exact hS.s0 | exact hS.s1 | exact hS.s2 | exact hS.s3 | exact hS.s4 | exact hS.s5 | exact hS.s6) rfl ?_
    refine q_ireturn (pc := 81) dX7_amount_81 rfl ?_
    exact zK_eq k (by unfold zcnt; rw [if_neg (by omega), if_pos (by omega)])
  by_cases c1_2 : x1 = 2
  · refine q_tableIn (pc := 1) 82 dX7_amount_1 c1_2 (by omega) (by decide) (by decide) rfl rfl ?_
    refine q_aload_n (pc := 82) dX7_amount_82 rfl rfl ?_
    refine q_getfield (pc := 83) gf_X7_10 dX7_amount_83 (by first | assumption | exact hS.o | exact hS.s0 | exact hS.s1 | exact hS.s2 | exact hS.s3 | exact hS.s4 | exact hS.s5 | exact hS.s6) rfl ?_
    refine q_getfield (pc := 86) gf_X7_132 dX7_amount_86 (by first | assumption | exact hS.o | exact hS.s0 | exact hS.s1 | exact hS.s2 | exact hS.s3 | exact hS.s4 | exact hS.s5 | exact hS.s6) rfl ?_
    refine q_getfield (pc := 89) gf_X7_74 dX7_amount_89 (by first | assumption | exact hS.o | exact hS.s0 | exact hS.s1 | exact hS.s2 | exact hS.s3 | exact hS.s4 | exact hS.s5 | exact hS.s6) rfl ?_
    refine q_ireturn (pc := 92) dX7_amount_92 rfl ?_
    exact zK_eq k (by unfold zcnt; rw [if_neg (by omega), if_neg (by omega), if_pos (by omega)])
  by_cases c1_3 : x1 = 3
  · refine q_tableIn (pc := 1) 93 dX7_amount_1 c1_3 (by omega) (by decide) (by decide) rfl rfl ?_
    refine q_aload_n (pc := 93) dX7_amount_93 rfl rfl ?_
    refine q_getfield (pc := 94) gf_X7_10 dX7_amount_94 (by first | assumption | exact hS.o | exact hS.s0 | exact hS.s1 | exact hS.s2 | exact hS.s3 | exact hS.s4 | exact hS.s5 | exact hS.s6) rfl ?_
    refine q_getfield (pc := 97) gf_X7_188 dX7_amount_97 (by first | assumption | exact hS.o | exact hS.s0 | exact hS.s1 | exact hS.s2 | exact hS.s3 | exact hS.s4 | exact hS.s5 | exact hS.s6) rfl ?_
    refine q_ireturn (pc := 100) dX7_amount_100 rfl ?_
    exact zK_eq k (by unfold zcnt; rw [if_neg (by omega), if_neg (by omega), if_neg (by omega), if_pos (by omega)])
  by_cases c1_4 : x1 = 4
  · refine q_tableIn (pc := 1) 101 dX7_amount_1 c1_4 (by omega) (by decide) (by decide) rfl rfl ?_
    refine q_aload_n (pc := 101) dX7_amount_101 rfl rfl ?_
    refine q_getfield (pc := 102) gf_X7_10 dX7_amount_102 (by first | assumption | exact hS.o | exact hS.s0 | exact hS.s1 | exact hS.s2 | exact hS.s3 | exact hS.s4 | exact hS.s5 | exact hS.s6) rfl ?_
    refine q_getfield (pc := 105) gf_X7_182 dX7_amount_105 (by first | assumption | exact hS.o | exact hS.s0 | exact hS.s1 | exact hS.s2 | exact hS.s3 | exact hS.s4 | exact hS.s5 | exact hS.s6) rfl ?_
    refine q_ireturn (pc := 108) dX7_amount_108 rfl ?_
    exact zK_eq k (by unfold zcnt; rw [if_neg (by omega), if_neg (by omega), if_neg (by omega), if_neg (by omega), if_pos (by omega)])
  by_cases c1_5 : x1 = 5
  · refine q_tableIn (pc := 1) 109 dX7_amount_1 c1_5 (by omega) (by decide) (by decide) rfl rfl ?_
    refine q_aload_n (pc := 109) dX7_amount_109 rfl rfl ?_
    refine q_getfield (pc := 110) gf_X7_10 dX7_amount_110 (by first | assumption | exact hS.o | exact hS.s0 | exact hS.s1 | exact hS.s2 | exact hS.s3 | exact hS.s4 | exact hS.s5 | exact hS.s6) rfl ?_
    refine q_invokevirtual (pc := 113) (d' := d - 1) (mc' := 0) (ms' := 0) (As := []) (TX6, 9) cl_X7_160 dX7_amount_113 rfl rfl (by first | assumption | exact hS.o | exact hS.s0 | exact hS.s1 | exact hS.s2 | exact hS.s3 | exact hS.s4 | exact hS.s5 | exact hS.s6) rfl (by omega) rfl 0 0 (Nat.le_refl 0) (Nat.le_refl 0) ?_
    refine c_X6_allStones (by omega) hS hO3 ?_
    refine q_ireturn (pc := 116) dX7_amount_116 rfl ?_
    exact zK_eq k (by unfold zcnt; rw [if_neg (by omega), if_neg (by omega), if_neg (by omega), if_neg (by omega), if_neg (by omega), if_pos (by omega)])
  by_cases c1_6 : x1 = 6
  · refine q_tableIn (pc := 1) 117 dX7_amount_1 c1_6 (by omega) (by decide) (by decide) rfl rfl ?_
    refine q_aload_n (pc := 117) dX7_amount_117 rfl rfl ?_
    refine q_getfield (pc := 118) gf_X7_10 dX7_amount_118 (by first | assumption | exact hS.o | exact hS.s0 | exact hS.s1 | exact hS.s2 | exact hS.s3 | exact hS.s4 | exact hS.s5 | exact hS.s6) rfl ?_
    refine q_invokevirtual (pc := 121) (d' := d - 1) (mc' := 0) (ms' := 0) (As := []) (TX6, 9) cl_X7_309 dX7_amount_121 rfl rfl (by first | assumption | exact hS.o | exact hS.s0 | exact hS.s1 | exact hS.s2 | exact hS.s3 | exact hS.s4 | exact hS.s5 | exact hS.s6) rfl (by omega) rfl 0 0 (Nat.le_refl 0) (Nat.le_refl 0) ?_
    refine c_X6_turnedClouds (by omega) hS hO2 ?_
    refine q_ireturn (pc := 124) dX7_amount_124 rfl ?_
    exact zK_eq k (by unfold zcnt; rw [if_neg (by omega), if_neg (by omega), if_neg (by omega), if_neg (by omega), if_neg (by omega), if_neg (by omega), if_pos (by omega)])
  by_cases c1_7 : x1 = 7
  · refine q_tableIn (pc := 1) 125 dX7_amount_1 c1_7 (by omega) (by decide) (by decide) rfl rfl ?_
    refine q_aload_n (pc := 125) dX7_amount_125 rfl rfl ?_
    refine q_getfield (pc := 126) gf_X7_10 dX7_amount_126 (by first | assumption | exact hS.o | exact hS.s0 | exact hS.s1 | exact hS.s2 | exact hS.s3 | exact hS.s4 | exact hS.s5 | exact hS.s6) rfl ?_
    refine q_getfield (pc := 129) gf_X7_237 dX7_amount_129 (by first | assumption | exact hS.o | exact hS.s0 | exact hS.s1 | exact hS.s2 | exact hS.s3 | exact hS.s4 | exact hS.s5 | exact hS.s6) rfl ?_
    refine q_getfield (pc := 132) gf_X7_74 dX7_amount_132 (by first | assumption | exact hS.o | exact hS.s0 | exact hS.s1 | exact hS.s2 | exact hS.s3 | exact hS.s4 | exact hS.s5 | exact hS.s6) rfl ?_
    refine q_ireturn (pc := 135) dX7_amount_135 rfl ?_
    exact zK_eq k (by unfold zcnt; rw [if_neg (by omega), if_neg (by omega), if_neg (by omega), if_neg (by omega), if_neg (by omega), if_neg (by omega), if_neg (by omega), if_pos (by omega)])
  by_cases c1_8 : x1 = 8
  · refine q_tableIn (pc := 1) 136 dX7_amount_1 c1_8 (by omega) (by decide) (by decide) rfl rfl ?_
    refine q_aload_n (pc := 136) dX7_amount_136 rfl rfl ?_
    refine q_getfield (pc := 137) gf_X7_10 dX7_amount_137 (by first | assumption | exact hS.o | exact hS.s0 | exact hS.s1 | exact hS.s2 | exact hS.s3 | exact hS.s4 | exact hS.s5 | exact hS.s6) rfl ?_
    refine q_getfield (pc := 140) gf_X7_250 dX7_amount_140 (by first | assumption | exact hS.o | exact hS.s0 | exact hS.s1 | exact hS.s2 | exact hS.s3 | exact hS.s4 | exact hS.s5 | exact hS.s6) rfl ?_
    refine q_getfield (pc := 143) gf_X7_74 dX7_amount_143 (by first | assumption | exact hS.o | exact hS.s0 | exact hS.s1 | exact hS.s2 | exact hS.s3 | exact hS.s4 | exact hS.s5 | exact hS.s6) rfl ?_
    refine q_ireturn (pc := 146) dX7_amount_146 rfl ?_
    exact zK_eq k (by unfold zcnt; rw [if_neg (by omega), if_neg (by omega), if_neg (by omega), if_neg (by omega), if_neg (by omega), if_neg (by omega), if_neg (by omega), if_neg (by omega), if_pos (by omega)])
  by_cases c1_9 : x1 = 9
  · refine q_tableIn (pc := 1) 147 dX7_amount_1 c1_9 (by omega) (by decide) (by decide) rfl rfl ?_
    refine q_aload_n (pc := 147) dX7_amount_147 rfl rfl ?_
    refine q_getfield (pc := 148) gf_X7_10 dX7_amount_148 (by first | assumption | exact hS.o | exact hS.s0 | exact hS.s1 | exact hS.s2 | exact hS.s3 | exact hS.s4 | exact hS.s5 | exact hS.s6) rfl ?_
    refine q_getfield (pc := 151) gf_X7_253 dX7_amount_151 (by first | assumption | exact hS.o | exact hS.s0 | exact hS.s1 | exact hS.s2 | exact hS.s3 | exact hS.s4 | exact hS.s5 | exact hS.s6) rfl ?_
    refine q_getfield (pc := 154) gf_X7_74 dX7_amount_154 (by first | assumption | exact hS.o | exact hS.s0 | exact hS.s1 | exact hS.s2 | exact hS.s3 | exact hS.s4 | exact hS.s5 | exact hS.s6) rfl ?_
    refine q_ireturn (pc := 157) dX7_amount_157 rfl ?_
    exact zK_eq k (by unfold zcnt; rw [if_neg (by omega), if_neg (by omega), if_neg (by omega), if_neg (by omega), if_neg (by omega), if_neg (by omega), if_neg (by omega), if_neg (by omega), if_neg (by omega), if_pos (by omega)])
  by_cases c1_10 : x1 = 10
  · refine q_tableIn (pc := 1) 158 dX7_amount_1 c1_10 (by omega) (by decide) (by decide) rfl rfl ?_
    refine q_aload_n (pc := 158) dX7_amount_158 rfl rfl ?_
    refine q_getfield (pc := 159) gf_X7_10 dX7_amount_159 (by first | assumption | exact hS.o | exact hS.s0 | exact hS.s1 | exact hS.s2 | exact hS.s3 | exact hS.s4 | exact hS.s5 | exact hS.s6) rfl ?_
    refine q_getfield (pc := 162) gf_X7_91 dX7_amount_162 (by first | assumption | exact hS.o | exact hS.s0 | exact hS.s1 | exact hS.s2 | exact hS.s3 | exact hS.s4 | exact hS.s5 | exact hS.s6) rfl ?_
    refine q_getfield (pc := 165) gf_X7_74 dX7_amount_165 (by first | assumption | exact hS.o | exact hS.s0 | exact hS.s1 | exact hS.s2 | exact hS.s3 | exact hS.s4 | exact hS.s5 | exact hS.s6) rfl ?_
    refine q_ireturn (pc := 168) dX7_amount_168 rfl ?_
    exact zK_eq k (by unfold zcnt; rw [if_neg (by omega), if_neg (by omega), if_neg (by omega), if_neg (by omega), if_neg (by omega), if_neg (by omega), if_neg (by omega), if_neg (by omega), if_neg (by omega), if_neg (by omega), if_pos (by omega)])
  refine q_tableOut (pc := 1) 169 dX7_amount_1 (by omega) (by omega) rfl ?_
  refine q_aload_n (pc := 169) dX7_amount_169 rfl rfl ?_
  refine q_getfield (pc := 170) gf_X7_30 dX7_amount_170 (by first | assumption | exact hS.o | exact hS.s0 | exact hS.s1 | exact hS.s2 | exact hS.s3 | exact hS.s4 | exact hS.s5 | exact hS.s6) rfl ?_
  refine q_getfield (pc := 173) gf_X7_312 dX7_amount_173 (by first | assumption | exact hS.o | exact hS.s0 | exact hS.s1 | exact hS.s2 | exact hS.s3 | exact hS.s4 | exact hS.s5 | exact hS.s6) rfl ?_
  refine q_ireturn (pc := 176) dX7_amount_176 rfl ?_
  exact zK_eq k (by unfold zcnt; rw [if_neg (by omega), if_neg (by omega), if_neg (by omega), if_neg (by omega), if_neg (by omega), if_neg (by omega), if_neg (by omega), if_neg (by omega), if_neg (by omega), if_neg (by omega), if_neg (by omega)])
set_option maxRecDepth 100000 in
set_option maxHeartbeats 8000000 in
theorem c_X7_keepFraction {top : Int} (hC : zCl g w S) (ht : 0 ≤ top ∧ top ≤ 1800) (k : ∀ w', zSame w w' 0 72 → zCl g w' (sF S (top / zgcd top) (10 / zgcd top)) → K none w') : zCall g d 0 0 mX7_keepFraction [zR g 0, zI top, zI 10] w K := by
  have hX := hC.1
  have hg := zgcd_b (v := top)
  have hz := zeu_gcd 64 top.toNat 10 (by omega)
  rw [show ((top.toNat : Nat) : Int) = top by omega] at hz
  have hz : zeu 64 top 10 = zgcd top := hz
  have q1 := Int.ediv_nonneg ht.1 (show 0 ≤ zgcd top by omega)
  have q2 := Int.ediv_le_self (zgcd top) ht.1
  have q3 := Int.ediv_nonneg (show (0 : Int) ≤ 10 by omega) (show 0 ≤ zgcd top by omega)
  have q4 := Int.ediv_le_self (zgcd top) (show (0 : Int) ≤ 10 by omega)
  have L : ∀ (q : Nat) (a b i : Int) (x : Option Value), 0 ≤ i ∧ i + q = 64 → 0 ≤ a ∧ a ≤ 1800 → (0 ≤ b ∧ b < q) ∧ b ≤ 1800 → zeu q a b = zgcd top → zRuns g d mX7_keepFraction 0 0 8 [some (zR g 0), some (zI top), some (zI 10), some (zI a), some (zI b), some (zI i), x] [] w K := by
    intro q
    induction q with
    | zero => intro a b i x h1 h2 h3; omega
    | succ q ih =>
      intro a b i x h1 h2 h3 e
      rw [zeu] at e
      by_cases hb : b = 0
      · rw [if_pos hb] at e
        subst e
        refine q_iload (pc := 8) dX7_keepFraction_8 rfl ?_
        refine q_bipush (pc := 10) (by decide) dX7_keepFraction_10 ?_
        refine q_icmp_ge (pc := 12) (by omega) (by omega) 39 dX7_keepFraction_12 rfl (fun c12 => ?_) (fun c12 => ?_)
        · refine q_iload_n (pc := 39) dX7_keepFraction_39 rfl ?_
          refine q_if_le (pc := 40) (by omega) 59 dX7_keepFraction_40 rfl (fun c40 => ?_) (fun c40 => ?_)
          · refine q_return (pc := 59) dX7_keepFraction_59 rfl ?_
            first | (exfalso; omega; done) | exact k _ ((zSame.up (by omega)).tr (zSame.up (by omega))) ((hC.ob (R := S.2.2.1) (b := S.2.2.2.1.2) rfl).ob rfl)
          refine q_aload_n (pc := 43) dX7_keepFraction_43 rfl rfl ?_
          refine q_iload_n (pc := 44) dX7_keepFraction_44 rfl ?_
          refine q_iload_n (pc := 45) dX7_keepFraction_45 rfl ?_
          refine q_idiv (pc := 46) dX7_keepFraction_46 (by omega) (by omega) (by omega) ?_
          refine q_i2l (pc := 47) dX7_keepFraction_47 (by omega) ?_
          refine q_putfield2 (pc := 48) [_, _, _, _, _, _, _, _, _, _, _, _, _, _, _] pf_X7_55 dX7_keepFraction_48 (by assumption) rfl rfl (Nat.le_of_ble_eq_true rfl) rfl ?_
          refine q_aload_n (pc := 51) dX7_keepFraction_51 rfl rfl ?_
          refine q_iload_n (pc := 52) dX7_keepFraction_52 rfl ?_
          refine q_iload_n (pc := 53) dX7_keepFraction_53 rfl ?_
          refine q_idiv (pc := 54) dX7_keepFraction_54 (by omega) (by omega) (by omega) ?_
          refine q_i2l (pc := 55) dX7_keepFraction_55 (by omega) ?_
          refine q_putfield2 (pc := 56) [_, _, _, _, _, _, _, _, _, _, _, _, _, _, _] pf_X7_59 dX7_keepFraction_56 (by simp only [zup]; rw [if_pos trivial]) rfl rfl (Nat.le_of_ble_eq_true rfl) rfl ?_
          refine q_return (pc := 59) dX7_keepFraction_59 rfl ?_
          first | (exfalso; omega; done) | exact k _ ((zSame.up (by omega)).tr (zSame.up (by omega))) ((hC.ob (R := S.2.2.1) (b := S.2.2.2.1.2) rfl).ob rfl)
        refine q_iload (pc := 15) dX7_keepFraction_15 rfl ?_
        refine q_if_eq (pc := 17) (by omega) 39 dX7_keepFraction_17 rfl (fun c17 => ?_) (fun c17 => ?_)
        · refine q_iload_n (pc := 39) dX7_keepFraction_39 rfl ?_
          refine q_if_le (pc := 40) (by omega) 59 dX7_keepFraction_40 rfl (fun c40 => ?_) (fun c40 => ?_)
          · refine q_return (pc := 59) dX7_keepFraction_59 rfl ?_
            first | (exfalso; omega; done) | exact k _ ((zSame.up (by omega)).tr (zSame.up (by omega))) ((hC.ob (R := S.2.2.1) (b := S.2.2.2.1.2) rfl).ob rfl)
          refine q_aload_n (pc := 43) dX7_keepFraction_43 rfl rfl ?_
          refine q_iload_n (pc := 44) dX7_keepFraction_44 rfl ?_
          refine q_iload_n (pc := 45) dX7_keepFraction_45 rfl ?_
          refine q_idiv (pc := 46) dX7_keepFraction_46 (by omega) (by omega) (by omega) ?_
          refine q_i2l (pc := 47) dX7_keepFraction_47 (by omega) ?_
          refine q_putfield2 (pc := 48) [_, _, _, _, _, _, _, _, _, _, _, _, _, _, _] pf_X7_55 dX7_keepFraction_48 (by assumption) rfl rfl (Nat.le_of_ble_eq_true rfl) rfl ?_
          refine q_aload_n (pc := 51) dX7_keepFraction_51 rfl rfl ?_
          refine q_iload_n (pc := 52) dX7_keepFraction_52 rfl ?_
          refine q_iload_n (pc := 53) dX7_keepFraction_53 rfl ?_
          refine q_idiv (pc := 54) dX7_keepFraction_54 (by omega) (by omega) (by omega) ?_
          refine q_i2l (pc := 55) dX7_keepFraction_55 (by omega) ?_
          refine q_putfield2 (pc := 56) [_, _, _, _, _, _, _, _, _, _, _, _, _, _, _] pf_X7_59 dX7_keepFraction_56 (by simp only [zup]; rw [if_pos trivial]) rfl rfl (Nat.le_of_ble_eq_true rfl) rfl ?_
          refine q_return (pc := 59) dX7_keepFraction_59 rfl ?_
          first | (exfalso; omega; done) | exact k _ ((zSame.up (by omega)).tr (zSame.up (by omega))) ((hC.ob (R := S.2.2.1) (b := S.2.2.2.1.2) rfl).ob rfl)
        exfalso; omega
      · rw [if_neg hb] at e
        have hm := Int.emod_nonneg a hb
        have hm2 := Int.emod_lt_of_pos a (show 0 < b by omega)
        refine q_iload (pc := 8) dX7_keepFraction_8 rfl ?_
        refine q_bipush (pc := 10) (by decide) dX7_keepFraction_10 ?_
        refine q_icmp_ge (pc := 12) (by omega) (by omega) 39 dX7_keepFraction_12 rfl (fun c12 => ?_) (fun c12 => ?_)
        · exfalso; omega
        refine q_iload (pc := 15) dX7_keepFraction_15 rfl ?_
        refine q_if_eq (pc := 17) (by omega) 39 dX7_keepFraction_17 rfl (fun c17 => ?_) (fun c17 => ?_)
        · exfalso; omega
        refine q_iload_n (pc := 20) dX7_keepFraction_20 rfl ?_
        refine q_iload (pc := 21) dX7_keepFraction_21 rfl ?_
        refine q_irem (pc := 23) dX7_keepFraction_23 (by omega) (by omega) (by omega) ?_
        refine q_istore (pc := 24) [some _, some _, some _, some _, some _, some _, some _] dX7_keepFraction_24 rfl (Nat.le_of_ble_eq_true rfl) rfl ?_
        refine q_iload (pc := 26) dX7_keepFraction_26 rfl ?_
        refine q_istore_n (pc := 28) [some _, some _, some _, some _, some _, some _, some _] dX7_keepFraction_28 rfl (Nat.le_of_ble_eq_true rfl) rfl ?_
        refine q_iload (pc := 29) dX7_keepFraction_29 rfl ?_
        refine q_istore (pc := 31) [some _, some _, some _, some _, some _, some _, some _] dX7_keepFraction_31 rfl (Nat.le_of_ble_eq_true rfl) rfl ?_
        refine q_iinc (pc := 33) [some _, some _, some _, some _, some _, some _, some _] dX7_keepFraction_33 rfl rfl rfl ?_
        refine q_goto (pc := 36) 8 dX7_keepFraction_36 rfl ?_
        exact ih _ _ _ _ (by omega) (by omega) (by omega) e
  refine zenter [some _, some _, some _, none, none, none, none] pn_X7 rfl (Nat.le_of_ble_eq_true rfl) ?_
  refine q_iload_n (pc := 0) dX7_keepFraction_0 rfl ?_
  refine q_istore_n (pc := 1) [some _, some _, some _, some _, none, none, none] dX7_keepFraction_1 rfl (Nat.le_of_ble_eq_true rfl) rfl ?_
  refine q_iload_n (pc := 2) dX7_keepFraction_2 rfl ?_
  refine q_istore (pc := 3) [some _, some _, some _, some _, some _, none, none] dX7_keepFraction_3 rfl (Nat.le_of_ble_eq_true rfl) rfl ?_
  refine q_iconst (pc := 5) dX7_keepFraction_5 ?_
  refine q_istore (pc := 6) [some _, some _, some _, some _, some _, some _, none] dX7_keepFraction_6 rfl (Nat.le_of_ble_eq_true rfl) rfl ?_
  exact L 64 _ _ _ _ (by omega) ht (by omega) hz
end HL2
