/-! the reference reads: tokens and words -/
def zmr (T : Int → Int) (s : Int) (b : Prop) [Decidable b] : Nat → Int
  | 0 => 0
  | m + 1 => if b then 1000000 else 10 * zmr T s b m + T (s + (m : Int)) - 48
def zmn (T : Int → Int) (len p : Int) : Int := if zt0 T len p = 2 then zmr T (zsrt T len p) (2 < znxt T len p - zsrt T len p) (znxt T len p - zsrt T len p).toNat else 0
def zte (T : Int → Int) (len p : Int) : Int := if zt0 T len p = 0 then zsrt T len p + 1 else znxt T len p
abbrev zMT (g : zG) (ab be u len it sm : Int) (T : Int → Int) (p : Int) : zE := zMO g ab be u len (znxt T len p) (zt0 T len p) (zsrt T len p) (zte T len p) (zmn T len p) it sm
def zwv (T : Int → Int) (s : Int) : Nat → Int
  | 0 => 0
  | n + 1 => if 100000000000 < zwv T s n then zwv T s n else 27 * zwv T s n + T (s + (n : Int)) - 97 + 1
theorem zwv_b {T : Int → Int} {s : Int} : ∀ n : Nat, (∀ j : Nat, j < n → 97 ≤ T (s + (j : Int)) ∧ T (s + (j : Int)) ≤ 122) → 0 ≤ zwv T s n ∧ (1 ≤ n → 1 ≤ zwv T s n) ∧ zwv T s n ≤ 2700000000026
  | 0, _ => by rw [zwv]; omega
  | n + 1, h => by
    have ih := zwv_b n (fun j hj => h j (by omega))
    have h1 := h n (by omega)
    rw [zwv]; split <;> omega
theorem zwv_inv {T : Int → Int} {s C : Int} {n : Nat} (h : ∀ j : Nat, j < n + 1 → 97 ≤ T (s + (j : Int)) ∧ T (s + (j : Int)) ≤ 122) (hC : C ≤ 100000000000) (e : zwv T s (n + 1) = C) : zwv T s n = (C - 1) / 27 ∧ T (s + (n : Int)) = (C - 1) % 27 + 97 := by
  have h1 := h n (by omega)
  rw [zwv] at e
  split at e <;> omega
theorem zwv_z {T : Int → Int} {s : Int} {n : Nat} (h : ∀ j : Nat, j < n → 97 ≤ T (s + (j : Int)) ∧ T (s + (j : Int)) ≤ 122) (e : zwv T s n = 0) : n = 0 := by
  have := zwv_b n h
  omega
theorem zwd_0 {T : Int → Int} {s : Int} {n : Nat} (h : ∀ j : Nat, j < n → 97 ≤ T (s + (j : Int)) ∧ T (s + (j : Int)) ≤ 122) : zwv T s n = 10502465 ↔ (n : Int) = zslen 0 ∧ ∀ j : Nat, j < zLen.getD 0 0 → T (s + (j : Int)) = zschr 0 (j : Int) := by
  have el : zslen 0 = 5 := by decide
  have eL : zLen.getD 0 0 = 5 := rfl
  have d0 : zschr 0 ((0 : Nat) : Int) = 115 := by decide
  have d1 : zschr 0 ((1 : Nat) : Int) = 116 := by decide
  have d2 : zschr 0 ((2 : Nat) : Int) = 111 := by decide
  have d3 : zschr 0 ((3 : Nat) : Int) = 114 := by decide
  have d4 : zschr 0 ((4 : Nat) : Int) = 101 := by decide
  rw [el, eL]
  constructor
  · intro e
    obtain ⟨n1, rfl⟩ : ∃ m, n = m + 1 := ⟨n - 1, by
      cases n with
      | zero => rw [zwv] at e; omega
      | succ m => omega⟩
    obtain ⟨e, t4⟩ := zwv_inv (fun j hj => h j (by omega)) (by omega) e
    rw [show ((10502465 : Int) - 1) / 27 = 388980 by omega] at e
    obtain ⟨n2, rfl⟩ : ∃ m, n1 = m + 1 := ⟨n1 - 1, by
      cases n1 with
      | zero => rw [zwv] at e; omega
      | succ m => omega⟩
    obtain ⟨e, t3⟩ := zwv_inv (fun j hj => h j (by omega)) (by omega) e
    rw [show ((388980 : Int) - 1) / 27 = 14406 by omega] at e
    obtain ⟨n3, rfl⟩ : ∃ m, n2 = m + 1 := ⟨n2 - 1, by
      cases n2 with
      | zero => rw [zwv] at e; omega
      | succ m => omega⟩
    obtain ⟨e, t2⟩ := zwv_inv (fun j hj => h j (by omega)) (by omega) e
    rw [show ((14406 : Int) - 1) / 27 = 533 by omega] at e
    obtain ⟨n4, rfl⟩ : ∃ m, n3 = m + 1 := ⟨n3 - 1, by
      cases n3 with
      | zero => rw [zwv] at e; omega
      | succ m => omega⟩
    obtain ⟨e, t1⟩ := zwv_inv (fun j hj => h j (by omega)) (by omega) e
    rw [show ((533 : Int) - 1) / 27 = 19 by omega] at e
    obtain ⟨n5, rfl⟩ : ∃ m, n4 = m + 1 := ⟨n4 - 1, by
      cases n4 with
      | zero => rw [zwv] at e; omega
      | succ m => omega⟩
    obtain ⟨e, t0⟩ := zwv_inv (fun j hj => h j (by omega)) (by omega) e
    rw [show ((19 : Int) - 1) / 27 = 0 by omega] at e
    obtain rfl : n5 = 0 := zwv_z (fun j hj => h j (by omega)) e
    refine ⟨by omega, fun j hj => ?_⟩
    have hj : j = 0 ∨ j = 1 ∨ j = 2 ∨ j = 3 ∨ j = 4 := by omega
    rcases hj with hj | hj | hj | hj | hj
    · subst hj; rw [d0]; exact t0.trans (by omega)
    · subst hj; rw [d1]; exact t1.trans (by omega)
    · subst hj; rw [d2]; exact t2.trans (by omega)
    · subst hj; rw [d3]; exact t3.trans (by omega)
    · subst hj; rw [d4]; exact t4.trans (by omega)
  · rintro ⟨hn, hj⟩
    obtain rfl : n = 5 := by omega
    have e0 : zwv T s 0 = 0 := rfl
    have f0 := hj 0 (by omega)
    rw [d0] at f0
    have e1 : zwv T s 1 = 19 := by rw [zwv, e0, f0, if_neg (by omega)]; rfl
    have f1 := hj 1 (by omega)
    rw [d1] at f1
    have e2 : zwv T s 2 = 533 := by rw [zwv, e1, f1, if_neg (by omega)]; rfl
    have f2 := hj 2 (by omega)
    rw [d2] at f2
    have e3 : zwv T s 3 = 14406 := by rw [zwv, e2, f2, if_neg (by omega)]; rfl
    have f3 := hj 3 (by omega)
    rw [d3] at f3
    have e4 : zwv T s 4 = 388980 := by rw [zwv, e3, f3, if_neg (by omega)]; rfl
    have f4 := hj 4 (by omega)
    rw [d4] at f4
    have e5 : zwv T s 5 = 10502465 := by rw [zwv, e4, f4, if_neg (by omega)]; rfl
    exact e5
theorem zwd_1 {T : Int → Int} {s : Int} {n : Nat} (h : ∀ j : Nat, j < n → 97 ≤ T (s + (j : Int)) ∧ T (s + (j : Int)) ≤ 122) : zwv T s n = 45948915 ↔ (n : Int) = zslen 1 ∧ ∀ j : Nat, j < zLen.getD 1 0 → T (s + (j : Int)) = zschr 1 (j : Int) := by
  have el : zslen 1 = 6 := by decide
  have eL : zLen.getD 1 0 = 6 := rfl
  have d0 : zschr 1 ((0 : Nat) : Int) = 99 := by decide
  have d1 : zschr 1 ((1 : Nat) : Int) = 101 := by decide
  have d2 : zschr 1 ((2 : Nat) : Int) = 108 := by decide
  have d3 : zschr 1 ((3 : Nat) : Int) = 108 := by decide
  have d4 : zschr 1 ((4 : Nat) : Int) = 97 := by decide
  have d5 : zschr 1 ((5 : Nat) : Int) = 114 := by decide
  rw [el, eL]
  constructor
  · intro e
    obtain ⟨n1, rfl⟩ : ∃ m, n = m + 1 := ⟨n - 1, by
      cases n with
      | zero => rw [zwv] at e; omega
      | succ m => omega⟩
    obtain ⟨e, t5⟩ := zwv_inv (fun j hj => h j (by omega)) (by omega) e
    rw [show ((45948915 : Int) - 1) / 27 = 1701811 by omega] at e
    obtain ⟨n2, rfl⟩ : ∃ m, n1 = m + 1 := ⟨n1 - 1, by
      cases n1 with
      | zero => rw [zwv] at e; omega
      | succ m => omega⟩
    obtain ⟨e, t4⟩ := zwv_inv (fun j hj => h j (by omega)) (by omega) e
    rw [show ((1701811 : Int) - 1) / 27 = 63030 by omega] at e
    obtain ⟨n3, rfl⟩ : ∃ m, n2 = m + 1 := ⟨n2 - 1, by
      cases n2 with
      | zero => rw [zwv] at e; omega
      | succ m => omega⟩
    obtain ⟨e, t3⟩ := zwv_inv (fun j hj => h j (by omega)) (by omega) e
    rw [show ((63030 : Int) - 1) / 27 = 2334 by omega] at e
    obtain ⟨n4, rfl⟩ : ∃ m, n3 = m + 1 := ⟨n3 - 1, by
      cases n3 with
      | zero => rw [zwv] at e; omega
      | succ m => omega⟩
    obtain ⟨e, t2⟩ := zwv_inv (fun j hj => h j (by omega)) (by omega) e
    rw [show ((2334 : Int) - 1) / 27 = 86 by omega] at e
    obtain ⟨n5, rfl⟩ : ∃ m, n4 = m + 1 := ⟨n4 - 1, by
      cases n4 with
      | zero => rw [zwv] at e; omega
      | succ m => omega⟩
    obtain ⟨e, t1⟩ := zwv_inv (fun j hj => h j (by omega)) (by omega) e
    rw [show ((86 : Int) - 1) / 27 = 3 by omega] at e
    obtain ⟨n6, rfl⟩ : ∃ m, n5 = m + 1 := ⟨n5 - 1, by
      cases n5 with
      | zero => rw [zwv] at e; omega
      | succ m => omega⟩
    obtain ⟨e, t0⟩ := zwv_inv (fun j hj => h j (by omega)) (by omega) e
    rw [show ((3 : Int) - 1) / 27 = 0 by omega] at e
    obtain rfl : n6 = 0 := zwv_z (fun j hj => h j (by omega)) e
    refine ⟨by omega, fun j hj => ?_⟩
    have hj : j = 0 ∨ j = 1 ∨ j = 2 ∨ j = 3 ∨ j = 4 ∨ j = 5 := by omega
    rcases hj with hj | hj | hj | hj | hj | hj
    · subst hj; rw [d0]; exact t0.trans (by omega)
    · subst hj; rw [d1]; exact t1.trans (by omega)
    · subst hj; rw [d2]; exact t2.trans (by omega)
    · subst hj; rw [d3]; exact t3.trans (by omega)
    · subst hj; rw [d4]; exact t4.trans (by omega)
    · subst hj; rw [d5]; exact t5.trans (by omega)
  · rintro ⟨hn, hj⟩
    obtain rfl : n = 6 := by omega
    have e0 : zwv T s 0 = 0 := rfl
    have f0 := hj 0 (by omega)
    rw [d0] at f0
    have e1 : zwv T s 1 = 3 := by rw [zwv, e0, f0, if_neg (by omega)]; rfl
    have f1 := hj 1 (by omega)
    rw [d1] at f1
    have e2 : zwv T s 2 = 86 := by rw [zwv, e1, f1, if_neg (by omega)]; rfl
    have f2 := hj 2 (by omega)
    rw [d2] at f2
    have e3 : zwv T s 3 = 2334 := by rw [zwv, e2, f2, if_neg (by omega)]; rfl
    have f3 := hj 3 (by omega)
    rw [d3] at f3
    have e4 : zwv T s 4 = 63030 := by rw [zwv, e3, f3, if_neg (by omega)]; rfl
    have f4 := hj 4 (by omega)
    rw [d4] at f4
    have e5 : zwv T s 5 = 1701811 := by rw [zwv, e4, f4, if_neg (by omega)]; rfl
    have f5 := hj 5 (by omega)
    rw [d5] at f5
    have e6 : zwv T s 6 = 45948915 := by rw [zwv, e5, f5, if_neg (by omega)]; rfl
    exact e6
theorem zwd_2 {T : Int → Int} {s : Int} {n : Nat} (h : ∀ j : Nat, j < n → 97 ≤ T (s + (j : Int)) ∧ T (s + (j : Int)) ≤ 122) : zwv T s n = 7538239962 ↔ (n : Int) = zslen 2 ∧ ∀ j : Nat, j < zLen.getD 2 0 → T (s + (j : Int)) = zschr 2 (j : Int) := by
  have el : zslen 2 = 7 := by decide
  have eL : zLen.getD 2 0 = 7 := rfl
  have d0 : zschr 2 ((0 : Nat) : Int) = 115 := by decide
  have d1 : zschr 2 ((1 : Nat) : Int) = 108 := by decide
  have d2 : zschr 2 ((2 : Nat) : Int) = 105 := by decide
  have d3 : zschr 2 ((3 : Nat) : Int) = 110 := by decide
  have d4 : zschr 2 ((4 : Nat) : Int) = 103 := by decide
  have d5 : zschr 2 ((5 : Nat) : Int) = 101 := by decide
  have d6 : zschr 2 ((6 : Nat) : Int) = 114 := by decide
  rw [el, eL]
  constructor
  · intro e
    obtain ⟨n1, rfl⟩ : ∃ m, n = m + 1 := ⟨n - 1, by
      cases n with
      | zero => rw [zwv] at e; omega
      | succ m => omega⟩
    obtain ⟨e, t6⟩ := zwv_inv (fun j hj => h j (by omega)) (by omega) e
    rw [show ((7538239962 : Int) - 1) / 27 = 279194072 by omega] at e
    obtain ⟨n2, rfl⟩ : ∃ m, n1 = m + 1 := ⟨n1 - 1, by
      cases n1 with
      | zero => rw [zwv] at e; omega
      | succ m => omega⟩
    obtain ⟨e, t5⟩ := zwv_inv (fun j hj => h j (by omega)) (by omega) e
    rw [show ((279194072 : Int) - 1) / 27 = 10340521 by omega] at e
    obtain ⟨n3, rfl⟩ : ∃ m, n2 = m + 1 := ⟨n2 - 1, by
      cases n2 with
      | zero => rw [zwv] at e; omega
      | succ m => omega⟩
    obtain ⟨e, t4⟩ := zwv_inv (fun j hj => h j (by omega)) (by omega) e
    rw [show ((10340521 : Int) - 1) / 27 = 382982 by omega] at e
    obtain ⟨n4, rfl⟩ : ∃ m, n3 = m + 1 := ⟨n3 - 1, by
      cases n3 with
      | zero => rw [zwv] at e; omega
      | succ m => omega⟩
    obtain ⟨e, t3⟩ := zwv_inv (fun j hj => h j (by omega)) (by omega) e
    rw [show ((382982 : Int) - 1) / 27 = 14184 by omega] at e
    obtain ⟨n5, rfl⟩ : ∃ m, n4 = m + 1 := ⟨n4 - 1, by
      cases n4 with
      | zero => rw [zwv] at e; omega
      | succ m => omega⟩
    obtain ⟨e, t2⟩ := zwv_inv (fun j hj => h j (by omega)) (by omega) e
    rw [show ((14184 : Int) - 1) / 27 = 525 by omega] at e
    obtain ⟨n6, rfl⟩ : ∃ m, n5 = m + 1 := ⟨n5 - 1, by
      cases n5 with
      | zero => rw [zwv] at e; omega
      | succ m => omega⟩
    obtain ⟨e, t1⟩ := zwv_inv (fun j hj => h j (by omega)) (by omega) e
    rw [show ((525 : Int) - 1) / 27 = 19 by omega] at e
    obtain ⟨n7, rfl⟩ : ∃ m, n6 = m + 1 := ⟨n6 - 1, by
      cases n6 with
      | zero => rw [zwv] at e; omega
      | succ m => omega⟩
    obtain ⟨e, t0⟩ := zwv_inv (fun j hj => h j (by omega)) (by omega) e
    rw [show ((19 : Int) - 1) / 27 = 0 by omega] at e
    obtain rfl : n7 = 0 := zwv_z (fun j hj => h j (by omega)) e
    refine ⟨by omega, fun j hj => ?_⟩
    have hj : j = 0 ∨ j = 1 ∨ j = 2 ∨ j = 3 ∨ j = 4 ∨ j = 5 ∨ j = 6 := by omega
    rcases hj with hj | hj | hj | hj | hj | hj | hj
    · subst hj; rw [d0]; exact t0.trans (by omega)
    · subst hj; rw [d1]; exact t1.trans (by omega)
    · subst hj; rw [d2]; exact t2.trans (by omega)
    · subst hj; rw [d3]; exact t3.trans (by omega)
    · subst hj; rw [d4]; exact t4.trans (by omega)
    · subst hj; rw [d5]; exact t5.trans (by omega)
    · subst hj; rw [d6]; exact t6.trans (by omega)
  · rintro ⟨hn, hj⟩
    obtain rfl : n = 7 := by omega
    have e0 : zwv T s 0 = 0 := rfl
    have f0 := hj 0 (by omega)
    rw [d0] at f0
    have e1 : zwv T s 1 = 19 := by rw [zwv, e0, f0, if_neg (by omega)]; rfl
    have f1 := hj 1 (by omega)
    rw [d1] at f1
    have e2 : zwv T s 2 = 525 := by rw [zwv, e1, f1, if_neg (by omega)]; rfl
    have f2 := hj 2 (by omega)
    rw [d2] at f2
    have e3 : zwv T s 3 = 14184 := by rw [zwv, e2, f2, if_neg (by omega)]; rfl
    have f3 := hj 3 (by omega)
    rw [d3] at f3
    have e4 : zwv T s 4 = 382982 := by rw [zwv, e3, f3, if_neg (by omega)]; rfl
    have f4 := hj 4 (by omega)
    rw [d4] at f4
    have e5 : zwv T s 5 = 10340521 := by rw [zwv, e4, f4, if_neg (by omega)]; rfl
    have f5 := hj 5 (by omega)
    rw [d5] at f5
    have e6 : zwv T s 6 = 279194072 := by rw [zwv, e5, f5, if_neg (by omega)]; rfl
    have f6 := hj 6 (by omega)
    rw [d6] at f6
    have e7 : zwv T s 7 = 7538239962 := by rw [zwv, e6, f6, if_neg (by omega)]; rfl
    exact e7
theorem zwd_3 {T : Int → Int} {s : Int} {n : Nat} (h : ∀ j : Nat, j < n → 97 ≤ T (s + (j : Int)) ∧ T (s + (j : Int)) ≤ 122) : zwv T s n = 1842025 ↔ (n : Int) = zslen 3 ∧ ∀ j : Nat, j < zLen.getD 3 0 → T (s + (j : Int)) = zschr 3 (j : Int) := by
  have el : zslen 3 = 5 := by decide
  have eL : zLen.getD 3 0 = 5 := rfl
  have d0 : zschr 3 ((0 : Nat) : Int) = 99 := by decide
  have d1 : zschr 3 ((1 : Nat) : Int) = 108 := by decide
  have d2 : zschr 3 ((2 : Nat) : Int) = 111 := by decide
  have d3 : zschr 3 ((3 : Nat) : Int) = 117 := by decide
  have d4 : zschr 3 ((4 : Nat) : Int) = 100 := by decide
  rw [el, eL]
  constructor
  · intro e
    obtain ⟨n1, rfl⟩ : ∃ m, n = m + 1 := ⟨n - 1, by
      cases n with
      | zero => rw [zwv] at e; omega
      | succ m => omega⟩
    obtain ⟨e, t4⟩ := zwv_inv (fun j hj => h j (by omega)) (by omega) e
    rw [show ((1842025 : Int) - 1) / 27 = 68223 by omega] at e
    obtain ⟨n2, rfl⟩ : ∃ m, n1 = m + 1 := ⟨n1 - 1, by
      cases n1 with
      | zero => rw [zwv] at e; omega
      | succ m => omega⟩
    obtain ⟨e, t3⟩ := zwv_inv (fun j hj => h j (by omega)) (by omega) e
    rw [show ((68223 : Int) - 1) / 27 = 2526 by omega] at e
    obtain ⟨n3, rfl⟩ : ∃ m, n2 = m + 1 := ⟨n2 - 1, by
      cases n2 with
      | zero => rw [zwv] at e; omega
      | succ m => omega⟩
    obtain ⟨e, t2⟩ := zwv_inv (fun j hj => h j (by omega)) (by omega) e
    rw [show ((2526 : Int) - 1) / 27 = 93 by omega] at e
    obtain ⟨n4, rfl⟩ : ∃ m, n3 = m + 1 := ⟨n3 - 1, by
      cases n3 with
      | zero => rw [zwv] at e; omega
      | succ m => omega⟩
    obtain ⟨e, t1⟩ := zwv_inv (fun j hj => h j (by omega)) (by omega) e
    rw [show ((93 : Int) - 1) / 27 = 3 by omega] at e
    obtain ⟨n5, rfl⟩ : ∃ m, n4 = m + 1 := ⟨n4 - 1, by
      cases n4 with
      | zero => rw [zwv] at e; omega
      | succ m => omega⟩
    obtain ⟨e, t0⟩ := zwv_inv (fun j hj => h j (by omega)) (by omega) e
    rw [show ((3 : Int) - 1) / 27 = 0 by omega] at e
    obtain rfl : n5 = 0 := zwv_z (fun j hj => h j (by omega)) e
    refine ⟨by omega, fun j hj => ?_⟩
    have hj : j = 0 ∨ j = 1 ∨ j = 2 ∨ j = 3 ∨ j = 4 := by omega
    rcases hj with hj | hj | hj | hj | hj
    · subst hj; rw [d0]; exact t0.trans (by omega)
    · subst hj; rw [d1]; exact t1.trans (by omega)
    · subst hj; rw [d2]; exact t2.trans (by omega)
    · subst hj; rw [d3]; exact t3.trans (by omega)
    · subst hj; rw [d4]; exact t4.trans (by omega)
  · rintro ⟨hn, hj⟩
    obtain rfl : n = 5 := by omega
    have e0 : zwv T s 0 = 0 := rfl
    have f0 := hj 0 (by omega)
    rw [d0] at f0
    have e1 : zwv T s 1 = 3 := by rw [zwv, e0, f0, if_neg (by omega)]; rfl
    have f1 := hj 1 (by omega)
    rw [d1] at f1
    have e2 : zwv T s 2 = 93 := by rw [zwv, e1, f1, if_neg (by omega)]; rfl
    have f2 := hj 2 (by omega)
    rw [d2] at f2
    have e3 : zwv T s 3 = 2526 := by rw [zwv, e2, f2, if_neg (by omega)]; rfl
    have f3 := hj 3 (by omega)
    rw [d3] at f3
    have e4 : zwv T s 4 = 68223 := by rw [zwv, e3, f3, if_neg (by omega)]; rfl
    have f4 := hj 4 (by omega)
    rw [d4] at f4
    have e5 : zwv T s 5 = 1842025 := by rw [zwv, e4, f4, if_neg (by omega)]; rfl
    exact e5
theorem zwd_4 {T : Int → Int} {s : Int} {n : Nat} (h : ∀ j : Nat, j < n → 97 ≤ T (s + (j : Int)) ∧ T (s + (j : Int)) ≤ 122) : zwv T s n = 12325519 ↔ (n : Int) = zslen 4 ∧ ∀ j : Nat, j < zLen.getD 4 0 → T (s + (j : Int)) = zschr 4 (j : Int) := by
  have el : zslen 4 = 5 := by decide
  have eL : zLen.getD 4 0 = 5 := rfl
  have d0 : zschr 4 ((0 : Nat) : Int) = 119 := by decide
  have d1 : zschr 4 ((1 : Nat) : Int) = 101 := by decide
  have d2 : zschr 4 ((2 : Nat) : Int) = 101 := by decide
  have d3 : zschr 4 ((3 : Nat) : Int) = 107 := by decide
  have d4 : zschr 4 ((4 : Nat) : Int) = 115 := by decide
  rw [el, eL]
  constructor
  · intro e
    obtain ⟨n1, rfl⟩ : ∃ m, n = m + 1 := ⟨n - 1, by
      cases n with
      | zero => rw [zwv] at e; omega
      | succ m => omega⟩
    obtain ⟨e, t4⟩ := zwv_inv (fun j hj => h j (by omega)) (by omega) e
    rw [show ((12325519 : Int) - 1) / 27 = 456500 by omega] at e
    obtain ⟨n2, rfl⟩ : ∃ m, n1 = m + 1 := ⟨n1 - 1, by
      cases n1 with
      | zero => rw [zwv] at e; omega
      | succ m => omega⟩
    obtain ⟨e, t3⟩ := zwv_inv (fun j hj => h j (by omega)) (by omega) e
    rw [show ((456500 : Int) - 1) / 27 = 16907 by omega] at e
    obtain ⟨n3, rfl⟩ : ∃ m, n2 = m + 1 := ⟨n2 - 1, by
      cases n2 with
      | zero => rw [zwv] at e; omega
      | succ m => omega⟩
    obtain ⟨e, t2⟩ := zwv_inv (fun j hj => h j (by omega)) (by omega) e
    rw [show ((16907 : Int) - 1) / 27 = 626 by omega] at e
    obtain ⟨n4, rfl⟩ : ∃ m, n3 = m + 1 := ⟨n3 - 1, by
      cases n3 with
      | zero => rw [zwv] at e; omega
      | succ m => omega⟩
    obtain ⟨e, t1⟩ := zwv_inv (fun j hj => h j (by omega)) (by omega) e
    rw [show ((626 : Int) - 1) / 27 = 23 by omega] at e
    obtain ⟨n5, rfl⟩ : ∃ m, n4 = m + 1 := ⟨n4 - 1, by
      cases n4 with
      | zero => rw [zwv] at e; omega
      | succ m => omega⟩
    obtain ⟨e, t0⟩ := zwv_inv (fun j hj => h j (by omega)) (by omega) e
    rw [show ((23 : Int) - 1) / 27 = 0 by omega] at e
    obtain rfl : n5 = 0 := zwv_z (fun j hj => h j (by omega)) e
    refine ⟨by omega, fun j hj => ?_⟩
    have hj : j = 0 ∨ j = 1 ∨ j = 2 ∨ j = 3 ∨ j = 4 := by omega
    rcases hj with hj | hj | hj | hj | hj
    · subst hj; rw [d0]; exact t0.trans (by omega)
    · subst hj; rw [d1]; exact t1.trans (by omega)
    · subst hj; rw [d2]; exact t2.trans (by omega)
    · subst hj; rw [d3]; exact t3.trans (by omega)
    · subst hj; rw [d4]; exact t4.trans (by omega)
  · rintro ⟨hn, hj⟩
    obtain rfl : n = 5 := by omega
    have e0 : zwv T s 0 = 0 := rfl
    have f0 := hj 0 (by omega)
    rw [d0] at f0
    have e1 : zwv T s 1 = 23 := by rw [zwv, e0, f0, if_neg (by omega)]; rfl
    have f1 := hj 1 (by omega)
    rw [d1] at f1
    have e2 : zwv T s 2 = 626 := by rw [zwv, e1, f1, if_neg (by omega)]; rfl
    have f2 := hj 2 (by omega)
    rw [d2] at f2
    have e3 : zwv T s 3 = 16907 := by rw [zwv, e2, f2, if_neg (by omega)]; rfl
    have f3 := hj 3 (by omega)
    rw [d3] at f3
    have e4 : zwv T s 4 = 456500 := by rw [zwv, e3, f3, if_neg (by omega)]; rfl
    have f4 := hj 4 (by omega)
    rw [d4] at f4
    have e5 : zwv T s 5 = 12325519 := by rw [zwv, e4, f4, if_neg (by omega)]; rfl
    exact e5
theorem ztok1 {x : Int} (h : ztok x = 1) : 97 ≤ x ∧ x ≤ 122 := by
  unfold ztok at h
  repeat' split at h
  all_goals omega
theorem ztok_1 {x : Int} (h : 97 ≤ x ∧ x ≤ 122) : ztok x = 1 := by
  unfold ztok; rw [if_neg (by omega), if_neg (by omega), if_pos h]
theorem ztok_2 {x : Int} (h : 48 ≤ x ∧ x ≤ 57) : ztok x = 2 := by
  unfold ztok; rw [if_neg (by omega), if_neg (by omega), if_neg (by omega), if_pos h]
theorem zletters {T : Int → Int} {len p : Int} (hp : 0 ≤ p ∧ p ≤ len) (h : zt0 T len p = 1) : ∀ j : Nat, (j : Int) < znxt T len p - zsrt T len p → 97 ≤ T (zsrt T len p + (j : Int)) ∧ T (zsrt T len p + (j : Int)) ≤ 122 := fun j hj => by
  have hs := zt0_0 hp.2 hp.1 (show zt0 T len p ≠ 0 by omega)
  have hb := zsrt_b (T := T) hp.2
  by_cases j0 : j = 0
  · subst j0
    have e1 : zt0 T len p = ztok (zbyte T len (zsrt T len p)) := rfl
    have e2 : zbyte T len (zsrt T len p) = T (zsrt T len p) := by unfold zbyte; rw [if_pos (by omega)]
    rw [e1, e2] at h
    have := ztok1 h
    rw [show zsrt T len p + ((0 : Nat) : Int) = zsrt T len p by omega]; exact this
  · have e3 : znxt T len p = zrun T (zt0 T len p) (len - min len (zsrt T len p + 1)).toNat (min len (zsrt T len p + 1)) := by unfold znxt; rw [if_pos (by omega)]
    have h9 := zrun_tok (T := T) (tk := zt0 T len p) (len - min len (zsrt T len p + 1)).toNat (min len (zsrt T len p + 1)) (zsrt T len p + (j : Int)) (by omega) (by rw [← e3]; omega)
    rw [h] at h9
    exact ztok1 h9
section X8T
variable {g : zG} {d : Nat} {w : zWd} {K : Option Value → zWd → Prop} {T : Int → Int} {len : Int}
set_option maxRecDepth 100000 in
set_option maxHeartbeats 8000000 in
theorem c_X8_isLetter {p : Int} {ab be u p0 p1 p2 p3 p4 it sm : Int} (hd : 1 ≤ d) (h72 : w.1 72 = some (zMO g ab be u len p0 p1 p2 p3 p4 it sm)) (h76 : w.1 76 = some (.inr (false, 150, T))) (hT : zTx T len) (hp : 0 ≤ p ∧ p ≤ 200) (k : K (some (zI (zb (p < len ∧ ztok (T p) = 1)))) w) : zCall g d 0 0 mX8_isLetter [zR g 72, zI p] w K := by
  have hl := hT.1
  have hb := hT.2 p hp.1
  refine zenter [some _, some _] pn_X8 rfl (Nat.le_of_ble_eq_true rfl) ?_
  refine q_iload_n (pc := 0) dX8_isLetter_0 rfl ?_
  refine q_aload_n (pc := 1) dX8_isLetter_1 rfl rfl ?_
  refine q_getfield (pc := 2) gf_X8_128 dX8_isLetter_2 (by assumption) rfl ?_
  refine q_icmp_ge (pc := 5) (by omega) (by omega) 31 dX8_isLetter_5 rfl (fun c5 => ?_) (fun c5 => ?_)
  · refine q_iconst (pc := 31) dX8_isLetter_31 ?_
    exact q_zreturn0 (pc := 32) (by first | exact ⟨by omega, ztok_1 (by omega)⟩ | exact fun z => (by have h9 := ztok1 z.2; have h8 := z.1; omega)) dX8_isLetter_32 rfl k
  refine q_aload_n (pc := 8) dX8_isLetter_8 rfl rfl ?_
  refine q_getfield (pc := 9) gf_X8_23 dX8_isLetter_9 (by assumption) rfl ?_
  refine q_iload_n (pc := 12) dX8_isLetter_12 rfl ?_
  refine q_iaload (pc := 13) dX8_isLetter_13 (by assumption) (by omega) ?_
  refine q_i2l (pc := 14) dX8_isLetter_14 (by omega) ?_
  refine q_ldc2_w (pc := 15) tw_5_144 dX8_isLetter_15 ?_
  refine q_ldc2_w (pc := 18) tw_5_145 dX8_isLetter_18 ?_
  refine q_invokestatic (pc := 21) (d' := d - 1) (mc' := 0) (ms' := 0) (As := [_, _, _]) cl_X8_60 dX8_isLetter_21 rfl rfl (by omega) rfl 0 0 (Nat.le_refl 0) (Nat.le_refl 0) ?_
  refine c_X8_in (by omega) (by omega) (by omega) ?_
  refine q_ifb_eq (pc := 24) 31 dX8_isLetter_24 rfl (fun c24 => ?_) (fun c24 => ?_)
  · refine q_iconst (pc := 31) dX8_isLetter_31 ?_
    exact q_zreturn0 (pc := 32) (by first | exact ⟨by omega, ztok_1 (by omega)⟩ | exact fun z => (by have h9 := ztok1 z.2; have h8 := z.1; omega)) dX8_isLetter_32 rfl k
  refine q_iconst (pc := 27) dX8_isLetter_27 ?_
  refine q_goto (pc := 28) 32 dX8_isLetter_28 rfl ?_
  exact q_zreturn1 (pc := 32) (by first | exact ⟨by omega, ztok_1 (by omega)⟩ | exact fun z => (by have h9 := ztok1 z.2; have h8 := z.1; omega)) dX8_isLetter_32 rfl k
set_option maxRecDepth 100000 in
set_option maxHeartbeats 8000000 in
theorem c_X8_isFigure {p : Int} {ab be u p0 p1 p2 p3 p4 it sm : Int} (hd : 1 ≤ d) (h72 : w.1 72 = some (zMO g ab be u len p0 p1 p2 p3 p4 it sm)) (h76 : w.1 76 = some (.inr (false, 150, T))) (hT : zTx T len) (hp : 0 ≤ p ∧ p ≤ 200) (k : K (some (zI (zb (p < len ∧ ztok (T p) = 2)))) w) : zCall g d 0 0 mX8_isFigure [zR g 72, zI p] w K := by
  have hl := hT.1
  have hb := hT.2 p hp.1
  refine zenter [some _, some _] pn_X8 rfl (Nat.le_of_ble_eq_true rfl) ?_
  refine q_iload_n (pc := 0) dX8_isFigure_0 rfl ?_
  refine q_aload_n (pc := 1) dX8_isFigure_1 rfl rfl ?_
  refine q_getfield (pc := 2) gf_X8_128 dX8_isFigure_2 (by assumption) rfl ?_
  refine q_icmp_ge (pc := 5) (by omega) (by omega) 31 dX8_isFigure_5 rfl (fun c5 => ?_) (fun c5 => ?_)
  · refine q_iconst (pc := 31) dX8_isFigure_31 ?_
    exact q_zreturn0 (pc := 32) (by first | exact ⟨by omega, ztok_2 (by omega)⟩ | exact fun z => (by have h9 := ztok2 z.2; have h8 := z.1; omega)) dX8_isFigure_32 rfl k
  refine q_aload_n (pc := 8) dX8_isFigure_8 rfl rfl ?_
  refine q_getfield (pc := 9) gf_X8_23 dX8_isFigure_9 (by assumption) rfl ?_
  refine q_iload_n (pc := 12) dX8_isFigure_12 rfl ?_
  refine q_iaload (pc := 13) dX8_isFigure_13 (by assumption) (by omega) ?_
  refine q_i2l (pc := 14) dX8_isFigure_14 (by omega) ?_
  refine q_ldc2_w (pc := 15) tw_5_150 dX8_isFigure_15 ?_
  refine q_ldc2_w (pc := 18) tw_5_151 dX8_isFigure_18 ?_
  refine q_invokestatic (pc := 21) (d' := d - 1) (mc' := 0) (ms' := 0) (As := [_, _, _]) cl_X8_60 dX8_isFigure_21 rfl rfl (by omega) rfl 0 0 (Nat.le_refl 0) (Nat.le_refl 0) ?_
  refine c_X8_in (by omega) (by omega) (by omega) ?_
  refine q_ifb_eq (pc := 24) 31 dX8_isFigure_24 rfl (fun c24 => ?_) (fun c24 => ?_)
  · refine q_iconst (pc := 31) dX8_isFigure_31 ?_
    exact q_zreturn0 (pc := 32) (by first | exact ⟨by omega, ztok_2 (by omega)⟩ | exact fun z => (by have h9 := ztok2 z.2; have h8 := z.1; omega)) dX8_isFigure_32 rfl k
  refine q_iconst (pc := 27) dX8_isFigure_27 ?_
  refine q_goto (pc := 28) 32 dX8_isFigure_28 rfl ?_
  exact q_zreturn1 (pc := 32) (by first | exact ⟨by omega, ztok_2 (by omega)⟩ | exact fun z => (by have h9 := ztok2 z.2; have h8 := z.1; omega)) dX8_isFigure_32 rfl k
set_option maxRecDepth 100000 in
set_option maxHeartbeats 8000000 in
theorem c_X8_nextToken {p : Int} {ab be u p1 p2 p3 p4 it sm : Int} (hd : 2 ≤ d) (h72 : w.1 72 = some (zMO g ab be u len p p1 p2 p3 p4 it sm)) (h76 : w.1 76 = some (.inr (false, 150, T))) (hT : zTx T len) (hp : 0 ≤ p ∧ p ≤ len) (k : ∀ w', zSame w w' 72 1 → w'.1 72 = some (zMT g ab be u len it sm T p) → K none w') : zCall g d 0 0 mX8_nextToken [zR g 72] w K := by
  have hl := hT.1
  have hS := zsrt_b (T := T) hp.2
  have e0 : zsrt T len p = zskip T (len - p).toNat p := rfl
  have e1 : zt0 T len p = ztok (zbyte T len (zsrt T len p)) := rfl
  have e2 : znxt T len p = if zt0 T len p = 1 ∨ zt0 T len p = 2 then zrun T (zt0 T len p) (len - min len (zsrt T len p + 1)).toNat (min len (zsrt T len p + 1)) else min len (zsrt T len p + 1) := rfl
  have e3 : zte T len p = if zt0 T len p = 0 then zsrt T len p + 1 else znxt T len p := rfl
  have e4 : zmn T len p = if zt0 T len p = 2 then zmr T (zsrt T len p) (2 < znxt T len p - zsrt T len p) (znxt T len p - zsrt T len p).toNat else 0 := rfl
  have ht := ztok_b (zbyte T len (zsrt T len p))
  have hz0 : zt0 T len p = 0 → zsrt T len p = len := fun z => by
    by_cases y : zsrt T len p = len
    · exact y
    · exfalso
      have hb := hT.2 (zsrt T len p) (by omega) (by omega)
      have eb : zbyte T len (zsrt T len p) = T (zsrt T len p) := by unfold zbyte; rw [if_pos (by omega)]
      rw [e1, eb] at z
      unfold ztok at z
      repeat' split at z
      all_goals omega
  have hzn : zt0 T len p ≠ 0 → zsrt T len p < len := fun z => zt0_0 hp.2 hp.1 z
  have hup : zt0 T len p ≠ 0 → zsrt T len p < znxt T len p := fun z => znxt_up hp.2 hp.1 z
  have hE := znxt_b (T := T) hp.2
  rw [← e1] at ht
  have hfin : zsrt T len p < len → zbyte T len (zsrt T len p) = T (zsrt T len p) := fun z => by unfold zbyte; rw [if_pos (by omega)]
  have hend : zsrt T len p = len → zt0 T len p = 0 := fun z => by rw [e1]; unfold zbyte; rw [if_neg (by omega)]; rfl
  unfold zMT at k
  generalize zt0 T len p = t0 at *
  generalize zsrt T len p = S at *
  generalize znxt T len p = E at *
  generalize zte T len p = E2 at *
  generalize zmn T len p = NM at *
  have J246 : ∀ (w1 : zWd) (x : Option Value) (q1 : Int), zSame w w1 72 1 → w1.1 72 = some (zMO g ab be u len q1 t0 S E2 NM it sm) → (t0 = 0 → q1 = S) → zRuns g d mX8_nextToken 0 0 246 [some (zR g 72), x] [] w1 K := by
    intro w1 x q1 hs h72 hq
    by_cases z : t0 = 0
    · have := hz0 z
      rw [if_neg (by omega)] at e2
      have hq2 := hq z
      rw [show q1 = E by omega] at h72
      refine q_aload_n (pc := 246) dX8_nextToken_246 rfl rfl ?_
      refine q_aload_n (pc := 247) dX8_nextToken_247 rfl rfl ?_
      refine q_getfield (pc := 248) gf_X8_154 dX8_nextToken_248 (by assumption) rfl ?_
      refine q_if_ne (pc := 251) (by omega) 261 dX8_nextToken_251 rfl (fun c251 => ?_) (fun c251 => ?_)
      · exfalso; omega
      refine q_aload_n (pc := 254) dX8_nextToken_254 rfl rfl ?_
      refine q_getfield (pc := 255) gf_X8_139 dX8_nextToken_255 (by assumption) rfl ?_
      refine q_goto (pc := 258) 265 dX8_nextToken_258 rfl ?_
      refine q_putfield2 (pc := 265) [_, _, _, _, _, _, _, _, _, _, _, _, _, _, _, _, _, _, _, _, _, _, _, _, _, _] pf_X8_139 dX8_nextToken_265 (by assumption) rfl rfl (Nat.le_of_ble_eq_true rfl) rfl ?_
      refine q_return (pc := 268) dX8_nextToken_268 rfl ?_
      exact k _ (hs.tr (zSame.up (by omega))) zup_at
    · rw [if_neg z] at e3
      rw [e3] at h72 k
      refine q_aload_n (pc := 246) dX8_nextToken_246 rfl rfl ?_
      refine q_aload_n (pc := 247) dX8_nextToken_247 rfl rfl ?_
      refine q_getfield (pc := 248) gf_X8_154 dX8_nextToken_248 (by assumption) rfl ?_
      refine q_if_ne (pc := 251) (by omega) 261 dX8_nextToken_251 rfl (fun c251 => ?_) (fun c251 => ?_)
      · refine q_aload_n (pc := 261) dX8_nextToken_261 rfl rfl ?_
        refine q_getfield (pc := 262) gf_X8_145 dX8_nextToken_262 (by assumption) rfl ?_
        refine q_putfield2 (pc := 265) [_, _, _, _, _, _, _, _, _, _, _, _, _, _, _, _, _, _, _, _, _, _, _, _, _, _] pf_X8_139 dX8_nextToken_265 (by assumption) rfl rfl (Nat.le_of_ble_eq_true rfl) rfl ?_
        refine q_return (pc := 268) dX8_nextToken_268 rfl ?_
        exact k _ (hs.tr (zSame.up (by omega))) zup_at
      exfalso; omega
  have L3 : t0 = 2 → ∀ (q m : Nat) (w1 : zWd) (q1 : Int), (m : Int) + (q : Int) = E - S → zSame w w1 72 1 → w1.1 72 = some (zMO g ab be u len q1 t0 S E2 (zmr T S (2 < E - S) m) it sm) → zRuns g d mX8_nextToken 0 0 185 [some (zR g 72), some (zI (S + (m : Int)))] [] w1 K := by
    intro ht2 q
    have hE2 : E2 = E := by rw [e3, if_neg (by omega)]
    induction q with
    | zero =>
      intro m w1 q1 h1 hs h72
      rw [if_pos ht2, show (E - S).toNat = m by omega] at e4
      rw [← e4] at h72
      refine q_iload_n (pc := 185) dX8_nextToken_185 rfl ?_
      refine q_aload_n (pc := 186) dX8_nextToken_186 rfl rfl ?_
      refine q_getfield (pc := 187) gf_X8_145 dX8_nextToken_187 (by assumption) rfl ?_
      refine q_icmp_ge (pc := 190) (by omega) (by omega) 246 dX8_nextToken_190 rfl (fun c190 => ?_) (fun c190 => ?_)
      · exact J246 _ _ _ hs h72 (fun z => by omega)
      exfalso; omega
    | succ q ih =>
      intro m w1 q1 h1 hs h72
      have h76 := (hs.2 76 (by omega)).trans h76
      have hih := ih (m + 1)
      have hbm := hT.2 (S + (m : Int)) (by omega) (by omega)
      rw [zmr, show S + ((m + 1 : Nat) : Int) = S + (m : Int) + 1 by omega] at hih
      by_cases h2 : 2 < E - S
      · rw [if_pos h2] at hih
        refine q_iload_n (pc := 185) dX8_nextToken_185 rfl ?_
        refine q_aload_n (pc := 186) dX8_nextToken_186 rfl rfl ?_
        refine q_getfield (pc := 187) gf_X8_145 dX8_nextToken_187 (by assumption) rfl ?_
        refine q_icmp_ge (pc := 190) (by omega) (by omega) 246 dX8_nextToken_190 rfl (fun c190 => ?_) (fun c190 => ?_)
        · exfalso; omega
        refine q_aload_n (pc := 193) dX8_nextToken_193 rfl rfl ?_
        refine q_getfield (pc := 194) gf_X8_154 dX8_nextToken_194 (by assumption) rfl ?_
        refine q_iconst (pc := 197) dX8_nextToken_197 ?_
        refine q_icmp_ne (pc := 198) (by omega) (by omega) 246 dX8_nextToken_198 rfl (fun c198 => ?_) (fun c198 => ?_)
        · exfalso; omega
        refine q_aload_n (pc := 201) dX8_nextToken_201 rfl rfl ?_
        refine q_aload_n (pc := 202) dX8_nextToken_202 rfl rfl ?_
        refine q_getfield (pc := 203) gf_X8_145 dX8_nextToken_203 (by assumption) rfl ?_
        refine q_aload_n (pc := 206) dX8_nextToken_206 rfl rfl ?_
        refine q_getfield (pc := 207) gf_X8_142 dX8_nextToken_207 (by assumption) rfl ?_
        refine q_isub (pc := 210) dX8_nextToken_210 ?_
        refine q_iconst (pc := 211) dX8_nextToken_211 ?_
        refine q_icmp_le (pc := 212) (by omega) (by omega) 220 dX8_nextToken_212 rfl (fun c212 => ?_) (fun c212 => ?_)
        · exfalso; omega
        refine q_ldc (pc := 215) tw_5_152 dX8_nextToken_215 ?_
        refine q_goto (pc := 217) 237 dX8_nextToken_217 rfl ?_
        refine q_putfield2 (pc := 237) [_, _, _, _, _, _, _, _, _, _, _, _, _, _, _, _, _, _, _, _, _, _, _, _, _, _] pf_X8_157 dX8_nextToken_237 (by assumption) rfl rfl (Nat.le_of_ble_eq_true rfl) rfl ?_
        refine q_iinc (pc := 240) [some _, some _] dX8_nextToken_240 rfl rfl rfl ?_
        refine q_goto (pc := 243) 185 dX8_nextToken_243 rfl ?_
        exact hih _ _ (by omega) (hs.tr (zSame.up (by omega))) zup_at
      · rw [if_neg h2] at hih
        refine q_iload_n (pc := 185) dX8_nextToken_185 rfl ?_
        refine q_aload_n (pc := 186) dX8_nextToken_186 rfl rfl ?_
        refine q_getfield (pc := 187) gf_X8_145 dX8_nextToken_187 (by assumption) rfl ?_
        refine q_icmp_ge (pc := 190) (by omega) (by omega) 246 dX8_nextToken_190 rfl (fun c190 => ?_) (fun c190 => ?_)
        · exfalso; omega
        refine q_aload_n (pc := 193) dX8_nextToken_193 rfl rfl ?_
        refine q_getfield (pc := 194) gf_X8_154 dX8_nextToken_194 (by assumption) rfl ?_
        refine q_iconst (pc := 197) dX8_nextToken_197 ?_
        refine q_icmp_ne (pc := 198) (by omega) (by omega) 246 dX8_nextToken_198 rfl (fun c198 => ?_) (fun c198 => ?_)
        · exfalso; omega
        refine q_aload_n (pc := 201) dX8_nextToken_201 rfl rfl ?_
        refine q_aload_n (pc := 202) dX8_nextToken_202 rfl rfl ?_
        refine q_getfield (pc := 203) gf_X8_145 dX8_nextToken_203 (by assumption) rfl ?_
        refine q_aload_n (pc := 206) dX8_nextToken_206 rfl rfl ?_
        refine q_getfield (pc := 207) gf_X8_142 dX8_nextToken_207 (by assumption) rfl ?_
        refine q_isub (pc := 210) dX8_nextToken_210 ?_
        refine q_iconst (pc := 211) dX8_nextToken_211 ?_
        refine q_icmp_le (pc := 212) (by omega) (by omega) 220 dX8_nextToken_212 rfl (fun c212 => ?_) (fun c212 => ?_)
        · refine q_bipush (pc := 220) (by decide) dX8_nextToken_220 ?_
          refine q_aload_n (pc := 222) dX8_nextToken_222 rfl rfl ?_
          refine q_getfield (pc := 223) gf_X8_157 dX8_nextToken_223 (by assumption) rfl ?_
          refine q_imul (pc := 226) dX8_nextToken_226 ?_
          refine q_aload_n (pc := 227) dX8_nextToken_227 rfl rfl ?_
          refine q_getfield (pc := 228) gf_X8_23 dX8_nextToken_228 (by assumption) rfl ?_
          refine q_iload_n (pc := 231) dX8_nextToken_231 rfl ?_
          refine q_iaload (pc := 232) dX8_nextToken_232 (by assumption) (by omega) ?_
          refine q_iadd (pc := 233) dX8_nextToken_233 ?_
          refine q_bipush (pc := 234) (by decide) dX8_nextToken_234 ?_
          refine q_isub (pc := 236) dX8_nextToken_236 ?_
          refine q_putfield2 (pc := 237) [_, _, _, _, _, _, _, _, _, _, _, _, _, _, _, _, _, _, _, _, _, _, _, _, _, _] pf_X8_157 dX8_nextToken_237 (by assumption) rfl rfl (Nat.le_of_ble_eq_true rfl) rfl ?_
          refine q_iinc (pc := 240) [some _, some _] dX8_nextToken_240 rfl rfl rfl ?_
          refine q_goto (pc := 243) 185 dX8_nextToken_243 rfl ?_
          exact hih _ _ (by omega) (hs.tr (zSame.up (by omega))) zup_at
        exfalso; omega
  have J175 : ∀ (w1 : zWd) (q1 : Int), zSame w w1 72 1 → w1.1 72 = some (zMO g ab be u len q1 t0 S E2 p4 it sm) → (t0 = 0 → q1 = S) → zRuns g d mX8_nextToken 0 0 175 [some (zR g 72), none] [] w1 K := by
    intro w1 q1 hs h72 hq
    by_cases z : t0 = 2
    · refine q_aload_n (pc := 175) dX8_nextToken_175 rfl rfl ?_
      refine q_iconst (pc := 176) dX8_nextToken_176 ?_
      refine q_putfield2 (pc := 177) [_, _, _, _, _, _, _, _, _, _, _, _, _, _, _, _, _, _, _, _, _, _, _, _, _, _] pf_X8_157 dX8_nextToken_177 (by first | assumption | exact zup_at | exact (zup_ne (by decide)).trans (zup_at) | exact (zup_ne (by decide)).trans (by assumption) | exact (zup_ne (by decide)).trans ((zup_ne (by decide)).trans (zup_at)) | exact (zup_ne (by decide)).trans ((zup_ne (by decide)).trans (by assumption)) | exact (zup_ne (by decide)).trans ((zup_ne (by decide)).trans ((zup_ne (by decide)).trans (zup_at))) | exact (zup_ne (by decide)).trans ((zup_ne (by decide)).trans ((zup_ne (by decide)).trans (by assumption))) | exact (zup_ne (by decide)).trans ((zup_ne (by decide)).trans ((zup_ne (by decide)).trans ((zup_ne (by decide)).trans (zup_at)))) | exact (zup_ne (by decide)).trans ((zup_ne (by decide)).trans ((zup_ne (by decide)).trans ((zup_ne (by decide)).trans (by assumption)))) | exact (zup_ne (by decide)).trans ((zup_ne (by decide)).trans ((zup_ne (by decide)).trans ((zup_ne (by decide)).trans ((zup_ne (by decide)).trans (zup_at))))) | exact (zup_ne (by decide)).trans ((zup_ne (by decide)).trans ((zup_ne (by decide)).trans ((zup_ne (by decide)).trans ((zup_ne (by decide)).trans (by assumption)))))) rfl rfl (Nat.le_of_ble_eq_true rfl) rfl ?_
      refine q_aload_n (pc := 180) dX8_nextToken_180 rfl rfl ?_
      refine q_getfield (pc := 181) gf_X8_142 dX8_nextToken_181 (by first | assumption | exact zup_at | exact (zup_ne (by decide)).trans (zup_at) | exact (zup_ne (by decide)).trans (by assumption) | exact (zup_ne (by decide)).trans ((zup_ne (by decide)).trans (zup_at)) | exact (zup_ne (by decide)).trans ((zup_ne (by decide)).trans (by assumption)) | exact (zup_ne (by decide)).trans ((zup_ne (by decide)).trans ((zup_ne (by decide)).trans (zup_at))) | exact (zup_ne (by decide)).trans ((zup_ne (by decide)).trans ((zup_ne (by decide)).trans (by assumption))) | exact (zup_ne (by decide)).trans ((zup_ne (by decide)).trans ((zup_ne (by decide)).trans ((zup_ne (by decide)).trans (zup_at)))) | exact (zup_ne (by decide)).trans ((zup_ne (by decide)).trans ((zup_ne (by decide)).trans ((zup_ne (by decide)).trans (by assumption)))) | exact (zup_ne (by decide)).trans ((zup_ne (by decide)).trans ((zup_ne (by decide)).trans ((zup_ne (by decide)).trans ((zup_ne (by decide)).trans (zup_at))))) | exact (zup_ne (by decide)).trans ((zup_ne (by decide)).trans ((zup_ne (by decide)).trans ((zup_ne (by decide)).trans ((zup_ne (by decide)).trans (by assumption)))))) rfl ?_
      refine q_istore_n (pc := 184) [some _, some _] dX8_nextToken_184 rfl (Nat.le_of_ble_eq_true rfl) rfl ?_
      have h9 := L3 z (E - S).toNat 0 _ q1 (by omega) (hs.tr (zSame.up (by omega))) zup_at
      rw [show S + ((0 : Nat) : Int) = S by omega] at h9
      exact h9
    · rw [if_neg z] at e4
      refine q_aload_n (pc := 175) dX8_nextToken_175 rfl rfl ?_
      refine q_iconst (pc := 176) dX8_nextToken_176 ?_
      refine q_putfield2 (pc := 177) [_, _, _, _, _, _, _, _, _, _, _, _, _, _, _, _, _, _, _, _, _, _, _, _, _, _] pf_X8_157 dX8_nextToken_177 (by first | assumption | exact zup_at | exact (zup_ne (by decide)).trans (zup_at) | exact (zup_ne (by decide)).trans (by assumption) | exact (zup_ne (by decide)).trans ((zup_ne (by decide)).trans (zup_at)) | exact (zup_ne (by decide)).trans ((zup_ne (by decide)).trans (by assumption)) | exact (zup_ne (by decide)).trans ((zup_ne (by decide)).trans ((zup_ne (by decide)).trans (zup_at))) | exact (zup_ne (by decide)).trans ((zup_ne (by decide)).trans ((zup_ne (by decide)).trans (by assumption))) | exact (zup_ne (by decide)).trans ((zup_ne (by decide)).trans ((zup_ne (by decide)).trans ((zup_ne (by decide)).trans (zup_at)))) | exact (zup_ne (by decide)).trans ((zup_ne (by decide)).trans ((zup_ne (by decide)).trans ((zup_ne (by decide)).trans (by assumption)))) | exact (zup_ne (by decide)).trans ((zup_ne (by decide)).trans ((zup_ne (by decide)).trans ((zup_ne (by decide)).trans ((zup_ne (by decide)).trans (zup_at))))) | exact (zup_ne (by decide)).trans ((zup_ne (by decide)).trans ((zup_ne (by decide)).trans ((zup_ne (by decide)).trans ((zup_ne (by decide)).trans (by assumption)))))) rfl rfl (Nat.le_of_ble_eq_true rfl) rfl ?_
      refine q_aload_n (pc := 180) dX8_nextToken_180 rfl rfl ?_
      refine q_getfield (pc := 181) gf_X8_142 dX8_nextToken_181 (by first | assumption | exact zup_at | exact (zup_ne (by decide)).trans (zup_at) | exact (zup_ne (by decide)).trans (by assumption) | exact (zup_ne (by decide)).trans ((zup_ne (by decide)).trans (zup_at)) | exact (zup_ne (by decide)).trans ((zup_ne (by decide)).trans (by assumption)) | exact (zup_ne (by decide)).trans ((zup_ne (by decide)).trans ((zup_ne (by decide)).trans (zup_at))) | exact (zup_ne (by decide)).trans ((zup_ne (by decide)).trans ((zup_ne (by decide)).trans (by assumption))) | exact (zup_ne (by decide)).trans ((zup_ne (by decide)).trans ((zup_ne (by decide)).trans ((zup_ne (by decide)).trans (zup_at)))) | exact (zup_ne (by decide)).trans ((zup_ne (by decide)).trans ((zup_ne (by decide)).trans ((zup_ne (by decide)).trans (by assumption)))) | exact (zup_ne (by decide)).trans ((zup_ne (by decide)).trans ((zup_ne (by decide)).trans ((zup_ne (by decide)).trans ((zup_ne (by decide)).trans (zup_at))))) | exact (zup_ne (by decide)).trans ((zup_ne (by decide)).trans ((zup_ne (by decide)).trans ((zup_ne (by decide)).trans ((zup_ne (by decide)).trans (by assumption)))))) rfl ?_
      refine q_istore_n (pc := 184) [some _, some _] dX8_nextToken_184 rfl (Nat.le_of_ble_eq_true rfl) rfl ?_
      refine q_iload_n (pc := 185) dX8_nextToken_185 rfl ?_
      refine q_aload_n (pc := 186) dX8_nextToken_186 rfl rfl ?_
      refine q_getfield (pc := 187) gf_X8_145 dX8_nextToken_187 (by first | assumption | exact zup_at | exact (zup_ne (by decide)).trans (zup_at) | exact (zup_ne (by decide)).trans (by assumption) | exact (zup_ne (by decide)).trans ((zup_ne (by decide)).trans (zup_at)) | exact (zup_ne (by decide)).trans ((zup_ne (by decide)).trans (by assumption)) | exact (zup_ne (by decide)).trans ((zup_ne (by decide)).trans ((zup_ne (by decide)).trans (zup_at))) | exact (zup_ne (by decide)).trans ((zup_ne (by decide)).trans ((zup_ne (by decide)).trans (by assumption))) | exact (zup_ne (by decide)).trans ((zup_ne (by decide)).trans ((zup_ne (by decide)).trans ((zup_ne (by decide)).trans (zup_at)))) | exact (zup_ne (by decide)).trans ((zup_ne (by decide)).trans ((zup_ne (by decide)).trans ((zup_ne (by decide)).trans (by assumption)))) | exact (zup_ne (by decide)).trans ((zup_ne (by decide)).trans ((zup_ne (by decide)).trans ((zup_ne (by decide)).trans ((zup_ne (by decide)).trans (zup_at))))) | exact (zup_ne (by decide)).trans ((zup_ne (by decide)).trans ((zup_ne (by decide)).trans ((zup_ne (by decide)).trans ((zup_ne (by decide)).trans (by assumption)))))) rfl ?_
      refine q_icmp_ge (pc := 190) (by omega) (by omega) 246 dX8_nextToken_190 rfl (fun c190 => ?_) (fun c190 => ?_)
      · exact J246 _ _ q1 (hs.tr (zSame.up (by omega))) (by rw [e4]; exact zup_at) hq
      refine q_aload_n (pc := 193) dX8_nextToken_193 rfl rfl ?_
      refine q_getfield (pc := 194) gf_X8_154 dX8_nextToken_194 (by first | assumption | exact zup_at | exact (zup_ne (by decide)).trans (zup_at) | exact (zup_ne (by decide)).trans (by assumption) | exact (zup_ne (by decide)).trans ((zup_ne (by decide)).trans (zup_at)) | exact (zup_ne (by decide)).trans ((zup_ne (by decide)).trans (by assumption)) | exact (zup_ne (by decide)).trans ((zup_ne (by decide)).trans ((zup_ne (by decide)).trans (zup_at))) | exact (zup_ne (by decide)).trans ((zup_ne (by decide)).trans ((zup_ne (by decide)).trans (by assumption))) | exact (zup_ne (by decide)).trans ((zup_ne (by decide)).trans ((zup_ne (by decide)).trans ((zup_ne (by decide)).trans (zup_at)))) | exact (zup_ne (by decide)).trans ((zup_ne (by decide)).trans ((zup_ne (by decide)).trans ((zup_ne (by decide)).trans (by assumption)))) | exact (zup_ne (by decide)).trans ((zup_ne (by decide)).trans ((zup_ne (by decide)).trans ((zup_ne (by decide)).trans ((zup_ne (by decide)).trans (zup_at))))) | exact (zup_ne (by decide)).trans ((zup_ne (by decide)).trans ((zup_ne (by decide)).trans ((zup_ne (by decide)).trans ((zup_ne (by decide)).trans (by assumption)))))) rfl ?_
      refine q_iconst (pc := 197) dX8_nextToken_197 ?_
      refine q_icmp_ne (pc := 198) (by omega) (by omega) 246 dX8_nextToken_198 rfl (fun c198 => ?_) (fun c198 => ?_)
      · exact J246 _ _ q1 (hs.tr (zSame.up (by omega))) (by rw [e4]; exact zup_at) hq
      exfalso; omega
  have L2 : (t0 = 1 ∨ t0 = 2) → ∀ (q m : Nat) (w1 : zWd) (q1 : Int), (m : Int) + (q : Int) = len → zSame w w1 72 1 → w1.1 72 = some (zMO g ab be u len q1 t0 S (m : Int) p4 it sm) → zrun T t0 q (m : Int) = E → zRuns g d mX8_nextToken 0 0 124 [some (zR g 72), none] [] w1 K := by
    intro ht2 q
    have hE2 : E2 = E := by rw [e3, if_neg (by omega)]
    induction q with
    | zero =>
      intro m w1 q1 h1 hs h72 hz
      have h76 := (hs.2 76 (by omega)).trans h76
      rw [zrun] at hz
      have h722 := h72
      rw [hz, ← hE2] at h722
      refine q_aload_n (pc := 124) dX8_nextToken_124 rfl rfl ?_
      refine q_getfield (pc := 125) gf_X8_154 dX8_nextToken_125 (by assumption) rfl ?_
      refine q_iconst (pc := 128) dX8_nextToken_128 ?_
      refine q_icmp_ne (pc := 129) (by omega) (by omega) 143 dX8_nextToken_129 rfl (fun c129 => ?_) (fun c129 => ?_)
      · refine q_aload_n (pc := 143) dX8_nextToken_143 rfl rfl ?_
        refine q_getfield (pc := 144) gf_X8_154 dX8_nextToken_144 (by assumption) rfl ?_
        refine q_iconst (pc := 147) dX8_nextToken_147 ?_
        refine q_icmp_ne (pc := 148) (by omega) (by omega) 175 dX8_nextToken_148 rfl (fun c148 => ?_) (fun c148 => ?_)
        · first | (exfalso; omega; done) | exact J175 _ _ hs h722 (fun z => by omega)
        refine q_aload_n (pc := 151) dX8_nextToken_151 rfl rfl ?_
        refine q_aload_n (pc := 152) dX8_nextToken_152 rfl rfl ?_
        refine q_getfield (pc := 153) gf_X8_145 dX8_nextToken_153 (by assumption) rfl ?_
        refine q_invokevirtual (pc := 156) (d' := d - 1) (mc' := 0) (ms' := 0) (As := [_]) (TX8, 26) cl_X8_151 dX8_nextToken_156 rfl rfl (by assumption) rfl (by omega) rfl 0 0 (Nat.le_refl 0) (Nat.le_refl 0) ?_
        refine c_X8_isFigure (by omega) h72 h76 hT (by omega) ?_
        refine q_ifb_eq (pc := 159) 175 dX8_nextToken_159 rfl (fun c159 => ?_) (fun c159 => ?_)
        · first | (exfalso; omega; done) | exact J175 _ _ hs h722 (fun z => by omega)
        exfalso; omega
      refine q_aload_n (pc := 132) dX8_nextToken_132 rfl rfl ?_
      refine q_aload_n (pc := 133) dX8_nextToken_133 rfl rfl ?_
      refine q_getfield (pc := 134) gf_X8_145 dX8_nextToken_134 (by assumption) rfl ?_
      refine q_invokevirtual (pc := 137) (d' := d - 1) (mc' := 0) (ms' := 0) (As := [_]) (TX8, 26) cl_X8_148 dX8_nextToken_137 rfl rfl (by assumption) rfl (by omega) rfl 0 0 (Nat.le_refl 0) (Nat.le_refl 0) ?_
      refine c_X8_isLetter (by omega) h72 h76 hT (by omega) ?_
      refine q_ifb_ne (pc := 140) 162 dX8_nextToken_140 rfl (fun c140 => ?_) (fun c140 => ?_)
      · exfalso; omega
      refine q_aload_n (pc := 143) dX8_nextToken_143 rfl rfl ?_
      refine q_getfield (pc := 144) gf_X8_154 dX8_nextToken_144 (by assumption) rfl ?_
      refine q_iconst (pc := 147) dX8_nextToken_147 ?_
      refine q_icmp_ne (pc := 148) (by omega) (by omega) 175 dX8_nextToken_148 rfl (fun c148 => ?_) (fun c148 => ?_)
      · first | (exfalso; omega; done) | exact J175 _ _ hs h722 (fun z => by omega)
      refine q_aload_n (pc := 151) dX8_nextToken_151 rfl rfl ?_
      refine q_aload_n (pc := 152) dX8_nextToken_152 rfl rfl ?_
      refine q_getfield (pc := 153) gf_X8_145 dX8_nextToken_153 (by assumption) rfl ?_
      refine q_invokevirtual (pc := 156) (d' := d - 1) (mc' := 0) (ms' := 0) (As := [_]) (TX8, 26) cl_X8_151 dX8_nextToken_156 rfl rfl (by assumption) rfl (by omega) rfl 0 0 (Nat.le_refl 0) (Nat.le_refl 0) ?_
      refine c_X8_isFigure (by omega) h72 h76 hT (by omega) ?_
      refine q_ifb_eq (pc := 159) 175 dX8_nextToken_159 rfl (fun c159 => ?_) (fun c159 => ?_)
      · first | (exfalso; omega; done) | exact J175 _ _ hs h722 (fun z => by omega)
      exfalso; omega
    | succ q ih =>
      intro m w1 q1 h1 hs h72 hz
      have h76 := (hs.2 76 (by omega)).trans h76
      have hih := ih (m + 1)
      rw [zrun] at hz
      refine q_aload_n (pc := 124) dX8_nextToken_124 rfl rfl ?_
      refine q_getfield (pc := 125) gf_X8_154 dX8_nextToken_125 (by assumption) rfl ?_
      refine q_iconst (pc := 128) dX8_nextToken_128 ?_
      refine q_icmp_ne (pc := 129) (by omega) (by omega) 143 dX8_nextToken_129 rfl (fun c129 => ?_) (fun c129 => ?_)
      · refine q_aload_n (pc := 143) dX8_nextToken_143 rfl rfl ?_
        refine q_getfield (pc := 144) gf_X8_154 dX8_nextToken_144 (by assumption) rfl ?_
        refine q_iconst (pc := 147) dX8_nextToken_147 ?_
        refine q_icmp_ne (pc := 148) (by omega) (by omega) 175 dX8_nextToken_148 rfl (fun c148 => ?_) (fun c148 => ?_)
        · first | (exfalso; omega; done) | (rw [if_neg (by omega)] at hz; rw [hz, ← hE2] at h72; exact J175 _ _ hs h72 (fun z => by omega))
        refine q_aload_n (pc := 151) dX8_nextToken_151 rfl rfl ?_
        refine q_aload_n (pc := 152) dX8_nextToken_152 rfl rfl ?_
        refine q_getfield (pc := 153) gf_X8_145 dX8_nextToken_153 (by assumption) rfl ?_
        refine q_invokevirtual (pc := 156) (d' := d - 1) (mc' := 0) (ms' := 0) (As := [_]) (TX8, 26) cl_X8_151 dX8_nextToken_156 rfl rfl (by assumption) rfl (by omega) rfl 0 0 (Nat.le_refl 0) (Nat.le_refl 0) ?_
        refine c_X8_isFigure (by omega) h72 h76 hT (by omega) ?_
        refine q_ifb_eq (pc := 159) 175 dX8_nextToken_159 rfl (fun c159 => ?_) (fun c159 => ?_)
        · first | (exfalso; omega; done) | (rw [if_neg (by omega)] at hz; rw [hz, ← hE2] at h72; exact J175 _ _ hs h72 (fun z => by omega))
        refine q_aload_n (pc := 162) dX8_nextToken_162 rfl rfl ?_
        refine q_dup (pc := 163) rfl dX8_nextToken_163 ?_
        refine q_getfield (pc := 164) gf_X8_145 dX8_nextToken_164 (by assumption) rfl ?_
        refine q_iconst (pc := 167) dX8_nextToken_167 ?_
        refine q_iadd (pc := 168) dX8_nextToken_168 ?_
        refine q_putfield2 (pc := 169) [_, _, _, _, _, _, _, _, _, _, _, _, _, _, _, _, _, _, _, _, _, _, _, _, _, _] pf_X8_145 dX8_nextToken_169 (by assumption) rfl rfl (Nat.le_of_ble_eq_true rfl) rfl ?_
        refine q_goto (pc := 172) 124 dX8_nextToken_172 rfl ?_
        first | (exfalso; omega; done) | (rw [if_pos (by omega)] at hz; exact hih _ _ (by omega) (hs.tr (zSame.up (by omega))) zup_at hz)
      refine q_aload_n (pc := 132) dX8_nextToken_132 rfl rfl ?_
      refine q_aload_n (pc := 133) dX8_nextToken_133 rfl rfl ?_
      refine q_getfield (pc := 134) gf_X8_145 dX8_nextToken_134 (by assumption) rfl ?_
      refine q_invokevirtual (pc := 137) (d' := d - 1) (mc' := 0) (ms' := 0) (As := [_]) (TX8, 26) cl_X8_148 dX8_nextToken_137 rfl rfl (by assumption) rfl (by omega) rfl 0 0 (Nat.le_refl 0) (Nat.le_refl 0) ?_
      refine c_X8_isLetter (by omega) h72 h76 hT (by omega) ?_
      refine q_ifb_ne (pc := 140) 162 dX8_nextToken_140 rfl (fun c140 => ?_) (fun c140 => ?_)
      · refine q_aload_n (pc := 162) dX8_nextToken_162 rfl rfl ?_
        refine q_dup (pc := 163) rfl dX8_nextToken_163 ?_
        refine q_getfield (pc := 164) gf_X8_145 dX8_nextToken_164 (by assumption) rfl ?_
        refine q_iconst (pc := 167) dX8_nextToken_167 ?_
        refine q_iadd (pc := 168) dX8_nextToken_168 ?_
        refine q_putfield2 (pc := 169) [_, _, _, _, _, _, _, _, _, _, _, _, _, _, _, _, _, _, _, _, _, _, _, _, _, _] pf_X8_145 dX8_nextToken_169 (by assumption) rfl rfl (Nat.le_of_ble_eq_true rfl) rfl ?_
        refine q_goto (pc := 172) 124 dX8_nextToken_172 rfl ?_
        first | (exfalso; omega; done) | (rw [if_pos (by omega)] at hz; exact hih _ _ (by omega) (hs.tr (zSame.up (by omega))) zup_at hz)
      refine q_aload_n (pc := 143) dX8_nextToken_143 rfl rfl ?_
      refine q_getfield (pc := 144) gf_X8_154 dX8_nextToken_144 (by assumption) rfl ?_
      refine q_iconst (pc := 147) dX8_nextToken_147 ?_
      refine q_icmp_ne (pc := 148) (by omega) (by omega) 175 dX8_nextToken_148 rfl (fun c148 => ?_) (fun c148 => ?_)
      · first | (exfalso; omega; done) | (rw [if_neg (by omega)] at hz; rw [hz, ← hE2] at h72; exact J175 _ _ hs h72 (fun z => by omega))
      refine q_aload_n (pc := 151) dX8_nextToken_151 rfl rfl ?_
      refine q_aload_n (pc := 152) dX8_nextToken_152 rfl rfl ?_
      refine q_getfield (pc := 153) gf_X8_145 dX8_nextToken_153 (by assumption) rfl ?_
      refine q_invokevirtual (pc := 156) (d' := d - 1) (mc' := 0) (ms' := 0) (As := [_]) (TX8, 26) cl_X8_151 dX8_nextToken_156 rfl rfl (by assumption) rfl (by omega) rfl 0 0 (Nat.le_refl 0) (Nat.le_refl 0) ?_
      refine c_X8_isFigure (by omega) h72 h76 hT (by omega) ?_
      refine q_ifb_eq (pc := 159) 175 dX8_nextToken_159 rfl (fun c159 => ?_) (fun c159 => ?_)
      · first | (exfalso; omega; done) | (rw [if_neg (by omega)] at hz; rw [hz, ← hE2] at h72; exact J175 _ _ hs h72 (fun z => by omega))
      refine q_aload_n (pc := 162) dX8_nextToken_162 rfl rfl ?_
      refine q_dup (pc := 163) rfl dX8_nextToken_163 ?_
      refine q_getfield (pc := 164) gf_X8_145 dX8_nextToken_164 (by assumption) rfl ?_
      refine q_iconst (pc := 167) dX8_nextToken_167 ?_
      refine q_iadd (pc := 168) dX8_nextToken_168 ?_
      refine q_putfield2 (pc := 169) [_, _, _, _, _, _, _, _, _, _, _, _, _, _, _, _, _, _, _, _, _, _, _, _, _, _] pf_X8_145 dX8_nextToken_169 (by assumption) rfl rfl (Nat.le_of_ble_eq_true rfl) rfl ?_
      refine q_goto (pc := 172) 124 dX8_nextToken_172 rfl ?_
      first | (exfalso; omega; done) | (rw [if_pos (by omega)] at hz; exact hih _ _ (by omega) (hs.tr (zSame.up (by omega))) zup_at hz)
  have J121 : ∀ (w1 : zWd) (v : Int), v = t0 → zSame w w1 72 1 → w1.1 72 = some (zMO g ab be u len S p1 S (S + 1) p4 it sm) → zRuns g d mX8_nextToken 0 0 121 [some (zR g 72), none] [zI v, zR g 72] w1 K := by
    intro w1 v hv hs h72
    rw [hv]
    by_cases ht2 : t0 = 1 ∨ t0 = 2
    · have hs2 := hzn (by omega)
      rw [if_pos ht2, show min len (S + 1) = S + 1 by omega] at e2
      have en : (((S + 1).toNat : Nat) : Int) = S + 1 := by omega
      refine q_putfield2 (pc := 121) [_, _, _, _, _, _, _, _, _, _, _, _, _, _, _, _, _, _, _, _, _, _, _, _, _, _] pf_X8_154 dX8_nextToken_121 (by assumption) rfl rfl (Nat.le_of_ble_eq_true rfl) rfl ?_
      exact L2 ht2 (len - (S + 1)).toNat (S + 1).toNat _ S (by omega) (hs.tr (zSame.up (by omega))) (by rw [en]; exact zup_at) (by rw [en]; exact e2.symm)
    · rw [if_neg ht2] at e2
      have hE2 : S + 1 = E2 := by
        rw [e3]
        by_cases z : t0 = 0
        · rw [if_pos z]
        · rw [if_neg z]; have := hzn z; omega
      rw [hE2] at h72
      refine q_putfield2 (pc := 121) [_, _, _, _, _, _, _, _, _, _, _, _, _, _, _, _, _, _, _, _, _, _, _, _, _, _] pf_X8_154 dX8_nextToken_121 (by first | assumption | exact zup_at | exact (zup_ne (by decide)).trans (zup_at) | exact (zup_ne (by decide)).trans (by assumption) | exact (zup_ne (by decide)).trans ((zup_ne (by decide)).trans (zup_at)) | exact (zup_ne (by decide)).trans ((zup_ne (by decide)).trans (by assumption)) | exact (zup_ne (by decide)).trans ((zup_ne (by decide)).trans ((zup_ne (by decide)).trans (zup_at))) | exact (zup_ne (by decide)).trans ((zup_ne (by decide)).trans ((zup_ne (by decide)).trans (by assumption))) | exact (zup_ne (by decide)).trans ((zup_ne (by decide)).trans ((zup_ne (by decide)).trans ((zup_ne (by decide)).trans (zup_at)))) | exact (zup_ne (by decide)).trans ((zup_ne (by decide)).trans ((zup_ne (by decide)).trans ((zup_ne (by decide)).trans (by assumption)))) | exact (zup_ne (by decide)).trans ((zup_ne (by decide)).trans ((zup_ne (by decide)).trans ((zup_ne (by decide)).trans ((zup_ne (by decide)).trans (zup_at))))) | exact (zup_ne (by decide)).trans ((zup_ne (by decide)).trans ((zup_ne (by decide)).trans ((zup_ne (by decide)).trans ((zup_ne (by decide)).trans (by assumption)))))) rfl rfl (Nat.le_of_ble_eq_true rfl) rfl ?_
      refine q_aload_n (pc := 124) dX8_nextToken_124 rfl rfl ?_
      refine q_getfield (pc := 125) gf_X8_154 dX8_nextToken_125 (by first | assumption | exact zup_at | exact (zup_ne (by decide)).trans (zup_at) | exact (zup_ne (by decide)).trans (by assumption) | exact (zup_ne (by decide)).trans ((zup_ne (by decide)).trans (zup_at)) | exact (zup_ne (by decide)).trans ((zup_ne (by decide)).trans (by assumption)) | exact (zup_ne (by decide)).trans ((zup_ne (by decide)).trans ((zup_ne (by decide)).trans (zup_at))) | exact (zup_ne (by decide)).trans ((zup_ne (by decide)).trans ((zup_ne (by decide)).trans (by assumption))) | exact (zup_ne (by decide)).trans ((zup_ne (by decide)).trans ((zup_ne (by decide)).trans ((zup_ne (by decide)).trans (zup_at)))) | exact (zup_ne (by decide)).trans ((zup_ne (by decide)).trans ((zup_ne (by decide)).trans ((zup_ne (by decide)).trans (by assumption)))) | exact (zup_ne (by decide)).trans ((zup_ne (by decide)).trans ((zup_ne (by decide)).trans ((zup_ne (by decide)).trans ((zup_ne (by decide)).trans (zup_at))))) | exact (zup_ne (by decide)).trans ((zup_ne (by decide)).trans ((zup_ne (by decide)).trans ((zup_ne (by decide)).trans ((zup_ne (by decide)).trans (by assumption)))))) rfl ?_
      refine q_iconst (pc := 128) dX8_nextToken_128 ?_
      refine q_icmp_ne (pc := 129) (by omega) (by omega) 143 dX8_nextToken_129 rfl (fun c129 => ?_) (fun c129 => ?_)
      · refine q_aload_n (pc := 143) dX8_nextToken_143 rfl rfl ?_
        refine q_getfield (pc := 144) gf_X8_154 dX8_nextToken_144 (by first | assumption | exact zup_at | exact (zup_ne (by decide)).trans (zup_at) | exact (zup_ne (by decide)).trans (by assumption) | exact (zup_ne (by decide)).trans ((zup_ne (by decide)).trans (zup_at)) | exact (zup_ne (by decide)).trans ((zup_ne (by decide)).trans (by assumption)) | exact (zup_ne (by decide)).trans ((zup_ne (by decide)).trans ((zup_ne (by decide)).trans (zup_at))) | exact (zup_ne (by decide)).trans ((zup_ne (by decide)).trans ((zup_ne (by decide)).trans (by assumption))) | exact (zup_ne (by decide)).trans ((zup_ne (by decide)).trans ((zup_ne (by decide)).trans ((zup_ne (by decide)).trans (zup_at)))) | exact (zup_ne (by decide)).trans ((zup_ne (by decide)).trans ((zup_ne (by decide)).trans ((zup_ne (by decide)).trans (by assumption)))) | exact (zup_ne (by decide)).trans ((zup_ne (by decide)).trans ((zup_ne (by decide)).trans ((zup_ne (by decide)).trans ((zup_ne (by decide)).trans (zup_at))))) | exact (zup_ne (by decide)).trans ((zup_ne (by decide)).trans ((zup_ne (by decide)).trans ((zup_ne (by decide)).trans ((zup_ne (by decide)).trans (by assumption)))))) rfl ?_
        refine q_iconst (pc := 147) dX8_nextToken_147 ?_
        refine q_icmp_ne (pc := 148) (by omega) (by omega) 175 dX8_nextToken_148 rfl (fun c148 => ?_) (fun c148 => ?_)
        · exact J175 _ S (hs.tr (zSame.up (by omega))) zup_at (fun _ => rfl)
        exfalso; omega
      exfalso; omega
  have J38 : ∀ (w1 : zWd), zSame w w1 72 1 → w1.1 72 = some (zMO g ab be u len S p1 p2 p3 p4 it sm) → zRuns g d mX8_nextToken 0 0 38 [some (zR g 72), none] [] w1 K := by
    intro w1 hs h72
    have h76 := (hs.2 76 (by omega)).trans h76
    have hby : S < len → 0 ≤ T S ∧ T S ≤ 127 := fun z => hT.2 S (by omega) z
    refine q_aload_n (pc := 38) dX8_nextToken_38 rfl rfl ?_
    refine q_aload_n (pc := 39) dX8_nextToken_39 rfl rfl ?_
    refine q_getfield (pc := 40) gf_X8_139 dX8_nextToken_40 (by first | assumption | exact zup_at | exact (zup_ne (by decide)).trans (zup_at) | exact (zup_ne (by decide)).trans (by assumption) | exact (zup_ne (by decide)).trans ((zup_ne (by decide)).trans (zup_at)) | exact (zup_ne (by decide)).trans ((zup_ne (by decide)).trans (by assumption)) | exact (zup_ne (by decide)).trans ((zup_ne (by decide)).trans ((zup_ne (by decide)).trans (zup_at))) | exact (zup_ne (by decide)).trans ((zup_ne (by decide)).trans ((zup_ne (by decide)).trans (by assumption))) | exact (zup_ne (by decide)).trans ((zup_ne (by decide)).trans ((zup_ne (by decide)).trans ((zup_ne (by decide)).trans (zup_at)))) | exact (zup_ne (by decide)).trans ((zup_ne (by decide)).trans ((zup_ne (by decide)).trans ((zup_ne (by decide)).trans (by assumption)))) | exact (zup_ne (by decide)).trans ((zup_ne (by decide)).trans ((zup_ne (by decide)).trans ((zup_ne (by decide)).trans ((zup_ne (by decide)).trans (zup_at))))) | exact (zup_ne (by decide)).trans ((zup_ne (by decide)).trans ((zup_ne (by decide)).trans ((zup_ne (by decide)).trans ((zup_ne (by decide)).trans (by assumption)))))) rfl ?_
    refine q_putfield2 (pc := 43) [_, _, _, _, _, _, _, _, _, _, _, _, _, _, _, _, _, _, _, _, _, _, _, _, _, _] pf_X8_142 dX8_nextToken_43 (by first | assumption | exact zup_at | exact (zup_ne (by decide)).trans (zup_at) | exact (zup_ne (by decide)).trans (by assumption) | exact (zup_ne (by decide)).trans ((zup_ne (by decide)).trans (zup_at)) | exact (zup_ne (by decide)).trans ((zup_ne (by decide)).trans (by assumption)) | exact (zup_ne (by decide)).trans ((zup_ne (by decide)).trans ((zup_ne (by decide)).trans (zup_at))) | exact (zup_ne (by decide)).trans ((zup_ne (by decide)).trans ((zup_ne (by decide)).trans (by assumption))) | exact (zup_ne (by decide)).trans ((zup_ne (by decide)).trans ((zup_ne (by decide)).trans ((zup_ne (by decide)).trans (zup_at)))) | exact (zup_ne (by decide)).trans ((zup_ne (by decide)).trans ((zup_ne (by decide)).trans ((zup_ne (by decide)).trans (by assumption)))) | exact (zup_ne (by decide)).trans ((zup_ne (by decide)).trans ((zup_ne (by decide)).trans ((zup_ne (by decide)).trans ((zup_ne (by decide)).trans (zup_at))))) | exact (zup_ne (by decide)).trans ((zup_ne (by decide)).trans ((zup_ne (by decide)).trans ((zup_ne (by decide)).trans ((zup_ne (by decide)).trans (by assumption)))))) rfl rfl (Nat.le_of_ble_eq_true rfl) rfl ?_
    refine q_aload_n (pc := 46) dX8_nextToken_46 rfl rfl ?_
    refine q_aload_n (pc := 47) dX8_nextToken_47 rfl rfl ?_
    refine q_getfield (pc := 48) gf_X8_139 dX8_nextToken_48 (by first | assumption | exact zup_at | exact (zup_ne (by decide)).trans (zup_at) | exact (zup_ne (by decide)).trans (by assumption) | exact (zup_ne (by decide)).trans ((zup_ne (by decide)).trans (zup_at)) | exact (zup_ne (by decide)).trans ((zup_ne (by decide)).trans (by assumption)) | exact (zup_ne (by decide)).trans ((zup_ne (by decide)).trans ((zup_ne (by decide)).trans (zup_at))) | exact (zup_ne (by decide)).trans ((zup_ne (by decide)).trans ((zup_ne (by decide)).trans (by assumption))) | exact (zup_ne (by decide)).trans ((zup_ne (by decide)).trans ((zup_ne (by decide)).trans ((zup_ne (by decide)).trans (zup_at)))) | exact (zup_ne (by decide)).trans ((zup_ne (by decide)).trans ((zup_ne (by decide)).trans ((zup_ne (by decide)).trans (by assumption)))) | exact (zup_ne (by decide)).trans ((zup_ne (by decide)).trans ((zup_ne (by decide)).trans ((zup_ne (by decide)).trans ((zup_ne (by decide)).trans (zup_at))))) | exact (zup_ne (by decide)).trans ((zup_ne (by decide)).trans ((zup_ne (by decide)).trans ((zup_ne (by decide)).trans ((zup_ne (by decide)).trans (by assumption)))))) rfl ?_
    refine q_iconst (pc := 51) dX8_nextToken_51 ?_
    refine q_iadd (pc := 52) dX8_nextToken_52 ?_
    refine q_putfield2 (pc := 53) [_, _, _, _, _, _, _, _, _, _, _, _, _, _, _, _, _, _, _, _, _, _, _, _, _, _] pf_X8_145 dX8_nextToken_53 (by first | assumption | exact zup_at | exact (zup_ne (by decide)).trans (zup_at) | exact (zup_ne (by decide)).trans (by assumption) | exact (zup_ne (by decide)).trans ((zup_ne (by decide)).trans (zup_at)) | exact (zup_ne (by decide)).trans ((zup_ne (by decide)).trans (by assumption)) | exact (zup_ne (by decide)).trans ((zup_ne (by decide)).trans ((zup_ne (by decide)).trans (zup_at))) | exact (zup_ne (by decide)).trans ((zup_ne (by decide)).trans ((zup_ne (by decide)).trans (by assumption))) | exact (zup_ne (by decide)).trans ((zup_ne (by decide)).trans ((zup_ne (by decide)).trans ((zup_ne (by decide)).trans (zup_at)))) | exact (zup_ne (by decide)).trans ((zup_ne (by decide)).trans ((zup_ne (by decide)).trans ((zup_ne (by decide)).trans (by assumption)))) | exact (zup_ne (by decide)).trans ((zup_ne (by decide)).trans ((zup_ne (by decide)).trans ((zup_ne (by decide)).trans ((zup_ne (by decide)).trans (zup_at))))) | exact (zup_ne (by decide)).trans ((zup_ne (by decide)).trans ((zup_ne (by decide)).trans ((zup_ne (by decide)).trans ((zup_ne (by decide)).trans (by assumption)))))) rfl rfl (Nat.le_of_ble_eq_true rfl) rfl ?_
    refine q_aload_n (pc := 56) dX8_nextToken_56 rfl rfl ?_
    refine q_aload_n (pc := 57) dX8_nextToken_57 rfl rfl ?_
    refine q_getfield (pc := 58) gf_X8_139 dX8_nextToken_58 (by first | assumption | exact zup_at | exact (zup_ne (by decide)).trans (zup_at) | exact (zup_ne (by decide)).trans (by assumption) | exact (zup_ne (by decide)).trans ((zup_ne (by decide)).trans (zup_at)) | exact (zup_ne (by decide)).trans ((zup_ne (by decide)).trans (by assumption)) | exact (zup_ne (by decide)).trans ((zup_ne (by decide)).trans ((zup_ne (by decide)).trans (zup_at))) | exact (zup_ne (by decide)).trans ((zup_ne (by decide)).trans ((zup_ne (by decide)).trans (by assumption))) | exact (zup_ne (by decide)).trans ((zup_ne (by decide)).trans ((zup_ne (by decide)).trans ((zup_ne (by decide)).trans (zup_at)))) | exact (zup_ne (by decide)).trans ((zup_ne (by decide)).trans ((zup_ne (by decide)).trans ((zup_ne (by decide)).trans (by assumption)))) | exact (zup_ne (by decide)).trans ((zup_ne (by decide)).trans ((zup_ne (by decide)).trans ((zup_ne (by decide)).trans ((zup_ne (by decide)).trans (zup_at))))) | exact (zup_ne (by decide)).trans ((zup_ne (by decide)).trans ((zup_ne (by decide)).trans ((zup_ne (by decide)).trans ((zup_ne (by decide)).trans (by assumption)))))) rfl ?_
    refine q_aload_n (pc := 61) dX8_nextToken_61 rfl rfl ?_
    refine q_getfield (pc := 62) gf_X8_128 dX8_nextToken_62 (by first | assumption | exact zup_at | exact (zup_ne (by decide)).trans (zup_at) | exact (zup_ne (by decide)).trans (by assumption) | exact (zup_ne (by decide)).trans ((zup_ne (by decide)).trans (zup_at)) | exact (zup_ne (by decide)).trans ((zup_ne (by decide)).trans (by assumption)) | exact (zup_ne (by decide)).trans ((zup_ne (by decide)).trans ((zup_ne (by decide)).trans (zup_at))) | exact (zup_ne (by decide)).trans ((zup_ne (by decide)).trans ((zup_ne (by decide)).trans (by assumption))) | exact (zup_ne (by decide)).trans ((zup_ne (by decide)).trans ((zup_ne (by decide)).trans ((zup_ne (by decide)).trans (zup_at)))) | exact (zup_ne (by decide)).trans ((zup_ne (by decide)).trans ((zup_ne (by decide)).trans ((zup_ne (by decide)).trans (by assumption)))) | exact (zup_ne (by decide)).trans ((zup_ne (by decide)).trans ((zup_ne (by decide)).trans ((zup_ne (by decide)).trans ((zup_ne (by decide)).trans (zup_at))))) | exact (zup_ne (by decide)).trans ((zup_ne (by decide)).trans ((zup_ne (by decide)).trans ((zup_ne (by decide)).trans ((zup_ne (by decide)).trans (by assumption)))))) rfl ?_
    refine q_icmp_ne (pc := 65) (by omega) (by omega) 72 dX8_nextToken_65 rfl (fun c65 => ?_) (fun c65 => ?_)
    · refine q_aload_n (pc := 72) dX8_nextToken_72 rfl rfl ?_
      refine q_aload_n (pc := 73) dX8_nextToken_73 rfl rfl ?_
      refine q_getfield (pc := 74) gf_X8_139 dX8_nextToken_74 (by first | assumption | exact zup_at | exact (zup_ne (by decide)).trans (zup_at) | exact (zup_ne (by decide)).trans (by assumption) | exact (zup_ne (by decide)).trans ((zup_ne (by decide)).trans (zup_at)) | exact (zup_ne (by decide)).trans ((zup_ne (by decide)).trans (by assumption)) | exact (zup_ne (by decide)).trans ((zup_ne (by decide)).trans ((zup_ne (by decide)).trans (zup_at))) | exact (zup_ne (by decide)).trans ((zup_ne (by decide)).trans ((zup_ne (by decide)).trans (by assumption))) | exact (zup_ne (by decide)).trans ((zup_ne (by decide)).trans ((zup_ne (by decide)).trans ((zup_ne (by decide)).trans (zup_at)))) | exact (zup_ne (by decide)).trans ((zup_ne (by decide)).trans ((zup_ne (by decide)).trans ((zup_ne (by decide)).trans (by assumption)))) | exact (zup_ne (by decide)).trans ((zup_ne (by decide)).trans ((zup_ne (by decide)).trans ((zup_ne (by decide)).trans ((zup_ne (by decide)).trans (zup_at))))) | exact (zup_ne (by decide)).trans ((zup_ne (by decide)).trans ((zup_ne (by decide)).trans ((zup_ne (by decide)).trans ((zup_ne (by decide)).trans (by assumption)))))) rfl ?_
      refine q_invokevirtual (pc := 77) (d' := d - 1) (mc' := 0) (ms' := 0) (As := [_]) (TX8, 26) cl_X8_148 dX8_nextToken_77 rfl rfl (by first | assumption | exact zup_at | exact (zup_ne (by decide)).trans (zup_at) | exact (zup_ne (by decide)).trans (by assumption) | exact (zup_ne (by decide)).trans ((zup_ne (by decide)).trans (zup_at)) | exact (zup_ne (by decide)).trans ((zup_ne (by decide)).trans (by assumption)) | exact (zup_ne (by decide)).trans ((zup_ne (by decide)).trans ((zup_ne (by decide)).trans (zup_at))) | exact (zup_ne (by decide)).trans ((zup_ne (by decide)).trans ((zup_ne (by decide)).trans (by assumption))) | exact (zup_ne (by decide)).trans ((zup_ne (by decide)).trans ((zup_ne (by decide)).trans ((zup_ne (by decide)).trans (zup_at)))) | exact (zup_ne (by decide)).trans ((zup_ne (by decide)).trans ((zup_ne (by decide)).trans ((zup_ne (by decide)).trans (by assumption)))) | exact (zup_ne (by decide)).trans ((zup_ne (by decide)).trans ((zup_ne (by decide)).trans ((zup_ne (by decide)).trans ((zup_ne (by decide)).trans (zup_at))))) | exact (zup_ne (by decide)).trans ((zup_ne (by decide)).trans ((zup_ne (by decide)).trans ((zup_ne (by decide)).trans ((zup_ne (by decide)).trans (by assumption)))))) rfl (by omega) rfl 0 0 (Nat.le_refl 0) (Nat.le_refl 0) ?_
      refine c_X8_isLetter (by omega) zup_at ((zup_ne (by decide)).trans ((zup_ne (by decide)).trans h76)) hT (by omega) ?_
      refine q_ifb_eq (pc := 80) 87 dX8_nextToken_80 rfl (fun c80 => ?_) (fun c80 => ?_)
      · refine q_aload_n (pc := 87) dX8_nextToken_87 rfl rfl ?_
        refine q_aload_n (pc := 88) dX8_nextToken_88 rfl rfl ?_
        refine q_getfield (pc := 89) gf_X8_139 dX8_nextToken_89 (by first | assumption | exact zup_at | exact (zup_ne (by decide)).trans (zup_at) | exact (zup_ne (by decide)).trans (by assumption) | exact (zup_ne (by decide)).trans ((zup_ne (by decide)).trans (zup_at)) | exact (zup_ne (by decide)).trans ((zup_ne (by decide)).trans (by assumption)) | exact (zup_ne (by decide)).trans ((zup_ne (by decide)).trans ((zup_ne (by decide)).trans (zup_at))) | exact (zup_ne (by decide)).trans ((zup_ne (by decide)).trans ((zup_ne (by decide)).trans (by assumption))) | exact (zup_ne (by decide)).trans ((zup_ne (by decide)).trans ((zup_ne (by decide)).trans ((zup_ne (by decide)).trans (zup_at)))) | exact (zup_ne (by decide)).trans ((zup_ne (by decide)).trans ((zup_ne (by decide)).trans ((zup_ne (by decide)).trans (by assumption)))) | exact (zup_ne (by decide)).trans ((zup_ne (by decide)).trans ((zup_ne (by decide)).trans ((zup_ne (by decide)).trans ((zup_ne (by decide)).trans (zup_at))))) | exact (zup_ne (by decide)).trans ((zup_ne (by decide)).trans ((zup_ne (by decide)).trans ((zup_ne (by decide)).trans ((zup_ne (by decide)).trans (by assumption)))))) rfl ?_
        refine q_invokevirtual (pc := 92) (d' := d - 1) (mc' := 0) (ms' := 0) (As := [_]) (TX8, 26) cl_X8_151 dX8_nextToken_92 rfl rfl (by first | assumption | exact zup_at | exact (zup_ne (by decide)).trans (zup_at) | exact (zup_ne (by decide)).trans (by assumption) | exact (zup_ne (by decide)).trans ((zup_ne (by decide)).trans (zup_at)) | exact (zup_ne (by decide)).trans ((zup_ne (by decide)).trans (by assumption)) | exact (zup_ne (by decide)).trans ((zup_ne (by decide)).trans ((zup_ne (by decide)).trans (zup_at))) | exact (zup_ne (by decide)).trans ((zup_ne (by decide)).trans ((zup_ne (by decide)).trans (by assumption))) | exact (zup_ne (by decide)).trans ((zup_ne (by decide)).trans ((zup_ne (by decide)).trans ((zup_ne (by decide)).trans (zup_at)))) | exact (zup_ne (by decide)).trans ((zup_ne (by decide)).trans ((zup_ne (by decide)).trans ((zup_ne (by decide)).trans (by assumption)))) | exact (zup_ne (by decide)).trans ((zup_ne (by decide)).trans ((zup_ne (by decide)).trans ((zup_ne (by decide)).trans ((zup_ne (by decide)).trans (zup_at))))) | exact (zup_ne (by decide)).trans ((zup_ne (by decide)).trans ((zup_ne (by decide)).trans ((zup_ne (by decide)).trans ((zup_ne (by decide)).trans (by assumption)))))) rfl (by omega) rfl 0 0 (Nat.le_refl 0) (Nat.le_refl 0) ?_
        refine c_X8_isFigure (by omega) zup_at ((zup_ne (by decide)).trans ((zup_ne (by decide)).trans h76)) hT (by omega) ?_
        refine q_ifb_eq (pc := 95) 102 dX8_nextToken_95 rfl (fun c95 => ?_) (fun c95 => ?_)
        · refine q_aload_n (pc := 102) dX8_nextToken_102 rfl rfl ?_
          refine q_getfield (pc := 103) gf_X8_23 dX8_nextToken_103 (by first | assumption | exact zup_at | exact (zup_ne (by decide)).trans (zup_at) | exact (zup_ne (by decide)).trans (by assumption) | exact (zup_ne (by decide)).trans ((zup_ne (by decide)).trans (zup_at)) | exact (zup_ne (by decide)).trans ((zup_ne (by decide)).trans (by assumption)) | exact (zup_ne (by decide)).trans ((zup_ne (by decide)).trans ((zup_ne (by decide)).trans (zup_at))) | exact (zup_ne (by decide)).trans ((zup_ne (by decide)).trans ((zup_ne (by decide)).trans (by assumption))) | exact (zup_ne (by decide)).trans ((zup_ne (by decide)).trans ((zup_ne (by decide)).trans ((zup_ne (by decide)).trans (zup_at)))) | exact (zup_ne (by decide)).trans ((zup_ne (by decide)).trans ((zup_ne (by decide)).trans ((zup_ne (by decide)).trans (by assumption)))) | exact (zup_ne (by decide)).trans ((zup_ne (by decide)).trans ((zup_ne (by decide)).trans ((zup_ne (by decide)).trans ((zup_ne (by decide)).trans (zup_at))))) | exact (zup_ne (by decide)).trans ((zup_ne (by decide)).trans ((zup_ne (by decide)).trans ((zup_ne (by decide)).trans ((zup_ne (by decide)).trans (by assumption)))))) rfl ?_
          refine q_aload_n (pc := 106) dX8_nextToken_106 rfl rfl ?_
          refine q_getfield (pc := 107) gf_X8_139 dX8_nextToken_107 (by first | assumption | exact zup_at | exact (zup_ne (by decide)).trans (zup_at) | exact (zup_ne (by decide)).trans (by assumption) | exact (zup_ne (by decide)).trans ((zup_ne (by decide)).trans (zup_at)) | exact (zup_ne (by decide)).trans ((zup_ne (by decide)).trans (by assumption)) | exact (zup_ne (by decide)).trans ((zup_ne (by decide)).trans ((zup_ne (by decide)).trans (zup_at))) | exact (zup_ne (by decide)).trans ((zup_ne (by decide)).trans ((zup_ne (by decide)).trans (by assumption))) | exact (zup_ne (by decide)).trans ((zup_ne (by decide)).trans ((zup_ne (by decide)).trans ((zup_ne (by decide)).trans (zup_at)))) | exact (zup_ne (by decide)).trans ((zup_ne (by decide)).trans ((zup_ne (by decide)).trans ((zup_ne (by decide)).trans (by assumption)))) | exact (zup_ne (by decide)).trans ((zup_ne (by decide)).trans ((zup_ne (by decide)).trans ((zup_ne (by decide)).trans ((zup_ne (by decide)).trans (zup_at))))) | exact (zup_ne (by decide)).trans ((zup_ne (by decide)).trans ((zup_ne (by decide)).trans ((zup_ne (by decide)).trans ((zup_ne (by decide)).trans (by assumption)))))) rfl ?_
          refine q_iaload (pc := 110) dX8_nextToken_110 (by first | assumption | exact zup_at | exact (zup_ne (by decide)).trans (zup_at) | exact (zup_ne (by decide)).trans (by assumption) | exact (zup_ne (by decide)).trans ((zup_ne (by decide)).trans (zup_at)) | exact (zup_ne (by decide)).trans ((zup_ne (by decide)).trans (by assumption)) | exact (zup_ne (by decide)).trans ((zup_ne (by decide)).trans ((zup_ne (by decide)).trans (zup_at))) | exact (zup_ne (by decide)).trans ((zup_ne (by decide)).trans ((zup_ne (by decide)).trans (by assumption))) | exact (zup_ne (by decide)).trans ((zup_ne (by decide)).trans ((zup_ne (by decide)).trans ((zup_ne (by decide)).trans (zup_at)))) | exact (zup_ne (by decide)).trans ((zup_ne (by decide)).trans ((zup_ne (by decide)).trans ((zup_ne (by decide)).trans (by assumption)))) | exact (zup_ne (by decide)).trans ((zup_ne (by decide)).trans ((zup_ne (by decide)).trans ((zup_ne (by decide)).trans ((zup_ne (by decide)).trans (zup_at))))) | exact (zup_ne (by decide)).trans ((zup_ne (by decide)).trans ((zup_ne (by decide)).trans ((zup_ne (by decide)).trans ((zup_ne (by decide)).trans (by assumption)))))) (by omega) ?_
          refine q_bipush (pc := 111) (by decide) dX8_nextToken_111 ?_
          refine q_icmp_ne (pc := 113) (by omega) (by omega) 120 dX8_nextToken_113 rfl (fun c113 => ?_) (fun c113 => ?_)
          · refine q_iconst (pc := 120) dX8_nextToken_120 ?_
            first | exact J121 _ _ (hend c65).symm (hs.tr ((zSame.up (by omega)).tr (zSame.up (by omega)))) zup_at | exact J121 _ _ ((c80.2.symm.trans (by rw [e1, hfin (by omega)])) : _ = t0) (hs.tr ((zSame.up (by omega)).tr (zSame.up (by omega)))) zup_at | exact J121 _ _ ((c95.2.symm.trans (by rw [e1, hfin (by omega)])) : _ = t0) (hs.tr ((zSame.up (by omega)).tr (zSame.up (by omega)))) zup_at | exact J121 _ _ (by rw [e1, hfin (by omega), c113]; rfl) (hs.tr ((zSame.up (by omega)).tr (zSame.up (by omega)))) zup_at | exact J121 _ _ (by rw [e1, hfin (by omega)]; unfold ztok; rw [if_neg (by have := hby (by omega); omega), if_neg c113, if_neg (fun z => c80 ⟨by omega, ztok_1 z⟩), if_neg (fun z => c95 ⟨by omega, ztok_2 z⟩)]) (hs.tr ((zSame.up (by omega)).tr (zSame.up (by omega)))) zup_at
          refine q_iconst (pc := 116) dX8_nextToken_116 ?_
          refine q_goto (pc := 117) 121 dX8_nextToken_117 rfl ?_
          first | exact J121 _ _ (hend c65).symm (hs.tr ((zSame.up (by omega)).tr (zSame.up (by omega)))) zup_at | exact J121 _ _ ((c80.2.symm.trans (by rw [e1, hfin (by omega)])) : _ = t0) (hs.tr ((zSame.up (by omega)).tr (zSame.up (by omega)))) zup_at | exact J121 _ _ ((c95.2.symm.trans (by rw [e1, hfin (by omega)])) : _ = t0) (hs.tr ((zSame.up (by omega)).tr (zSame.up (by omega)))) zup_at | exact J121 _ _ (by rw [e1, hfin (by omega), c113]; rfl) (hs.tr ((zSame.up (by omega)).tr (zSame.up (by omega)))) zup_at | exact J121 _ _ (by rw [e1, hfin (by omega)]; unfold ztok; rw [if_neg (by have := hby (by omega); omega), if_neg c113, if_neg (fun z => c80 ⟨by omega, ztok_1 z⟩), if_neg (fun z => c95 ⟨by omega, ztok_2 z⟩)]) (hs.tr ((zSame.up (by omega)).tr (zSame.up (by omega)))) zup_at
        refine q_iconst (pc := 98) dX8_nextToken_98 ?_
        refine q_goto (pc := 99) 121 dX8_nextToken_99 rfl ?_
        first | exact J121 _ _ (hend c65).symm (hs.tr ((zSame.up (by omega)).tr (zSame.up (by omega)))) zup_at | exact J121 _ _ ((c80.2.symm.trans (by rw [e1, hfin (by omega)])) : _ = t0) (hs.tr ((zSame.up (by omega)).tr (zSame.up (by omega)))) zup_at | exact J121 _ _ ((c95.2.symm.trans (by rw [e1, hfin (by omega)])) : _ = t0) (hs.tr ((zSame.up (by omega)).tr (zSame.up (by omega)))) zup_at | exact J121 _ _ (by rw [e1, hfin (by omega), c113]; rfl) (hs.tr ((zSame.up (by omega)).tr (zSame.up (by omega)))) zup_at | exact J121 _ _ (by rw [e1, hfin (by omega)]; unfold ztok; rw [if_neg (by have := hby (by omega); omega), if_neg c113, if_neg (fun z => c80 ⟨by omega, ztok_1 z⟩), if_neg (fun z => c95 ⟨by omega, ztok_2 z⟩)]) (hs.tr ((zSame.up (by omega)).tr (zSame.up (by omega)))) zup_at
      refine q_iconst (pc := 83) dX8_nextToken_83 ?_
      refine q_goto (pc := 84) 121 dX8_nextToken_84 rfl ?_
      first | exact J121 _ _ (hend c65).symm (hs.tr ((zSame.up (by omega)).tr (zSame.up (by omega)))) zup_at | exact J121 _ _ ((c80.2.symm.trans (by rw [e1, hfin (by omega)])) : _ = t0) (hs.tr ((zSame.up (by omega)).tr (zSame.up (by omega)))) zup_at | exact J121 _ _ ((c95.2.symm.trans (by rw [e1, hfin (by omega)])) : _ = t0) (hs.tr ((zSame.up (by omega)).tr (zSame.up (by omega)))) zup_at | exact J121 _ _ (by rw [e1, hfin (by omega), c113]; rfl) (hs.tr ((zSame.up (by omega)).tr (zSame.up (by omega)))) zup_at | exact J121 _ _ (by rw [e1, hfin (by omega)]; unfold ztok; rw [if_neg (by have := hby (by omega); omega), if_neg c113, if_neg (fun z => c80 ⟨by omega, ztok_1 z⟩), if_neg (fun z => c95 ⟨by omega, ztok_2 z⟩)]) (hs.tr ((zSame.up (by omega)).tr (zSame.up (by omega)))) zup_at
    refine q_iconst (pc := 68) dX8_nextToken_68 ?_
    refine q_goto (pc := 69) 121 dX8_nextToken_69 rfl ?_
    first | exact J121 _ _ (hend c65).symm (hs.tr ((zSame.up (by omega)).tr (zSame.up (by omega)))) zup_at | exact J121 _ _ ((c80.2.symm.trans (by rw [e1, hfin (by omega)])) : _ = t0) (hs.tr ((zSame.up (by omega)).tr (zSame.up (by omega)))) zup_at | exact J121 _ _ ((c95.2.symm.trans (by rw [e1, hfin (by omega)])) : _ = t0) (hs.tr ((zSame.up (by omega)).tr (zSame.up (by omega)))) zup_at | exact J121 _ _ (by rw [e1, hfin (by omega), c113]; rfl) (hs.tr ((zSame.up (by omega)).tr (zSame.up (by omega)))) zup_at | exact J121 _ _ (by rw [e1, hfin (by omega)]; unfold ztok; rw [if_neg (by have := hby (by omega); omega), if_neg c113, if_neg (fun z => c80 ⟨by omega, ztok_1 z⟩), if_neg (fun z => c95 ⟨by omega, ztok_2 z⟩)]) (hs.tr ((zSame.up (by omega)).tr (zSame.up (by omega)))) zup_at
  have L1 : ∀ (q m : Nat) (w1 : zWd), (m : Int) + (q : Int) = len → zSame w w1 72 1 → w1.1 72 = some (zMO g ab be u len (m : Int) p1 p2 p3 p4 it sm) → zskip T q (m : Int) = S → zRuns g d mX8_nextToken 0 0 0 [some (zR g 72), none] [] w1 K := by
    intro q
    induction q with
    | zero =>
      intro m w1 hm hs h72 hz
      rw [zskip] at hz
      rw [hz] at h72
      refine q_aload_n (pc := 0) dX8_nextToken_0 rfl rfl ?_
      refine q_getfield (pc := 1) gf_X8_139 dX8_nextToken_1 (by assumption) rfl ?_
      refine q_aload_n (pc := 4) dX8_nextToken_4 rfl rfl ?_
      refine q_getfield (pc := 5) gf_X8_128 dX8_nextToken_5 (by assumption) rfl ?_
      refine q_icmp_ge (pc := 8) (by omega) (by omega) 38 dX8_nextToken_8 rfl (fun c8 => ?_) (fun c8 => ?_)
      · exact J38 _ hs h72
      exfalso; omega
    | succ q ih =>
      intro m w1 hm hs h72 hz
      have h76 := (hs.2 76 (by omega)).trans h76
      have hih := fun w1 => ih (m + 1) w1 (by omega)
      have hbm := hT.2 (m : Int) (by omega) (by omega)
      rw [zskip] at hz
      refine q_aload_n (pc := 0) dX8_nextToken_0 rfl rfl ?_
      refine q_getfield (pc := 1) gf_X8_139 dX8_nextToken_1 (by assumption) rfl ?_
      refine q_aload_n (pc := 4) dX8_nextToken_4 rfl rfl ?_
      refine q_getfield (pc := 5) gf_X8_128 dX8_nextToken_5 (by assumption) rfl ?_
      refine q_icmp_ge (pc := 8) (by omega) (by omega) 38 dX8_nextToken_8 rfl (fun c8 => ?_) (fun c8 => ?_)
      · first | (exfalso; omega; done) | (rw [if_neg (by omega)] at hz; rw [hz] at h72; exact J38 _ hs h72)
      refine q_aload_n (pc := 11) dX8_nextToken_11 rfl rfl ?_
      refine q_getfield (pc := 12) gf_X8_23 dX8_nextToken_12 (by assumption) rfl ?_
      refine q_aload_n (pc := 15) dX8_nextToken_15 rfl rfl ?_
      refine q_getfield (pc := 16) gf_X8_139 dX8_nextToken_16 (by assumption) rfl ?_
      refine q_iaload (pc := 19) dX8_nextToken_19 (by assumption) (by omega) ?_
      refine q_bipush (pc := 20) (by decide) dX8_nextToken_20 ?_
      refine q_icmp_ne (pc := 22) (by omega) (by omega) 38 dX8_nextToken_22 rfl (fun c22 => ?_) (fun c22 => ?_)
      · first | (exfalso; omega; done) | (rw [if_neg (by omega)] at hz; rw [hz] at h72; exact J38 _ hs h72)
      refine q_aload_n (pc := 25) dX8_nextToken_25 rfl rfl ?_
      refine q_dup (pc := 26) rfl dX8_nextToken_26 ?_
      refine q_getfield (pc := 27) gf_X8_139 dX8_nextToken_27 (by assumption) rfl ?_
      refine q_iconst (pc := 30) dX8_nextToken_30 ?_
      refine q_iadd (pc := 31) dX8_nextToken_31 ?_
      refine q_putfield2 (pc := 32) [_, _, _, _, _, _, _, _, _, _, _, _, _, _, _, _, _, _, _, _, _, _, _, _, _, _] pf_X8_139 dX8_nextToken_32 (by assumption) rfl rfl (Nat.le_of_ble_eq_true rfl) rfl ?_
      refine q_goto (pc := 35) 0 dX8_nextToken_35 rfl ?_
      rw [if_pos (by omega)] at hz
      exact hih _ (hs.tr (zSame.up (by omega))) zup_at hz
  refine zenter [some _, none] pn_X8 rfl (Nat.le_of_ble_eq_true rfl) ?_
  have en : ((p.toNat : Nat) : Int) = p := by omega
  exact L1 (len - p).toNat p.toNat _ (by omega) zSame.rf (by rw [en]; exact h72) (by rw [en]; exact e0.symm)
set_option maxRecDepth 100000 in
set_option maxHeartbeats 8000000 in
theorem c_X8_wordNow {p : Int} {ab be u it sm : Int} (h72 : w.1 72 = some (zMT g ab be u len it sm T p)) (h76 : w.1 76 = some (.inr (false, 150, T))) (hT : zTx T len) (hp : 0 ≤ p ∧ p ≤ len) (k : K (some (zJ (if zt0 T len p = 1 then zwv T (zsrt T len p) (znxt T len p - zsrt T len p).toNat else 0))) w) : zCall g d 0 0 mX8_wordNow [zR g 72] w K := by
  have hl := hT.1
  have hS := zsrt_b (T := T) hp.2
  have hE := znxt_b (T := T) hp.2
  by_cases z : zt0 T len p = 1
  · rw [if_pos z] at k
    have hE2 : zte T len p = znxt T len p := by unfold zte; rw [if_neg (by omega)]
    have hlt := zletters hp z
    unfold zMT at h72
    rw [hE2, z] at h72
    generalize zsrt T len p = S at *
    generalize znxt T len p = E at *
    have L : ∀ (q m : Nat), (m : Int) + (q : Int) = E - S → zRuns g d mX8_wordNow 0 0 7 [some (zR g 72), some (zJ (zwv T S m)), none, some (zI (S + (m : Int)))] [] w K := by
      intro q
      induction q with
      | zero =>
        intro m h1
        have e : m = (E - S).toNat := by omega
        refine q_iload_n (pc := 7) dX8_wordNow_7 rfl ?_
        refine q_aload_n (pc := 8) dX8_wordNow_8 rfl rfl ?_
        refine q_getfield (pc := 9) gf_X8_145 dX8_wordNow_9 (by assumption) rfl ?_
        refine q_icmp_ge (pc := 12) (by omega) (by omega) 61 dX8_wordNow_12 rfl (fun c12 => ?_) (fun c12 => ?_)
        · refine q_lload_n (pc := 61) dX8_wordNow_61 rfl ?_
          refine q_lreturn (pc := 62) dX8_wordNow_62 rfl ?_
          rw [e]; exact k
        exfalso; omega
      | succ q ih =>
        intro m h1
        have hih := ih (m + 1) (by omega)
        have hb := zwv_b (T := T) (s := S) m (fun j hj => hlt j (by omega))
        have hbm := hlt m (by omega)
        rw [zwv, show S + ((m + 1 : Nat) : Int) = S + (m : Int) + 1 by omega] at hih
        refine q_iload_n (pc := 7) dX8_wordNow_7 rfl ?_
        refine q_aload_n (pc := 8) dX8_wordNow_8 rfl rfl ?_
        refine q_getfield (pc := 9) gf_X8_145 dX8_wordNow_9 (by assumption) rfl ?_
        refine q_icmp_ge (pc := 12) (by omega) (by omega) 61 dX8_wordNow_12 rfl (fun c12 => ?_) (fun c12 => ?_)
        · exfalso; omega
        refine q_aload_n (pc := 15) dX8_wordNow_15 rfl rfl ?_
        refine q_getfield (pc := 16) gf_X8_154 dX8_wordNow_16 (by assumption) rfl ?_
        refine q_iconst (pc := 19) dX8_wordNow_19 ?_
        refine q_icmp_ne (pc := 20) (by omega) (by omega) 61 dX8_wordNow_20 rfl (fun c20 => ?_) (fun c20 => ?_)
        · exfalso; omega
        refine q_lload_n (pc := 23) dX8_wordNow_23 rfl ?_
        refine q_ldc2_w (pc := 24) tw_5_161 dX8_wordNow_24 ?_
        refine q_lcmp (pc := 27) dX8_wordNow_27 (by omega) (by omega) ?_
        refine q_ifc_le (pc := 28) 35 dX8_wordNow_28 rfl (fun c28 => ?_) (fun c28 => ?_)
        · refine q_ldc2_w (pc := 35) tw_5_162 dX8_wordNow_35 ?_
          refine q_lload_n (pc := 38) dX8_wordNow_38 rfl ?_
          refine q_lmul (pc := 39) dX8_wordNow_39 ?_
          refine q_aload_n (pc := 40) dX8_wordNow_40 rfl rfl ?_
          refine q_getfield (pc := 41) gf_X8_23 dX8_wordNow_41 (by assumption) rfl ?_
          refine q_iload_n (pc := 44) dX8_wordNow_44 rfl ?_
          refine q_iaload (pc := 45) dX8_wordNow_45 (by assumption) (by omega) ?_
          refine q_i2l (pc := 46) dX8_wordNow_46 (by omega) ?_
          refine q_ladd (pc := 47) dX8_wordNow_47 ?_
          refine q_ldc2_w (pc := 48) tw_5_144 dX8_wordNow_48 ?_
          refine q_lsub (pc := 51) dX8_wordNow_51 ?_
          refine q_lconst (pc := 52) (v := 1) dX8_wordNow_52 rfl ?_
          refine q_ladd (pc := 53) dX8_wordNow_53 ?_
          refine q_lstore_n (pc := 54) [some _, some _, none, some _] dX8_wordNow_54 rfl (Nat.le_of_ble_eq_true rfl) rfl ?_
          refine q_iinc (pc := 55) [some _, some _, none, some _] dX8_wordNow_55 rfl rfl rfl ?_
          refine q_goto (pc := 58) 7 dX8_wordNow_58 rfl ?_
          first | (rw [if_pos (by omega)] at hih; exact hih) | (rw [if_neg (by omega)] at hih; exact hih)
        refine q_lload_n (pc := 31) dX8_wordNow_31 rfl ?_
        refine q_goto (pc := 32) 54 dX8_wordNow_32 rfl ?_
        refine q_lstore_n (pc := 54) [some _, some _, none, some _] dX8_wordNow_54 rfl (Nat.le_of_ble_eq_true rfl) rfl ?_
        refine q_iinc (pc := 55) [some _, some _, none, some _] dX8_wordNow_55 rfl rfl rfl ?_
        refine q_goto (pc := 58) 7 dX8_wordNow_58 rfl ?_
        first | (rw [if_pos (by omega)] at hih; exact hih) | (rw [if_neg (by omega)] at hih; exact hih)
    refine zenter [some _, none, none, none] pn_X8 rfl (Nat.le_of_ble_eq_true rfl) ?_
    refine q_lconst (pc := 0) (v := 0) dX8_wordNow_0 rfl ?_
    refine q_lstore_n (pc := 1) [some _, some _, none, none] dX8_wordNow_1 rfl (Nat.le_of_ble_eq_true rfl) rfl ?_
    refine q_aload_n (pc := 2) dX8_wordNow_2 rfl rfl ?_
    refine q_getfield (pc := 3) gf_X8_142 dX8_wordNow_3 (by assumption) rfl ?_
    refine q_istore_n (pc := 6) [some _, some _, none, some _] dX8_wordNow_6 rfl (Nat.le_of_ble_eq_true rfl) rfl ?_
    have h9 := L (E - S).toNat 0 (by omega)
    rw [show S + ((0 : Nat) : Int) = S by omega] at h9
    exact h9
  · rw [if_neg z] at k
    have ht := ztok_b (zbyte T len (zsrt T len p))
    have e1 : zt0 T len p = ztok (zbyte T len (zsrt T len p)) := rfl
    have hz0 : zte T len p ≤ 200 ∧ 0 ≤ zte T len p := by unfold zte; split <;> omega
    unfold zMT at h72
    refine zenter [some _, none, none, none] pn_X8 rfl (Nat.le_of_ble_eq_true rfl) ?_
    refine q_lconst (pc := 0) (v := 0) dX8_wordNow_0 rfl ?_
    refine q_lstore_n (pc := 1) [some _, some _, none, none] dX8_wordNow_1 rfl (Nat.le_of_ble_eq_true rfl) rfl ?_
    refine q_aload_n (pc := 2) dX8_wordNow_2 rfl rfl ?_
    refine q_getfield (pc := 3) gf_X8_142 dX8_wordNow_3 (by assumption) rfl ?_
    refine q_istore_n (pc := 6) [some _, some _, none, some _] dX8_wordNow_6 rfl (Nat.le_of_ble_eq_true rfl) rfl ?_
    refine q_iload_n (pc := 7) dX8_wordNow_7 rfl ?_
    refine q_aload_n (pc := 8) dX8_wordNow_8 rfl rfl ?_
    refine q_getfield (pc := 9) gf_X8_145 dX8_wordNow_9 (by assumption) rfl ?_
    refine q_icmp_ge (pc := 12) (by omega) (by omega) 61 dX8_wordNow_12 rfl (fun c12 => ?_) (fun c12 => ?_)
    · refine q_lload_n (pc := 61) dX8_wordNow_61 rfl ?_
      refine q_lreturn (pc := 62) dX8_wordNow_62 rfl ?_
      exact k
    refine q_aload_n (pc := 15) dX8_wordNow_15 rfl rfl ?_
    refine q_getfield (pc := 16) gf_X8_154 dX8_wordNow_16 (by assumption) rfl ?_
    refine q_iconst (pc := 19) dX8_wordNow_19 ?_
    refine q_icmp_ne (pc := 20) (by omega) (by omega) 61 dX8_wordNow_20 rfl (fun c20 => ?_) (fun c20 => ?_)
    · refine q_lload_n (pc := 61) dX8_wordNow_61 rfl ?_
      refine q_lreturn (pc := 62) dX8_wordNow_62 rfl ?_
      exact k
    exfalso; omega
end X8T
