/-! what each call answers and leaves -/
section OPS
variable (S : zSt)
def o_store (v : Int) : Int × zSt := if 0 ≤ v ∧ v ≤ 9 then (S.1.1 0, sN0 S (zempty v) 0) else zbad S
def o_cellar (kd st : Int) : Int × zSt := if (0 ≤ kd ∧ kd ≤ 5) ∧ (0 ≤ st ∧ st ≤ 9) then (if S.1.1 0 = 5 then zfull S else (S.1.1 0, sN0 S (znewc S.1.1 kd st) 0)) else zbad S
def o_stones (c r n : Int) : Int × zSt := if (0 ≤ c ∧ c < S.1.1 0) ∧ (1 ≤ r ∧ r ≤ 9) ∧ (1 ≤ n ∧ n ≤ 99) then (min 99 (S.1.1 (18 + 10 * c + r) + n), sN0 S (zfu S.1.1 (18 + 10 * c + r) (min 99 (S.1.1 (18 + 10 * c + r) + n))) 0) else zbad S
def o_straw (c s : Int) : Int × zSt := if (0 ≤ c ∧ c < S.1.1 0) ∧ (0 ≤ s ∧ s ≤ 9) then (S.1.1 (13 + c), sN0 S (zfu S.1.1 (13 + c) s) 0) else zbad S
def o_slinger (kd a : Int) : Int × zSt := if (0 ≤ kd ∧ kd ≤ 5) ∧ (0 ≤ a ∧ a ≤ 9) then (if S.1.1 1 = 6 then zfull S else (S.1.1 1, sN0 S (znews S.1.1 kd a) 0)) else zbad S
def o_cloud (f n : Int) : Int × zSt := if (1 ≤ f ∧ f ≤ 30) ∧ (1 ≤ n ∧ n ≤ 40) then (if S.1.1 2 = 4 then zfull S else (S.1.1 2, sN0 S (znewk S.1.1 f n) 0)) else zbad S
def o_type (c : Int) : Int × zSt := if 0 ≤ c ∧ c ≤ 127 then (if S.2.1.2 = 150 then zfull S else (S.2.1.2 + 1, sT S (zfu S.2.1.1 S.2.1.2 c) (S.2.1.2 + 1))) else zbad S
def o_clear : Int × zSt := (S.2.1.2, sT S S.2.1.1 0)
def o_read : Int × zSt := if 0 ≤ (zread S.2.1.1 S.2.1.2).1 then ((zread S.2.1.1 S.2.1.2).1, sN0 S (zread S.2.1.1 S.2.1.2).2 0) else ((zread S.2.1.1 S.2.1.2).1, S)
def o_week (n : Int) : Int × zSt := if 1 ≤ n ∧ n ≤ 60 then (zall (zweeks S.1.1 n.toNat), sMv S (zweeks S.1.1 n.toNat)) else zbad S
def o_door (c : Int) : Int × zSt := if 0 ≤ c ∧ c < S.1.1 0 then (zfrom (zlose S.1.1 c (zcost (S.1.1 (8 + c)))) c 1, sMv S (zlose S.1.1 c (zcost (S.1.1 (8 + c))))) else zbad S
def o_throwing (s c r q : Int) : Int × zSt := if (0 ≤ s ∧ s < S.1.1 1) ∧ (0 ≤ c ∧ c < S.1.1 0) ∧ (1 ≤ r ∧ r ≤ 9) ∧ (0 ≤ q ∧ q < S.1.1 2) then (if S.1.1 (18 + 10 * c + r) = 0 ∨ S.1.1 (80 + q) = 0 then zno S else (zhat S.1.1 s q r (S.1.1 4), sMv S (zthrow S.1.1 s c r q))) else zbad S
def o_hour : Int × zSt := (zhere S.1.1, sMv S (zhour S.1.1))
def o_wind (v : Int) : Int × zSt := if 0 ≤ v ∧ v ≤ 9 then (S.1.1 4, sMv S (zfu S.1.1 4 v)) else zbad S
def o_undo : Int × zSt := if S.1.2.1 = 0 then zno S else (zundo S.1.1 S.1.2.2 (S.1.2.1 - 1) 3, sN0 S (zundo S.1.1 S.1.2.2 (S.1.2.1 - 1)) (S.1.2.1 - 1))
def o_of (c x : Int) : Int × zSt := if (0 ≤ c ∧ c < S.1.1 0) ∧ (0 ≤ x ∧ x ≤ 3) then ((if x = 0 then S.1.1 (8 + c) else if x = 1 then S.1.1 (13 + c) else if x = 2 then zcost (S.1.1 (8 + c)) else zfrom S.1.1 c 1), S) else zbad S
def o_has (c r : Int) : Int × zSt := if (0 ≤ c ∧ c < S.1.1 0) ∧ (1 ≤ r ∧ r ≤ 9) then (S.1.1 (18 + 10 * c + r), S) else zbad S
def o_about (s x : Int) : Int × zSt := if (0 ≤ s ∧ s < S.1.1 1) ∧ (0 ≤ x ∧ x ≤ 1) then ((if x = 0 then S.1.1 (68 + s) else S.1.1 (74 + s)), S) else zbad S
def o_sky (q x : Int) : Int × zSt := if (0 ≤ q ∧ q < S.1.1 2) ∧ (0 ≤ x ∧ x ≤ 3) then ((if x = 0 then S.1.1 (80 + q) else if x = 1 then S.1.1 (84 + q) else if x = 2 then S.1.1 (88 + q) else zb (zTn S.1.1 q)), S) else zbad S
def o_melts (c wk : Int) : Int × zSt := if (0 ≤ c ∧ c < S.1.1 0) ∧ (0 ≤ wk ∧ wk ≤ 999) then (zmelt (S.1.1 (8 + c)) wk (S.1.1 (13 + c)), S) else zbad S
def o_then (c m dd x : Int) : Int × zSt := if (0 ≤ c ∧ c < S.1.1 0) ∧ (0 ≤ m ∧ m ≤ 60) ∧ (0 ≤ dd ∧ dd ≤ 9) ∧ (0 ≤ x ∧ x ≤ 4) then (zthen S.1.1 c m dd x, S) else zbad S
def o_lasts (c r : Int) : Int × zSt := if (0 ≤ c ∧ c < S.1.1 0) ∧ (1 ≤ r ∧ r ≤ 9) then (zlasts S.1.1 c r, S) else zbad S
def o_least (c r m : Int) : Int × zSt := if (0 ≤ c ∧ c < S.1.1 0) ∧ (1 ≤ r ∧ r ≤ 9) ∧ (0 ≤ m ∧ m ≤ 60) then (zleast S.1.1 c r m, S) else zbad S
def o_throwsOf (s r x : Int) : Int × zSt := if (0 ≤ s ∧ s < S.1.1 1) ∧ (1 ≤ r ∧ r ≤ 9) ∧ (0 ≤ x ∧ x ≤ 1) then ((if x = 0 then zfar (S.1.1 (68 + s)) (S.1.1 (74 + s)) r (S.1.1 4) else zhits (S.1.1 (68 + s)) r), S) else zbad S
def o_reach (s q : Int) : Int × zSt := if (0 ≤ s ∧ s < S.1.1 1) ∧ (0 ≤ q ∧ q < S.1.1 2) then (zreach S.1.1 s q 10, S) else zbad S
def o_turn (q s c x : Int) : Int × zSt := if (0 ≤ q ∧ q < S.1.1 2) ∧ (0 ≤ s ∧ s < S.1.1 1) ∧ (0 ≤ c ∧ c < S.1.1 0) ∧ (0 ≤ x ∧ x ≤ 1) then ((if zprice S.1.1 q s c = -1 then -1 else if x = 0 then zprice S.1.1 q s c / 1000 else zprice S.1.1 q s c % 1000), S) else zbad S
def zmeet (N : Int → Int) (r : Int) : Int × Int := zmw N r (zpw (N 2) (N 1).toNat).toNat
def o_meet (r s : Int) : Int × zSt := if 1 ≤ r ∧ r ≤ 9 then (if S.1.1 2 = 0 then (-1, S) else if s ≠ -1 ∧ ¬ (0 ≤ s ∧ s < S.1.1 1) then (-10, sR S 0) else ((if s = -1 then (zmeet S.1.1 r).1 else zwy S.1.1 (zmeet S.1.1 r).2 s), S)) else (-10, sR S 0)
def o_doors (r x : Int) : Int × zSt := if (1 ≤ r ∧ r ≤ 9) ∧ (0 ≤ x ∧ x ≤ 1) then ((if zbd S.1.1 r (S.1.1 0).toNat = -1 ∨ x = 0 then zbd S.1.1 r (S.1.1 0).toNat else zlbd S.1.1 (zbd S.1.1 r (S.1.1 0).toNat) r), S) else zbad S
def o_rings (c wk x y : Int) : Int × zSt := if (0 ≤ c ∧ c < S.1.1 0) ∧ (0 ≤ wk ∧ wk ≤ 99) ∧ (1 ≤ x ∧ x ≤ 9) ∧ (0 ≤ y ∧ y ≤ x) then (if S.1.1 5 = 4 then zfull S else (S.1.1 5 + 1, sN S (znewr S.1.1 c wk x y))) else zbad S
def o_cooled (i : Int) : Int × zSt := if 0 ≤ i ∧ i < S.1.1 5 then (zcool S.1.1 i, S) else zbad S
def o_even (c : Int) : Int × zSt := if 0 ≤ c ∧ c < S.1.1 0 then (zeven S.1.1 c (S.1.1 5).toNat, S) else zbad S
def o_note (c s wk x co : Int) : Int × zSt := if (0 ≤ c ∧ c < S.1.1 0) ∧ (0 ≤ s ∧ s ≤ 9) ∧ (0 ≤ wk ∧ wk ≤ 99) ∧ (0 ≤ x ∧ x ≤ 4) ∧ (0 ≤ co ∧ co ≤ 4) then (if S.1.1 6 = 6 then zfull S else (S.1.1 6 + 1, sN S (znewn S.1.1 6 108 c s wk x co))) else zbad S
def o_flew (s r v x h : Int) : Int × zSt := if (0 ≤ s ∧ s < S.1.1 1) ∧ (1 ≤ r ∧ r ≤ 9) ∧ (0 ≤ v ∧ v ≤ 9) ∧ (0 ≤ x ∧ x ≤ 60) ∧ (0 ≤ h ∧ h ≤ 12) then (if S.1.1 7 = 6 then zfull S else (S.1.1 7 + 1, sN S (znewn S.1.1 7 138 s r v x h))) else zbad S
def o_forget (x : Int) : Int × zSt := if 0 ≤ x ∧ x ≤ 2 then (S.1.1 (5 + x), sN S (zfu S.1.1 (5 + x) 0)) else zbad S
def o_is (c : Int) : Int × zSt := if 0 ≤ c ∧ c < S.1.1 0 then (zis S.1.1 c, S) else zbad S
def o_watch (c : Int) : Int × zSt := if 0 ≤ c ∧ c < S.1.1 0 then (zwatch S.1.1 c, S) else zbad S
def o_who (s : Int) : Int × zSt := if 0 ≤ s ∧ s < S.1.1 1 then (zwho S.1.1 s, S) else zbad S
def o_ask (s : Int) : Int × zSt := if 0 ≤ s ∧ s < S.1.1 1 then (zask S.1.1 s, S) else zbad S
def o_parishes (a b q r : Int) : Int × zSt := if (0 ≤ a ∧ a < S.1.1 1) ∧ (0 ≤ b ∧ b < S.1.1 1) ∧ a ≠ b ∧ (0 ≤ q ∧ q < S.1.1 2) ∧ (1 ≤ r ∧ r ≤ 9) then (zprs S.1.1 a b q r 4, S) else zbad S
def zgust (N : Int → Int) (s q r n c : Int) : Int := n * (c * zhat N s q r (min 9 (N 4 + 4)) + (10 - c) * zhat N s q r (N 4))
def zgcd (v : Int) : Int := ((Nat.gcd v.toNat 10 : Nat) : Int)
def o_gusts (s q r n c : Int) : Int × zSt := if (0 ≤ s ∧ s < S.1.1 1) ∧ (0 ≤ q ∧ q < S.1.1 2) ∧ (1 ≤ r ∧ r ≤ 9) ∧ (0 ≤ n ∧ n ≤ 9) ∧ (0 ≤ c ∧ c ≤ 10) then (1, sF S (zgust S.1.1 s q r n c / zgcd (zgust S.1.1 s q r n c)) (10 / zgcd (zgust S.1.1 s q r n c))) else zbad S
def o_summers (seed n : Int) : Int × zSt := if (0 ≤ seed ∧ seed ≤ 999999) ∧ (0 ≤ n ∧ n ≤ 60) then (zsummers S.1.1 seed n, S) else zbad S
def o_part (x : Int) : Int × zSt := if x = 0 then (S.2.2.2.1.1, S) else if x = 1 then (S.2.2.2.1.2, S) else zbad S
def zimg (f x : Int → Int) (n i : Int) : Int → Int := fun j => if n * i ≤ j ∧ j < n * i + n then x (j - n * i) else f j
def o_image (i : Int) : Int × zSt := if 0 ≤ i ∧ i ≤ 1 then (1, (S.1, S.2.1, S.2.2.1, S.2.2.2.1, (zimg S.2.2.2.2.1 S.1.1 168 i, zfu S.2.2.2.2.2.1 i 1, zfu S.2.2.2.2.2.2.1 i S.1.2.1, zimg S.2.2.2.2.2.2.2 S.1.2.2 480 i))) else zbad S
def o_from (i : Int) : Int × zSt := if 0 ≤ i ∧ i ≤ 1 then (if S.2.2.2.2.2.1 i = 0 then zno S else (1, sNP S (zimN S i) (S.2.2.2.2.2.2.1 i) (zimP S i))) else zbad S
def o_status (x : Int) : Int × zSt := if 0 ≤ x ∧ x ≤ 2 then (S.2.2.1 x, S) else (-1, sR S 0)
def zcnt (S : zSt) (x : Int) : Int := if x = 0 then S.1.1 0 else if x = 1 then S.1.1 1 else if x = 2 then S.1.1 2 else if x = 3 then S.1.1 3 else if x = 4 then S.1.1 4 else if x = 5 then zall S.1.1 else if x = 6 then zturned S.1.1 else if x = 7 then S.1.1 5 else if x = 8 then S.1.1 6 else if x = 9 then S.1.1 7 else if x = 10 then S.1.2.1 else S.2.1.2
def o_count (x : Int) : Int × zSt := if 0 ≤ x ∧ x ≤ 11 then (zcnt S x, S) else zbad S
end OPS
