section ZM
variable {g : zG} {d : Nat} {M : zMt} {rc rs pc : Nat} {lv : List (Option Value)} {st : List Value} {w : zWd} {K : Option Value → zWd → Prop}
theorem q_top {a : Int} (h : ∀ x, x = a → zRuns g d M rc rs pc lv (zI x :: st) w K) : zRuns g d M rc rs pc lv (zI a :: st) w K := h a rfl
theorem q_putfield2 {ix ci j k : Nat} {fs : List Value} {v : Value} {ty : FieldType} (fs2 : List Value) (hf : zpf M.1.cls ix ci j false ty) (hd : decode M.2.1 pc = .ok (.putfield ix, 3)) (hk : w.1 k = some (.inl (ci, fs))) (hn : narrow ty v = v) (hfit : fits ty v = true) (hlen : j < fs.length) (hs : fs.set j v = fs2) (kk : zRuns g d M rc rs (pc + 3) lv st (zup w k (.inl (ci, fs2))) K) : zRuns g d M rc rs pc lv (v :: zR g k :: st) w K := by
  subst hs
  exact q_putfield hf hd hk hn hfit hlen kk
theorem q_putfinal2 {ix ci j k : Nat} {fs : List Value} {v : Value} {ty : FieldType} (fs2 : List Value) (hf : zpf M.1.cls ix ci j true ty) (hd : decode M.2.1 pc = .ok (.putfield ix, 3)) (hini : M.1.name = "<init>") (hk : w.1 k = some (.inl (ci, fs))) (hn : narrow ty v = v) (hfit : fits ty v = true) (hlen : j < fs.length) (hs : fs.set j v = fs2) (kk : zRuns g d M rc rs (pc + 3) lv st (zup w k (.inl (ci, fs2))) K) : zRuns g d M rc rs pc lv (v :: zR g k :: st) w K := by
  subst hs
  exact q_putfinal hf hd hini hk hn hfit hlen kk
theorem pn_X0 : plainName RX0 = true := by decide +kernel
theorem pn_X1 : plainName RX1 = true := by decide +kernel
theorem pn_X2 : plainName RX2 = true := by decide +kernel
theorem pn_X3 : plainName RX3 = true := by decide +kernel
theorem pn_X4 : plainName RX4 = true := by decide +kernel
theorem pn_X5 : plainName RX5 = true := by decide +kernel
theorem pn_X6 : plainName RX6 = true := by decide +kernel
theorem pn_X7 : plainName RX7 = true := by decide +kernel
theorem pn_X8 : plainName RX8 = true := by decide +kernel
end ZM
