/-! the reference's parishes -/
theorem zbit {m : Nat} (h : m < 4) : (m : Int) % 2 = zand (m : Int) 1 ∧ (m : Int) / 2 = zshr (m : Int) 1 ∧ (0 ≤ zand (m : Int) 1 ∧ zand (m : Int) 1 ≤ 1) ∧ (0 ≤ zshr (m : Int) 1 ∧ zshr (m : Int) 1 ≤ 1) := by
  have e : ∀ n : Fin 4, ((n : Nat) : Int) % 2 = zand ((n : Nat) : Int) 1 ∧ ((n : Nat) : Int) / 2 = zshr ((n : Nat) : Int) 1 ∧ (0 ≤ zand ((n : Nat) : Int) 1 ∧ zand ((n : Nat) : Int) 1 ≤ 1) ∧ (0 ≤ zshr ((n : Nat) : Int) 1 ∧ zshr ((n : Nat) : Int) 1 ≤ 1) := by decide +kernel
  exact e ⟨m, h⟩
section X8K
variable {g : zG} {d : Nat} {w : zWd} {K : Option Value → zWd → Prop} {S : zSt}
set_option maxRecDepth 100000 in
set_option maxHeartbeats 8000000 in
theorem c_X8_parishes {a b q r : Int} (hd : 6 ≤ d) (hC : zMo g w S) (hO : zOKS S) (h_a : zR32 a) (h_b : zR32 b) (h_q : zR32 q) (h_r : zR32 r) (k : ∀ w', zSame w w' 72 16 → zMo g w' (o_parishes S a b q r).2 → K (some (zI (o_parishes S a b q r).1)) w') : zCall g d 0 0 mX8_parishes [zR g 72, zI a, zI b, zI q, zI r] w K := by
  obtain ⟨⟨p0, p1, p2, p3, p4, it, sm, h72⟩, h73, h74, h75, h76, hScr, h84, h85, h86, h87⟩ := id hC
  have hO1 := hO.1
  have hO2 := hO1.1
  have hO3 := hO2.1
  by_cases hv : (0 ≤ a ∧ a < S.1.1 1) ∧ (0 ≤ b ∧ b < S.1.1 1) ∧ a ≠ b ∧ (0 ≤ q ∧ q < S.1.1 2) ∧ (1 ≤ r ∧ r ≤ 9)
  · have hkd := hO2.2.2.2.2.1 q (by omega) (by omega)
    have hA : 0 ≤ zhat S.1.1 a q r (S.1.1 4) ∧ zhat S.1.1 a q r (S.1.1 4) ≤ 10 := by
      have := zhits_b (kind := S.1.1 (68 + a)) hv.2.2.2.2
      unfold zhat; split <;> omega
    have hB : 0 ≤ zhat S.1.1 b q r (S.1.1 4) ∧ zhat S.1.1 b q r (S.1.1 4) ≤ 10 := by
      have := zhits_b (kind := S.1.1 (68 + b)) hv.2.2.2.2
      unfold zhat; split <;> omega
    have ez : ∀ m : Nat, zprs S.1.1 a b q r (m + 1) = if zrests ((S.1.1 (84 + q) - S.1.1 (88 + q)) - zshr (m : Int) 1 * zhat S.1.1 b q r (S.1.1 4)) (zhat S.1.1 a q r (S.1.1 4)) (zand (m : Int) 1) ∧ zrests ((S.1.1 (84 + q) - S.1.1 (88 + q)) - zand (m : Int) 1 * zhat S.1.1 a q r (S.1.1 4)) (zhat S.1.1 b q r (S.1.1 4)) (zshr (m : Int) 1) then zor (zprs S.1.1 a b q r m) (zshl 1 (m : Int)) else zprs S.1.1 a b q r m := fun m => by
      unfold zprs; rw [zbs]; simp only [decide_eq_true_eq]
    have hPR : ∀ m : Nat, zR32 (zprs S.1.1 a b q r m) := fun m => by unfold zprs; exact zbs_R m
    have k : K (some (zI (zprs S.1.1 a b q r 4))) w := zgm k (by unfold o_parishes; exact if_pos hv) zSame.rf hC
    have L : ∀ (n m : Nat) (x10 x11 x12 x13 x14 x15 x16 : Option Value), m + n = 4 → zRuns g d mX8_parishes 0 0 134 [some (zR g 72), some (zI a), some (zI b), some (zI q), some (zI r), some (zI (zhat S.1.1 a q r (S.1.1 4))), some (zI (zhat S.1.1 b q r (S.1.1 4))), some (zI (S.1.1 (84 + q) - S.1.1 (88 + q))), some (zI (zprs S.1.1 a b q r m)), some (zI (m : Int)), x10, x11, x12, x13, x14, x15, x16] [] w K := by
      intro n
      induction n with
      | zero =>
        intro m x10 x11 x12 x13 x14 x15 x16 h1
        obtain rfl : m = 4 := by omega
        refine q_iload (pc := 134) dX8_parishes_134 rfl ?_
        refine q_iconst (pc := 136) dX8_parishes_136 ?_
        refine q_icmp_ge (pc := 137) (by omega) (by omega) 278 dX8_parishes_137 rfl (fun c137 => ?_) (fun c137 => ?_)
        · refine q_iload (pc := 278) dX8_parishes_278 rfl ?_
          refine q_ireturn (pc := 280) dX8_parishes_280 rfl ?_
          exact k
        exfalso; omega
      | succ n ih =>
        intro m x10 x11 x12 x13 x14 x15 x16 h1
        have hih := fun x10 x11 x12 x13 x14 x15 x16 => ih (m + 1) x10 x11 x12 x13 x14 x15 x16 (by omega)
        rw [ez m] at hih
        obtain ⟨hz1, hz2, hx, hy⟩ := zbit (m := m) (by omega)
        have hR := hPR m
        generalize zprs S.1.1 a b q r m = F at *
        generalize zand (m : Int) 1 = x at *
        generalize zshr (m : Int) 1 = y at *
        generalize zhat S.1.1 a q r (S.1.1 4) = HA at *
        generalize zhat S.1.1 b q r (S.1.1 4) = HB at *
        have g1 := zmul_b hx hA
        have g2 := zmul_b hy hB
        have g3 := zmul_b (a := 1 - x) (A := 1) (by omega) hA
        have g4 := zmul_b (a := 1 - y) (A := 1) (by omega) hB
        unfold zrests zworth at hih
        refine q_iload (pc := 134) dX8_parishes_134 rfl ?_
        refine q_iconst (pc := 136) dX8_parishes_136 ?_
        refine q_icmp_ge (pc := 137) (by omega) (by omega) 278 dX8_parishes_137 rfl (fun c137 => ?_) (fun c137 => ?_)
        · exfalso; omega
        refine q_iload (pc := 140) dX8_parishes_140 rfl ?_
        refine q_iconst (pc := 142) dX8_parishes_142 ?_
        refine q_irem (pc := 143) dX8_parishes_143 (by omega) (by omega) (by omega) ?_
        rw [hz1]
        refine q_istore (pc := 144) [some _, some _, some _, some _, some _, some _, some _, some _, some _, some _, some _, _, _, _, _, _, _] dX8_parishes_144 rfl (Nat.le_of_ble_eq_true rfl) rfl ?_
        refine q_iload (pc := 146) dX8_parishes_146 rfl ?_
        refine q_iconst (pc := 148) dX8_parishes_148 ?_
        refine q_idiv (pc := 149) dX8_parishes_149 (by omega) (by omega) (by omega) ?_
        rw [hz2]
        refine q_istore (pc := 150) [some _, some _, some _, some _, some _, some _, some _, some _, some _, some _, some _, some _, _, _, _, _, _] dX8_parishes_150 rfl (Nat.le_of_ble_eq_true rfl) rfl ?_
        refine q_iload (pc := 152) dX8_parishes_152 rfl ?_
        refine q_iload (pc := 154) dX8_parishes_154 rfl ?_
        refine q_iload (pc := 156) dX8_parishes_156 rfl ?_
        refine q_imul (pc := 158) dX8_parishes_158 ?_
        refine q_isub (pc := 159) dX8_parishes_159 ?_
        refine q_iload (pc := 160) dX8_parishes_160 rfl ?_
        refine q_iload (pc := 162) dX8_parishes_162 rfl ?_
        refine q_imul (pc := 164) dX8_parishes_164 ?_
        refine q_isub (pc := 165) dX8_parishes_165 ?_
        refine q_invokestatic (pc := 166) (d' := d - 1) (mc' := 0) (ms' := 0) (As := [_]) cl_X8_64 dX8_parishes_166 rfl rfl (by omega) rfl 0 0 (Nat.le_refl 0) (Nat.le_refl 0) ?_
        refine c_X8_least0 (by omega) ?_
        refine q_istore (pc := 169) [some _, some _, some _, some _, some _, some _, some _, some _, some _, some _, some _, some _, some _, _, _, _, _] dX8_parishes_169 rfl (Nat.le_of_ble_eq_true rfl) rfl ?_
        refine q_iload (pc := 171) dX8_parishes_171 rfl ?_
        refine q_iconst (pc := 173) dX8_parishes_173 ?_
        refine q_iload (pc := 174) dX8_parishes_174 rfl ?_
        refine q_imul (pc := 176) dX8_parishes_176 ?_
        refine q_iadd (pc := 177) dX8_parishes_177 ?_
        refine q_istore (pc := 178) [some _, some _, some _, some _, some _, some _, some _, some _, some _, some _, some _, some _, some _, some _, _, _, _] dX8_parishes_178 rfl (Nat.le_of_ble_eq_true rfl) rfl ?_
        refine q_iload (pc := 180) dX8_parishes_180 rfl ?_
        refine q_iconst (pc := 182) dX8_parishes_182 ?_
        refine q_iload (pc := 183) dX8_parishes_183 rfl ?_
        refine q_imul (pc := 185) dX8_parishes_185 ?_
        refine q_iadd (pc := 186) dX8_parishes_186 ?_
        refine q_istore (pc := 187) [some _, some _, some _, some _, some _, some _, some _, some _, some _, some _, some _, some _, some _, some _, some _, _, _] dX8_parishes_187 rfl (Nat.le_of_ble_eq_true rfl) rfl ?_
        refine q_iload (pc := 189) dX8_parishes_189 rfl ?_
        refine q_iconst (pc := 191) dX8_parishes_191 ?_
        refine q_iload (pc := 192) dX8_parishes_192 rfl ?_
        refine q_isub (pc := 194) dX8_parishes_194 ?_
        refine q_iload (pc := 195) dX8_parishes_195 rfl ?_
        refine q_imul (pc := 197) dX8_parishes_197 ?_
        refine q_isub (pc := 198) dX8_parishes_198 ?_
        refine q_iload (pc := 199) dX8_parishes_199 rfl ?_
        refine q_iload (pc := 201) dX8_parishes_201 rfl ?_
        refine q_imul (pc := 203) dX8_parishes_203 ?_
        refine q_isub (pc := 204) dX8_parishes_204 ?_
        refine q_invokestatic (pc := 205) (d' := d - 1) (mc' := 0) (ms' := 0) (As := [_]) cl_X8_64 dX8_parishes_205 rfl rfl (by omega) rfl 0 0 (Nat.le_refl 0) (Nat.le_refl 0) ?_
        refine c_X8_least0 (by omega) ?_
        refine q_iconst (pc := 208) dX8_parishes_208 ?_
        refine q_iconst (pc := 209) dX8_parishes_209 ?_
        refine q_iload (pc := 210) dX8_parishes_210 rfl ?_
        refine q_isub (pc := 212) dX8_parishes_212 ?_
        refine q_imul (pc := 213) dX8_parishes_213 ?_
        refine q_iadd (pc := 214) dX8_parishes_214 ?_
        refine q_istore (pc := 215) [some _, some _, some _, some _, some _, some _, some _, some _, some _, some _, some _, some _, some _, some _, some _, some _, _] dX8_parishes_215 rfl (Nat.le_of_ble_eq_true rfl) rfl ?_
        refine q_iload (pc := 217) dX8_parishes_217 rfl ?_
        refine q_iload (pc := 219) dX8_parishes_219 rfl ?_
        refine q_iload (pc := 221) dX8_parishes_221 rfl ?_
        refine q_imul (pc := 223) dX8_parishes_223 ?_
        refine q_isub (pc := 224) dX8_parishes_224 ?_
        refine q_iconst (pc := 225) dX8_parishes_225 ?_
        refine q_iload (pc := 226) dX8_parishes_226 rfl ?_
        refine q_isub (pc := 228) dX8_parishes_228 ?_
        refine q_iload (pc := 229) dX8_parishes_229 rfl ?_
        refine q_imul (pc := 231) dX8_parishes_231 ?_
        refine q_isub (pc := 232) dX8_parishes_232 ?_
        refine q_invokestatic (pc := 233) (d' := d - 1) (mc' := 0) (ms' := 0) (As := [_]) cl_X8_64 dX8_parishes_233 rfl rfl (by omega) rfl 0 0 (Nat.le_refl 0) (Nat.le_refl 0) ?_
        refine c_X8_least0 (by omega) ?_
        refine q_iconst (pc := 236) dX8_parishes_236 ?_
        refine q_iconst (pc := 237) dX8_parishes_237 ?_
        refine q_iload (pc := 238) dX8_parishes_238 rfl ?_
        refine q_isub (pc := 240) dX8_parishes_240 ?_
        refine q_imul (pc := 241) dX8_parishes_241 ?_
        refine q_iadd (pc := 242) dX8_parishes_242 ?_
        refine q_istore (pc := 243) [some _, some _, some _, some _, some _, some _, some _, some _, some _, some _, some _, some _, some _, some _, some _, some _, some _] dX8_parishes_243 rfl (Nat.le_of_ble_eq_true rfl) rfl ?_
        refine q_iload (pc := 245) dX8_parishes_245 rfl ?_
        refine q_iload (pc := 247) dX8_parishes_247 rfl ?_
        refine q_iload (pc := 249) dX8_parishes_249 rfl ?_
        refine q_icmp_gt (pc := 251) (by omega) (by omega) 268 dX8_parishes_251 rfl (fun c251 => ?_) (fun c251 => ?_)
        · refine q_iconst (pc := 268) dX8_parishes_268 ?_
          refine q_ior (pc := 269) dX8_parishes_269 ?_
          refine q_istore (pc := 270) [some _, some _, some _, some _, some _, some _, some _, some _, some _, some _, some _, some _, some _, some _, some _, some _, some _] dX8_parishes_270 rfl (Nat.le_of_ble_eq_true rfl) rfl ?_
          refine q_iinc (pc := 272) [some _, some _, some _, some _, some _, some _, some _, some _, some _, some _, some _, some _, some _, some _, some _, some _, some _] dX8_parishes_272 rfl rfl rfl ?_
          refine q_goto (pc := 275) 134 dX8_parishes_275 rfl ?_
          first | (rw [if_pos (by omega)] at hih; exact hih _ _ _ _ _ _ _) | (rw [if_neg (by omega)] at hih; rw [zor_0 hR]; exact hih _ _ _ _ _ _ _)
        refine q_iload (pc := 254) dX8_parishes_254 rfl ?_
        refine q_iload (pc := 256) dX8_parishes_256 rfl ?_
        refine q_icmp_gt (pc := 258) (by omega) (by omega) 268 dX8_parishes_258 rfl (fun c258 => ?_) (fun c258 => ?_)
        · refine q_iconst (pc := 268) dX8_parishes_268 ?_
          refine q_ior (pc := 269) dX8_parishes_269 ?_
          refine q_istore (pc := 270) [some _, some _, some _, some _, some _, some _, some _, some _, some _, some _, some _, some _, some _, some _, some _, some _, some _] dX8_parishes_270 rfl (Nat.le_of_ble_eq_true rfl) rfl ?_
          refine q_iinc (pc := 272) [some _, some _, some _, some _, some _, some _, some _, some _, some _, some _, some _, some _, some _, some _, some _, some _, some _] dX8_parishes_272 rfl rfl rfl ?_
          refine q_goto (pc := 275) 134 dX8_parishes_275 rfl ?_
          first | (rw [if_pos (by omega)] at hih; exact hih _ _ _ _ _ _ _) | (rw [if_neg (by omega)] at hih; rw [zor_0 hR]; exact hih _ _ _ _ _ _ _)
        refine q_iconst (pc := 261) dX8_parishes_261 ?_
        refine q_iload (pc := 262) dX8_parishes_262 rfl ?_
        refine q_ishl (pc := 264) dX8_parishes_264 ?_
        refine q_goto (pc := 265) 269 dX8_parishes_265 rfl ?_
        refine q_ior (pc := 269) dX8_parishes_269 ?_
        refine q_istore (pc := 270) [some _, some _, some _, some _, some _, some _, some _, some _, some _, some _, some _, some _, some _, some _, some _, some _, some _] dX8_parishes_270 rfl (Nat.le_of_ble_eq_true rfl) rfl ?_
        refine q_iinc (pc := 272) [some _, some _, some _, some _, some _, some _, some _, some _, some _, some _, some _, some _, some _, some _, some _, some _, some _] dX8_parishes_272 rfl rfl rfl ?_
        refine q_goto (pc := 275) 134 dX8_parishes_275 rfl ?_
        first | (rw [if_pos (by omega)] at hih; exact hih _ _ _ _ _ _ _) | (rw [if_neg (by omega)] at hih; rw [zor_0 hR]; exact hih _ _ _ _ _ _ _)
    have J105 : ∀ v : Int, v = zhat S.1.1 b q r (S.1.1 4) → zRuns g d mX8_parishes 0 0 105 [some (zR g 72), some (zI a), some (zI b), some (zI q), some (zI r), some (zI (zhat S.1.1 a q r (S.1.1 4))), none, none, none, none, none, none, none, none, none, none, none] [zI v] w K := by
      intro v hv1
      rw [hv1]
      refine q_istore (pc := 105) [some _, some _, some _, some _, some _, some _, some _, none, none, none, none, none, none, none, none, none, none] dX8_parishes_105 rfl (Nat.le_of_ble_eq_true rfl) rfl ?_
      refine q_aload_n (pc := 107) dX8_parishes_107 rfl rfl ?_
      refine q_getfield (pc := 108) gf_X8_7 dX8_parishes_108 (by assumption) rfl ?_
      refine q_bipush (pc := 111) (by decide) dX8_parishes_111 ?_
      refine q_iload_n (pc := 113) dX8_parishes_113 rfl ?_
      refine q_iadd (pc := 114) dX8_parishes_114 ?_
      refine q_iaload (pc := 115) dX8_parishes_115 (by assumption) (by omega) ?_
      refine q_aload_n (pc := 116) dX8_parishes_116 rfl rfl ?_
      refine q_getfield (pc := 117) gf_X8_7 dX8_parishes_117 (by assumption) rfl ?_
      refine q_bipush (pc := 120) (by decide) dX8_parishes_120 ?_
      refine q_iload_n (pc := 122) dX8_parishes_122 rfl ?_
      refine q_iadd (pc := 123) dX8_parishes_123 ?_
      refine q_iaload (pc := 124) dX8_parishes_124 (by assumption) (by omega) ?_
      refine q_isub (pc := 125) dX8_parishes_125 ?_
      refine q_istore (pc := 126) [some _, some _, some _, some _, some _, some _, some _, some _, none, none, none, none, none, none, none, none, none] dX8_parishes_126 rfl (Nat.le_of_ble_eq_true rfl) rfl ?_
      refine q_iconst (pc := 128) dX8_parishes_128 ?_
      refine q_istore (pc := 129) [some _, some _, some _, some _, some _, some _, some _, some _, some _, none, none, none, none, none, none, none, none] dX8_parishes_129 rfl (Nat.le_of_ble_eq_true rfl) rfl ?_
      refine q_iconst (pc := 131) dX8_parishes_131 ?_
      refine q_istore (pc := 132) [some _, some _, some _, some _, some _, some _, some _, some _, some _, some _, none, none, none, none, none, none, none] dX8_parishes_132 rfl (Nat.le_of_ble_eq_true rfl) rfl ?_
      exact L 4 0 _ _ _ _ _ _ _ (by omega)
    have J75 : ∀ v : Int, v = zhat S.1.1 a q r (S.1.1 4) → zRuns g d mX8_parishes 0 0 75 [some (zR g 72), some (zI a), some (zI b), some (zI q), some (zI r), none, none, none, none, none, none, none, none, none, none, none, none] [zI v] w K := by
      intro v hv1
      rw [hv1]
      refine q_istore (pc := 75) [some _, some _, some _, some _, some _, some _, none, none, none, none, none, none, none, none, none, none, none] dX8_parishes_75 rfl (Nat.le_of_ble_eq_true rfl) rfl ?_
      refine q_aload_n (pc := 77) dX8_parishes_77 rfl rfl ?_
      refine q_iload_n (pc := 78) dX8_parishes_78 rfl ?_
      refine q_iload (pc := 79) dX8_parishes_79 rfl ?_
      refine q_iload_n (pc := 81) dX8_parishes_81 rfl ?_
      refine q_aload_n (pc := 82) dX8_parishes_82 rfl rfl ?_
      refine q_getfield (pc := 83) gf_X8_7 dX8_parishes_83 (by assumption) rfl ?_
      refine q_iconst (pc := 86) dX8_parishes_86 ?_
      refine q_iaload (pc := 87) dX8_parishes_87 (by assumption) (by omega) ?_
      refine q_invokevirtual (pc := 88) (d' := d - 1) (mc' := 0) (ms' := 0) (As := [_, _, _, _]) (TX8, 26) cl_X8_232 dX8_parishes_88 rfl rfl (by assumption) rfl (by omega) rfl 0 0 (Nat.le_refl 0) (Nat.le_refl 0) ?_
      refine c_X8_reaches (by omega) h72 h73 hO2 (by omega) (by omega) (by omega) (by omega) ?_
      refine q_ifb_eq (pc := 91) 104 dX8_parishes_91 rfl (fun c91 => ?_) (fun c91 => ?_)
      · refine q_iconst (pc := 104) dX8_parishes_104 ?_
        first | exact J105 _ (if_pos c91).symm | exact J105 _ (if_neg c91).symm
      refine q_aload_n (pc := 94) dX8_parishes_94 rfl rfl ?_
      refine q_iload_n (pc := 95) dX8_parishes_95 rfl ?_
      refine q_iload (pc := 96) dX8_parishes_96 rfl ?_
      refine q_invokevirtual (pc := 98) (d' := d - 1) (mc' := 0) (ms' := 0) (As := [_, _]) (TX8, 26) cl_X8_236 dX8_parishes_98 rfl rfl (by assumption) rfl (by omega) rfl 0 0 (Nat.le_refl 0) (Nat.le_refl 0) ?_
      refine c_X8_hitsOf (by omega) h72 h73 hO2 (by omega) (by omega) ?_
      refine q_goto (pc := 101) 105 dX8_parishes_101 rfl ?_
      first | exact J105 _ (if_pos c91).symm | exact J105 _ (if_neg c91).symm
    refine zenter [some _, some _, some _, some _, some _, none, none, none, none, none, none, none, none, none, none, none, none] pn_X8 rfl (Nat.le_of_ble_eq_true rfl) ?_
    refine q_aload_n (pc := 0) dX8_parishes_0 rfl rfl ?_
    refine q_iload_n (pc := 1) dX8_parishes_1 rfl ?_
    refine q_invokevirtual (pc := 2) (d' := d - 1) (mc' := 0) (ms' := 0) (As := [_]) (TX8, 26) cl_X8_223 dX8_parishes_2 rfl rfl (by assumption) rfl (by omega) rfl 0 0 (Nat.le_refl 0) (Nat.le_refl 0) ?_
    refine c_X8_isSlinger (by omega) h72 h73 hO3 (by omega) ?_
    refine q_ifb_eq (pc := 5) 42 dX8_parishes_5 rfl (fun c5 => ?_) (fun c5 => ?_)
    · exfalso; omega
    refine q_aload_n (pc := 8) dX8_parishes_8 rfl rfl ?_
    refine q_iload_n (pc := 9) dX8_parishes_9 rfl ?_
    refine q_invokevirtual (pc := 10) (d' := d - 1) (mc' := 0) (ms' := 0) (As := [_]) (TX8, 26) cl_X8_223 dX8_parishes_10 rfl rfl (by assumption) rfl (by omega) rfl 0 0 (Nat.le_refl 0) (Nat.le_refl 0) ?_
    refine c_X8_isSlinger (by omega) h72 h73 hO3 (by omega) ?_
    refine q_ifb_eq (pc := 13) 42 dX8_parishes_13 rfl (fun c13 => ?_) (fun c13 => ?_)
    · exfalso; omega
    refine q_iload_n (pc := 16) dX8_parishes_16 rfl ?_
    refine q_iload_n (pc := 17) dX8_parishes_17 rfl ?_
    refine q_icmp_eq (pc := 18) (by omega) (by omega) 42 dX8_parishes_18 rfl (fun c18 => ?_) (fun c18 => ?_)
    · exfalso; omega
    refine q_aload_n (pc := 21) dX8_parishes_21 rfl rfl ?_
    refine q_iload_n (pc := 22) dX8_parishes_22 rfl ?_
    refine q_invokevirtual (pc := 23) (d' := d - 1) (mc' := 0) (ms' := 0) (As := [_]) (TX8, 26) cl_X8_226 dX8_parishes_23 rfl rfl (by assumption) rfl (by omega) rfl 0 0 (Nat.le_refl 0) (Nat.le_refl 0) ?_
    refine c_X8_isCloud (by omega) h72 h73 hO3 (by omega) ?_
    refine q_ifb_eq (pc := 26) 42 dX8_parishes_26 rfl (fun c26 => ?_) (fun c26 => ?_)
    · exfalso; omega
    refine q_iload (pc := 29) dX8_parishes_29 rfl ?_
    refine q_i2l (pc := 31) dX8_parishes_31 (by omega) ?_
    refine q_lconst (pc := 32) (v := 1) dX8_parishes_32 rfl ?_
    refine q_ldc2_w (pc := 33) tw_5_79 dX8_parishes_33 ?_
    refine q_invokestatic (pc := 36) (d' := d - 1) (mc' := 0) (ms' := 0) (As := [_, _, _]) cl_X8_60 dX8_parishes_36 rfl rfl (by omega) rfl 0 0 (Nat.le_refl 0) (Nat.le_refl 0) ?_
    refine c_X8_in (by omega) (by omega) (by omega) ?_
    refine q_ifb_ne (pc := 39) 47 dX8_parishes_39 rfl (fun c39 => ?_) (fun c39 => ?_)
    · refine q_aload_n (pc := 47) dX8_parishes_47 rfl rfl ?_
      refine q_iload_n (pc := 48) dX8_parishes_48 rfl ?_
      refine q_iload (pc := 49) dX8_parishes_49 rfl ?_
      refine q_iload_n (pc := 51) dX8_parishes_51 rfl ?_
      refine q_aload_n (pc := 52) dX8_parishes_52 rfl rfl ?_
      refine q_getfield (pc := 53) gf_X8_7 dX8_parishes_53 (by assumption) rfl ?_
      refine q_iconst (pc := 56) dX8_parishes_56 ?_
      refine q_iaload (pc := 57) dX8_parishes_57 (by assumption) (by omega) ?_
      refine q_invokevirtual (pc := 58) (d' := d - 1) (mc' := 0) (ms' := 0) (As := [_, _, _, _]) (TX8, 26) cl_X8_232 dX8_parishes_58 rfl rfl (by assumption) rfl (by omega) rfl 0 0 (Nat.le_refl 0) (Nat.le_refl 0) ?_
      refine c_X8_reaches (by omega) h72 h73 hO2 (by omega) (by omega) (by omega) (by omega) ?_
      refine q_ifb_eq (pc := 61) 74 dX8_parishes_61 rfl (fun c61 => ?_) (fun c61 => ?_)
      · refine q_iconst (pc := 74) dX8_parishes_74 ?_
        first | exact J75 _ (if_pos c61).symm | exact J75 _ (if_neg c61).symm
      refine q_aload_n (pc := 64) dX8_parishes_64 rfl rfl ?_
      refine q_iload_n (pc := 65) dX8_parishes_65 rfl ?_
      refine q_iload (pc := 66) dX8_parishes_66 rfl ?_
      refine q_invokevirtual (pc := 68) (d' := d - 1) (mc' := 0) (ms' := 0) (As := [_, _]) (TX8, 26) cl_X8_236 dX8_parishes_68 rfl rfl (by assumption) rfl (by omega) rfl 0 0 (Nat.le_refl 0) (Nat.le_refl 0) ?_
      refine c_X8_hitsOf (by omega) h72 h73 hO2 (by omega) (by omega) ?_
      refine q_goto (pc := 71) 75 dX8_parishes_71 rfl ?_
      first | exact J75 _ (if_pos c61).symm | exact J75 _ (if_neg c61).symm
    exfalso; omega
  · skip
    refine zenter [some _, some _, some _, some _, some _, none, none, none, none, none, none, none, none, none, none, none, none] pn_X8 rfl (Nat.le_of_ble_eq_true rfl) ?_
    refine q_aload_n (pc := 0) dX8_parishes_0 rfl rfl ?_
    refine q_iload_n (pc := 1) dX8_parishes_1 rfl ?_
    refine q_invokevirtual (pc := 2) (d' := d - 1) (mc' := 0) (ms' := 0) (As := [_]) (TX8, 26) cl_X8_223 dX8_parishes_2 rfl rfl (by assumption) rfl (by omega) rfl 0 0 (Nat.le_refl 0) (Nat.le_refl 0) ?_
    refine c_X8_isSlinger (by omega) h72 h73 hO3 (by omega) ?_
    refine q_ifb_eq (pc := 5) 42 dX8_parishes_5 rfl (fun c5 => ?_) (fun c5 => ?_)
    · refine q_aload_n (pc := 42) dX8_parishes_42 rfl rfl ?_
      refine q_invokevirtual (pc := 43) (d' := d - 1) (mc' := 0) (ms' := 0) (As := []) (TX8, 26) cl_X8_103 dX8_parishes_43 rfl rfl (by assumption) rfl (by omega) rfl 0 0 (Nat.le_refl 0) (Nat.le_refl 0) ?_
      refine c_X8_bad hC (fun w9 hs9 hC9 => ?_)
      refine q_ireturn (pc := 46) dX8_parishes_46 rfl ?_
      exact zgm k (by unfold o_parishes; exact if_neg hv) hs9 hC9
    refine q_aload_n (pc := 8) dX8_parishes_8 rfl rfl ?_
    refine q_iload_n (pc := 9) dX8_parishes_9 rfl ?_
    refine q_invokevirtual (pc := 10) (d' := d - 1) (mc' := 0) (ms' := 0) (As := [_]) (TX8, 26) cl_X8_223 dX8_parishes_10 rfl rfl (by assumption) rfl (by omega) rfl 0 0 (Nat.le_refl 0) (Nat.le_refl 0) ?_
    refine c_X8_isSlinger (by omega) h72 h73 hO3 (by omega) ?_
    refine q_ifb_eq (pc := 13) 42 dX8_parishes_13 rfl (fun c13 => ?_) (fun c13 => ?_)
    · refine q_aload_n (pc := 42) dX8_parishes_42 rfl rfl ?_
      refine q_invokevirtual (pc := 43) (d' := d - 1) (mc' := 0) (ms' := 0) (As := []) (TX8, 26) cl_X8_103 dX8_parishes_43 rfl rfl (by assumption) rfl (by omega) rfl 0 0 (Nat.le_refl 0) (Nat.le_refl 0) ?_
      refine c_X8_bad hC (fun w9 hs9 hC9 => ?_)
      refine q_ireturn (pc := 46) dX8_parishes_46 rfl ?_
      exact zgm k (by unfold o_parishes; exact if_neg hv) hs9 hC9
    refine q_iload_n (pc := 16) dX8_parishes_16 rfl ?_
    refine q_iload_n (pc := 17) dX8_parishes_17 rfl ?_
    refine q_icmp_eq (pc := 18) (by omega) (by omega) 42 dX8_parishes_18 rfl (fun c18 => ?_) (fun c18 => ?_)
    · refine q_aload_n (pc := 42) dX8_parishes_42 rfl rfl ?_
      refine q_invokevirtual (pc := 43) (d' := d - 1) (mc' := 0) (ms' := 0) (As := []) (TX8, 26) cl_X8_103 dX8_parishes_43 rfl rfl (by assumption) rfl (by omega) rfl 0 0 (Nat.le_refl 0) (Nat.le_refl 0) ?_
      refine c_X8_bad hC (fun w9 hs9 hC9 => ?_)
      refine q_ireturn (pc := 46) dX8_parishes_46 rfl ?_
      exact zgm k (by unfold o_parishes; exact if_neg hv) hs9 hC9
    refine q_aload_n (pc := 21) dX8_parishes_21 rfl rfl ?_
    refine q_iload_n (pc := 22) dX8_parishes_22 rfl ?_
    refine q_invokevirtual (pc := 23) (d' := d - 1) (mc' := 0) (ms' := 0) (As := [_]) (TX8, 26) cl_X8_226 dX8_parishes_23 rfl rfl (by assumption) rfl (by omega) rfl 0 0 (Nat.le_refl 0) (Nat.le_refl 0) ?_
    refine c_X8_isCloud (by omega) h72 h73 hO3 (by omega) ?_
    refine q_ifb_eq (pc := 26) 42 dX8_parishes_26 rfl (fun c26 => ?_) (fun c26 => ?_)
    · refine q_aload_n (pc := 42) dX8_parishes_42 rfl rfl ?_
      refine q_invokevirtual (pc := 43) (d' := d - 1) (mc' := 0) (ms' := 0) (As := []) (TX8, 26) cl_X8_103 dX8_parishes_43 rfl rfl (by assumption) rfl (by omega) rfl 0 0 (Nat.le_refl 0) (Nat.le_refl 0) ?_
      refine c_X8_bad hC (fun w9 hs9 hC9 => ?_)
      refine q_ireturn (pc := 46) dX8_parishes_46 rfl ?_
      exact zgm k (by unfold o_parishes; exact if_neg hv) hs9 hC9
    refine q_iload (pc := 29) dX8_parishes_29 rfl ?_
    refine q_i2l (pc := 31) dX8_parishes_31 (by omega) ?_
    refine q_lconst (pc := 32) (v := 1) dX8_parishes_32 rfl ?_
    refine q_ldc2_w (pc := 33) tw_5_79 dX8_parishes_33 ?_
    refine q_invokestatic (pc := 36) (d' := d - 1) (mc' := 0) (ms' := 0) (As := [_, _, _]) cl_X8_60 dX8_parishes_36 rfl rfl (by omega) rfl 0 0 (Nat.le_refl 0) (Nat.le_refl 0) ?_
    refine c_X8_in (by omega) (by omega) (by omega) ?_
    refine q_ifb_ne (pc := 39) 47 dX8_parishes_39 rfl (fun c39 => ?_) (fun c39 => ?_)
    · exfalso; omega
    refine q_aload_n (pc := 42) dX8_parishes_42 rfl rfl ?_
    refine q_invokevirtual (pc := 43) (d' := d - 1) (mc' := 0) (ms' := 0) (As := []) (TX8, 26) cl_X8_103 dX8_parishes_43 rfl rfl (by assumption) rfl (by omega) rfl 0 0 (Nat.le_refl 0) (Nat.le_refl 0) ?_
    refine c_X8_bad hC (fun w9 hs9 hC9 => ?_)
    refine q_ireturn (pc := 46) dX8_parishes_46 rfl ?_
    exact zgm k (by unfold o_parishes; exact if_neg hv) hs9 hC9
end X8K
