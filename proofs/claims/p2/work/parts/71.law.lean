abbrev ML_law : gM := (yL_law, cL_law, 8, some .boolean, [])
section SCR
variable {b L : Nat} {xs : Nat → Int32} {M : gM} {d : Nat × Nat} {pc : Nat} {ls : List (Option Value)} {st : List Value} {w : gW} {k n : Nat} {Q : gR → gW → Prop}
theorem g_slen (d0 : decode M.2.1 pc = .ok (.aload_n 0, 1)) (d1 : decode M.2.1 (pc + 1) = .ok (.arraylength, 1)) (kk : GE (gxL b L xs) M d (pc + 1 + 1) ls (.int (nI L) :: st) w k n Q) : GE (gxL b L xs) M d pc ls st w k n Q := by
  intro p l e R s m args below meth c A D dA κ0 n0 C EX κ H locs lsr cells slots I
  refine lv_aload_n C.1 C.2.1 d0 rfl (I.2.2.2.1.2.2 (0, .ref b) (List.mem_append_left _ (List.mem_singleton.mpr rfl))) ?_
  exact va_slen C.1 C.2.1 EX.1 EX.2.1 EX.2.2 I.2.2.2.2.2.2 d1 (kk p l e R s m args below meth c A D dA κ0 n0 C EX κ H locs lsr cells slots I)
theorem g_sld0 {i : Int32} (d0 : decode M.2.1 pc = .ok (.aload_n 0, 1)) (d1 : decode M.2.1 (pc + 1) = .ok (.iload 4, 2)) (d2 : decode M.2.1 (pc + 1 + 2) = .ok (.iaload, 1)) (hl : ls[4]? = some (some (.int i))) (hin : vp_in i L) (kk : GE (gxL b L xs) M d (pc + 1 + 2 + 1) ls (.int (xs i.toNatClampNeg) :: st) w k n Q) : GE (gxL b L xs) M d pc ls st w k n Q := by
  intro p l e R s m args below meth c A D dA κ0 n0 C EX κ H locs lsr cells slots I
  refine lv_aload_n C.1 C.2.1 d0 rfl (I.2.2.2.1.2.2 (0, .ref b) (List.mem_append_left _ (List.mem_singleton.mpr rfl))) ?_
  refine lv_iload C.1 C.2.1 d1 (gas_at I.2.2.2.1 hl) ?_
  exact va_sld C.1 C.2.1 EX.1 EX.2.1 EX.2.2 I.2.2.2.2.2.2 hin d2 (kk p l e R s m args below meth c A D dA κ0 n0 C EX κ H locs lsr cells slots I)
theorem g_sldc {i v : Int32} {cc : Int} (d0 : decode M.2.1 pc = .ok (.aload_n 0, 1)) (d1 : decode M.2.1 (pc + 1) = .ok (.iload 4, 2)) (d2 : decode M.2.1 (pc + 1 + 2) = .ok (.iconst cc, 1)) (d3 : decode M.2.1 (pc + 1 + 2 + 1) = .ok (.iadd, 1)) (d4 : decode M.2.1 (pc + 1 + 2 + 1 + 1) = .ok (.iaload, 1)) (hv : Int32.ofInt cc = v) (hl : ls[4]? = some (some (.int i))) (hin : vp_in (i + v) L) (kk : GE (gxL b L xs) M d (pc + 1 + 2 + 1 + 1 + 1) ls (.int (xs (i + v).toNatClampNeg) :: st) w k n Q) : GE (gxL b L xs) M d pc ls st w k n Q := by
  intro p l e R s m args below meth c A D dA κ0 n0 C EX κ H locs lsr cells slots I
  refine lv_aload_n C.1 C.2.1 d0 rfl (I.2.2.2.1.2.2 (0, .ref b) (List.mem_append_left _ (List.mem_singleton.mpr rfl))) ?_
  refine lv_iload C.1 C.2.1 d1 (gas_at I.2.2.2.1 hl) ?_
  refine lv_iconst C.1 C.2.1 d2 hv ?_
  refine lv_iadd C.1 C.2.1 d3 ?_
  exact va_sld C.1 C.2.1 EX.1 EX.2.1 EX.2.2 I.2.2.2.2.2.2 hin d4 (kk p l e R s m args below meth c A D dA κ0 n0 C EX κ H locs lsr cells slots I)
end SCR
/-- the law has answered true -/
def gTrue : gR → gW → Prop := fun r _ => r = .inl (some (.int 1))
theorem l_in1 {t L : Nat} (hL : 4 * t + 4 ≤ L) (hL2 : L ≤ 2048) : vp_in (nI (4 * t) + 1) L := by
  rw [show nI (4 * t) + 1 = nI (4 * t + 1) from nI_add _ 1]
  exact vp_in_nI (by omega) (by omega)
theorem l_in2 {t L : Nat} (hL : 4 * t + 4 ≤ L) (hL2 : L ≤ 2048) : vp_in (nI (4 * t) + 2) L := by
  rw [show nI (4 * t) + 2 = nI (4 * t + 2) from nI_add _ 2]
  exact vp_in_nI (by omega) (by omega)
theorem l_in3 {t L : Nat} (hL : 4 * t + 4 ≤ L) (hL2 : L ≤ 2048) : vp_in (nI (4 * t) + 3) L := by
  rw [show nI (4 * t) + 3 = nI (4 * t + 3) from nI_add _ 3]
  exact vp_in_nI (by omega) (by omega)
set_option maxRecDepth 100000 in
set_option maxHeartbeats 400000 in
theorem lk_begin {b L : Nat} {xs : Nat → Int32} (t K N : Nat) (hL : 4 * t + 4 ≤ L) (hL2 : L ≤ 2048) (R C : gS) (o : Nat → Int64) (l5 l6 l7 : Option Value) (f : ¬ C.1 1 2 < 0) (g : RI R t) (kk : ∀ (R C : gS) (o : Nat → Int64) (l5 l6 l7 : Option Value), ¬ C.1 1 2 < 0 → RI R (t + 1) → GE (gxL b L xs) ML_law (12, 440) 767 [none, some (.ref 0), some (.ref 28), some (.ref 48), some (.int (nI (4 * t))), l5, l6, l7] [] (wOf (rtl R (wOut o)) C) K N gTrue) : GE (gxL b L xs) ML_law (12, 440) 132 [none, some (.ref 0), some (.ref 28), some (.ref 48), some (.int (nI (4 * t))), l5, l6, l7] [] (wOf (rtl R (wOut o)) C) (K + 5) (N + 30) gTrue := by
  refine g_aload_n dL_law_132 rfl rfl ?_
  refine g_sldc (v := 1) dL_law_133 dL_law_134 dL_law_136 dL_law_137 dL_law_138 (by decide) rfl (l_in1 hL hL2) ?_
  refine g_callS (as := [.ref 0, .int (xs (nI (4 * t) + 1).toNatClampNeg)]) dL_law_139 mlL_81 isL_begin rfl rfl (w_begin R o C _ f) (by decide) (by omega) (by omega) (Nat.le_of_ble_eq_true rfl) (Or.inl (fun r9 w9 h9 => by obtain ⟨_, _, _, _, rfl, _⟩ := h9; rfl)) ?_ (fun E9 w9 h9 => by obtain ⟨_, _, _, h9, _⟩ := h9; cases h9)
  rintro v9 w9 ⟨k, S', o', h1, rfl, hS', hk⟩
  cases h1
  show GE _ _ _ _ _ _ (wRf S' (wOut o') R) _ _ _
  refine g_istore dL_law_142 (by decide) ?_
  refine g_aload_n dL_law_144 rfl rfl ?_
  refine g_sldc (v := 1) dL_law_145 dL_law_146 dL_law_148 dL_law_149 dL_law_150 (by decide) rfl (l_in1 hL hL2) ?_
  refine cV10 (W := wRf S' (wOut o')) (S := R) (fun _ _ => rfl) dL_law_151 mlL_86 imX5_begin seX5_begin rfl rfl (n_begin _ _ t g) (by decide) (by omega) (by omega) (Nat.le_of_ble_eq_true rfl) ?_
  rintro R' ⟨hm, hR'⟩
  rcases hk with ⟨rfl, h1, h2, h3⟩ | ⟨rfl, h1⟩ | ⟨rfl, h1, h2⟩
  · have ht := hm.2.2 h1 h2 h3
    refine g_aload_n dL_law_154 rfl rfl ?_
    refine cV0N (W := wRf S' (wOut o')) (S := R') (fun _ _ => rfl) dL_law_155 mlL_87 imX5_thrown seX5_thrown rfl rfl (m_thrown _) (by decide) (by omega) (by omega) (Nat.le_of_ble_eq_true rfl) ?_
    rintro _ _ ⟨rfl, rfl⟩
    refine g_iload dL_law_158 rfl ?_
    refine g_icmp_eq (tgt := 165) dL_law_160 (by decide) (fun c160 => ?_) (fun c160 => ?_)
    · refine g_goto (tgt := 767) dL_law_165 (by decide) ?_
      show GE _ _ _ _ _ _ (wOf (rtl (R') (wOut o')) S') _ _ _
      exact GE.less (by omega) (by omega) (kk (R') S' o' _ _ _ hS' hR')
    · exact absurd ht c160
  · have ht := hm.1 h1
    refine g_aload_n dL_law_154 rfl rfl ?_
    refine cV0N (W := wRf S' (wOut o')) (S := R') (fun _ _ => rfl) dL_law_155 mlL_87 imX5_thrown seX5_thrown rfl rfl (m_thrown _) (by decide) (by omega) (by omega) (Nat.le_of_ble_eq_true rfl) ?_
    rintro _ _ ⟨rfl, rfl⟩
    refine g_iload dL_law_158 rfl ?_
    refine g_icmp_eq (tgt := 165) dL_law_160 (by decide) (fun c160 => ?_) (fun c160 => ?_)
    · refine g_goto (tgt := 767) dL_law_165 (by decide) ?_
      show GE _ _ _ _ _ _ (wOf (rtl (R') (wOut o')) S') _ _ _
      exact GE.less (by omega) (by omega) (kk (R') S' o' _ _ _ hS' hR')
    · exact absurd ht c160
  · have ht := hm.2.1 h1 h2
    refine g_aload_n dL_law_154 rfl rfl ?_
    refine cV0N (W := wRf S' (wOut o')) (S := R') (fun _ _ => rfl) dL_law_155 mlL_87 imX5_thrown seX5_thrown rfl rfl (m_thrown _) (by decide) (by omega) (by omega) (Nat.le_of_ble_eq_true rfl) ?_
    rintro _ _ ⟨rfl, rfl⟩
    refine g_iload dL_law_158 rfl ?_
    refine g_icmp_eq (tgt := 165) dL_law_160 (by decide) (fun c160 => ?_) (fun c160 => ?_)
    · refine g_goto (tgt := 767) dL_law_165 (by decide) ?_
      show GE _ _ _ _ _ _ (wOf (rtl (R') (wOut o')) S') _ _ _
      exact GE.less (by omega) (by omega) (kk (R') S' o' _ _ _ hS' hR')
    · exact absurd ht c160
set_option maxRecDepth 100000 in
set_option maxHeartbeats 400000 in
theorem lk_edge {b L : Nat} {xs : Nat → Int32} (t K N : Nat) (hL : 4 * t + 4 ≤ L) (hL2 : L ≤ 2048) (R C : gS) (o : Nat → Int64) (l5 l6 l7 : Option Value) (f : ¬ C.1 1 2 < 0) (g : RI R t) (kk : ∀ (R C : gS) (o : Nat → Int64) (l5 l6 l7 : Option Value), ¬ C.1 1 2 < 0 → RI R (t + 1) → GE (gxL b L xs) ML_law (12, 440) 767 [none, some (.ref 0), some (.ref 28), some (.ref 48), some (.int (nI (4 * t))), l5, l6, l7] [] (wOf (rtl R (wOut o)) C) K N gTrue) : GE (gxL b L xs) ML_law (12, 440) 168 [none, some (.ref 0), some (.ref 28), some (.ref 48), some (.int (nI (4 * t))), l5, l6, l7] [] (wOf (rtl R (wOut o)) C) (K + 5) (N + 30) gTrue := by
  refine g_aload_n dL_law_168 rfl rfl ?_
  refine g_sldc (v := 1) dL_law_169 dL_law_170 dL_law_172 dL_law_173 dL_law_174 (by decide) rfl (l_in1 hL hL2) ?_
  refine g_sldc (v := 2) dL_law_175 dL_law_176 dL_law_178 dL_law_179 dL_law_180 (by decide) rfl (l_in2 hL hL2) ?_
  refine g_sldc (v := 3) dL_law_181 dL_law_182 dL_law_184 dL_law_185 dL_law_186 (by decide) rfl (l_in3 hL hL2) ?_
  refine g_if_eq (tgt := 194) dL_law_187 (by decide) (fun c187 => ?_) (fun c187 => ?_)
  · refine g_iconst (v := 0) dL_law_194 (by decide) ?_
    refine g_aload_n dL_law_195 rfl rfl ?_
    refine g_callS (as := [.ref 0, .int (xs (nI (4 * t) + 1).toNatClampNeg), .int (xs (nI (4 * t) + 2).toNatClampNeg), .int 0, .ref 48]) dL_law_196 mlL_90 isL_edge rfl rfl (w_edge R o C _ _ 0 (Or.inl rfl) f) (by decide) (by omega) (by omega) (Nat.le_of_ble_eq_true rfl) (Or.inl (fun r9 w9 h9 => by obtain ⟨_, _, _, _, rfl, _⟩ := h9; rfl)) ?_ (fun E9 w9 h9 => by obtain ⟨_, _, _, h9, _⟩ := h9; cases h9)
    rintro v9 w9 ⟨k, S', o', h1, rfl, hS', hk⟩
    cases h1
    show GE _ _ _ _ _ _ (wRf S' (wOut o') R) _ _ _
    refine g_istore dL_law_199 (by decide) ?_
    refine g_aload_n dL_law_201 rfl rfl ?_
    refine g_sldc (v := 1) dL_law_202 dL_law_203 dL_law_205 dL_law_206 dL_law_207 (by decide) rfl (l_in1 hL hL2) ?_
    refine g_sldc (v := 2) dL_law_208 dL_law_209 dL_law_211 dL_law_212 dL_law_213 (by decide) rfl (l_in2 hL hL2) ?_
    refine g_sldc (v := 3) dL_law_214 dL_law_215 dL_law_217 dL_law_218 dL_law_219 (by decide) rfl (l_in3 hL hL2) ?_
    refine g_if_eq (tgt := 227) dL_law_220 (by decide) (fun c220 => ?_) (fun c220 => ?_)
    · refine g_iconst (v := 0) dL_law_227 (by decide) ?_
      refine cV3N (W := wRf S' (wOut o')) (S := R) (fun _ _ => rfl) dL_law_228 mlL_93 imX5_edge seX5_edge rfl rfl (n_edge _ _ _ 0 t g (by omega)) (by decide) (by omega) (by omega) (Nat.le_of_ble_eq_true rfl) ?_
      rintro _ R' ⟨⟨r, rfl⟩, hR'⟩
      refine g_istore dL_law_231 (by decide) ?_
      refine g_goto (tgt := 767) dL_law_233 (by decide) ?_
      show GE _ _ _ _ _ _ (wOf (rtl (R') (wOut o')) S') _ _ _
      exact GE.less (by omega) (by omega) (kk (R') S' o' _ _ _ hS' hR')
    · exact absurd c187 c220
  · refine g_iconst (v := 1) dL_law_190 (by decide) ?_
    refine g_goto (tgt := 195) dL_law_191 (by decide) ?_
    refine g_aload_n dL_law_195 rfl rfl ?_
    refine g_callS (as := [.ref 0, .int (xs (nI (4 * t) + 1).toNatClampNeg), .int (xs (nI (4 * t) + 2).toNatClampNeg), .int 1, .ref 48]) dL_law_196 mlL_90 isL_edge rfl rfl (w_edge R o C _ _ 1 (Or.inr rfl) f) (by decide) (by omega) (by omega) (Nat.le_of_ble_eq_true rfl) (Or.inl (fun r9 w9 h9 => by obtain ⟨_, _, _, _, rfl, _⟩ := h9; rfl)) ?_ (fun E9 w9 h9 => by obtain ⟨_, _, _, h9, _⟩ := h9; cases h9)
    rintro v9 w9 ⟨k, S', o', h1, rfl, hS', hk⟩
    cases h1
    show GE _ _ _ _ _ _ (wRf S' (wOut o') R) _ _ _
    refine g_istore dL_law_199 (by decide) ?_
    refine g_aload_n dL_law_201 rfl rfl ?_
    refine g_sldc (v := 1) dL_law_202 dL_law_203 dL_law_205 dL_law_206 dL_law_207 (by decide) rfl (l_in1 hL hL2) ?_
    refine g_sldc (v := 2) dL_law_208 dL_law_209 dL_law_211 dL_law_212 dL_law_213 (by decide) rfl (l_in2 hL hL2) ?_
    refine g_sldc (v := 3) dL_law_214 dL_law_215 dL_law_217 dL_law_218 dL_law_219 (by decide) rfl (l_in3 hL hL2) ?_
    refine g_if_eq (tgt := 227) dL_law_220 (by decide) (fun c220 => ?_) (fun c220 => ?_)
    · exact absurd c220 c187
    · refine g_iconst (v := 1) dL_law_223 (by decide) ?_
      refine g_goto (tgt := 228) dL_law_224 (by decide) ?_
      refine cV3N (W := wRf S' (wOut o')) (S := R) (fun _ _ => rfl) dL_law_228 mlL_93 imX5_edge seX5_edge rfl rfl (n_edge _ _ _ 1 t g (by omega)) (by decide) (by omega) (by omega) (Nat.le_of_ble_eq_true rfl) ?_
      rintro _ R' ⟨⟨r, rfl⟩, hR'⟩
      refine g_istore dL_law_231 (by decide) ?_
      refine g_goto (tgt := 767) dL_law_233 (by decide) ?_
      show GE _ _ _ _ _ _ (wOf (rtl (R') (wOut o')) S') _ _ _
      exact GE.less (by omega) (by omega) (kk (R') S' o' _ _ _ hS' hR')
set_option maxRecDepth 100000 in
set_option maxHeartbeats 400000 in
theorem lk_version {b L : Nat} {xs : Nat → Int32} (t K N : Nat) (hL : 4 * t + 4 ≤ L) (hL2 : L ≤ 2048) (R C : gS) (o : Nat → Int64) (l5 l6 l7 : Option Value) (f : ¬ C.1 1 2 < 0) (g : RI R t) (kk : ∀ (R C : gS) (o : Nat → Int64) (l5 l6 l7 : Option Value), ¬ C.1 1 2 < 0 → RI R (t + 1) → GE (gxL b L xs) ML_law (12, 440) 767 [none, some (.ref 0), some (.ref 28), some (.ref 48), some (.int (nI (4 * t))), l5, l6, l7] [] (wOf (rtl R (wOut o)) C) K N gTrue) : GE (gxL b L xs) ML_law (12, 440) 236 [none, some (.ref 0), some (.ref 28), some (.ref 48), some (.int (nI (4 * t))), l5, l6, l7] [] (wOf (rtl R (wOut o)) C) (K + 5) (N + 30) gTrue := by
  have g0 := g
  obtain ⟨w, L9, V, n, c, rm, hC⟩ := g0
  have hM := hC.1.mr
  refine g_aload_n dL_law_236 rfl rfl ?_
  refine g_aload_n dL_law_237 rfl rfl ?_
  refine g_callS (as := [.ref 0, .ref 48]) dL_law_238 mlL_94 isL_version rfl rfl (w_version R o C f) (by decide) (by omega) (by omega) (Nat.le_of_ble_eq_true rfl) (Or.inl (fun r9 w9 h9 => by obtain ⟨_, _, _, _, rfl, _⟩ := h9; rfl)) ?_ (fun E9 w9 h9 => by obtain ⟨_, _, _, h9, _⟩ := h9; cases h9)
  rintro v9 w9 ⟨k, S', o', h1, rfl, hS', hk⟩
  cases h1
  show GE _ _ _ _ _ _ (wRf S' (wOut o') R) _ _ _
  refine g_istore dL_law_241 (by decide) ?_
  refine g_aload_n dL_law_243 rfl rfl ?_
  refine cV0N (W := wRf S' (wOut o')) (S := R) (fun _ _ => rfl) dL_law_244 mlL_97 imX5_version seX5_version rfl rfl (n_version _ t g (by omega)) (by decide) (by omega) (by omega) (Nat.le_of_ble_eq_true rfl) ?_
  rintro _ R' ⟨⟨r, rfl⟩, hR'⟩
  refine g_istore dL_law_247 (by decide) ?_
  refine g_goto (tgt := 767) dL_law_249 (by decide) ?_
  show GE _ _ _ _ _ _ (wOf (rtl (R') (wOut o')) S') _ _ _
  exact GE.less (by omega) (by omega) (kk (R') S' o' _ _ _ hS' hR')
set_option maxRecDepth 100000 in
set_option maxHeartbeats 400000 in
theorem lk_answer {b L : Nat} {xs : Nat → Int32} (t K N : Nat) (hL : 4 * t + 4 ≤ L) (hL2 : L ≤ 2048) (R C : gS) (o : Nat → Int64) (l5 l6 l7 : Option Value) (f : ¬ C.1 1 2 < 0) (g : RI R t) (kk : ∀ (R C : gS) (o : Nat → Int64) (l5 l6 l7 : Option Value), ¬ C.1 1 2 < 0 → RI R (t + 1) → GE (gxL b L xs) ML_law (12, 440) 767 [none, some (.ref 0), some (.ref 28), some (.ref 48), some (.int (nI (4 * t))), l5, l6, l7] [] (wOf (rtl R (wOut o)) C) K N gTrue) : GE (gxL b L xs) ML_law (12, 440) 252 [none, some (.ref 0), some (.ref 28), some (.ref 48), some (.int (nI (4 * t))), l5, l6, l7] [] (wOf (rtl R (wOut o)) C) (K + 5) (N + 30) gTrue := by
  have g0 := g
  obtain ⟨w, L9, V, n, c, rm, hC⟩ := g0
  have hM := hC.1.mr
  refine g_aload_n dL_law_252 rfl rfl ?_
  refine g_sldc (v := 1) dL_law_253 dL_law_254 dL_law_256 dL_law_257 dL_law_258 (by decide) rfl (l_in1 hL hL2) ?_
  refine g_sldc (v := 2) dL_law_259 dL_law_260 dL_law_262 dL_law_263 dL_law_264 (by decide) rfl (l_in2 hL hL2) ?_
  refine g_aload_n dL_law_265 rfl rfl ?_
  refine g_callS (as := [.ref 0, .int (xs (nI (4 * t) + 1).toNatClampNeg), .int (xs (nI (4 * t) + 2).toNatClampNeg), .ref 48]) dL_law_266 mlL_98 isL_answer rfl rfl (w_answer R o C _ _ f) (by decide) (by omega) (by omega) (Nat.le_of_ble_eq_true rfl) (Or.inl (fun r9 w9 h9 => by obtain ⟨_, _, _, _, rfl, _⟩ := h9; rfl)) ?_ (fun E9 w9 h9 => by obtain ⟨_, _, _, h9, _⟩ := h9; cases h9)
  rintro v9 w9 ⟨k, S', o', h1, rfl, hS', hk⟩
  cases h1
  show GE _ _ _ _ _ _ (wRf S' (wOut o') R) _ _ _
  refine g_istore dL_law_269 (by decide) ?_
  refine g_aload_n dL_law_271 rfl rfl ?_
  refine g_sldc (v := 1) dL_law_272 dL_law_273 dL_law_275 dL_law_276 dL_law_277 (by decide) rfl (l_in1 hL hL2) ?_
  refine g_sldc (v := 2) dL_law_278 dL_law_279 dL_law_281 dL_law_282 dL_law_283 (by decide) rfl (l_in2 hL hL2) ?_
  refine cV2N (W := wRf S' (wOut o')) (S := R) (fun _ _ => rfl) dL_law_284 mlL_101 imX5_answer seX5_answer rfl rfl (n_answer _ _ _ w L9 V n c rm t hC (by omega)) (by decide) (by omega) (by omega) (Nat.le_of_ble_eq_true rfl) ?_
  rintro _ R' ⟨⟨r, rfl⟩, hR'⟩
  refine g_istore dL_law_287 (by decide) ?_
  refine g_goto (tgt := 767) dL_law_289 (by decide) ?_
  show GE _ _ _ _ _ _ (wOf (rtl (R') (wOut o')) S') _ _ _
  exact GE.less (by omega) (by omega) (kk (R') S' o' _ _ _ hS' hR')
set_option maxRecDepth 100000 in
set_option maxHeartbeats 400000 in
theorem lk_drop {b L : Nat} {xs : Nat → Int32} (t K N : Nat) (hL : 4 * t + 4 ≤ L) (hL2 : L ≤ 2048) (R C : gS) (o : Nat → Int64) (l5 l6 l7 : Option Value) (f : ¬ C.1 1 2 < 0) (g : RI R t) (kk : ∀ (R C : gS) (o : Nat → Int64) (l5 l6 l7 : Option Value), ¬ C.1 1 2 < 0 → RI R (t + 1) → GE (gxL b L xs) ML_law (12, 440) 767 [none, some (.ref 0), some (.ref 28), some (.ref 48), some (.int (nI (4 * t))), l5, l6, l7] [] (wOf (rtl R (wOut o)) C) K N gTrue) : GE (gxL b L xs) ML_law (12, 440) 292 [none, some (.ref 0), some (.ref 28), some (.ref 48), some (.int (nI (4 * t))), l5, l6, l7] [] (wOf (rtl R (wOut o)) C) (K + 5) (N + 30) gTrue := by
  have g0 := g
  obtain ⟨w, L9, V, n, c, rm, hC⟩ := g0
  have hM := hC.1.mr
  refine g_aload_n dL_law_292 rfl rfl ?_
  refine g_sldc (v := 1) dL_law_293 dL_law_294 dL_law_296 dL_law_297 dL_law_298 (by decide) rfl (l_in1 hL hL2) ?_
  refine g_aload_n dL_law_299 rfl rfl ?_
  refine g_callS (as := [.ref 0, .int (xs (nI (4 * t) + 1).toNatClampNeg), .ref 48]) dL_law_300 mlL_102 isL_drop rfl rfl (w_drop R o C _ f) (by decide) (by omega) (by omega) (Nat.le_of_ble_eq_true rfl) (Or.inl (fun r9 w9 h9 => by obtain ⟨_, _, _, _, rfl, _⟩ := h9; rfl)) ?_ (fun E9 w9 h9 => by obtain ⟨_, _, _, h9, _⟩ := h9; cases h9)
  rintro v9 w9 ⟨k, S', o', h1, rfl, hS', hk⟩
  cases h1
  show GE _ _ _ _ _ _ (wRf S' (wOut o') R) _ _ _
  refine g_istore dL_law_303 (by decide) ?_
  refine g_aload_n dL_law_305 rfl rfl ?_
  refine g_sldc (v := 1) dL_law_306 dL_law_307 dL_law_309 dL_law_310 dL_law_311 (by decide) rfl (l_in1 hL hL2) ?_
  refine cV1N (W := wRf S' (wOut o')) (S := R) (fun _ _ => rfl) dL_law_312 mlL_105 imX5_drop seX5_drop rfl rfl (n_drop _ _ V c hM t g (by omega)) (by decide) (by omega) (by omega) (Nat.le_of_ble_eq_true rfl) ?_
  rintro _ R' ⟨⟨r, rfl⟩, hR'⟩
  refine g_istore dL_law_315 (by decide) ?_
  refine g_goto (tgt := 767) dL_law_317 (by decide) ?_
  show GE _ _ _ _ _ _ (wOf (rtl (R') (wOut o')) S') _ _ _
  exact GE.less (by omega) (by omega) (kk (R') S' o' _ _ _ hS' hR')
set_option maxRecDepth 100000 in
set_option maxHeartbeats 400000 in
theorem lk_keep {b L : Nat} {xs : Nat → Int32} (t K N : Nat) (hL : 4 * t + 4 ≤ L) (hL2 : L ≤ 2048) (R C : gS) (o : Nat → Int64) (l5 l6 l7 : Option Value) (f : ¬ C.1 1 2 < 0) (g : RI R t) (kk : ∀ (R C : gS) (o : Nat → Int64) (l5 l6 l7 : Option Value), ¬ C.1 1 2 < 0 → RI R (t + 1) → GE (gxL b L xs) ML_law (12, 440) 767 [none, some (.ref 0), some (.ref 28), some (.ref 48), some (.int (nI (4 * t))), l5, l6, l7] [] (wOf (rtl R (wOut o)) C) K N gTrue) : GE (gxL b L xs) ML_law (12, 440) 320 [none, some (.ref 0), some (.ref 28), some (.ref 48), some (.int (nI (4 * t))), l5, l6, l7] [] (wOf (rtl R (wOut o)) C) (K + 5) (N + 30) gTrue := by
  have g0 := g
  obtain ⟨w, L9, V, n, c, rm, hC⟩ := g0
  have hM := hC.1.mr
  refine g_aload_n dL_law_320 rfl rfl ?_
  refine g_aload_n dL_law_321 rfl rfl ?_
  refine g_callS (as := [.ref 0, .ref 48]) dL_law_322 mlL_106 isL_keep rfl rfl (w_keep R o C f) (by decide) (by omega) (by omega) (Nat.le_of_ble_eq_true rfl) (Or.inl (fun r9 w9 h9 => by obtain ⟨_, _, _, _, rfl, _⟩ := h9; rfl)) ?_ (fun E9 w9 h9 => by obtain ⟨_, _, _, h9, _⟩ := h9; cases h9)
  rintro v9 w9 ⟨k, S', o', h1, rfl, hS', hk⟩
  cases h1
  show GE _ _ _ _ _ _ (wRf S' (wOut o') R) _ _ _
  refine g_istore dL_law_325 (by decide) ?_
  refine g_aload_n dL_law_327 rfl rfl ?_
  refine cV0N (W := wRf S' (wOut o')) (S := R) (fun _ _ => rfl) dL_law_328 mlL_108 imX5_keep seX5_keep rfl rfl (n_keep _ t g (by omega)) (by decide) (by omega) (by omega) (Nat.le_of_ble_eq_true rfl) ?_
  rintro _ R' ⟨⟨r, rfl⟩, hR'⟩
  refine g_istore dL_law_331 (by decide) ?_
  refine g_goto (tgt := 767) dL_law_333 (by decide) ?_
  show GE _ _ _ _ _ _ (wOf (rtl (R') (wOut o')) S') _ _ _
  exact GE.less (by omega) (by omega) (kk (R') S' o' _ _ _ hS' hR')
set_option maxRecDepth 100000 in
set_option maxHeartbeats 400000 in
theorem lk_poke {b L : Nat} {xs : Nat → Int32} (t K N : Nat) (hL : 4 * t + 4 ≤ L) (hL2 : L ≤ 2048) (R C : gS) (o : Nat → Int64) (l5 l6 l7 : Option Value) (f : ¬ C.1 1 2 < 0) (g : RI R t) (kk : ∀ (R C : gS) (o : Nat → Int64) (l5 l6 l7 : Option Value), ¬ C.1 1 2 < 0 → RI R (t + 1) → GE (gxL b L xs) ML_law (12, 440) 767 [none, some (.ref 0), some (.ref 28), some (.ref 48), some (.int (nI (4 * t))), l5, l6, l7] [] (wOf (rtl R (wOut o)) C) K N gTrue) : GE (gxL b L xs) ML_law (12, 440) 374 [none, some (.ref 0), some (.ref 28), some (.ref 48), some (.int (nI (4 * t))), l5, l6, l7] [] (wOf (rtl R (wOut o)) C) (K + 5) (N + 30) gTrue := by
  have g0 := g
  obtain ⟨w, L9, V, n, c, rm, hC⟩ := g0
  have hM := hC.1.mr
  refine g_aload_n dL_law_374 rfl rfl ?_
  refine g_sldc (v := 1) dL_law_375 dL_law_376 dL_law_378 dL_law_379 dL_law_380 (by decide) rfl (l_in1 hL hL2) ?_
  refine g_sldc (v := 2) dL_law_381 dL_law_382 dL_law_384 dL_law_385 dL_law_386 (by decide) rfl (l_in2 hL hL2) ?_
  refine g_aload_n dL_law_387 rfl rfl ?_
  refine g_callS (as := [.ref 0, .int (xs (nI (4 * t) + 1).toNatClampNeg), .int (xs (nI (4 * t) + 2).toNatClampNeg), .ref 48]) dL_law_388 mlL_117 isL_poke rfl rfl (w_poke R o C _ _ f) (by decide) (by omega) (by omega) (Nat.le_of_ble_eq_true rfl) (Or.inl (fun r9 w9 h9 => by obtain ⟨_, _, _, _, rfl, _⟩ := h9; rfl)) ?_ (fun E9 w9 h9 => by obtain ⟨_, _, _, h9, _⟩ := h9; cases h9)
  rintro v9 w9 ⟨k, S', o', h1, rfl, hS', hk⟩
  cases h1
  show GE _ _ _ _ _ _ (wRf S' (wOut o') R) _ _ _
  refine g_istore dL_law_391 (by decide) ?_
  refine g_aload_n dL_law_393 rfl rfl ?_
  refine g_sldc (v := 1) dL_law_394 dL_law_395 dL_law_397 dL_law_398 dL_law_399 (by decide) rfl (l_in1 hL hL2) ?_
  refine g_sldc (v := 2) dL_law_400 dL_law_401 dL_law_403 dL_law_404 dL_law_405 (by decide) rfl (l_in2 hL hL2) ?_
  refine cV2N (W := wRf S' (wOut o')) (S := R) (fun _ _ => rfl) dL_law_406 mlL_119 imX5_poke seX5_poke rfl rfl (n_poke _ _ _ t g) (by decide) (by omega) (by omega) (Nat.le_of_ble_eq_true rfl) ?_
  rintro _ R' ⟨⟨r, rfl⟩, hR'⟩
  refine g_istore dL_law_409 (by decide) ?_
  refine g_goto (tgt := 767) dL_law_411 (by decide) ?_
  show GE _ _ _ _ _ _ (wOf (rtl (R') (wOut o')) S') _ _ _
  exact GE.less (by omega) (by omega) (kk (R') S' o' _ _ _ hS' hR')
set_option maxRecDepth 100000 in
set_option maxHeartbeats 400000 in
theorem lk_byteAt {b L : Nat} {xs : Nat → Int32} (t K N : Nat) (hL : 4 * t + 4 ≤ L) (hL2 : L ≤ 2048) (R C : gS) (o : Nat → Int64) (l5 l6 l7 : Option Value) (f : ¬ C.1 1 2 < 0) (g : RI R t) (kk : ∀ (R C : gS) (o : Nat → Int64) (l5 l6 l7 : Option Value), ¬ C.1 1 2 < 0 → RI R (t + 1) → GE (gxL b L xs) ML_law (12, 440) 767 [none, some (.ref 0), some (.ref 28), some (.ref 48), some (.int (nI (4 * t))), l5, l6, l7] [] (wOf (rtl R (wOut o)) C) K N gTrue) : GE (gxL b L xs) ML_law (12, 440) 414 [none, some (.ref 0), some (.ref 28), some (.ref 48), some (.int (nI (4 * t))), l5, l6, l7] [] (wOf (rtl R (wOut o)) C) (K + 5) (N + 30) gTrue := by
  have g0 := g
  obtain ⟨w, L9, V, n, c, rm, hC⟩ := g0
  have hM := hC.1.mr
  refine g_aload_n dL_law_414 rfl rfl ?_
  refine g_sldc (v := 1) dL_law_415 dL_law_416 dL_law_418 dL_law_419 dL_law_420 (by decide) rfl (l_in1 hL hL2) ?_
  refine g_aload_n dL_law_421 rfl rfl ?_
  refine g_callS (as := [.ref 0, .int (xs (nI (4 * t) + 1).toNatClampNeg), .ref 48]) dL_law_422 mlL_120 isL_byteAt rfl rfl (w_byteAt R o C _ f) (by decide) (by omega) (by omega) (Nat.le_of_ble_eq_true rfl) (Or.inl (fun r9 w9 h9 => by obtain ⟨_, _, _, _, rfl, _⟩ := h9; rfl)) ?_ (fun E9 w9 h9 => by obtain ⟨_, _, _, h9, _⟩ := h9; cases h9)
  rintro v9 w9 ⟨k, S', o', h1, rfl, hS', hk⟩
  cases h1
  show GE _ _ _ _ _ _ (wRf S' (wOut o') R) _ _ _
  refine g_istore dL_law_425 (by decide) ?_
  refine g_aload_n dL_law_427 rfl rfl ?_
  refine g_sldc (v := 1) dL_law_428 dL_law_429 dL_law_431 dL_law_432 dL_law_433 (by decide) rfl (l_in1 hL hL2) ?_
  refine cV1N (W := wRf S' (wOut o')) (S := R) (fun _ _ => rfl) dL_law_434 mlL_122 imX5_byteAt seX5_byteAt rfl rfl (n_byteAt _ _ t g) (by decide) (by omega) (by omega) (Nat.le_of_ble_eq_true rfl) ?_
  rintro _ R' ⟨⟨r, rfl⟩, hR'⟩
  refine g_istore dL_law_437 (by decide) ?_
  refine g_goto (tgt := 767) dL_law_439 (by decide) ?_
  show GE _ _ _ _ _ _ (wOf (rtl (R') (wOut o')) S') _ _ _
  exact GE.less (by omega) (by omega) (kk (R') S' o' _ _ _ hS' hR')
set_option maxRecDepth 100000 in
set_option maxHeartbeats 400000 in
theorem lk_badAt {b L : Nat} {xs : Nat → Int32} (t K N : Nat) (hL : 4 * t + 4 ≤ L) (hL2 : L ≤ 2048) (R C : gS) (o : Nat → Int64) (l5 l6 l7 : Option Value) (f : ¬ C.1 1 2 < 0) (g : RI R t) (kk : ∀ (R C : gS) (o : Nat → Int64) (l5 l6 l7 : Option Value), ¬ C.1 1 2 < 0 → RI R (t + 1) → GE (gxL b L xs) ML_law (12, 440) 767 [none, some (.ref 0), some (.ref 28), some (.ref 48), some (.int (nI (4 * t))), l5, l6, l7] [] (wOf (rtl R (wOut o)) C) K N gTrue) : GE (gxL b L xs) ML_law (12, 440) 442 [none, some (.ref 0), some (.ref 28), some (.ref 48), some (.int (nI (4 * t))), l5, l6, l7] [] (wOf (rtl R (wOut o)) C) (K + 5) (N + 30) gTrue := by
  have g0 := g
  obtain ⟨w, L9, V, n, c, rm, hC⟩ := g0
  have hM := hC.1.mr
  refine g_aload_n dL_law_442 rfl rfl ?_
  refine g_aload_n dL_law_443 rfl rfl ?_
  refine g_callS (as := [.ref 0, .ref 48]) dL_law_444 mlL_123 isL_badAt rfl rfl (w_badAt R o C f) (by decide) (by omega) (by omega) (Nat.le_of_ble_eq_true rfl) (Or.inl (fun r9 w9 h9 => by obtain ⟨_, _, _, _, rfl, _⟩ := h9; rfl)) ?_ (fun E9 w9 h9 => by obtain ⟨_, _, _, h9, _⟩ := h9; cases h9)
  rintro v9 w9 ⟨k, S', o', h1, rfl, hS', hk⟩
  cases h1
  show GE _ _ _ _ _ _ (wRf S' (wOut o') R) _ _ _
  refine g_istore dL_law_447 (by decide) ?_
  refine g_aload_n dL_law_449 rfl rfl ?_
  refine cV0N (W := wRf S' (wOut o')) (S := R) (fun _ _ => rfl) dL_law_450 mlL_125 imX5_badAt seX5_badAt rfl rfl (n_badAt _ t g) (by decide) (by omega) (by omega) (Nat.le_of_ble_eq_true rfl) ?_
  rintro _ R' ⟨⟨r, rfl⟩, hR'⟩
  refine g_istore dL_law_453 (by decide) ?_
  refine g_goto (tgt := 767) dL_law_455 (by decide) ?_
  show GE _ _ _ _ _ _ (wOf (rtl (R') (wOut o')) S') _ _ _
  exact GE.less (by omega) (by omega) (kk (R') S' o' _ _ _ hS' hR')
set_option maxRecDepth 100000 in
set_option maxHeartbeats 400000 in
theorem lk_has {b L : Nat} {xs : Nat → Int32} (t K N : Nat) (hL : 4 * t + 4 ≤ L) (hL2 : L ≤ 2048) (R C : gS) (o : Nat → Int64) (l5 l6 l7 : Option Value) (f : ¬ C.1 1 2 < 0) (g : RI R t) (kk : ∀ (R C : gS) (o : Nat → Int64) (l5 l6 l7 : Option Value), ¬ C.1 1 2 < 0 → RI R (t + 1) → GE (gxL b L xs) ML_law (12, 440) 767 [none, some (.ref 0), some (.ref 28), some (.ref 48), some (.int (nI (4 * t))), l5, l6, l7] [] (wOf (rtl R (wOut o)) C) K N gTrue) : GE (gxL b L xs) ML_law (12, 440) 458 [none, some (.ref 0), some (.ref 28), some (.ref 48), some (.int (nI (4 * t))), l5, l6, l7] [] (wOf (rtl R (wOut o)) C) (K + 5) (N + 30) gTrue := by
  have g0 := g
  obtain ⟨w, L9, V, n, c, rm, hC⟩ := g0
  have hM := hC.1.mr
  refine g_aload_n dL_law_458 rfl rfl ?_
  refine g_sldc (v := 1) dL_law_459 dL_law_460 dL_law_462 dL_law_463 dL_law_464 (by decide) rfl (l_in1 hL hL2) ?_
  refine g_sldc (v := 2) dL_law_465 dL_law_466 dL_law_468 dL_law_469 dL_law_470 (by decide) rfl (l_in2 hL hL2) ?_
  refine g_sldc (v := 3) dL_law_471 dL_law_472 dL_law_474 dL_law_475 dL_law_476 (by decide) rfl (l_in3 hL hL2) ?_
  refine g_aload_n dL_law_477 rfl rfl ?_
  refine g_callS (as := [.ref 0, .int (xs (nI (4 * t) + 1).toNatClampNeg), .int (xs (nI (4 * t) + 2).toNatClampNeg), .int (xs (nI (4 * t) + 3).toNatClampNeg), .ref 48]) dL_law_478 mlL_126 isL_has rfl rfl (w_has R o C _ _ _ f) (by decide) (by omega) (by omega) (Nat.le_of_ble_eq_true rfl) (Or.inl (fun r9 w9 h9 => by obtain ⟨_, _, _, _, rfl, _⟩ := h9; rfl)) ?_ (fun E9 w9 h9 => by obtain ⟨_, _, _, h9, _⟩ := h9; cases h9)
  rintro v9 w9 ⟨k, S', o', h1, rfl, hS', hk⟩
  cases h1
  show GE _ _ _ _ _ _ (wRf S' (wOut o') R) _ _ _
  refine g_istore dL_law_481 (by decide) ?_
  refine g_aload_n dL_law_483 rfl rfl ?_
  refine g_sldc (v := 1) dL_law_484 dL_law_485 dL_law_487 dL_law_488 dL_law_489 (by decide) rfl (l_in1 hL hL2) ?_
  refine g_sldc (v := 2) dL_law_490 dL_law_491 dL_law_493 dL_law_494 dL_law_495 (by decide) rfl (l_in2 hL hL2) ?_
  refine g_sldc (v := 3) dL_law_496 dL_law_497 dL_law_499 dL_law_500 dL_law_501 (by decide) rfl (l_in3 hL hL2) ?_
  refine cV3N (W := wRf S' (wOut o')) (S := R) (fun _ _ => rfl) dL_law_502 mlL_129 imX5_has seX5_has rfl rfl (n_has _ _ _ _ V c hM) (by decide) (by omega) (by omega) (Nat.le_of_ble_eq_true rfl) ?_
  rintro _ _ ⟨⟨r, rfl⟩, tt, rfl⟩
  have hR' := g.th tt
  refine g_istore dL_law_505 (by decide) ?_
  refine g_goto (tgt := 767) dL_law_507 (by decide) ?_
  show GE _ _ _ _ _ _ (wOf (rtl (mS R 28 0 tt) (wOut o')) S') _ _ _
  exact GE.less (by omega) (by omega) (kk (mS R 28 0 tt) S' o' _ _ _ hS' hR')
set_option maxRecDepth 100000 in
set_option maxHeartbeats 400000 in
theorem lk_chunk {b L : Nat} {xs : Nat → Int32} (t K N : Nat) (hL : 4 * t + 4 ≤ L) (hL2 : L ≤ 2048) (R C : gS) (o : Nat → Int64) (l5 l6 l7 : Option Value) (f : ¬ C.1 1 2 < 0) (g : RI R t) (kk : ∀ (R C : gS) (o : Nat → Int64) (l5 l6 l7 : Option Value), ¬ C.1 1 2 < 0 → RI R (t + 1) → GE (gxL b L xs) ML_law (12, 440) 767 [none, some (.ref 0), some (.ref 28), some (.ref 48), some (.int (nI (4 * t))), l5, l6, l7] [] (wOf (rtl R (wOut o)) C) K N gTrue) : GE (gxL b L xs) ML_law (12, 440) 510 [none, some (.ref 0), some (.ref 28), some (.ref 48), some (.int (nI (4 * t))), l5, l6, l7] [] (wOf (rtl R (wOut o)) C) (K + 5) (N + 30) gTrue := by
  have g0 := g
  obtain ⟨w, L9, V, n, c, rm, hC⟩ := g0
  have hM := hC.1.mr
  refine g_aload_n dL_law_510 rfl rfl ?_
  refine g_sldc (v := 1) dL_law_511 dL_law_512 dL_law_514 dL_law_515 dL_law_516 (by decide) rfl (l_in1 hL hL2) ?_
  refine g_sldc (v := 2) dL_law_517 dL_law_518 dL_law_520 dL_law_521 dL_law_522 (by decide) rfl (l_in2 hL hL2) ?_
  refine g_aload_n dL_law_523 rfl rfl ?_
  refine g_callS (as := [.ref 0, .int (xs (nI (4 * t) + 1).toNatClampNeg), .int (xs (nI (4 * t) + 2).toNatClampNeg), .ref 48]) dL_law_524 mlL_130 isL_chunk rfl rfl (w_chunk R o C _ _ f) (by decide) (by omega) (by omega) (Nat.le_of_ble_eq_true rfl) (Or.inl (fun r9 w9 h9 => by obtain ⟨_, _, _, _, rfl, _⟩ := h9; rfl)) ?_ (fun E9 w9 h9 => by obtain ⟨_, _, _, h9, _⟩ := h9; cases h9)
  rintro v9 w9 ⟨k, S', o', h1, rfl, hS', hk⟩
  cases h1
  show GE _ _ _ _ _ _ (wRf S' (wOut o') R) _ _ _
  refine g_istore dL_law_527 (by decide) ?_
  refine g_aload_n dL_law_529 rfl rfl ?_
  refine g_sldc (v := 1) dL_law_530 dL_law_531 dL_law_533 dL_law_534 dL_law_535 (by decide) rfl (l_in1 hL hL2) ?_
  refine g_sldc (v := 2) dL_law_536 dL_law_537 dL_law_539 dL_law_540 dL_law_541 (by decide) rfl (l_in2 hL hL2) ?_
  refine cV2N (W := wRf S' (wOut o')) (S := R) (fun _ _ => rfl) dL_law_542 mlL_132 imX5_chunk seX5_chunk rfl rfl (n_chunk _ _ _ V c hM) (by decide) (by omega) (by omega) (Nat.le_of_ble_eq_true rfl) ?_
  rintro _ _ ⟨⟨r, rfl⟩, tt, rfl⟩
  have hR' := g.th tt
  refine g_istore dL_law_545 (by decide) ?_
  refine g_goto (tgt := 767) dL_law_547 (by decide) ?_
  show GE _ _ _ _ _ _ (wOf (rtl (mS R 28 0 tt) (wOut o')) S') _ _ _
  exact GE.less (by omega) (by omega) (kk (mS R 28 0 tt) S' o' _ _ _ hS' hR')
set_option maxRecDepth 100000 in
set_option maxHeartbeats 400000 in
theorem lk_named {b L : Nat} {xs : Nat → Int32} (t K N : Nat) (hL : 4 * t + 4 ≤ L) (hL2 : L ≤ 2048) (R C : gS) (o : Nat → Int64) (l5 l6 l7 : Option Value) (f : ¬ C.1 1 2 < 0) (g : RI R t) (kk : ∀ (R C : gS) (o : Nat → Int64) (l5 l6 l7 : Option Value), ¬ C.1 1 2 < 0 → RI R (t + 1) → GE (gxL b L xs) ML_law (12, 440) 767 [none, some (.ref 0), some (.ref 28), some (.ref 48), some (.int (nI (4 * t))), l5, l6, l7] [] (wOf (rtl R (wOut o)) C) K N gTrue) : GE (gxL b L xs) ML_law (12, 440) 550 [none, some (.ref 0), some (.ref 28), some (.ref 48), some (.int (nI (4 * t))), l5, l6, l7] [] (wOf (rtl R (wOut o)) C) (K + 5) (N + 30) gTrue := by
  have g0 := g
  obtain ⟨w, L9, V, n, c, rm, hC⟩ := g0
  have hM := hC.1.mr
  refine g_aload_n dL_law_550 rfl rfl ?_
  refine g_sldc (v := 1) dL_law_551 dL_law_552 dL_law_554 dL_law_555 dL_law_556 (by decide) rfl (l_in1 hL hL2) ?_
  refine g_aload_n dL_law_557 rfl rfl ?_
  refine g_callS (as := [.ref 0, .int (xs (nI (4 * t) + 1).toNatClampNeg), .ref 48]) dL_law_558 mlL_133 isL_named rfl rfl (w_named R o C _ f) (by decide) (by omega) (by omega) (Nat.le_of_ble_eq_true rfl) (Or.inl (fun r9 w9 h9 => by obtain ⟨_, _, _, _, rfl, _⟩ := h9; rfl)) ?_ (fun E9 w9 h9 => by obtain ⟨_, _, _, h9, _⟩ := h9; cases h9)
  rintro v9 w9 ⟨k, S', o', h1, rfl, hS', hk⟩
  cases h1
  show GE _ _ _ _ _ _ (wRf S' (wOut o') R) _ _ _
  refine g_istore dL_law_561 (by decide) ?_
  refine g_aload_n dL_law_563 rfl rfl ?_
  refine g_sldc (v := 1) dL_law_564 dL_law_565 dL_law_567 dL_law_568 dL_law_569 (by decide) rfl (l_in1 hL hL2) ?_
  refine cV1N (W := wRf S' (wOut o')) (S := R) (fun _ _ => rfl) dL_law_570 mlL_135 imX5_named seX5_named rfl rfl (n_named _ _ V c hM) (by decide) (by omega) (by omega) (Nat.le_of_ble_eq_true rfl) ?_
  rintro _ _ ⟨⟨r, rfl⟩, tt, rfl⟩
  have hR' := g.th tt
  refine g_istore dL_law_573 (by decide) ?_
  refine g_goto (tgt := 767) dL_law_575 (by decide) ?_
  show GE _ _ _ _ _ _ (wOf (rtl (mS R 28 0 tt) (wOut o')) S') _ _ _
  exact GE.less (by omega) (by omega) (kk (mS R 28 0 tt) S' o' _ _ _ hS' hR')
set_option maxRecDepth 100000 in
set_option maxHeartbeats 400000 in
theorem lk_differ {b L : Nat} {xs : Nat → Int32} (t K N : Nat) (hL : 4 * t + 4 ≤ L) (hL2 : L ≤ 2048) (R C : gS) (o : Nat → Int64) (l5 l6 l7 : Option Value) (f : ¬ C.1 1 2 < 0) (g : RI R t) (kk : ∀ (R C : gS) (o : Nat → Int64) (l5 l6 l7 : Option Value), ¬ C.1 1 2 < 0 → RI R (t + 1) → GE (gxL b L xs) ML_law (12, 440) 767 [none, some (.ref 0), some (.ref 28), some (.ref 48), some (.int (nI (4 * t))), l5, l6, l7] [] (wOf (rtl R (wOut o)) C) K N gTrue) : GE (gxL b L xs) ML_law (12, 440) 578 [none, some (.ref 0), some (.ref 28), some (.ref 48), some (.int (nI (4 * t))), l5, l6, l7] [] (wOf (rtl R (wOut o)) C) (K + 5) (N + 30) gTrue := by
  have g0 := g
  obtain ⟨w, L9, V, n, c, rm, hC⟩ := g0
  have hM := hC.1.mr
  refine g_aload_n dL_law_578 rfl rfl ?_
  refine g_sldc (v := 1) dL_law_579 dL_law_580 dL_law_582 dL_law_583 dL_law_584 (by decide) rfl (l_in1 hL hL2) ?_
  refine g_sldc (v := 2) dL_law_585 dL_law_586 dL_law_588 dL_law_589 dL_law_590 (by decide) rfl (l_in2 hL hL2) ?_
  refine g_aload_n dL_law_591 rfl rfl ?_
  refine g_callS (as := [.ref 0, .int (xs (nI (4 * t) + 1).toNatClampNeg), .int (xs (nI (4 * t) + 2).toNatClampNeg), .ref 48]) dL_law_592 mlL_136 isL_differ rfl rfl (w_differ R o C _ _ f) (by decide) (by omega) (by omega) (Nat.le_of_ble_eq_true rfl) (Or.inl (fun r9 w9 h9 => by obtain ⟨_, _, _, _, rfl, _⟩ := h9; rfl)) ?_ (fun E9 w9 h9 => by obtain ⟨_, _, _, h9, _⟩ := h9; cases h9)
  rintro v9 w9 ⟨k, S', o', h1, rfl, hS', hk⟩
  cases h1
  show GE _ _ _ _ _ _ (wRf S' (wOut o') R) _ _ _
  refine g_istore dL_law_595 (by decide) ?_
  refine g_aload_n dL_law_597 rfl rfl ?_
  refine g_sldc (v := 1) dL_law_598 dL_law_599 dL_law_601 dL_law_602 dL_law_603 (by decide) rfl (l_in1 hL hL2) ?_
  refine g_sldc (v := 2) dL_law_604 dL_law_605 dL_law_607 dL_law_608 dL_law_609 (by decide) rfl (l_in2 hL hL2) ?_
  refine cV2N (W := wRf S' (wOut o')) (S := R) (fun _ _ => rfl) dL_law_610 mlL_138 imX5_differ seX5_differ rfl rfl (n_differ _ _ _ V c hM t g) (by decide) (by omega) (by omega) (Nat.le_of_ble_eq_true rfl) ?_
  rintro _ R' ⟨⟨r, rfl⟩, hR'⟩
  refine g_istore dL_law_613 (by decide) ?_
  refine g_goto (tgt := 767) dL_law_615 (by decide) ?_
  show GE _ _ _ _ _ _ (wOf (rtl (R') (wOut o')) S') _ _ _
  exact GE.less (by omega) (by omega) (kk (R') S' o' _ _ _ hS' hR')
set_option maxRecDepth 100000 in
set_option maxHeartbeats 400000 in
theorem lk_far {b L : Nat} {xs : Nat → Int32} (t K N : Nat) (hL : 4 * t + 4 ≤ L) (hL2 : L ≤ 2048) (R C : gS) (o : Nat → Int64) (l5 l6 l7 : Option Value) (f : ¬ C.1 1 2 < 0) (g : RI R t) (kk : ∀ (R C : gS) (o : Nat → Int64) (l5 l6 l7 : Option Value), ¬ C.1 1 2 < 0 → RI R (t + 1) → GE (gxL b L xs) ML_law (12, 440) 767 [none, some (.ref 0), some (.ref 28), some (.ref 48), some (.int (nI (4 * t))), l5, l6, l7] [] (wOf (rtl R (wOut o)) C) K N gTrue) : GE (gxL b L xs) ML_law (12, 440) 618 [none, some (.ref 0), some (.ref 28), some (.ref 48), some (.int (nI (4 * t))), l5, l6, l7] [] (wOf (rtl R (wOut o)) C) (K + 5) (N + 30) gTrue := by
  have g0 := g
  obtain ⟨w, L9, V, n, c, rm, hC⟩ := g0
  have hM := hC.1.mr
  refine g_aload_n dL_law_618 rfl rfl ?_
  refine g_sldc (v := 1) dL_law_619 dL_law_620 dL_law_622 dL_law_623 dL_law_624 (by decide) rfl (l_in1 hL hL2) ?_
  refine g_sldc (v := 2) dL_law_625 dL_law_626 dL_law_628 dL_law_629 dL_law_630 (by decide) rfl (l_in2 hL hL2) ?_
  refine g_sldc (v := 3) dL_law_631 dL_law_632 dL_law_634 dL_law_635 dL_law_636 (by decide) rfl (l_in3 hL hL2) ?_
  refine g_aload_n dL_law_637 rfl rfl ?_
  refine g_callS (as := [.ref 0, .int (xs (nI (4 * t) + 1).toNatClampNeg), .int (xs (nI (4 * t) + 2).toNatClampNeg), .int (xs (nI (4 * t) + 3).toNatClampNeg), .ref 48]) dL_law_638 mlL_139 isL_far rfl rfl (w_far R o C _ _ _ f) (by decide) (by omega) (by omega) (Nat.le_of_ble_eq_true rfl) (Or.inl (fun r9 w9 h9 => by obtain ⟨_, _, _, _, rfl, _⟩ := h9; rfl)) ?_ (fun E9 w9 h9 => by obtain ⟨_, _, _, h9, _⟩ := h9; cases h9)
  rintro v9 w9 ⟨k, S', o', h1, rfl, hS', hk⟩
  cases h1
  show GE _ _ _ _ _ _ (wRf S' (wOut o') R) _ _ _
  refine g_istore dL_law_641 (by decide) ?_
  refine g_aload_n dL_law_643 rfl rfl ?_
  refine g_sldc (v := 1) dL_law_644 dL_law_645 dL_law_647 dL_law_648 dL_law_649 (by decide) rfl (l_in1 hL hL2) ?_
  refine g_sldc (v := 2) dL_law_650 dL_law_651 dL_law_653 dL_law_654 dL_law_655 (by decide) rfl (l_in2 hL hL2) ?_
  refine g_sldc (v := 3) dL_law_656 dL_law_657 dL_law_659 dL_law_660 dL_law_661 (by decide) rfl (l_in3 hL hL2) ?_
  refine cV3N (W := wRf S' (wOut o')) (S := R) (fun _ _ => rfl) dL_law_662 mlL_141 imX5_far seX5_far rfl rfl (n_far _ _ _ _ V c hM t g) (by decide) (by omega) (by omega) (Nat.le_of_ble_eq_true rfl) ?_
  rintro _ R' ⟨⟨r, rfl⟩, hR'⟩
  refine g_istore dL_law_665 (by decide) ?_
  refine g_goto (tgt := 767) dL_law_667 (by decide) ?_
  show GE _ _ _ _ _ _ (wOf (rtl (R') (wOut o')) S') _ _ _
  exact GE.less (by omega) (by omega) (kk (R') S' o' _ _ _ hS' hR')
set_option maxRecDepth 100000 in
set_option maxHeartbeats 400000 in
theorem lk_usable {b L : Nat} {xs : Nat → Int32} (t K N : Nat) (hL : 4 * t + 4 ≤ L) (hL2 : L ≤ 2048) (R C : gS) (o : Nat → Int64) (l5 l6 l7 : Option Value) (f : ¬ C.1 1 2 < 0) (g : RI R t) (kk : ∀ (R C : gS) (o : Nat → Int64) (l5 l6 l7 : Option Value), ¬ C.1 1 2 < 0 → RI R (t + 1) → GE (gxL b L xs) ML_law (12, 440) 767 [none, some (.ref 0), some (.ref 28), some (.ref 48), some (.int (nI (4 * t))), l5, l6, l7] [] (wOf (rtl R (wOut o)) C) K N gTrue) : GE (gxL b L xs) ML_law (12, 440) 670 [none, some (.ref 0), some (.ref 28), some (.ref 48), some (.int (nI (4 * t))), l5, l6, l7] [] (wOf (rtl R (wOut o)) C) (K + 5) (N + 30) gTrue := by
  have g0 := g
  obtain ⟨w, L9, V, n, c, rm, hC⟩ := g0
  have hM := hC.1.mr
  refine g_aload_n dL_law_670 rfl rfl ?_
  refine g_sldc (v := 1) dL_law_671 dL_law_672 dL_law_674 dL_law_675 dL_law_676 (by decide) rfl (l_in1 hL hL2) ?_
  refine g_aload_n dL_law_677 rfl rfl ?_
  refine g_callS (as := [.ref 0, .int (xs (nI (4 * t) + 1).toNatClampNeg), .ref 48]) dL_law_678 mlL_142 isL_usable rfl rfl (w_usable R o C _ f) (by decide) (by omega) (by omega) (Nat.le_of_ble_eq_true rfl) (Or.inl (fun r9 w9 h9 => by obtain ⟨_, _, _, _, rfl, _⟩ := h9; rfl)) ?_ (fun E9 w9 h9 => by obtain ⟨_, _, _, h9, _⟩ := h9; cases h9)
  rintro v9 w9 ⟨k, S', o', h1, rfl, hS', hk⟩
  cases h1
  show GE _ _ _ _ _ _ (wRf S' (wOut o') R) _ _ _
  refine g_istore dL_law_681 (by decide) ?_
  refine g_aload_n dL_law_683 rfl rfl ?_
  refine g_sldc (v := 1) dL_law_684 dL_law_685 dL_law_687 dL_law_688 dL_law_689 (by decide) rfl (l_in1 hL hL2) ?_
  refine cV1N (W := wRf S' (wOut o')) (S := R) (fun _ _ => rfl) dL_law_690 mlL_144 imX5_usable seX5_usable rfl rfl (n_usable _ _ V c hM n hC.1.1.2.2.2.1 hC.1.2.1.2.2.2.1) (by decide) (by omega) (by omega) (Nat.le_of_ble_eq_true rfl) ?_
  rintro _ _ ⟨⟨r, rfl⟩, tt, rfl⟩
  have hR' := g.th tt
  refine g_istore dL_law_693 (by decide) ?_
  refine g_goto (tgt := 767) dL_law_695 (by decide) ?_
  show GE _ _ _ _ _ _ (wOf (rtl (mS R 28 0 tt) (wOut o')) S') _ _ _
  exact GE.less (by omega) (by omega) (kk (mS R 28 0 tt) S' o' _ _ _ hS' hR')
set_option maxRecDepth 100000 in
set_option maxHeartbeats 400000 in
theorem lk_mask {b L : Nat} {xs : Nat → Int32} (t K N : Nat) (hL : 4 * t + 4 ≤ L) (hL2 : L ≤ 2048) (R C : gS) (o : Nat → Int64) (l5 l6 l7 : Option Value) (f : ¬ C.1 1 2 < 0) (g : RI R t) (kk : ∀ (R C : gS) (o : Nat → Int64) (l5 l6 l7 : Option Value), ¬ C.1 1 2 < 0 → RI R (t + 1) → GE (gxL b L xs) ML_law (12, 440) 767 [none, some (.ref 0), some (.ref 28), some (.ref 48), some (.int (nI (4 * t))), l5, l6, l7] [] (wOf (rtl R (wOut o)) C) K N gTrue) : GE (gxL b L xs) ML_law (12, 440) 698 [none, some (.ref 0), some (.ref 28), some (.ref 48), some (.int (nI (4 * t))), l5, l6, l7] [] (wOf (rtl R (wOut o)) C) (K + 5) (N + 30) gTrue := by
  have g0 := g
  obtain ⟨w, L9, V, n, c, rm, hC⟩ := g0
  have hM := hC.1.mr
  refine g_aload_n dL_law_698 rfl rfl ?_
  refine g_sldc (v := 1) dL_law_699 dL_law_700 dL_law_702 dL_law_703 dL_law_704 (by decide) rfl (l_in1 hL hL2) ?_
  refine g_aload_n dL_law_705 rfl rfl ?_
  refine g_callS (as := [.ref 0, .int (xs (nI (4 * t) + 1).toNatClampNeg), .ref 48]) dL_law_706 mlL_145 isL_mask rfl rfl (w_mask R o C _ f) (by decide) (by omega) (by omega) (Nat.le_of_ble_eq_true rfl) (Or.inl (fun r9 w9 h9 => by obtain ⟨_, _, _, _, rfl, _⟩ := h9; rfl)) ?_ (fun E9 w9 h9 => by obtain ⟨_, _, _, h9, _⟩ := h9; cases h9)
  rintro v9 w9 ⟨k, S', o', h1, rfl, hS', hk⟩
  cases h1
  show GE _ _ _ _ _ _ (wRf S' (wOut o') R) _ _ _
  refine g_istore dL_law_709 (by decide) ?_
  refine g_aload_n dL_law_711 rfl rfl ?_
  refine g_sldc (v := 1) dL_law_712 dL_law_713 dL_law_715 dL_law_716 dL_law_717 (by decide) rfl (l_in1 hL hL2) ?_
  refine cV1N (W := wRf S' (wOut o')) (S := R) (fun _ _ => rfl) dL_law_718 mlL_147 imX5_mask seX5_mask rfl rfl (n_mask _ _ n hC.1.1.2.2.2.1 hC.1.2.1.2.2.2.1) (by decide) (by omega) (by omega) (Nat.le_of_ble_eq_true rfl) ?_
  rintro _ _ ⟨⟨r, rfl⟩, tt, rfl⟩
  have hR' := g.th tt
  refine g_lstore dL_law_721 (by decide) ?_
  refine g_goto (tgt := 767) dL_law_723 (by decide) ?_
  show GE _ _ _ _ _ _ (wOf (rtl (mS R 28 0 tt) (wOut o')) S') _ _ _
  exact GE.less (by omega) (by omega) (kk (mS R 28 0 tt) S' o' _ _ _ hS' hR')
set_option maxRecDepth 100000 in
set_option maxHeartbeats 400000 in
theorem lk_told {b L : Nat} {xs : Nat → Int32} (t K N : Nat) (hL : 4 * t + 4 ≤ L) (hL2 : L ≤ 2048) (R C : gS) (o : Nat → Int64) (l5 l6 l7 : Option Value) (f : ¬ C.1 1 2 < 0) (g : RI R t) (kk : ∀ (R C : gS) (o : Nat → Int64) (l5 l6 l7 : Option Value), ¬ C.1 1 2 < 0 → RI R (t + 1) → GE (gxL b L xs) ML_law (12, 440) 767 [none, some (.ref 0), some (.ref 28), some (.ref 48), some (.int (nI (4 * t))), l5, l6, l7] [] (wOf (rtl R (wOut o)) C) K N gTrue) : GE (gxL b L xs) ML_law (12, 440) 726 [none, some (.ref 0), some (.ref 28), some (.ref 48), some (.int (nI (4 * t))), l5, l6, l7] [] (wOf (rtl R (wOut o)) C) (K + 5) (N + 30) gTrue := by
  have g0 := g
  obtain ⟨w, L9, V, n, c, rm, hC⟩ := g0
  have hM := hC.1.mr
  refine g_aload_n dL_law_726 rfl rfl ?_
  refine g_sldc (v := 1) dL_law_727 dL_law_728 dL_law_730 dL_law_731 dL_law_732 (by decide) rfl (l_in1 hL hL2) ?_
  refine g_aload_n dL_law_733 rfl rfl ?_
  refine g_callS (as := [.ref 0, .int (xs (nI (4 * t) + 1).toNatClampNeg), .ref 48]) dL_law_734 mlL_148 isL_told rfl rfl (w_told R o C _ f) (by decide) (by omega) (by omega) (Nat.le_of_ble_eq_true rfl) (Or.inl (fun r9 w9 h9 => by obtain ⟨_, _, _, _, rfl, _⟩ := h9; rfl)) ?_ (fun E9 w9 h9 => by obtain ⟨_, _, _, h9, _⟩ := h9; cases h9)
  rintro v9 w9 ⟨k, S', o', h1, rfl, hS', hk⟩
  cases h1
  show GE _ _ _ _ _ _ (wRf S' (wOut o') R) _ _ _
  refine g_istore dL_law_737 (by decide) ?_
  refine g_aload_n dL_law_739 rfl rfl ?_
  refine g_sldc (v := 1) dL_law_740 dL_law_741 dL_law_743 dL_law_744 dL_law_745 (by decide) rfl (l_in1 hL hL2) ?_
  refine cV1N (W := wRf S' (wOut o')) (S := R) (fun _ _ => rfl) dL_law_746 mlL_150 imX5_told seX5_told rfl rfl (n_told _ _ V c hM t g) (by decide) (by omega) (by omega) (Nat.le_of_ble_eq_true rfl) ?_
  rintro _ R' ⟨⟨r, rfl⟩, hR'⟩
  refine g_istore dL_law_749 (by decide) ?_
  refine g_goto (tgt := 767) dL_law_751 (by decide) ?_
  show GE _ _ _ _ _ _ (wOf (rtl (R') (wOut o')) S') _ _ _
  exact GE.less (by omega) (by omega) (kk (R') S' o' _ _ _ hS' hR')
set_option maxRecDepth 100000 in
set_option maxHeartbeats 400000 in
theorem lk_crash {b L : Nat} {xs : Nat → Int32} (t K N : Nat) (hL : 4 * t + 4 ≤ L) (hL2 : L ≤ 2048) (R C : gS) (o : Nat → Int64) (l5 l6 l7 : Option Value) (f : ¬ C.1 1 2 < 0) (g : RI R t) (kk : ∀ (R C : gS) (o : Nat → Int64) (l5 l6 l7 : Option Value), ¬ C.1 1 2 < 0 → RI R (t + 1) → GE (gxL b L xs) ML_law (12, 440) 767 [none, some (.ref 0), some (.ref 28), some (.ref 48), some (.int (nI (4 * t))), l5, l6, l7] [] (wOf (rtl R (wOut o)) C) K N gTrue) : GE (gxL b L xs) ML_law (12, 440) 336 [none, some (.ref 0), some (.ref 28), some (.ref 48), some (.int (nI (4 * t))), l5, l6, l7] [] (wOf (rtl R (wOut o)) C) (K + 5) (N + 30) gTrue := by
  refine g_aload_n dL_law_336 rfl rfl ?_
  refine g_sldc (v := 1) dL_law_337 dL_law_338 dL_law_340 dL_law_341 dL_law_342 (by decide) rfl (l_in1 hL hL2) ?_
  refine cV1N (W := wOf (rtl R (wOut o))) (S := C) (fun _ _ => rfl) dL_law_343 mlL_109 imX4_crash seX4_crash rfl rfl (c_crash _ _ f) (by decide) (by omega) (by omega) (Nat.le_of_ble_eq_true rfl) ?_
  rintro _ S' ⟨⟨r9, rfl, -⟩, hcl⟩
  have hS' := hcl f
  show GE _ _ _ _ _ _ (wRf S' (wOut o) R) _ _ _
  refine g_pop dL_law_346 rfl ?_
  refine g_aload_n dL_law_347 rfl rfl ?_
  refine g_sldc (v := 1) dL_law_348 dL_law_349 dL_law_351 dL_law_352 dL_law_353 (by decide) rfl (l_in1 hL hL2) ?_
  refine cV1N (W := wRf S' (wOut o)) (S := R) (fun _ _ => rfl) dL_law_354 mlL_112 imX5_crash seX5_crash rfl rfl (n_crash _ _ t g) (by decide) (by omega) (by omega) (Nat.le_of_ble_eq_true rfl) ?_
  rintro _ R' ⟨⟨r, rfl⟩, hR'⟩
  refine g_pop dL_law_357 rfl ?_
  refine g_goto (tgt := 767) dL_law_358 (by decide) ?_
  show GE _ _ _ _ _ _ (wOf (rtl (R') (wOut o)) S') _ _ _
  exact GE.less (by omega) (by omega) (kk (R') S' o _ _ _ hS' hR')
set_option maxRecDepth 100000 in
set_option maxHeartbeats 400000 in
theorem lk_open {b L : Nat} {xs : Nat → Int32} (t K N : Nat) (hL : 4 * t + 4 ≤ L) (hL2 : L ≤ 2048) (R C : gS) (o : Nat → Int64) (l5 l6 l7 : Option Value) (f : ¬ C.1 1 2 < 0) (g : RI R t) (kk : ∀ (R C : gS) (o : Nat → Int64) (l5 l6 l7 : Option Value), ¬ C.1 1 2 < 0 → RI R (t + 1) → GE (gxL b L xs) ML_law (12, 440) 767 [none, some (.ref 0), some (.ref 28), some (.ref 48), some (.int (nI (4 * t))), l5, l6, l7] [] (wOf (rtl R (wOut o)) C) K N gTrue) : GE (gxL b L xs) ML_law (12, 440) 361 [none, some (.ref 0), some (.ref 28), some (.ref 48), some (.int (nI (4 * t))), l5, l6, l7] [] (wOf (rtl R (wOut o)) C) (K + 5) (N + 30) gTrue := by
  refine g_aload_n dL_law_361 rfl rfl ?_
  refine cV0N (W := wOf (rtl R (wOut o))) (S := C) (fun _ _ => rfl) dL_law_362 mlL_113 imX4_open seX4_open rfl rfl (c_open _ f) (by decide) (by omega) (by omega) (Nat.le_of_ble_eq_true rfl) ?_
  rintro _ S' ⟨⟨r9, rfl, -⟩, hcl⟩
  have hS' := hcl f
  show GE _ _ _ _ _ _ (wRf S' (wOut o) R) _ _ _
  refine g_pop dL_law_365 rfl ?_
  refine g_aload_n dL_law_366 rfl rfl ?_
  refine cV0N (W := wRf S' (wOut o)) (S := R) (fun _ _ => rfl) dL_law_367 mlL_116 imX5_open seX5_open rfl rfl (n_open _ t g) (by decide) (by omega) (by omega) (Nat.le_of_ble_eq_true rfl) ?_
  rintro _ R' ⟨⟨r, rfl⟩, hR'⟩
  refine g_pop dL_law_370 rfl ?_
  refine g_goto (tgt := 767) dL_law_371 (by decide) ?_
  show GE _ _ _ _ _ _ (wOf (rtl (R') (wOut o)) S') _ _ _
  exact GE.less (by omega) (by omega) (kk (R') S' o _ _ _ hS' hR')
set_option maxRecDepth 100000 in
set_option maxHeartbeats 400000 in
theorem lk_isOpen {b L : Nat} {xs : Nat → Int32} (t K N : Nat) (hL : 4 * t + 4 ≤ L) (hL2 : L ≤ 2048) (R C : gS) (o : Nat → Int64) (l5 l6 l7 : Option Value) (f : ¬ C.1 1 2 < 0) (g : RI R t) (kk : ∀ (R C : gS) (o : Nat → Int64) (l5 l6 l7 : Option Value), ¬ C.1 1 2 < 0 → RI R (t + 1) → GE (gxL b L xs) ML_law (12, 440) 767 [none, some (.ref 0), some (.ref 28), some (.ref 48), some (.int (nI (4 * t))), l5, l6, l7] [] (wOf (rtl R (wOut o)) C) K N gTrue) : GE (gxL b L xs) ML_law (12, 440) 754 [none, some (.ref 0), some (.ref 28), some (.ref 48), some (.int (nI (4 * t))), l5, l6, l7] [] (wOf (rtl R (wOut o)) C) (K + 5) (N + 30) gTrue := by
  refine g_aload_n dL_law_754 rfl rfl ?_
  refine cV0N (W := wOf (rtl R (wOut o))) (S := C) (fun _ _ => rfl) dL_law_755 mlL_151 imX4_isOpen seX4_isOpen rfl rfl (d_isOpen _) (by decide) (by omega) (by omega) (Nat.le_of_ble_eq_true rfl) ?_
  rintro _ _ ⟨⟨r9, rfl⟩, rfl⟩
  have hS' := f
  show GE _ _ _ _ _ _ (wRf C (wOut o) R) _ _ _
  refine g_pop dL_law_758 rfl ?_
  refine g_aload_n dL_law_759 rfl rfl ?_
  refine cV0N (W := wRf C (wOut o)) (S := R) (fun _ _ => rfl) dL_law_760 mlL_155 imX5_isOpen seX5_isOpen rfl rfl (n_isOpen _ t g) (by decide) (by omega) (by omega) (Nat.le_of_ble_eq_true rfl) ?_
  rintro _ R' ⟨⟨r, rfl⟩, hR'⟩
  refine g_pop dL_law_763 rfl ?_
  refine g_goto (tgt := 767) dL_law_764 (by decide) ?_
  show GE _ _ _ _ _ _ (wOf (rtl (R') (wOut o)) C) _ _ _
  exact GE.less (by omega) (by omega) (kk (R') C o _ _ _ hS' hR')
theorem RI.th0 {R : gS} {t : Nat} (h : RI R t) : RI R (t + 1) := by
  obtain ⟨w, L, V, n, c, rm, h⟩ := h
  exact ⟨w, L, V, n, c, rm, h.up (by omega)⟩
theorem l_gt {t L : Nat} (hL2 : L ≤ 2048) (ht : 4 * t ≤ 2052) (c : ¬ nI L - 4 < nI (4 * t)) : 4 * t + 4 ≤ L := by
  rcases Nat.lt_or_ge L 4 with h | h
  · exfalso
    apply c
    have e : nI L - 4 < 0 := by
      rcases (show L = 0 ∨ L = 1 ∨ L = 2 ∨ L = 3 by omega) with rfl | rfl | rfl | rfl <;> decide
    exact Int32.lt_of_lt_of_le e (nI_pos' (by omega))
  · have e : nI L - 4 = nI (L - 4) := nI_sub (b := 4) h
    rw [e] at c
    have := le_of_nI (by omega) (Int32.not_lt.mp c)
    omega
set_option maxRecDepth 100000 in
set_option maxHeartbeats 400000 in
theorem l_all {b L : Nat} {xs : Nat → Int32} (hL2 : L ≤ 2048) : ∀ (m t : Nat) (R C : gS) (o : Nat → Int64) (l5 l6 l7 : Option Value), L ≤ 4 * t + 4 * m → 4 * t ≤ 2052 → ¬ C.1 1 2 < 0 → RI R t → GE (gxL b L xs) ML_law (12, 440) 23 [none, some (.ref 0), some (.ref 28), some (.ref 48), some (.int (nI (4 * t))), l5, l6, l7] [] (wOf (rtl R (wOut o)) C) (5 * m) (30 * m) gTrue := by
  intro m
  induction m with
  | zero =>
    intro t R C o l5 l6 l7 hm ht f g
    refine g_iload dL_law_23 rfl ?_
    refine g_slen dL_law_25 dL_law_26 ?_
    refine g_iconst (v := 4) dL_law_27 (by decide) ?_
    refine g_isub dL_law_28 ?_
    refine g_icmp_gt (tgt := 773) dL_law_29 (by decide) (fun c29 => ?_) (fun c29 => ?_)
    · refine g_iconst (v := 1) dL_law_773 (by decide) ?_
      exact g_zret dL_law_774 rfl (by first | rfl | assumption) rfl
    · exact absurd (l_gt hL2 ht c29) (by omega)
  | succ m ih =>
    intro t R C o l5 l6 l7 hm ht f g
    refine g_iload dL_law_23 rfl ?_
    refine g_slen dL_law_25 dL_law_26 ?_
    refine g_iconst (v := 4) dL_law_27 (by decide) ?_
    refine g_isub dL_law_28 ?_
    refine g_icmp_gt (tgt := 773) dL_law_29 (by decide) (fun c29 => ?_) (fun c29 => ?_)
    · refine g_iconst (v := 1) dL_law_773 (by decide) ?_
      exact g_zret dL_law_774 rfl (by first | rfl | assumption) rfl
    · have hL := l_gt hL2 ht c29
      have kk : ∀ (R C : gS) (o : Nat → Int64) (l5 l6 l7 : Option Value), ¬ C.1 1 2 < 0 → RI R (t + 1) → GE (gxL b L xs) ML_law (12, 440) 767 [none, some (.ref 0), some (.ref 28), some (.ref 48), some (.int (nI (4 * t))), l5, l6, l7] [] (wOf (rtl R (wOut o)) C) (5 * m) (30 * m) gTrue := by
        intro R C o l5 l6 l7 f g
        refine g_iinc (v := nI (4 * (t + 1))) dL_law_767 rfl (by decide) ((nI_add _ 4).trans (congrArg nI (by omega))) ?_
        refine g_goto (tgt := 23) dL_law_770 (by decide) ?_
        exact ih (t + 1) R C o _ _ _ (by omega) (by omega) f g
      refine GE.less (k' := 5 * m + 5) (n' := 30 * m + 30) (by omega) (by omega) ?_
      refine g_sld0 dL_law_32 dL_law_33 dL_law_35 rfl (vp_in_nI (by omega) (by omega)) ?_
      refine g_bipush (v := 31) dL_law_36 (by decide) ?_
      refine g_iand dL_law_38 ?_
      refine g_tsw (ts := [132, 168, 236, 252, 292, 320, 336, 361, 374, 414, 442, 458, 510, 550, 578, 618, 670, 698, 726, 754, 767]) dL_law_39 (by decide) (fun t9 ht9 => ?_)
      simp only [List.mem_cons, List.not_mem_nil, or_false] at ht9
      rcases ht9 with rfl | rfl | rfl | rfl | rfl | rfl | rfl | rfl | rfl | rfl | rfl | rfl | rfl | rfl | rfl | rfl | rfl | rfl | rfl | rfl | rfl
      · exact lk_begin t (5 * m) (30 * m) hL hL2 R C o l5 l6 l7 f g kk
      · exact lk_edge t (5 * m) (30 * m) hL hL2 R C o l5 l6 l7 f g kk
      · exact lk_version t (5 * m) (30 * m) hL hL2 R C o l5 l6 l7 f g kk
      · exact lk_answer t (5 * m) (30 * m) hL hL2 R C o l5 l6 l7 f g kk
      · exact lk_drop t (5 * m) (30 * m) hL hL2 R C o l5 l6 l7 f g kk
      · exact lk_keep t (5 * m) (30 * m) hL hL2 R C o l5 l6 l7 f g kk
      · exact lk_crash t (5 * m) (30 * m) hL hL2 R C o l5 l6 l7 f g kk
      · exact lk_open t (5 * m) (30 * m) hL hL2 R C o l5 l6 l7 f g kk
      · exact lk_poke t (5 * m) (30 * m) hL hL2 R C o l5 l6 l7 f g kk
      · exact lk_byteAt t (5 * m) (30 * m) hL hL2 R C o l5 l6 l7 f g kk
      · exact lk_badAt t (5 * m) (30 * m) hL hL2 R C o l5 l6 l7 f g kk
      · exact lk_has t (5 * m) (30 * m) hL hL2 R C o l5 l6 l7 f g kk
      · exact lk_chunk t (5 * m) (30 * m) hL hL2 R C o l5 l6 l7 f g kk
      · exact lk_named t (5 * m) (30 * m) hL hL2 R C o l5 l6 l7 f g kk
      · exact lk_differ t (5 * m) (30 * m) hL hL2 R C o l5 l6 l7 f g kk
      · exact lk_far t (5 * m) (30 * m) hL hL2 R C o l5 l6 l7 f g kk
      · exact lk_usable t (5 * m) (30 * m) hL hL2 R C o l5 l6 l7 f g kk
      · exact lk_mask t (5 * m) (30 * m) hL hL2 R C o l5 l6 l7 f g kk
      · exact lk_told t (5 * m) (30 * m) hL hL2 R C o l5 l6 l7 f g kk
      · exact lk_isOpen t (5 * m) (30 * m) hL hL2 R C o l5 l6 l7 f g kk
      · exact GE.less (by omega) (by omega) (kk R C o l5 l6 l7 f (g.th0))
