abbrev ML_law : gM := (yL_law, cL_law, 8, some .boolean, [])
section SCR
variable {b L : Nat} {xs : Nat → Int32} {M : gM} {d : Nat × Nat} {pc : Nat} {ls : List (Option Value)} {st : List Value} {w : gW} {k n : Nat} {Q : gR → gW → Prop}
theorem g_slen (d0 : decode M.2.1 pc = .ok (.aload_n 0, 1)) (d1 : decode M.2.1 (pc + 1) = .ok (.arraylength, 1)) (kk : GE (gxL b L xs) M d (pc + 1 + 1) ls (.int (nI L) :: st) w k n Q) : GE (gxL b L xs) M d pc ls st w k n Q := by
  intro p l e R s m args below meth c A D dA κ0 n0 C EX κ H locs lsr cells slots I
  refine lv_aload_n C.1 C.2.1 d0 rfl (I.2.2.2.1.2.2 (0, .ref b) (List.mem_append_left _ (List.mem_singleton.mpr rfl))) ?_
  exact va_slen C.1 C.2.1 EX.1 EX.2.1 EX.2.2 I.2.2.2.2.2.2 d1 (kk p l e R s m args below meth c A D dA κ0 n0 C EX κ H locs lsr cells slots I)
theorem g_sld0 {i : Int32} (d0 : decode M.2.1 pc = .ok (.aload_n 0, 1)) (d1 : decode M.2.1 (pc + 1) = .ok (.iload 4, 2)) (d2 : decode M.2.1 (pc + 1 + 2) = .ok (.iaload, 1)) (hl : ls[4]? = some (some (.int i))) (hin : vp_in i L) (kk : GE (gxL b L xs) M d (pc + 1 + 2 + 1) ls (.int (xs i.toNatClampNeg) :: st) w k n Q) : GE (gxL b L xs) M d pc ls st w k n Q := by
  intro p l e R s m args below meth c A D dA κ0 n0 C EX κ H locs lsr cells slots I
  refine lv_aload_n C.1 C.2.1 d0 rfl (I.2.2.2.1.2.2 (0, .ref b) (List.mem_append_left _ (List.mem_singleton.mpr rfl))) ?_
  refine lv_iload C.1 C.2.1 d1 (gas_at I.2.2.2.1 hl) ?_
  exact va_sld C.1 C.2.1 EX.1 EX.2.1 EX.2.2 I.2.2.2.2.2.2 hin d2 (kk p l e R s m args below meth c A D dA κ0 n0 C EX κ H locs lsr cells slots I)
theorem g_sldc {i v : Int32} {cc : Int} (d0 : decode M.2.1 pc = .ok (.aload_n 0, 1)) (d1 : decode M.2.1 (pc + 1) = .ok (.iload 4, 2)) (d2 : decode M.2.1 (pc + 1 + 2) = .ok (.iconst cc, 1)) (d3 : decode M.2.1 (pc + 1 + 2 + 1) = .ok (.iadd, 1)) (d4 : decode M.2.1 (pc + 1 + 2 + 1 + 1) = .ok (.iaload, 1)) (hv : Int32.ofInt cc = v) (hl : ls[4]? = some (some (.int i))) (hin : vp_in (i + v) L) (kk : GE (gxL b L xs) M d (pc + 1 + 2 + 1 + 1 + 1) ls (.int (xs (i + v).toNatClampNeg) :: st) w k n Q) : GE (gxL b L xs) M d pc ls st w k n Q := by
  intro p l e R s m args below meth c A D dA κ0 n0 C EX κ H locs lsr cells slots I
  refine lv_aload_n C.1 C.2.1 d0 rfl (I.2.2.2.1.2.2 (0, .ref b) (List.mem_append_left _ (List.mem_singleton.mpr rfl))) ?_
  refine lv_iload C.1 C.2.1 d1 (gas_at I.2.2.2.1 hl) ?_
  refine lv_iconst C.1 C.2.1 d2 hv ?_
  refine lv_iadd C.1 C.2.1 d3 ?_
  exact va_sld C.1 C.2.1 EX.1 EX.2.1 EX.2.2 I.2.2.2.2.2.2 hin d4 (kk p l e R s m args below meth c A D dA κ0 n0 C EX κ H locs lsr cells slots I)
end SCR
/-- the law has answered true -/
def gTrue : gR → gW → Prop := fun r _ => r = .inl (some (.int 1))
set_option maxRecDepth 100000 in
set_option maxHeartbeats 400000 in
theorem l_end {b : Nat} {xs : Nat → Int32} (l5 l6 l7 : Option Value) (w : gW) (k n : Nat) : GE (gxL b 4 xs) ML_law (12, 440) 1228 [none, some (.ref 0), some (.ref 28), some (.ref 48), some (.int (nI 0)), l5, l6, l7] [] w k n gTrue := by
  refine g_iinc dL_law_1228 rfl (by decide) rfl ?_
  refine g_goto (tgt := 23) dL_law_1231 (by decide) ?_
  refine g_iload dL_law_23 rfl ?_
  refine g_slen dL_law_25 dL_law_26 ?_
  refine g_iconst (v := 4) dL_law_27 (by decide) ?_
  refine g_isub dL_law_28 ?_
  refine g_icmp_gt (tgt := 1234) dL_law_29 (by decide) (fun c29 => ?_) (fun c29 => ?_)
  · refine g_iconst (v := 1) dL_law_1234 (by decide) ?_
    exact g_zret dL_law_1235 rfl (by first | rfl | assumption) rfl
  · exact absurd (by decide) c29
set_option maxRecDepth 100000 in
set_option maxHeartbeats 400000 in
theorem lk_begin {b : Nat} {xs : Nat → Int32} (R C : gS) (o : Nat → Int64) (f : Fr C) (g : Fm R) (hg : ∀ x : Int32, ¬ x < 0 → x < 24032 → dget C x = fdm x.toNatClampNeg) : GE (gxL b 4 xs) ML_law (12, 440) 132 [none, some (.ref 0), some (.ref 28), some (.ref 48), some (.int (nI 0)), none, none, none] [] (wOf (rtl R (wOut o)) C) 10 100 gTrue := by
  refine g_aload_n dL_law_132 rfl rfl ?_
  refine g_sldc (v := 1) dL_law_133 dL_law_134 dL_law_136 dL_law_137 dL_law_138 (by decide) rfl (by unfold vp_in; decide) ?_
  refine g_callS (as := [.ref 0, .int (xs (nI 0 + 1).toNatClampNeg)]) dL_law_139 mlL_81 isL_begin rfl rfl (w_begin R o C _ f) (by decide) (Nat.le_of_ble_eq_true rfl) (Nat.le_of_ble_eq_true rfl) (Nat.le_of_ble_eq_true rfl) (Or.inl (fun r9 w9 h9 => by obtain ⟨_, _, _, _, rfl, _⟩ := h9; rfl)) ?_ (fun E9 w9 h9 => by obtain ⟨_, _, _, h9, _⟩ := h9; cases h9)
  rintro v9 w9 ⟨k, S', o', h1, rfl, hk⟩
  cases h1
  show GE _ _ _ _ _ _ (wRf S' (wOut o') R) _ _ _
  refine g_istore dL_law_142 (by decide) ?_
  refine g_aload_n dL_law_144 rfl rfl ?_
  refine g_sldc (v := 1) dL_law_145 dL_law_146 dL_law_148 dL_law_149 dL_law_150 (by decide) rfl (by unfold vp_in; decide) ?_
  refine cV10 (W := wRf S' (wOut o')) (S := R) (fun _ _ => rfl) dL_law_151 mlL_86 imX5_begin seX5_begin rfl rfl (m_begin _ _) (by decide) (Nat.le_of_ble_eq_true rfl) (Nat.le_of_ble_eq_true rfl) (Nat.le_of_ble_eq_true rfl) ?_
  rintro R' hm
  rcases hk with ⟨rfl, h1, h2, h3⟩ | ⟨rfl, h1⟩ | ⟨rfl, h1, h2⟩
  · have ht := hm.2.2 h1 h2 h3
    refine g_aload_n dL_law_154 rfl rfl ?_
    refine cV0N (W := wRf S' (wOut o')) (S := R') (fun _ _ => rfl) dL_law_155 mlL_87 imX5_thrown seX5_thrown rfl rfl (m_thrown _) (by decide) (Nat.le_of_ble_eq_true rfl) (Nat.le_of_ble_eq_true rfl) (Nat.le_of_ble_eq_true rfl) ?_
    rintro _ _ ⟨rfl, rfl⟩
    refine g_iload dL_law_158 rfl ?_
    refine g_icmp_eq (tgt := 165) dL_law_160 (by decide) (fun c160 => ?_) (fun c160 => ?_)
    · refine g_goto (tgt := 1228) dL_law_165 (by decide) ?_
      exact l_end _ _ _ _ _ _
    · exact absurd ht c160
  · have ht := hm.1 h1
    refine g_aload_n dL_law_154 rfl rfl ?_
    refine cV0N (W := wRf S' (wOut o')) (S := R') (fun _ _ => rfl) dL_law_155 mlL_87 imX5_thrown seX5_thrown rfl rfl (m_thrown _) (by decide) (Nat.le_of_ble_eq_true rfl) (Nat.le_of_ble_eq_true rfl) (Nat.le_of_ble_eq_true rfl) ?_
    rintro _ _ ⟨rfl, rfl⟩
    refine g_iload dL_law_158 rfl ?_
    refine g_icmp_eq (tgt := 165) dL_law_160 (by decide) (fun c160 => ?_) (fun c160 => ?_)
    · refine g_goto (tgt := 1228) dL_law_165 (by decide) ?_
      exact l_end _ _ _ _ _ _
    · exact absurd ht c160
  · have ht := hm.2.1 h1 h2
    refine g_aload_n dL_law_154 rfl rfl ?_
    refine cV0N (W := wRf S' (wOut o')) (S := R') (fun _ _ => rfl) dL_law_155 mlL_87 imX5_thrown seX5_thrown rfl rfl (m_thrown _) (by decide) (Nat.le_of_ble_eq_true rfl) (Nat.le_of_ble_eq_true rfl) (Nat.le_of_ble_eq_true rfl) ?_
    rintro _ _ ⟨rfl, rfl⟩
    refine g_iload dL_law_158 rfl ?_
    refine g_icmp_eq (tgt := 165) dL_law_160 (by decide) (fun c160 => ?_) (fun c160 => ?_)
    · refine g_goto (tgt := 1228) dL_law_165 (by decide) ?_
      exact l_end _ _ _ _ _ _
    · exact absurd ht c160
set_option maxRecDepth 100000 in
set_option maxHeartbeats 400000 in
theorem lk_version {b : Nat} {xs : Nat → Int32} (R C : gS) (o : Nat → Int64) (f : Fr C) (g : Fm R) (hg : ∀ x : Int32, ¬ x < 0 → x < 24032 → dget C x = fdm x.toNatClampNeg) : GE (gxL b 4 xs) ML_law (12, 440) 264 [none, some (.ref 0), some (.ref 28), some (.ref 48), some (.int (nI 0)), none, none, none] [] (wOf (rtl R (wOut o)) C) 10 100 gTrue := by
  refine g_aload_n dL_law_264 rfl rfl ?_
  refine g_aload_n dL_law_265 rfl rfl ?_
  refine g_callS (as := [.ref 0, .ref 48]) dL_law_266 mlL_94 isL_version rfl rfl (w_version R o C f) (by decide) (Nat.le_of_ble_eq_true rfl) (Nat.le_of_ble_eq_true rfl) (Nat.le_of_ble_eq_true rfl) (Or.inl (fun r9 w9 h9 => by obtain ⟨_, _, _, _, rfl, _⟩ := h9; rfl)) ?_ (fun E9 w9 h9 => by obtain ⟨_, _, _, h9, _⟩ := h9; cases h9)
  rintro v9 w9 ⟨k, S', o', h1, rfl, hk⟩
  cases h1
  show GE _ _ _ _ _ _ (wRf S' (wOut o') R) _ _ _
  refine g_istore dL_law_269 (by decide) ?_
  refine g_aload_n dL_law_271 rfl rfl ?_
  refine cV0N (W := wRf S' (wOut o')) (S := R) (fun _ _ => rfl) dL_law_272 mlL_97 imX5_version seX5_version rfl rfl (m_version _ g) (by decide) (Nat.le_of_ble_eq_true rfl) (Nat.le_of_ble_eq_true rfl) (Nat.le_of_ble_eq_true rfl) ?_
  rintro _ R' ⟨rfl, ht⟩
  refine g_istore dL_law_275 (by decide) ?_
  obtain ⟨rfl, hv⟩ := hk
  refine g_aload_n dL_law_277 rfl rfl ?_
  refine cV0N (W := wRf S' (wOut o')) (S := R') (fun _ _ => rfl) dL_law_278 mlL_87 imX5_thrown seX5_thrown rfl rfl (m_thrown _) (by decide) (Nat.le_of_ble_eq_true rfl) (Nat.le_of_ble_eq_true rfl) (Nat.le_of_ble_eq_true rfl) ?_
  rintro _ _ ⟨rfl, rfl⟩
  refine g_iload dL_law_281 rfl ?_
  refine g_icmp_eq (tgt := 288) dL_law_283 (by decide) (fun c283 => ?_) (fun c283 => ?_)
  · refine g_iload dL_law_288 rfl ?_
    refine g_if_ne (tgt := 305) dL_law_290 (by decide) (fun c290 => ?_) (fun c290 => ?_)
    · first | exact absurd rfl c290 | exact g_goto (tgt := 1228) dL_law_305 (by decide) (l_end _ _ _ _ _ _)
    · refine g_aload_n dL_law_293 rfl rfl ?_
      refine g_iconst (v := 0) dL_law_294 (by decide) ?_
      refine g_lald dL_law_295 rfl (vp_in_nI (n := 0) (by decide) (by decide)) ?_
      refine g_iload dL_law_296 rfl ?_
      refine g_i2l dL_law_298 ?_
      refine g_lcmp dL_law_299 ?_
      refine g_if_eq (tgt := 305) dL_law_300 (by decide) (fun c300 => ?_) (fun c300 => ?_)
      · first | exact absurd rfl c290 | exact g_goto (tgt := 1228) dL_law_305 (by decide) (l_end _ _ _ _ _ _)
      · exact absurd (cmp_eq (show o' 0 = _ from hv)) c300
  · exact absurd ht c283
set_option maxRecDepth 100000 in
set_option maxHeartbeats 400000 in
theorem lk_keep {b : Nat} {xs : Nat → Int32} (R C : gS) (o : Nat → Int64) (f : Fr C) (g : Fm R) (hg : ∀ x : Int32, ¬ x < 0 → x < 24032 → dget C x = fdm x.toNatClampNeg) : GE (gxL b 4 xs) ML_law (12, 440) 432 [none, some (.ref 0), some (.ref 28), some (.ref 48), some (.int (nI 0)), none, none, none] [] (wOf (rtl R (wOut o)) C) 10 100 gTrue := by
  refine g_aload_n dL_law_432 rfl rfl ?_
  refine g_aload_n dL_law_433 rfl rfl ?_
  refine g_callS (as := [.ref 0, .ref 48]) dL_law_434 mlL_106 isL_keep rfl rfl (w_keep R o C f) (by decide) (Nat.le_of_ble_eq_true rfl) (Nat.le_of_ble_eq_true rfl) (Nat.le_of_ble_eq_true rfl) (Or.inl (fun r9 w9 h9 => by obtain ⟨_, _, _, _, rfl, _⟩ := h9; rfl)) ?_ (fun E9 w9 h9 => by obtain ⟨_, _, _, h9, _⟩ := h9; cases h9)
  rintro v9 w9 ⟨k, S', o', h1, rfl, hk⟩
  cases h1
  show GE _ _ _ _ _ _ (wRf S' (wOut o') R) _ _ _
  refine g_istore dL_law_437 (by decide) ?_
  refine g_aload_n dL_law_439 rfl rfl ?_
  refine cV0N (W := wRf S' (wOut o')) (S := R) (fun _ _ => rfl) dL_law_440 mlL_108 imX5_keep seX5_keep rfl rfl (m_keep _ g) (by decide) (Nat.le_of_ble_eq_true rfl) (Nat.le_of_ble_eq_true rfl) (Nat.le_of_ble_eq_true rfl) ?_
  rintro _ R' ⟨rfl, ht⟩
  refine g_istore dL_law_443 (by decide) ?_
  obtain ⟨rfl, hv⟩ := hk
  refine g_aload_n dL_law_445 rfl rfl ?_
  refine cV0N (W := wRf S' (wOut o')) (S := R') (fun _ _ => rfl) dL_law_446 mlL_87 imX5_thrown seX5_thrown rfl rfl (m_thrown _) (by decide) (Nat.le_of_ble_eq_true rfl) (Nat.le_of_ble_eq_true rfl) (Nat.le_of_ble_eq_true rfl) ?_
  rintro _ _ ⟨rfl, rfl⟩
  refine g_iload dL_law_449 rfl ?_
  refine g_icmp_eq (tgt := 456) dL_law_451 (by decide) (fun c451 => ?_) (fun c451 => ?_)
  · refine g_iload dL_law_456 rfl ?_
    refine g_if_ne (tgt := 473) dL_law_458 (by decide) (fun c458 => ?_) (fun c458 => ?_)
    · first | exact absurd rfl c458 | exact g_goto (tgt := 1228) dL_law_473 (by decide) (l_end _ _ _ _ _ _)
    · refine g_aload_n dL_law_461 rfl rfl ?_
      refine g_iconst (v := 0) dL_law_462 (by decide) ?_
      refine g_lald dL_law_463 rfl (vp_in_nI (n := 0) (by decide) (by decide)) ?_
      refine g_iload dL_law_464 rfl ?_
      refine g_i2l dL_law_466 ?_
      refine g_lcmp dL_law_467 ?_
      refine g_if_eq (tgt := 473) dL_law_468 (by decide) (fun c468 => ?_) (fun c468 => ?_)
      · first | exact absurd rfl c458 | exact g_goto (tgt := 1228) dL_law_473 (by decide) (l_end _ _ _ _ _ _)
      · exact absurd (cmp_eq (show o' 0 = _ from hv)) c468
  · exact absurd ht c451
set_option maxRecDepth 100000 in
set_option maxHeartbeats 400000 in
theorem lk_badAt {b : Nat} {xs : Nat → Int32} (R C : gS) (o : Nat → Int64) (f : Fr C) (g : Fm R) (hg : ∀ x : Int32, ¬ x < 0 → x < 24032 → dget C x = fdm x.toNatClampNeg) : GE (gxL b 4 xs) ML_law (12, 440) 638 [none, some (.ref 0), some (.ref 28), some (.ref 48), some (.int (nI 0)), none, none, none] [] (wOf (rtl R (wOut o)) C) 10 100 gTrue := by
  refine g_aload_n dL_law_638 rfl rfl ?_
  refine g_aload_n dL_law_639 rfl rfl ?_
  refine g_callS (as := [.ref 0, .ref 48]) dL_law_640 mlL_123 isL_badAt rfl rfl (w_badAt R o C f) (by decide) (Nat.le_of_ble_eq_true rfl) (Nat.le_of_ble_eq_true rfl) (Nat.le_of_ble_eq_true rfl) (Or.inl (fun r9 w9 h9 => by obtain ⟨_, _, _, _, rfl, _⟩ := h9; rfl)) ?_ (fun E9 w9 h9 => by obtain ⟨_, _, _, h9, _⟩ := h9; cases h9)
  rintro v9 w9 ⟨k, S', o', h1, rfl, hk⟩
  cases h1
  show GE _ _ _ _ _ _ (wRf S' (wOut o') R) _ _ _
  refine g_istore dL_law_643 (by decide) ?_
  refine g_aload_n dL_law_645 rfl rfl ?_
  refine cV0N (W := wRf S' (wOut o')) (S := R) (fun _ _ => rfl) dL_law_646 mlL_125 imX5_badAt seX5_badAt rfl rfl (m_badAt _ g) (by decide) (Nat.le_of_ble_eq_true rfl) (Nat.le_of_ble_eq_true rfl) (Nat.le_of_ble_eq_true rfl) ?_
  rintro _ R' ⟨rfl, ht⟩
  refine g_istore dL_law_649 (by decide) ?_
  obtain ⟨rfl, hv⟩ := hk
  refine g_aload_n dL_law_651 rfl rfl ?_
  refine cV0N (W := wRf S' (wOut o')) (S := R') (fun _ _ => rfl) dL_law_652 mlL_87 imX5_thrown seX5_thrown rfl rfl (m_thrown _) (by decide) (Nat.le_of_ble_eq_true rfl) (Nat.le_of_ble_eq_true rfl) (Nat.le_of_ble_eq_true rfl) ?_
  rintro _ _ ⟨rfl, rfl⟩
  refine g_iload dL_law_655 rfl ?_
  refine g_icmp_eq (tgt := 662) dL_law_657 (by decide) (fun c657 => ?_) (fun c657 => ?_)
  · refine g_iload dL_law_662 rfl ?_
    refine g_if_ne (tgt := 679) dL_law_664 (by decide) (fun c664 => ?_) (fun c664 => ?_)
    · first | exact absurd rfl c664 | exact g_goto (tgt := 1228) dL_law_679 (by decide) (l_end _ _ _ _ _ _)
    · refine g_aload_n dL_law_667 rfl rfl ?_
      refine g_iconst (v := 0) dL_law_668 (by decide) ?_
      refine g_lald dL_law_669 rfl (vp_in_nI (n := 0) (by decide) (by decide)) ?_
      refine g_iload dL_law_670 rfl ?_
      refine g_i2l dL_law_672 ?_
      refine g_lcmp dL_law_673 ?_
      refine g_if_eq (tgt := 679) dL_law_674 (by decide) (fun c674 => ?_) (fun c674 => ?_)
      · first | exact absurd rfl c664 | exact g_goto (tgt := 1228) dL_law_679 (by decide) (l_end _ _ _ _ _ _)
      · exact absurd (cmp_eq (show o' 0 = _ from hv)) c674
  · exact absurd ht c657
set_option maxRecDepth 100000 in
set_option maxHeartbeats 400000 in
theorem lk_answer {b : Nat} {xs : Nat → Int32} (R C : gS) (o : Nat → Int64) (f : Fr C) (g : Fm R) (hg : ∀ x : Int32, ¬ x < 0 → x < 24032 → dget C x = fdm x.toNatClampNeg) : GE (gxL b 4 xs) ML_law (12, 440) 308 [none, some (.ref 0), some (.ref 28), some (.ref 48), some (.int (nI 0)), none, none, none] [] (wOf (rtl R (wOut o)) C) 10 100 gTrue := by
  refine g_aload_n dL_law_308 rfl rfl ?_
  refine g_sldc (v := 1) dL_law_309 dL_law_310 dL_law_312 dL_law_313 dL_law_314 (by decide) rfl (by unfold vp_in; decide) ?_
  refine g_sldc (v := 2) dL_law_315 dL_law_316 dL_law_318 dL_law_319 dL_law_320 (by decide) rfl (by unfold vp_in; decide) ?_
  refine g_aload_n dL_law_321 rfl rfl ?_
  refine g_callS (as := [.ref 0, .int (xs (nI 0 + 1).toNatClampNeg), .int (xs (nI 0 + 2).toNatClampNeg), .ref 48]) dL_law_322 mlL_98 isL_answer rfl rfl (w_answer R o C _ _ f) (by decide) (Nat.le_of_ble_eq_true rfl) (Nat.le_of_ble_eq_true rfl) (Nat.le_of_ble_eq_true rfl) (Or.inl (fun r9 w9 h9 => by obtain ⟨_, _, _, _, rfl, _⟩ := h9; rfl)) ?_ (fun E9 w9 h9 => by obtain ⟨_, _, _, h9, _⟩ := h9; cases h9)
  rintro v9 w9 ⟨k, S', o', h1, rfl, hk⟩
  cases h1
  show GE _ _ _ _ _ _ (wRf S' (wOut o') R) _ _ _
  refine g_istore dL_law_325 (by decide) ?_
  refine g_aload_n dL_law_327 rfl rfl ?_
  refine g_sldc (v := 1) dL_law_328 dL_law_329 dL_law_331 dL_law_332 dL_law_333 (by decide) rfl (by unfold vp_in; decide) ?_
  refine g_sldc (v := 2) dL_law_334 dL_law_335 dL_law_337 dL_law_338 dL_law_339 (by decide) rfl (by unfold vp_in; decide) ?_
  refine cV2N (W := wRf S' (wOut o')) (S := R) (fun _ _ => rfl) dL_law_340 mlL_101 imX5_answer seX5_answer rfl rfl (m_answer _ _ _ g) (by decide) (Nat.le_of_ble_eq_true rfl) (Nat.le_of_ble_eq_true rfl) (Nat.le_of_ble_eq_true rfl) ?_
  rintro _ R' ⟨r, rfl, ht⟩
  refine g_istore dL_law_343 (by decide) ?_
  subst hk
  refine g_aload_n dL_law_345 rfl rfl ?_
  refine cV0N (W := wRf S' (wOut o')) (S := R') (fun _ _ => rfl) dL_law_346 mlL_87 imX5_thrown seX5_thrown rfl rfl (m_thrown _) (by decide) (Nat.le_of_ble_eq_true rfl) (Nat.le_of_ble_eq_true rfl) (Nat.le_of_ble_eq_true rfl) ?_
  rintro _ _ ⟨rfl, rfl⟩
  refine g_iload dL_law_349 rfl ?_
  refine g_icmp_eq (tgt := 356) dL_law_351 (by decide) (fun c351 => ?_) (fun c351 => ?_)
  · refine g_iload dL_law_356 rfl ?_
    refine g_if_ne (tgt := 373) dL_law_358 (by decide) (fun c358 => ?_) (fun c358 => ?_)
    · exact g_goto (tgt := 1228) dL_law_373 (by decide) (l_end _ _ _ _ _ _)
    · exact absurd c358 (by decide)
  · exact absurd ht c351
set_option maxRecDepth 100000 in
set_option maxHeartbeats 400000 in
theorem lk_drop {b : Nat} {xs : Nat → Int32} (R C : gS) (o : Nat → Int64) (f : Fr C) (g : Fm R) (hg : ∀ x : Int32, ¬ x < 0 → x < 24032 → dget C x = fdm x.toNatClampNeg) : GE (gxL b 4 xs) ML_law (12, 440) 376 [none, some (.ref 0), some (.ref 28), some (.ref 48), some (.int (nI 0)), none, none, none] [] (wOf (rtl R (wOut o)) C) 10 100 gTrue := by
  refine g_aload_n dL_law_376 rfl rfl ?_
  refine g_sldc (v := 1) dL_law_377 dL_law_378 dL_law_380 dL_law_381 dL_law_382 (by decide) rfl (by unfold vp_in; decide) ?_
  refine g_aload_n dL_law_383 rfl rfl ?_
  refine g_callS (as := [.ref 0, .int (xs (nI 0 + 1).toNatClampNeg), .ref 48]) dL_law_384 mlL_102 isL_drop rfl rfl (w_drop R o C _ f) (by decide) (Nat.le_of_ble_eq_true rfl) (Nat.le_of_ble_eq_true rfl) (Nat.le_of_ble_eq_true rfl) (Or.inl (fun r9 w9 h9 => by obtain ⟨_, _, _, _, rfl, _⟩ := h9; rfl)) ?_ (fun E9 w9 h9 => by obtain ⟨_, _, _, h9, _⟩ := h9; cases h9)
  rintro v9 w9 ⟨k, S', o', h1, rfl, hk⟩
  cases h1
  show GE _ _ _ _ _ _ (wRf S' (wOut o') R) _ _ _
  refine g_istore dL_law_387 (by decide) ?_
  refine g_aload_n dL_law_389 rfl rfl ?_
  refine g_sldc (v := 1) dL_law_390 dL_law_391 dL_law_393 dL_law_394 dL_law_395 (by decide) rfl (by unfold vp_in; decide) ?_
  refine cV1N (W := wRf S' (wOut o')) (S := R) (fun _ _ => rfl) dL_law_396 mlL_105 imX5_drop seX5_drop rfl rfl (m_drop _ _ g) (by decide) (Nat.le_of_ble_eq_true rfl) (Nat.le_of_ble_eq_true rfl) (Nat.le_of_ble_eq_true rfl) ?_
  rintro _ R' ⟨r, rfl, ht⟩
  refine g_istore dL_law_399 (by decide) ?_
  subst hk
  refine g_aload_n dL_law_401 rfl rfl ?_
  refine cV0N (W := wRf S' (wOut o')) (S := R') (fun _ _ => rfl) dL_law_402 mlL_87 imX5_thrown seX5_thrown rfl rfl (m_thrown _) (by decide) (Nat.le_of_ble_eq_true rfl) (Nat.le_of_ble_eq_true rfl) (Nat.le_of_ble_eq_true rfl) ?_
  rintro _ _ ⟨rfl, rfl⟩
  refine g_iload dL_law_405 rfl ?_
  refine g_icmp_eq (tgt := 412) dL_law_407 (by decide) (fun c407 => ?_) (fun c407 => ?_)
  · refine g_iload dL_law_412 rfl ?_
    refine g_if_ne (tgt := 429) dL_law_414 (by decide) (fun c414 => ?_) (fun c414 => ?_)
    · exact g_goto (tgt := 1228) dL_law_429 (by decide) (l_end _ _ _ _ _ _)
    · exact absurd c414 (by decide)
  · exact absurd ht c407
set_option maxRecDepth 100000 in
set_option maxHeartbeats 400000 in
theorem lk_chunk {b : Nat} {xs : Nat → Int32} (R C : gS) (o : Nat → Int64) (f : Fr C) (g : Fm R) (hg : ∀ x : Int32, ¬ x < 0 → x < 24032 → dget C x = fdm x.toNatClampNeg) : GE (gxL b 4 xs) ML_law (12, 440) 769 [none, some (.ref 0), some (.ref 28), some (.ref 48), some (.int (nI 0)), none, none, none] [] (wOf (rtl R (wOut o)) C) 10 100 gTrue := by
  refine g_aload_n dL_law_769 rfl rfl ?_
  refine g_sldc (v := 1) dL_law_770 dL_law_771 dL_law_773 dL_law_774 dL_law_775 (by decide) rfl (by unfold vp_in; decide) ?_
  refine g_sldc (v := 2) dL_law_776 dL_law_777 dL_law_779 dL_law_780 dL_law_781 (by decide) rfl (by unfold vp_in; decide) ?_
  refine g_aload_n dL_law_782 rfl rfl ?_
  refine g_callS (as := [.ref 0, .int (xs (nI 0 + 1).toNatClampNeg), .int (xs (nI 0 + 2).toNatClampNeg), .ref 48]) dL_law_783 mlL_130 isL_chunk rfl rfl (w_chunk R o C _ _ f) (by decide) (Nat.le_of_ble_eq_true rfl) (Nat.le_of_ble_eq_true rfl) (Nat.le_of_ble_eq_true rfl) (Or.inl (fun r9 w9 h9 => by obtain ⟨_, _, _, _, rfl, _⟩ := h9; rfl)) ?_ (fun E9 w9 h9 => by obtain ⟨_, _, _, h9, _⟩ := h9; cases h9)
  rintro v9 w9 ⟨k, S', o', h1, rfl, hk⟩
  cases h1
  show GE _ _ _ _ _ _ (wRf S' (wOut o') R) _ _ _
  refine g_istore dL_law_786 (by decide) ?_
  refine g_aload_n dL_law_788 rfl rfl ?_
  refine g_sldc (v := 1) dL_law_789 dL_law_790 dL_law_792 dL_law_793 dL_law_794 (by decide) rfl (by unfold vp_in; decide) ?_
  refine g_sldc (v := 2) dL_law_795 dL_law_796 dL_law_798 dL_law_799 dL_law_800 (by decide) rfl (by unfold vp_in; decide) ?_
  refine cV2N (W := wRf S' (wOut o')) (S := R) (fun _ _ => rfl) dL_law_801 mlL_132 imX5_chunk seX5_chunk rfl rfl (m_chunk _ _ _ g) (by decide) (Nat.le_of_ble_eq_true rfl) (Nat.le_of_ble_eq_true rfl) (Nat.le_of_ble_eq_true rfl) ?_
  rintro _ R' ⟨r, rfl, ht⟩
  refine g_istore dL_law_804 (by decide) ?_
  subst hk
  refine g_aload_n dL_law_806 rfl rfl ?_
  refine cV0N (W := wRf S' (wOut o')) (S := R') (fun _ _ => rfl) dL_law_807 mlL_87 imX5_thrown seX5_thrown rfl rfl (m_thrown _) (by decide) (Nat.le_of_ble_eq_true rfl) (Nat.le_of_ble_eq_true rfl) (Nat.le_of_ble_eq_true rfl) ?_
  rintro _ _ ⟨rfl, rfl⟩
  refine g_iload dL_law_810 rfl ?_
  refine g_icmp_eq (tgt := 817) dL_law_812 (by decide) (fun c812 => ?_) (fun c812 => ?_)
  · refine g_iload dL_law_817 rfl ?_
    refine g_if_ne (tgt := 834) dL_law_819 (by decide) (fun c819 => ?_) (fun c819 => ?_)
    · exact g_goto (tgt := 1228) dL_law_834 (by decide) (l_end _ _ _ _ _ _)
    · exact absurd c819 (by decide)
  · exact absurd ht c812
set_option maxRecDepth 100000 in
set_option maxHeartbeats 400000 in
theorem lk_usable {b : Nat} {xs : Nat → Int32} (R C : gS) (o : Nat → Int64) (f : Fr C) (g : Fm R) (hg : ∀ x : Int32, ¬ x < 0 → x < 24032 → dget C x = fdm x.toNatClampNeg) : GE (gxL b 4 xs) ML_law (12, 440) 1041 [none, some (.ref 0), some (.ref 28), some (.ref 48), some (.int (nI 0)), none, none, none] [] (wOf (rtl R (wOut o)) C) 10 100 gTrue := by
  refine g_aload_n dL_law_1041 rfl rfl ?_
  refine g_sldc (v := 1) dL_law_1042 dL_law_1043 dL_law_1045 dL_law_1046 dL_law_1047 (by decide) rfl (by unfold vp_in; decide) ?_
  refine g_aload_n dL_law_1048 rfl rfl ?_
  refine g_callS (as := [.ref 0, .int (xs (nI 0 + 1).toNatClampNeg), .ref 48]) dL_law_1049 mlL_142 isL_usable rfl rfl (w_usable R o C _ f) (by decide) (Nat.le_of_ble_eq_true rfl) (Nat.le_of_ble_eq_true rfl) (Nat.le_of_ble_eq_true rfl) (Or.inl (fun r9 w9 h9 => by obtain ⟨_, _, _, _, rfl, _⟩ := h9; rfl)) ?_ (fun E9 w9 h9 => by obtain ⟨_, _, _, h9, _⟩ := h9; cases h9)
  rintro v9 w9 ⟨k, S', o', h1, rfl, hk⟩
  cases h1
  show GE _ _ _ _ _ _ (wRf S' (wOut o') R) _ _ _
  refine g_istore dL_law_1052 (by decide) ?_
  refine g_aload_n dL_law_1054 rfl rfl ?_
  refine g_sldc (v := 1) dL_law_1055 dL_law_1056 dL_law_1058 dL_law_1059 dL_law_1060 (by decide) rfl (by unfold vp_in; decide) ?_
  refine cV1N (W := wRf S' (wOut o')) (S := R) (fun _ _ => rfl) dL_law_1061 mlL_144 imX5_usable seX5_usable rfl rfl (m_usable _ _ g) (by decide) (Nat.le_of_ble_eq_true rfl) (Nat.le_of_ble_eq_true rfl) (Nat.le_of_ble_eq_true rfl) ?_
  rintro _ R' ⟨r, rfl, ht⟩
  refine g_istore dL_law_1064 (by decide) ?_
  subst hk
  refine g_aload_n dL_law_1066 rfl rfl ?_
  refine cV0N (W := wRf S' (wOut o')) (S := R') (fun _ _ => rfl) dL_law_1067 mlL_87 imX5_thrown seX5_thrown rfl rfl (m_thrown _) (by decide) (Nat.le_of_ble_eq_true rfl) (Nat.le_of_ble_eq_true rfl) (Nat.le_of_ble_eq_true rfl) ?_
  rintro _ _ ⟨rfl, rfl⟩
  refine g_iload dL_law_1070 rfl ?_
  refine g_icmp_eq (tgt := 1077) dL_law_1072 (by decide) (fun c1072 => ?_) (fun c1072 => ?_)
  · refine g_iload dL_law_1077 rfl ?_
    refine g_if_ne (tgt := 1101) dL_law_1079 (by decide) (fun c1079 => ?_) (fun c1079 => ?_)
    · exact g_goto (tgt := 1228) dL_law_1101 (by decide) (l_end _ _ _ _ _ _)
    · exact absurd c1079 (by decide)
  · exact absurd ht c1072
set_option maxRecDepth 100000 in
set_option maxHeartbeats 400000 in
theorem lk_mask {b : Nat} {xs : Nat → Int32} (R C : gS) (o : Nat → Int64) (f : Fr C) (g : Fm R) (hg : ∀ x : Int32, ¬ x < 0 → x < 24032 → dget C x = fdm x.toNatClampNeg) : GE (gxL b 4 xs) ML_law (12, 440) 1104 [none, some (.ref 0), some (.ref 28), some (.ref 48), some (.int (nI 0)), none, none, none] [] (wOf (rtl R (wOut o)) C) 10 100 gTrue := by
  refine g_aload_n dL_law_1104 rfl rfl ?_
  refine g_sldc (v := 1) dL_law_1105 dL_law_1106 dL_law_1108 dL_law_1109 dL_law_1110 (by decide) rfl (by unfold vp_in; decide) ?_
  refine g_aload_n dL_law_1111 rfl rfl ?_
  refine g_callS (as := [.ref 0, .int (xs (nI 0 + 1).toNatClampNeg), .ref 48]) dL_law_1112 mlL_145 isL_mask rfl rfl (w_mask R o C _ f) (by decide) (Nat.le_of_ble_eq_true rfl) (Nat.le_of_ble_eq_true rfl) (Nat.le_of_ble_eq_true rfl) (Or.inl (fun r9 w9 h9 => by obtain ⟨_, _, _, _, rfl, _⟩ := h9; rfl)) ?_ (fun E9 w9 h9 => by obtain ⟨_, _, _, h9, _⟩ := h9; cases h9)
  rintro v9 w9 ⟨k, S', o', h1, rfl, hk⟩
  cases h1
  show GE _ _ _ _ _ _ (wRf S' (wOut o') R) _ _ _
  refine g_istore dL_law_1115 (by decide) ?_
  refine g_aload_n dL_law_1117 rfl rfl ?_
  refine g_sldc (v := 1) dL_law_1118 dL_law_1119 dL_law_1121 dL_law_1122 dL_law_1123 (by decide) rfl (by unfold vp_in; decide) ?_
  refine cV1N (W := wRf S' (wOut o')) (S := R) (fun _ _ => rfl) dL_law_1124 mlL_147 imX5_mask seX5_mask rfl rfl (m_mask _ _ g) (by decide) (Nat.le_of_ble_eq_true rfl) (Nat.le_of_ble_eq_true rfl) (Nat.le_of_ble_eq_true rfl) ?_
  rintro _ R' ⟨r, rfl, ht⟩
  refine g_lstore dL_law_1127 (by decide) ?_
  subst hk
  refine g_aload_n dL_law_1129 rfl rfl ?_
  refine cV0N (W := wRf S' (wOut o')) (S := R') (fun _ _ => rfl) dL_law_1130 mlL_87 imX5_thrown seX5_thrown rfl rfl (m_thrown _) (by decide) (Nat.le_of_ble_eq_true rfl) (Nat.le_of_ble_eq_true rfl) (Nat.le_of_ble_eq_true rfl) ?_
  rintro _ _ ⟨rfl, rfl⟩
  refine g_iload dL_law_1133 rfl ?_
  refine g_icmp_eq (tgt := 1140) dL_law_1135 (by decide) (fun c1135 => ?_) (fun c1135 => ?_)
  · refine g_iload dL_law_1140 rfl ?_
    refine g_if_ne (tgt := 1156) dL_law_1142 (by decide) (fun c1142 => ?_) (fun c1142 => ?_)
    · exact g_goto (tgt := 1228) dL_law_1156 (by decide) (l_end _ _ _ _ _ _)
    · exact absurd c1142 (by decide)
  · exact absurd ht c1135
set_option maxRecDepth 100000 in
set_option maxHeartbeats 400000 in
theorem lk_poke {b : Nat} {xs : Nat → Int32} (R C : gS) (o : Nat → Int64) (f : Fr C) (g : Fm R) (hg : ∀ x : Int32, ¬ x < 0 → x < 24032 → dget C x = fdm x.toNatClampNeg) : GE (gxL b 4 xs) ML_law (12, 440) 514 [none, some (.ref 0), some (.ref 28), some (.ref 48), some (.int (nI 0)), none, none, none] [] (wOf (rtl R (wOut o)) C) 10 100 gTrue := by
  refine g_aload_n dL_law_514 rfl rfl ?_
  refine g_sldc (v := 1) dL_law_515 dL_law_516 dL_law_518 dL_law_519 dL_law_520 (by decide) rfl (by unfold vp_in; decide) ?_
  refine g_sldc (v := 2) dL_law_521 dL_law_522 dL_law_524 dL_law_525 dL_law_526 (by decide) rfl (by unfold vp_in; decide) ?_
  refine g_aload_n dL_law_527 rfl rfl ?_
  refine g_callS (as := [.ref 0, .int (xs (nI 0 + 1).toNatClampNeg), .int (xs (nI 0 + 2).toNatClampNeg), .ref 48]) dL_law_528 mlL_117 isL_poke rfl rfl (w_poke R o C _ _) (by decide) (Nat.le_of_ble_eq_true rfl) (Nat.le_of_ble_eq_true rfl) (Nat.le_of_ble_eq_true rfl) (Or.inl (fun r9 w9 h9 => by obtain ⟨_, _, _, _, rfl, _⟩ := h9; rfl)) ?_ (fun E9 w9 h9 => by obtain ⟨_, _, _, h9, _⟩ := h9; cases h9)
  rintro v9 w9 ⟨k, S', o', h1, rfl, hk⟩
  cases h1
  show GE _ _ _ _ _ _ (wRf S' (wOut o') R) _ _ _
  refine g_istore dL_law_531 (by decide) ?_
  refine g_aload_n dL_law_533 rfl rfl ?_
  refine g_sldc (v := 1) dL_law_534 dL_law_535 dL_law_537 dL_law_538 dL_law_539 (by decide) rfl (by unfold vp_in; decide) ?_
  refine g_sldc (v := 2) dL_law_540 dL_law_541 dL_law_543 dL_law_544 dL_law_545 (by decide) rfl (by unfold vp_in; decide) ?_
  refine cV2N (W := wRf S' (wOut o')) (S := R) (fun _ _ => rfl) dL_law_546 mlL_119 imX5_poke seX5_poke rfl rfl (m_poke _ _ _) (by decide) (Nat.le_of_ble_eq_true rfl) (Nat.le_of_ble_eq_true rfl) (Nat.le_of_ble_eq_true rfl) ?_
  rintro _ R' ⟨r, rfl, hm⟩
  refine g_istore dL_law_549 (by decide) ?_
  rcases hk with ⟨rfl, hA, hv⟩ | ⟨rfl, hA⟩
  · obtain ⟨ht, hr⟩ : R'.1 28 0 = 0 ∧ r = R.2.1 29 (xs (nI 0 + 1).toNatClampNeg).toNatClampNeg := by
      rcases hm with ⟨-, ht, hr⟩ | ⟨hB, -⟩
      · exact ⟨ht, hr⟩
      · exact absurd hA hB
    replace hv : o' 0 = r.toInt64 := hv.trans (by rw [hr, hg _ hA.1 hA.2, g.dk])
    refine g_aload_n dL_law_551 rfl rfl ?_
    refine cV0N (W := wRf S' (wOut o')) (S := R') (fun _ _ => rfl) dL_law_552 mlL_87 imX5_thrown seX5_thrown rfl rfl (m_thrown _) (by decide) (Nat.le_of_ble_eq_true rfl) (Nat.le_of_ble_eq_true rfl) (Nat.le_of_ble_eq_true rfl) ?_
    rintro _ _ ⟨rfl, rfl⟩
    refine g_iload dL_law_555 rfl ?_
    refine g_icmp_eq (tgt := 562) dL_law_557 (by decide) (fun c557 => ?_) (fun c557 => ?_)
    · refine g_iload dL_law_562 rfl ?_
      refine g_if_ne (tgt := 579) dL_law_564 (by decide) (fun c564 => ?_) (fun c564 => ?_)
      · first | exact absurd rfl c564 | exact g_goto (tgt := 1228) dL_law_579 (by decide) (l_end _ _ _ _ _ _)
      · refine g_aload_n dL_law_567 rfl rfl ?_
        refine g_iconst (v := 0) dL_law_568 (by decide) ?_
        refine g_lald dL_law_569 rfl (vp_in_nI (n := 0) (by decide) (by decide)) ?_
        refine g_iload dL_law_570 rfl ?_
        refine g_i2l dL_law_572 ?_
        refine g_lcmp dL_law_573 ?_
        refine g_if_eq (tgt := 579) dL_law_574 (by decide) (fun c574 => ?_) (fun c574 => ?_)
        · first | exact absurd rfl c564 | exact g_goto (tgt := 1228) dL_law_579 (by decide) (l_end _ _ _ _ _ _)
        · exact absurd (cmp_eq (show o' 0 = _ from hv)) c574
    · exact absurd ht c557
  · have ht : R'.1 28 0 = 1 := by
      rcases hm with ⟨hB, -, -⟩ | ⟨-, ht⟩
      · exact absurd hB hA
      · exact ht
    refine g_aload_n dL_law_551 rfl rfl ?_
    refine cV0N (W := wRf S' (wOut o')) (S := R') (fun _ _ => rfl) dL_law_552 mlL_87 imX5_thrown seX5_thrown rfl rfl (m_thrown _) (by decide) (Nat.le_of_ble_eq_true rfl) (Nat.le_of_ble_eq_true rfl) (Nat.le_of_ble_eq_true rfl) ?_
    rintro _ _ ⟨rfl, rfl⟩
    refine g_iload dL_law_555 rfl ?_
    refine g_icmp_eq (tgt := 562) dL_law_557 (by decide) (fun c557 => ?_) (fun c557 => ?_)
    · refine g_iload dL_law_562 rfl ?_
      refine g_if_ne (tgt := 579) dL_law_564 (by decide) (fun c564 => ?_) (fun c564 => ?_)
      · exact g_goto (tgt := 1228) dL_law_579 (by decide) (l_end _ _ _ _ _ _)
      · exact absurd c564 (by decide)
    · exact absurd ht c557
set_option maxRecDepth 100000 in
set_option maxHeartbeats 400000 in
theorem lk_byteAt {b : Nat} {xs : Nat → Int32} (R C : gS) (o : Nat → Int64) (f : Fr C) (g : Fm R) (hg : ∀ x : Int32, ¬ x < 0 → x < 24032 → dget C x = fdm x.toNatClampNeg) : GE (gxL b 4 xs) ML_law (12, 440) 582 [none, some (.ref 0), some (.ref 28), some (.ref 48), some (.int (nI 0)), none, none, none] [] (wOf (rtl R (wOut o)) C) 10 100 gTrue := by
  refine g_aload_n dL_law_582 rfl rfl ?_
  refine g_sldc (v := 1) dL_law_583 dL_law_584 dL_law_586 dL_law_587 dL_law_588 (by decide) rfl (by unfold vp_in; decide) ?_
  refine g_aload_n dL_law_589 rfl rfl ?_
  refine g_callS (as := [.ref 0, .int (xs (nI 0 + 1).toNatClampNeg), .ref 48]) dL_law_590 mlL_120 isL_byteAt rfl rfl (w_byteAt R o C _) (by decide) (Nat.le_of_ble_eq_true rfl) (Nat.le_of_ble_eq_true rfl) (Nat.le_of_ble_eq_true rfl) (Or.inl (fun r9 w9 h9 => by obtain ⟨_, _, _, _, rfl, _⟩ := h9; rfl)) ?_ (fun E9 w9 h9 => by obtain ⟨_, _, _, h9, _⟩ := h9; cases h9)
  rintro v9 w9 ⟨k, S', o', h1, rfl, hk⟩
  cases h1
  show GE _ _ _ _ _ _ (wRf S' (wOut o') R) _ _ _
  refine g_istore dL_law_593 (by decide) ?_
  refine g_aload_n dL_law_595 rfl rfl ?_
  refine g_sldc (v := 1) dL_law_596 dL_law_597 dL_law_599 dL_law_600 dL_law_601 (by decide) rfl (by unfold vp_in; decide) ?_
  refine cV1N (W := wRf S' (wOut o')) (S := R) (fun _ _ => rfl) dL_law_602 mlL_122 imX5_byteAt seX5_byteAt rfl rfl (m_byteAt _ _) (by decide) (Nat.le_of_ble_eq_true rfl) (Nat.le_of_ble_eq_true rfl) (Nat.le_of_ble_eq_true rfl) ?_
  rintro _ R' ⟨r, rfl, hm⟩
  refine g_istore dL_law_605 (by decide) ?_
  rcases hk with ⟨rfl, hA, hv⟩ | ⟨rfl, hA⟩
  · obtain ⟨ht, hr⟩ : R'.1 28 0 = 0 ∧ r = R.2.1 29 (xs (nI 0 + 1).toNatClampNeg).toNatClampNeg := by
      rcases hm with ⟨-, ht, hr⟩ | ⟨hB, -⟩
      · exact ⟨ht, hr⟩
      · exact absurd hA hB
    replace hv : o' 0 = r.toInt64 := hv.trans (by rw [hr, hg _ hA.1 hA.2, g.dk])
    refine g_aload_n dL_law_607 rfl rfl ?_
    refine cV0N (W := wRf S' (wOut o')) (S := R') (fun _ _ => rfl) dL_law_608 mlL_87 imX5_thrown seX5_thrown rfl rfl (m_thrown _) (by decide) (Nat.le_of_ble_eq_true rfl) (Nat.le_of_ble_eq_true rfl) (Nat.le_of_ble_eq_true rfl) ?_
    rintro _ _ ⟨rfl, rfl⟩
    refine g_iload dL_law_611 rfl ?_
    refine g_icmp_eq (tgt := 618) dL_law_613 (by decide) (fun c613 => ?_) (fun c613 => ?_)
    · refine g_iload dL_law_618 rfl ?_
      refine g_if_ne (tgt := 635) dL_law_620 (by decide) (fun c620 => ?_) (fun c620 => ?_)
      · first | exact absurd rfl c620 | exact g_goto (tgt := 1228) dL_law_635 (by decide) (l_end _ _ _ _ _ _)
      · refine g_aload_n dL_law_623 rfl rfl ?_
        refine g_iconst (v := 0) dL_law_624 (by decide) ?_
        refine g_lald dL_law_625 rfl (vp_in_nI (n := 0) (by decide) (by decide)) ?_
        refine g_iload dL_law_626 rfl ?_
        refine g_i2l dL_law_628 ?_
        refine g_lcmp dL_law_629 ?_
        refine g_if_eq (tgt := 635) dL_law_630 (by decide) (fun c630 => ?_) (fun c630 => ?_)
        · first | exact absurd rfl c620 | exact g_goto (tgt := 1228) dL_law_635 (by decide) (l_end _ _ _ _ _ _)
        · exact absurd (cmp_eq (show o' 0 = _ from hv)) c630
    · exact absurd ht c613
  · have ht : R'.1 28 0 = 1 := by
      rcases hm with ⟨hB, -, -⟩ | ⟨-, ht⟩
      · exact absurd hB hA
      · exact ht
    refine g_aload_n dL_law_607 rfl rfl ?_
    refine cV0N (W := wRf S' (wOut o')) (S := R') (fun _ _ => rfl) dL_law_608 mlL_87 imX5_thrown seX5_thrown rfl rfl (m_thrown _) (by decide) (Nat.le_of_ble_eq_true rfl) (Nat.le_of_ble_eq_true rfl) (Nat.le_of_ble_eq_true rfl) ?_
    rintro _ _ ⟨rfl, rfl⟩
    refine g_iload dL_law_611 rfl ?_
    refine g_icmp_eq (tgt := 618) dL_law_613 (by decide) (fun c613 => ?_) (fun c613 => ?_)
    · refine g_iload dL_law_618 rfl ?_
      refine g_if_ne (tgt := 635) dL_law_620 (by decide) (fun c620 => ?_) (fun c620 => ?_)
      · exact g_goto (tgt := 1228) dL_law_635 (by decide) (l_end _ _ _ _ _ _)
      · exact absurd c620 (by decide)
    · exact absurd ht c613
set_option maxRecDepth 100000 in
set_option maxHeartbeats 400000 in
theorem lk_has {b : Nat} {xs : Nat → Int32} (R C : gS) (o : Nat → Int64) (f : Fr C) (g : Fm R) (hg : ∀ x : Int32, ¬ x < 0 → x < 24032 → dget C x = fdm x.toNatClampNeg) : GE (gxL b 4 xs) ML_law (12, 440) 682 [none, some (.ref 0), some (.ref 28), some (.ref 48), some (.int (nI 0)), none, none, none] [] (wOf (rtl R (wOut o)) C) 10 100 gTrue := by
  refine g_aload_n dL_law_682 rfl rfl ?_
  refine g_sldc (v := 1) dL_law_683 dL_law_684 dL_law_686 dL_law_687 dL_law_688 (by decide) rfl (by unfold vp_in; decide) ?_
  refine g_sldc (v := 2) dL_law_689 dL_law_690 dL_law_692 dL_law_693 dL_law_694 (by decide) rfl (by unfold vp_in; decide) ?_
  refine g_sldc (v := 3) dL_law_695 dL_law_696 dL_law_698 dL_law_699 dL_law_700 (by decide) rfl (by unfold vp_in; decide) ?_
  refine g_aload_n dL_law_701 rfl rfl ?_
  refine g_callS (as := [.ref 0, .int (xs (nI 0 + 1).toNatClampNeg), .int (xs (nI 0 + 2).toNatClampNeg), .int (xs (nI 0 + 3).toNatClampNeg), .ref 48]) dL_law_702 mlL_126 isL_has rfl rfl (w_has R o C _ _ _ f) (by decide) (Nat.le_of_ble_eq_true rfl) (Nat.le_of_ble_eq_true rfl) (Nat.le_of_ble_eq_true rfl) (Or.inl (fun r9 w9 h9 => by obtain ⟨_, _, _, _, rfl, _⟩ := h9; rfl)) ?_ (fun E9 w9 h9 => by obtain ⟨_, _, _, h9, _⟩ := h9; cases h9)
  rintro v9 w9 ⟨k, S', o', h1, rfl, hk⟩
  cases h1
  show GE _ _ _ _ _ _ (wRf S' (wOut o') R) _ _ _
  refine g_istore dL_law_705 (by decide) ?_
  refine g_aload_n dL_law_707 rfl rfl ?_
  refine g_sldc (v := 1) dL_law_708 dL_law_709 dL_law_711 dL_law_712 dL_law_713 (by decide) rfl (by unfold vp_in; decide) ?_
  refine g_sldc (v := 2) dL_law_714 dL_law_715 dL_law_717 dL_law_718 dL_law_719 (by decide) rfl (by unfold vp_in; decide) ?_
  refine g_sldc (v := 3) dL_law_720 dL_law_721 dL_law_723 dL_law_724 dL_law_725 (by decide) rfl (by unfold vp_in; decide) ?_
  refine cV3N (W := wRf S' (wOut o')) (S := R) (fun _ _ => rfl) dL_law_726 mlL_129 imX5_has seX5_has rfl rfl (m_has _ _ _ _ g) (by decide) (Nat.le_of_ble_eq_true rfl) (Nat.le_of_ble_eq_true rfl) (Nat.le_of_ble_eq_true rfl) ?_
  rintro _ R' ⟨r, rfl, hm⟩
  refine g_istore dL_law_729 (by decide) ?_
  rcases hk with ⟨rfl, hA, hv⟩ | ⟨rfl, hA⟩
  · obtain ⟨ht, hr⟩ : R'.1 28 0 = 0 ∧ r = 0 := by
      rcases hm with ⟨-, ht, hr⟩ | ⟨hB, -⟩
      · exact ⟨ht, hr⟩
      · exact absurd hA hB
    refine g_aload_n dL_law_731 rfl rfl ?_
    refine cV0N (W := wRf S' (wOut o')) (S := R') (fun _ _ => rfl) dL_law_732 mlL_87 imX5_thrown seX5_thrown rfl rfl (m_thrown _) (by decide) (Nat.le_of_ble_eq_true rfl) (Nat.le_of_ble_eq_true rfl) (Nat.le_of_ble_eq_true rfl) ?_
    rintro _ _ ⟨rfl, rfl⟩
    refine g_iload dL_law_735 rfl ?_
    refine g_icmp_eq (tgt := 742) dL_law_737 (by decide) (fun c737 => ?_) (fun c737 => ?_)
    · refine g_iload dL_law_742 rfl ?_
      refine g_if_ne (tgt := 766) dL_law_744 (by decide) (fun c744 => ?_) (fun c744 => ?_)
      · first | exact absurd rfl c744 | exact g_goto (tgt := 1228) dL_law_766 (by decide) (l_end _ _ _ _ _ _)
      · refine g_aload_n dL_law_747 rfl rfl ?_
        refine g_iconst (v := 0) dL_law_748 (by decide) ?_
        refine g_lald dL_law_749 rfl (vp_in_nI (n := 0) (by decide) (by decide)) ?_
        refine g_iload dL_law_750 rfl ?_
        refine g_if_eq (tgt := 759) dL_law_752 (by decide) (fun c752 => ?_) (fun c752 => ?_)
        · refine g_lconst (v := 0) dL_law_759 (by decide) ?_
          refine g_lcmp dL_law_760 ?_
          refine g_if_eq (tgt := 766) dL_law_761 (by decide) (fun c761 => ?_) (fun c761 => ?_)
          · first | exact absurd rfl c744 | exact g_goto (tgt := 1228) dL_law_766 (by decide) (l_end _ _ _ _ _ _)
          · exact absurd (cmp_eq (show o' 0 = _ from hv)) c761
        · exact absurd hr c752
    · exact absurd ht c737
  · have ht : R'.1 28 0 = 2 := by
      rcases hm with ⟨hB, -, -⟩ | ⟨-, ht⟩
      · exact absurd hB hA
      · exact ht
    refine g_aload_n dL_law_731 rfl rfl ?_
    refine cV0N (W := wRf S' (wOut o')) (S := R') (fun _ _ => rfl) dL_law_732 mlL_87 imX5_thrown seX5_thrown rfl rfl (m_thrown _) (by decide) (Nat.le_of_ble_eq_true rfl) (Nat.le_of_ble_eq_true rfl) (Nat.le_of_ble_eq_true rfl) ?_
    rintro _ _ ⟨rfl, rfl⟩
    refine g_iload dL_law_735 rfl ?_
    refine g_icmp_eq (tgt := 742) dL_law_737 (by decide) (fun c737 => ?_) (fun c737 => ?_)
    · refine g_iload dL_law_742 rfl ?_
      refine g_if_ne (tgt := 766) dL_law_744 (by decide) (fun c744 => ?_) (fun c744 => ?_)
      · exact g_goto (tgt := 1228) dL_law_766 (by decide) (l_end _ _ _ _ _ _)
      · exact absurd c744 (by decide)
    · exact absurd ht c737
set_option maxRecDepth 100000 in
set_option maxHeartbeats 400000 in
theorem lk_named {b : Nat} {xs : Nat → Int32} (R C : gS) (o : Nat → Int64) (f : Fr C) (g : Fm R) (hg : ∀ x : Int32, ¬ x < 0 → x < 24032 → dget C x = fdm x.toNatClampNeg) : GE (gxL b 4 xs) ML_law (12, 440) 837 [none, some (.ref 0), some (.ref 28), some (.ref 48), some (.int (nI 0)), none, none, none] [] (wOf (rtl R (wOut o)) C) 10 100 gTrue := by
  refine g_aload_n dL_law_837 rfl rfl ?_
  refine g_sldc (v := 1) dL_law_838 dL_law_839 dL_law_841 dL_law_842 dL_law_843 (by decide) rfl (by unfold vp_in; decide) ?_
  refine g_aload_n dL_law_844 rfl rfl ?_
  refine g_callS (as := [.ref 0, .int (xs (nI 0 + 1).toNatClampNeg), .ref 48]) dL_law_845 mlL_133 isL_named rfl rfl (w_named R o C _ f) (by decide) (Nat.le_of_ble_eq_true rfl) (Nat.le_of_ble_eq_true rfl) (Nat.le_of_ble_eq_true rfl) (Or.inl (fun r9 w9 h9 => by obtain ⟨_, _, _, _, rfl, _⟩ := h9; rfl)) ?_ (fun E9 w9 h9 => by obtain ⟨_, _, _, h9, _⟩ := h9; cases h9)
  rintro v9 w9 ⟨k, S', o', h1, rfl, hk⟩
  cases h1
  show GE _ _ _ _ _ _ (wRf S' (wOut o') R) _ _ _
  refine g_istore dL_law_848 (by decide) ?_
  refine g_aload_n dL_law_850 rfl rfl ?_
  refine g_sldc (v := 1) dL_law_851 dL_law_852 dL_law_854 dL_law_855 dL_law_856 (by decide) rfl (by unfold vp_in; decide) ?_
  refine cV1N (W := wRf S' (wOut o')) (S := R) (fun _ _ => rfl) dL_law_857 mlL_135 imX5_named seX5_named rfl rfl (m_named _ _ g) (by decide) (Nat.le_of_ble_eq_true rfl) (Nat.le_of_ble_eq_true rfl) (Nat.le_of_ble_eq_true rfl) ?_
  rintro _ R' ⟨r, rfl, hm⟩
  refine g_istore dL_law_860 (by decide) ?_
  rcases hk with ⟨rfl, hA, hv⟩ | ⟨rfl, hA⟩
  · obtain ⟨ht, hr⟩ : R'.1 28 0 = 0 ∧ r = 0 := by
      rcases hm with ⟨-, ht, hr⟩ | ⟨hB, -⟩
      · exact ⟨ht, hr⟩
      · exact absurd hA hB
    replace hv : o' 0 = r.toInt64 := hv.trans (by rw [hr])
    refine g_aload_n dL_law_862 rfl rfl ?_
    refine cV0N (W := wRf S' (wOut o')) (S := R') (fun _ _ => rfl) dL_law_863 mlL_87 imX5_thrown seX5_thrown rfl rfl (m_thrown _) (by decide) (Nat.le_of_ble_eq_true rfl) (Nat.le_of_ble_eq_true rfl) (Nat.le_of_ble_eq_true rfl) ?_
    rintro _ _ ⟨rfl, rfl⟩
    refine g_iload dL_law_866 rfl ?_
    refine g_icmp_eq (tgt := 873) dL_law_868 (by decide) (fun c868 => ?_) (fun c868 => ?_)
    · refine g_iload dL_law_873 rfl ?_
      refine g_if_ne (tgt := 890) dL_law_875 (by decide) (fun c875 => ?_) (fun c875 => ?_)
      · first | exact absurd rfl c875 | exact g_goto (tgt := 1228) dL_law_890 (by decide) (l_end _ _ _ _ _ _)
      · refine g_aload_n dL_law_878 rfl rfl ?_
        refine g_iconst (v := 0) dL_law_879 (by decide) ?_
        refine g_lald dL_law_880 rfl (vp_in_nI (n := 0) (by decide) (by decide)) ?_
        refine g_iload dL_law_881 rfl ?_
        refine g_i2l dL_law_883 ?_
        refine g_lcmp dL_law_884 ?_
        refine g_if_eq (tgt := 890) dL_law_885 (by decide) (fun c885 => ?_) (fun c885 => ?_)
        · first | exact absurd rfl c875 | exact g_goto (tgt := 1228) dL_law_890 (by decide) (l_end _ _ _ _ _ _)
        · exact absurd (cmp_eq (show o' 0 = _ from hv)) c885
    · exact absurd ht c868
  · have ht : R'.1 28 0 = 2 := by
      rcases hm with ⟨hB, -, -⟩ | ⟨-, ht⟩
      · exact absurd hB hA
      · exact ht
    refine g_aload_n dL_law_862 rfl rfl ?_
    refine cV0N (W := wRf S' (wOut o')) (S := R') (fun _ _ => rfl) dL_law_863 mlL_87 imX5_thrown seX5_thrown rfl rfl (m_thrown _) (by decide) (Nat.le_of_ble_eq_true rfl) (Nat.le_of_ble_eq_true rfl) (Nat.le_of_ble_eq_true rfl) ?_
    rintro _ _ ⟨rfl, rfl⟩
    refine g_iload dL_law_866 rfl ?_
    refine g_icmp_eq (tgt := 873) dL_law_868 (by decide) (fun c868 => ?_) (fun c868 => ?_)
    · refine g_iload dL_law_873 rfl ?_
      refine g_if_ne (tgt := 890) dL_law_875 (by decide) (fun c875 => ?_) (fun c875 => ?_)
      · exact g_goto (tgt := 1228) dL_law_890 (by decide) (l_end _ _ _ _ _ _)
      · exact absurd c875 (by decide)
    · exact absurd ht c868
set_option maxRecDepth 100000 in
set_option maxHeartbeats 400000 in
theorem lk_differ {b : Nat} {xs : Nat → Int32} (R C : gS) (o : Nat → Int64) (f : Fr C) (g : Fm R) (hg : ∀ x : Int32, ¬ x < 0 → x < 24032 → dget C x = fdm x.toNatClampNeg) : GE (gxL b 4 xs) ML_law (12, 440) 893 [none, some (.ref 0), some (.ref 28), some (.ref 48), some (.int (nI 0)), none, none, none] [] (wOf (rtl R (wOut o)) C) 10 100 gTrue := by
  refine g_aload_n dL_law_893 rfl rfl ?_
  refine g_sldc (v := 1) dL_law_894 dL_law_895 dL_law_897 dL_law_898 dL_law_899 (by decide) rfl (by unfold vp_in; decide) ?_
  refine g_sldc (v := 2) dL_law_900 dL_law_901 dL_law_903 dL_law_904 dL_law_905 (by decide) rfl (by unfold vp_in; decide) ?_
  refine g_aload_n dL_law_906 rfl rfl ?_
  refine g_callS (as := [.ref 0, .int (xs (nI 0 + 1).toNatClampNeg), .int (xs (nI 0 + 2).toNatClampNeg), .ref 48]) dL_law_907 mlL_136 isL_differ rfl rfl (w_differ R o C _ _ f) (by decide) (Nat.le_of_ble_eq_true rfl) (Nat.le_of_ble_eq_true rfl) (Nat.le_of_ble_eq_true rfl) (Or.inl (fun r9 w9 h9 => by obtain ⟨_, _, _, _, rfl, _⟩ := h9; rfl)) ?_ (fun E9 w9 h9 => by obtain ⟨_, _, _, h9, _⟩ := h9; cases h9)
  rintro v9 w9 ⟨k, S', o', h1, rfl, hk⟩
  cases h1
  show GE _ _ _ _ _ _ (wRf S' (wOut o') R) _ _ _
  refine g_istore dL_law_910 (by decide) ?_
  refine g_aload_n dL_law_912 rfl rfl ?_
  refine g_sldc (v := 1) dL_law_913 dL_law_914 dL_law_916 dL_law_917 dL_law_918 (by decide) rfl (by unfold vp_in; decide) ?_
  refine g_sldc (v := 2) dL_law_919 dL_law_920 dL_law_922 dL_law_923 dL_law_924 (by decide) rfl (by unfold vp_in; decide) ?_
  refine cV2N (W := wRf S' (wOut o')) (S := R) (fun _ _ => rfl) dL_law_925 mlL_138 imX5_differ seX5_differ rfl rfl (m_differ _ _ _ g) (by decide) (Nat.le_of_ble_eq_true rfl) (Nat.le_of_ble_eq_true rfl) (Nat.le_of_ble_eq_true rfl) ?_
  rintro _ R' ⟨r, rfl, hm⟩
  refine g_istore dL_law_928 (by decide) ?_
  rcases hk with ⟨rfl, hA, hv⟩ | ⟨rfl, hA⟩
  · obtain ⟨ht, hr⟩ : R'.1 28 0 = 0 ∧ r = 0 := by
      rcases hm with ⟨-, ht, hr⟩ | ⟨hB, -⟩
      · exact ⟨ht, hr⟩
      · exact absurd hA hB
    replace hv : o' 0 = r.toInt64 := hv.trans (by rw [hr])
    refine g_aload_n dL_law_930 rfl rfl ?_
    refine cV0N (W := wRf S' (wOut o')) (S := R') (fun _ _ => rfl) dL_law_931 mlL_87 imX5_thrown seX5_thrown rfl rfl (m_thrown _) (by decide) (Nat.le_of_ble_eq_true rfl) (Nat.le_of_ble_eq_true rfl) (Nat.le_of_ble_eq_true rfl) ?_
    rintro _ _ ⟨rfl, rfl⟩
    refine g_iload dL_law_934 rfl ?_
    refine g_icmp_eq (tgt := 941) dL_law_936 (by decide) (fun c936 => ?_) (fun c936 => ?_)
    · refine g_iload dL_law_941 rfl ?_
      refine g_if_ne (tgt := 958) dL_law_943 (by decide) (fun c943 => ?_) (fun c943 => ?_)
      · first | exact absurd rfl c943 | exact g_goto (tgt := 1228) dL_law_958 (by decide) (l_end _ _ _ _ _ _)
      · refine g_aload_n dL_law_946 rfl rfl ?_
        refine g_iconst (v := 0) dL_law_947 (by decide) ?_
        refine g_lald dL_law_948 rfl (vp_in_nI (n := 0) (by decide) (by decide)) ?_
        refine g_iload dL_law_949 rfl ?_
        refine g_i2l dL_law_951 ?_
        refine g_lcmp dL_law_952 ?_
        refine g_if_eq (tgt := 958) dL_law_953 (by decide) (fun c953 => ?_) (fun c953 => ?_)
        · first | exact absurd rfl c943 | exact g_goto (tgt := 1228) dL_law_958 (by decide) (l_end _ _ _ _ _ _)
        · exact absurd (cmp_eq (show o' 0 = _ from hv)) c953
    · exact absurd ht c936
  · have ht : R'.1 28 0 = 2 := by
      rcases hm with ⟨hB, -, -⟩ | ⟨-, ht⟩
      · exact absurd hB hA
      · exact ht
    refine g_aload_n dL_law_930 rfl rfl ?_
    refine cV0N (W := wRf S' (wOut o')) (S := R') (fun _ _ => rfl) dL_law_931 mlL_87 imX5_thrown seX5_thrown rfl rfl (m_thrown _) (by decide) (Nat.le_of_ble_eq_true rfl) (Nat.le_of_ble_eq_true rfl) (Nat.le_of_ble_eq_true rfl) ?_
    rintro _ _ ⟨rfl, rfl⟩
    refine g_iload dL_law_934 rfl ?_
    refine g_icmp_eq (tgt := 941) dL_law_936 (by decide) (fun c936 => ?_) (fun c936 => ?_)
    · refine g_iload dL_law_941 rfl ?_
      refine g_if_ne (tgt := 958) dL_law_943 (by decide) (fun c943 => ?_) (fun c943 => ?_)
      · exact g_goto (tgt := 1228) dL_law_958 (by decide) (l_end _ _ _ _ _ _)
      · exact absurd c943 (by decide)
    · exact absurd ht c936
set_option maxRecDepth 100000 in
set_option maxHeartbeats 400000 in
theorem lk_far {b : Nat} {xs : Nat → Int32} (R C : gS) (o : Nat → Int64) (f : Fr C) (g : Fm R) (hg : ∀ x : Int32, ¬ x < 0 → x < 24032 → dget C x = fdm x.toNatClampNeg) : GE (gxL b 4 xs) ML_law (12, 440) 961 [none, some (.ref 0), some (.ref 28), some (.ref 48), some (.int (nI 0)), none, none, none] [] (wOf (rtl R (wOut o)) C) 10 100 gTrue := by
  refine g_aload_n dL_law_961 rfl rfl ?_
  refine g_sldc (v := 1) dL_law_962 dL_law_963 dL_law_965 dL_law_966 dL_law_967 (by decide) rfl (by unfold vp_in; decide) ?_
  refine g_sldc (v := 2) dL_law_968 dL_law_969 dL_law_971 dL_law_972 dL_law_973 (by decide) rfl (by unfold vp_in; decide) ?_
  refine g_sldc (v := 3) dL_law_974 dL_law_975 dL_law_977 dL_law_978 dL_law_979 (by decide) rfl (by unfold vp_in; decide) ?_
  refine g_aload_n dL_law_980 rfl rfl ?_
  refine g_callS (as := [.ref 0, .int (xs (nI 0 + 1).toNatClampNeg), .int (xs (nI 0 + 2).toNatClampNeg), .int (xs (nI 0 + 3).toNatClampNeg), .ref 48]) dL_law_981 mlL_139 isL_far rfl rfl (w_far R o C _ _ _ f) (by decide) (Nat.le_of_ble_eq_true rfl) (Nat.le_of_ble_eq_true rfl) (Nat.le_of_ble_eq_true rfl) (Or.inl (fun r9 w9 h9 => by obtain ⟨_, _, _, _, rfl, _⟩ := h9; rfl)) ?_ (fun E9 w9 h9 => by obtain ⟨_, _, _, h9, _⟩ := h9; cases h9)
  rintro v9 w9 ⟨k, S', o', h1, rfl, hk⟩
  cases h1
  show GE _ _ _ _ _ _ (wRf S' (wOut o') R) _ _ _
  refine g_istore dL_law_984 (by decide) ?_
  refine g_aload_n dL_law_986 rfl rfl ?_
  refine g_sldc (v := 1) dL_law_987 dL_law_988 dL_law_990 dL_law_991 dL_law_992 (by decide) rfl (by unfold vp_in; decide) ?_
  refine g_sldc (v := 2) dL_law_993 dL_law_994 dL_law_996 dL_law_997 dL_law_998 (by decide) rfl (by unfold vp_in; decide) ?_
  refine g_sldc (v := 3) dL_law_999 dL_law_1000 dL_law_1002 dL_law_1003 dL_law_1004 (by decide) rfl (by unfold vp_in; decide) ?_
  refine cV3N (W := wRf S' (wOut o')) (S := R) (fun _ _ => rfl) dL_law_1005 mlL_141 imX5_far seX5_far rfl rfl (m_far _ _ _ _ g) (by decide) (Nat.le_of_ble_eq_true rfl) (Nat.le_of_ble_eq_true rfl) (Nat.le_of_ble_eq_true rfl) ?_
  rintro _ R' ⟨r, rfl, hm⟩
  refine g_istore dL_law_1008 (by decide) ?_
  rcases hk with ⟨rfl, hA, hv⟩ | ⟨rfl, hA⟩
  · obtain ⟨ht, hr⟩ : R'.1 28 0 = 0 ∧ r = if xs (nI 0 + 2).toNatClampNeg = xs (nI 0 + 3).toNatClampNeg then 0 else -1 := by
      rcases hm with ⟨-, ht, hr⟩ | ⟨hB, -⟩
      · exact ⟨ht, hr⟩
      · exact absurd hA hB
    replace hv : o' 0 = r.toInt64 := hv.trans (by rw [hr])
    refine g_aload_n dL_law_1010 rfl rfl ?_
    refine cV0N (W := wRf S' (wOut o')) (S := R') (fun _ _ => rfl) dL_law_1011 mlL_87 imX5_thrown seX5_thrown rfl rfl (m_thrown _) (by decide) (Nat.le_of_ble_eq_true rfl) (Nat.le_of_ble_eq_true rfl) (Nat.le_of_ble_eq_true rfl) ?_
    rintro _ _ ⟨rfl, rfl⟩
    refine g_iload dL_law_1014 rfl ?_
    refine g_icmp_eq (tgt := 1021) dL_law_1016 (by decide) (fun c1016 => ?_) (fun c1016 => ?_)
    · refine g_iload dL_law_1021 rfl ?_
      refine g_if_ne (tgt := 1038) dL_law_1023 (by decide) (fun c1023 => ?_) (fun c1023 => ?_)
      · first | exact absurd rfl c1023 | exact g_goto (tgt := 1228) dL_law_1038 (by decide) (l_end _ _ _ _ _ _)
      · refine g_aload_n dL_law_1026 rfl rfl ?_
        refine g_iconst (v := 0) dL_law_1027 (by decide) ?_
        refine g_lald dL_law_1028 rfl (vp_in_nI (n := 0) (by decide) (by decide)) ?_
        refine g_iload dL_law_1029 rfl ?_
        refine g_i2l dL_law_1031 ?_
        refine g_lcmp dL_law_1032 ?_
        refine g_if_eq (tgt := 1038) dL_law_1033 (by decide) (fun c1033 => ?_) (fun c1033 => ?_)
        · first | exact absurd rfl c1023 | exact g_goto (tgt := 1228) dL_law_1038 (by decide) (l_end _ _ _ _ _ _)
        · exact absurd (cmp_eq (show o' 0 = _ from hv)) c1033
    · exact absurd ht c1016
  · have ht : R'.1 28 0 = 2 := by
      rcases hm with ⟨hB, -, -⟩ | ⟨-, ht⟩
      · exact absurd hB hA
      · exact ht
    refine g_aload_n dL_law_1010 rfl rfl ?_
    refine cV0N (W := wRf S' (wOut o')) (S := R') (fun _ _ => rfl) dL_law_1011 mlL_87 imX5_thrown seX5_thrown rfl rfl (m_thrown _) (by decide) (Nat.le_of_ble_eq_true rfl) (Nat.le_of_ble_eq_true rfl) (Nat.le_of_ble_eq_true rfl) ?_
    rintro _ _ ⟨rfl, rfl⟩
    refine g_iload dL_law_1014 rfl ?_
    refine g_icmp_eq (tgt := 1021) dL_law_1016 (by decide) (fun c1016 => ?_) (fun c1016 => ?_)
    · refine g_iload dL_law_1021 rfl ?_
      refine g_if_ne (tgt := 1038) dL_law_1023 (by decide) (fun c1023 => ?_) (fun c1023 => ?_)
      · exact g_goto (tgt := 1228) dL_law_1038 (by decide) (l_end _ _ _ _ _ _)
      · exact absurd c1023 (by decide)
    · exact absurd ht c1016
set_option maxRecDepth 100000 in
set_option maxHeartbeats 400000 in
theorem lk_told {b : Nat} {xs : Nat → Int32} (R C : gS) (o : Nat → Int64) (f : Fr C) (g : Fm R) (hg : ∀ x : Int32, ¬ x < 0 → x < 24032 → dget C x = fdm x.toNatClampNeg) : GE (gxL b 4 xs) ML_law (12, 440) 1159 [none, some (.ref 0), some (.ref 28), some (.ref 48), some (.int (nI 0)), none, none, none] [] (wOf (rtl R (wOut o)) C) 10 100 gTrue := by
  refine g_aload_n dL_law_1159 rfl rfl ?_
  refine g_sldc (v := 1) dL_law_1160 dL_law_1161 dL_law_1163 dL_law_1164 dL_law_1165 (by decide) rfl (by unfold vp_in; decide) ?_
  refine g_aload_n dL_law_1166 rfl rfl ?_
  refine g_callS (as := [.ref 0, .int (xs (nI 0 + 1).toNatClampNeg), .ref 48]) dL_law_1167 mlL_148 isL_told rfl rfl (w_told R o C _ f) (by decide) (Nat.le_of_ble_eq_true rfl) (Nat.le_of_ble_eq_true rfl) (Nat.le_of_ble_eq_true rfl) (Or.inl (fun r9 w9 h9 => by obtain ⟨_, _, _, _, rfl, _⟩ := h9; rfl)) ?_ (fun E9 w9 h9 => by obtain ⟨_, _, _, h9, _⟩ := h9; cases h9)
  rintro v9 w9 ⟨k, S', o', h1, rfl, hk⟩
  cases h1
  show GE _ _ _ _ _ _ (wRf S' (wOut o') R) _ _ _
  refine g_istore dL_law_1170 (by decide) ?_
  refine g_aload_n dL_law_1172 rfl rfl ?_
  refine g_sldc (v := 1) dL_law_1173 dL_law_1174 dL_law_1176 dL_law_1177 dL_law_1178 (by decide) rfl (by unfold vp_in; decide) ?_
  refine cV1N (W := wRf S' (wOut o')) (S := R) (fun _ _ => rfl) dL_law_1179 mlL_150 imX5_told seX5_told rfl rfl (m_told _ _ g) (by decide) (Nat.le_of_ble_eq_true rfl) (Nat.le_of_ble_eq_true rfl) (Nat.le_of_ble_eq_true rfl) ?_
  rintro _ R' ⟨r, rfl, hm⟩
  refine g_istore dL_law_1182 (by decide) ?_
  rcases hk with ⟨rfl, hA, hv⟩ | ⟨rfl, hA⟩
  · obtain ⟨ht, hr⟩ : R'.1 28 0 = 0 ∧ r = 0 := by
      rcases hm with ⟨-, ht, hr⟩ | ⟨hB, -⟩
      · exact ⟨ht, hr⟩
      · exact absurd hA hB
    replace hv : o' 0 = r.toInt64 := hv.trans (by rw [hr])
    refine g_aload_n dL_law_1184 rfl rfl ?_
    refine cV0N (W := wRf S' (wOut o')) (S := R') (fun _ _ => rfl) dL_law_1185 mlL_87 imX5_thrown seX5_thrown rfl rfl (m_thrown _) (by decide) (Nat.le_of_ble_eq_true rfl) (Nat.le_of_ble_eq_true rfl) (Nat.le_of_ble_eq_true rfl) ?_
    rintro _ _ ⟨rfl, rfl⟩
    refine g_iload dL_law_1188 rfl ?_
    refine g_icmp_eq (tgt := 1195) dL_law_1190 (by decide) (fun c1190 => ?_) (fun c1190 => ?_)
    · refine g_iload dL_law_1195 rfl ?_
      refine g_if_ne (tgt := 1212) dL_law_1197 (by decide) (fun c1197 => ?_) (fun c1197 => ?_)
      · first | exact absurd rfl c1197 | exact g_goto (tgt := 1228) dL_law_1212 (by decide) (l_end _ _ _ _ _ _)
      · refine g_aload_n dL_law_1200 rfl rfl ?_
        refine g_iconst (v := 0) dL_law_1201 (by decide) ?_
        refine g_lald dL_law_1202 rfl (vp_in_nI (n := 0) (by decide) (by decide)) ?_
        refine g_iload dL_law_1203 rfl ?_
        refine g_i2l dL_law_1205 ?_
        refine g_lcmp dL_law_1206 ?_
        refine g_if_eq (tgt := 1212) dL_law_1207 (by decide) (fun c1207 => ?_) (fun c1207 => ?_)
        · first | exact absurd rfl c1197 | exact g_goto (tgt := 1228) dL_law_1212 (by decide) (l_end _ _ _ _ _ _)
        · exact absurd (cmp_eq (show o' 0 = _ from hv)) c1207
    · exact absurd ht c1190
  · have ht : R'.1 28 0 = 2 := by
      rcases hm with ⟨hB, -, -⟩ | ⟨-, ht⟩
      · exact absurd hB hA
      · exact ht
    refine g_aload_n dL_law_1184 rfl rfl ?_
    refine cV0N (W := wRf S' (wOut o')) (S := R') (fun _ _ => rfl) dL_law_1185 mlL_87 imX5_thrown seX5_thrown rfl rfl (m_thrown _) (by decide) (Nat.le_of_ble_eq_true rfl) (Nat.le_of_ble_eq_true rfl) (Nat.le_of_ble_eq_true rfl) ?_
    rintro _ _ ⟨rfl, rfl⟩
    refine g_iload dL_law_1188 rfl ?_
    refine g_icmp_eq (tgt := 1195) dL_law_1190 (by decide) (fun c1190 => ?_) (fun c1190 => ?_)
    · refine g_iload dL_law_1195 rfl ?_
      refine g_if_ne (tgt := 1212) dL_law_1197 (by decide) (fun c1197 => ?_) (fun c1197 => ?_)
      · exact g_goto (tgt := 1228) dL_law_1212 (by decide) (l_end _ _ _ _ _ _)
      · exact absurd c1197 (by decide)
    · exact absurd ht c1190
set_option maxRecDepth 100000 in
set_option maxHeartbeats 400000 in
theorem lk_crash {b : Nat} {xs : Nat → Int32} (R C : gS) (o : Nat → Int64) (f : Fr C) (g : Fm R) (hg : ∀ x : Int32, ¬ x < 0 → x < 24032 → dget C x = fdm x.toNatClampNeg) : GE (gxL b 4 xs) ML_law (12, 440) 476 [none, some (.ref 0), some (.ref 28), some (.ref 48), some (.int (nI 0)), none, none, none] [] (wOf (rtl R (wOut o)) C) 10 100 gTrue := by
  refine g_aload_n dL_law_476 rfl rfl ?_
  refine g_sldc (v := 1) dL_law_477 dL_law_478 dL_law_480 dL_law_481 dL_law_482 (by decide) rfl (by unfold vp_in; decide) ?_
  refine cV1N (W := wOf (rtl R (wOut o))) (S := C) (fun _ _ => rfl) dL_law_483 mlL_109 imX4_crash seX4_crash rfl rfl (c_crash _ _ f.h0) (by decide) (Nat.le_of_ble_eq_true rfl) (Nat.le_of_ble_eq_true rfl) (Nat.le_of_ble_eq_true rfl) ?_
  rintro _ S' ⟨⟨r, rfl, hr⟩, -⟩
  show GE _ _ _ _ _ _ (wRf S' (wOut o) R) _ _ _
  refine g_aload_n dL_law_486 rfl rfl ?_
  refine g_sldc (v := 1) dL_law_487 dL_law_488 dL_law_490 dL_law_491 dL_law_492 (by decide) rfl (by unfold vp_in; decide) ?_
  refine cV1N (W := wRf S' (wOut o)) (S := R) (fun _ _ => rfl) dL_law_493 mlL_112 imX5_crash seX5_crash rfl rfl (m_crash _ _ g) (by decide) (Nat.le_of_ble_eq_true rfl) (Nat.le_of_ble_eq_true rfl) (Nat.le_of_ble_eq_true rfl) ?_
  rintro _ R' ⟨rfl, -⟩
  refine g_icmp_eq (tgt := 1228) dL_law_496 (by decide) (fun c496 => ?_) (fun c496 => ?_)
  · exact l_end _ _ _ _ _ _
  · exact absurd (hr f) c496
set_option maxRecDepth 100000 in
set_option maxHeartbeats 400000 in
theorem lk_open {b : Nat} {xs : Nat → Int32} (R C : gS) (o : Nat → Int64) (f : Fr C) (g : Fm R) (hg : ∀ x : Int32, ¬ x < 0 → x < 24032 → dget C x = fdm x.toNatClampNeg) : GE (gxL b 4 xs) ML_law (12, 440) 501 [none, some (.ref 0), some (.ref 28), some (.ref 48), some (.int (nI 0)), none, none, none] [] (wOf (rtl R (wOut o)) C) 10 100 gTrue := by
  refine g_aload_n dL_law_501 rfl rfl ?_
  refine cV0N (W := wOf (rtl R (wOut o))) (S := C) (fun _ _ => rfl) dL_law_502 mlL_113 imX4_open seX4_open rfl rfl (c_open _ f.h0) (by decide) (Nat.le_of_ble_eq_true rfl) (Nat.le_of_ble_eq_true rfl) (Nat.le_of_ble_eq_true rfl) ?_
  rintro _ S' ⟨⟨r, rfl, hr⟩, -⟩
  show GE _ _ _ _ _ _ (wRf S' (wOut o) R) _ _ _
  refine g_aload_n dL_law_505 rfl rfl ?_
  refine cV0N (W := wRf S' (wOut o)) (S := R) (fun _ _ => rfl) dL_law_506 mlL_116 imX5_open seX5_open rfl rfl (m_open _ g) (by decide) (Nat.le_of_ble_eq_true rfl) (Nat.le_of_ble_eq_true rfl) (Nat.le_of_ble_eq_true rfl) ?_
  rintro _ R' ⟨rfl, -⟩
  refine g_icmp_eq (tgt := 1228) dL_law_509 (by decide) (fun c509 => ?_) (fun c509 => ?_)
  · exact l_end _ _ _ _ _ _
  · exact absurd (hr f) c509
set_option maxRecDepth 100000 in
set_option maxHeartbeats 400000 in
theorem lk_isOpen {b : Nat} {xs : Nat → Int32} (R C : gS) (o : Nat → Int64) (f : Fr C) (g : Fm R) (hg : ∀ x : Int32, ¬ x < 0 → x < 24032 → dget C x = fdm x.toNatClampNeg) : GE (gxL b 4 xs) ML_law (12, 440) 1215 [none, some (.ref 0), some (.ref 28), some (.ref 48), some (.int (nI 0)), none, none, none] [] (wOf (rtl R (wOut o)) C) 10 100 gTrue := by
  refine g_aload_n dL_law_1215 rfl rfl ?_
  refine cV0N (W := wOf (rtl R (wOut o))) (S := C) (fun _ _ => rfl) dL_law_1216 mlL_151 imX4_isOpen seX4_isOpen rfl rfl (c_isOpen _ (Or.inr f.1.1)) (by decide) (Nat.le_of_ble_eq_true rfl) (Nat.le_of_ble_eq_true rfl) (Nat.le_of_ble_eq_true rfl) ?_
  rintro _ S' ⟨rfl, -⟩
  show GE _ _ _ _ _ _ (wRf S' (wOut o) R) _ _ _
  refine g_aload_n dL_law_1219 rfl rfl ?_
  refine cV0N (W := wRf S' (wOut o)) (S := R) (fun _ _ => rfl) dL_law_1220 mlL_155 imX5_isOpen seX5_isOpen rfl rfl (m_isOpen _ g) (by decide) (Nat.le_of_ble_eq_true rfl) (Nat.le_of_ble_eq_true rfl) (Nat.le_of_ble_eq_true rfl) ?_
  rintro _ R' ⟨rfl, -⟩
  refine g_icmp_eq (tgt := 1228) dL_law_1223 (by decide) (fun c1223 => ?_) (fun c1223 => ?_)
  · exact l_end _ _ _ _ _ _
  · exact absurd (f.1.1) c1223
set_option maxRecDepth 100000 in
set_option maxHeartbeats 400000 in
theorem lk_edge {b : Nat} {xs : Nat → Int32} (R C : gS) (o : Nat → Int64) (f : Fr C) (g : Fm R) (hg : ∀ x : Int32, ¬ x < 0 → x < 24032 → dget C x = fdm x.toNatClampNeg) : GE (gxL b 4 xs) ML_law (12, 440) 168 [none, some (.ref 0), some (.ref 28), some (.ref 48), some (.int (nI 0)), none, none, none] [] (wOf (rtl R (wOut o)) C) 10 100 gTrue := by
  refine g_aload_n dL_law_168 rfl rfl ?_
  refine g_sldc (v := 1) dL_law_169 dL_law_170 dL_law_172 dL_law_173 dL_law_174 (by decide) rfl (by unfold vp_in; decide) ?_
  refine g_sldc (v := 2) dL_law_175 dL_law_176 dL_law_178 dL_law_179 dL_law_180 (by decide) rfl (by unfold vp_in; decide) ?_
  refine g_sldc (v := 3) dL_law_181 dL_law_182 dL_law_184 dL_law_185 dL_law_186 (by decide) rfl (by unfold vp_in; decide) ?_
  refine g_if_eq (tgt := 194) dL_law_187 (by decide) (fun c187 => ?_) (fun c187 => ?_)
  · refine g_iconst (v := 0) dL_law_194 (by decide) ?_
    refine g_aload_n dL_law_195 rfl rfl ?_
    refine g_callS (as := [.ref 0, .int (xs (nI 0 + 1).toNatClampNeg), .int (xs (nI 0 + 2).toNatClampNeg), .int 0, .ref 48]) dL_law_196 mlL_90 isL_edge rfl rfl (w_edge R o C _ _ 0 (Or.inl rfl) f) (by decide) (Nat.le_of_ble_eq_true rfl) (Nat.le_of_ble_eq_true rfl) (Nat.le_of_ble_eq_true rfl) (Or.inl (fun r9 w9 h9 => by obtain ⟨_, _, _, _, rfl, _⟩ := h9; rfl)) ?_ (fun E9 w9 h9 => by obtain ⟨_, _, _, h9, _⟩ := h9; cases h9)
    rintro v9 w9 ⟨k, S', o', h1, rfl, hk⟩
    cases h1
    show GE _ _ _ _ _ _ (wRf S' (wOut o') R) _ _ _
    refine g_istore dL_law_199 (by decide) ?_
    refine g_aload_n dL_law_201 rfl rfl ?_
    refine g_sldc (v := 1) dL_law_202 dL_law_203 dL_law_205 dL_law_206 dL_law_207 (by decide) rfl (by unfold vp_in; decide) ?_
    refine g_sldc (v := 2) dL_law_208 dL_law_209 dL_law_211 dL_law_212 dL_law_213 (by decide) rfl (by unfold vp_in; decide) ?_
    refine g_sldc (v := 3) dL_law_214 dL_law_215 dL_law_217 dL_law_218 dL_law_219 (by decide) rfl (by unfold vp_in; decide) ?_
    refine g_if_eq (tgt := 227) dL_law_220 (by decide) (fun c220 => ?_) (fun c220 => ?_)
    · refine g_iconst (v := 0) dL_law_227 (by decide) ?_
      refine cV3N (W := wRf S' (wOut o')) (S := R) (fun _ _ => rfl) dL_law_228 mlL_93 imX5_edge seX5_edge rfl rfl (m_edge _ _ _ 0 (Or.inl rfl) g) (by decide) (Nat.le_of_ble_eq_true rfl) (Nat.le_of_ble_eq_true rfl) (Nat.le_of_ble_eq_true rfl) ?_
      rintro _ R' ⟨r, rfl, hm⟩
      refine g_istore dL_law_231 (by decide) ?_
      rcases hk with ⟨rfl, hA, hv⟩ | ⟨rfl, hA⟩
      · obtain ⟨ht, hr⟩ : R'.1 28 0 = 0 ∧ r = 0 := by
          rcases hm with ⟨-, ht, hr⟩ | ⟨hB, -⟩
          · exact ⟨ht, hr⟩
          · exact absurd hA hB
        replace hv : o' 0 = r.toInt64 := hv.trans (by rw [hr])
        refine g_aload_n dL_law_233 rfl rfl ?_
        refine cV0N (W := wRf S' (wOut o')) (S := R') (fun _ _ => rfl) dL_law_234 mlL_87 imX5_thrown seX5_thrown rfl rfl (m_thrown _) (by decide) (Nat.le_of_ble_eq_true rfl) (Nat.le_of_ble_eq_true rfl) (Nat.le_of_ble_eq_true rfl) ?_
        rintro _ _ ⟨rfl, rfl⟩
        refine g_iload dL_law_237 rfl ?_
        refine g_icmp_eq (tgt := 244) dL_law_239 (by decide) (fun c239 => ?_) (fun c239 => ?_)
        · refine g_iload dL_law_244 rfl ?_
          refine g_if_ne (tgt := 261) dL_law_246 (by decide) (fun c246 => ?_) (fun c246 => ?_)
          · first | exact absurd rfl c246 | exact g_goto (tgt := 1228) dL_law_261 (by decide) (l_end _ _ _ _ _ _)
          · refine g_aload_n dL_law_249 rfl rfl ?_
            refine g_iconst (v := 0) dL_law_250 (by decide) ?_
            refine g_lald dL_law_251 rfl (vp_in_nI (n := 0) (by decide) (by decide)) ?_
            refine g_iload dL_law_252 rfl ?_
            refine g_i2l dL_law_254 ?_
            refine g_lcmp dL_law_255 ?_
            refine g_if_eq (tgt := 261) dL_law_256 (by decide) (fun c256 => ?_) (fun c256 => ?_)
            · first | exact absurd rfl c246 | exact g_goto (tgt := 1228) dL_law_261 (by decide) (l_end _ _ _ _ _ _)
            · exact absurd (cmp_eq (show o' 0 = _ from hv)) c256
        · exact absurd ht c239
      · have ht : R'.1 28 0 = 2 := by
          rcases hm with ⟨hB, -, -⟩ | ⟨-, ht⟩
          · exact absurd hB hA
          · exact ht
        refine g_aload_n dL_law_233 rfl rfl ?_
        refine cV0N (W := wRf S' (wOut o')) (S := R') (fun _ _ => rfl) dL_law_234 mlL_87 imX5_thrown seX5_thrown rfl rfl (m_thrown _) (by decide) (Nat.le_of_ble_eq_true rfl) (Nat.le_of_ble_eq_true rfl) (Nat.le_of_ble_eq_true rfl) ?_
        rintro _ _ ⟨rfl, rfl⟩
        refine g_iload dL_law_237 rfl ?_
        refine g_icmp_eq (tgt := 244) dL_law_239 (by decide) (fun c239 => ?_) (fun c239 => ?_)
        · refine g_iload dL_law_244 rfl ?_
          refine g_if_ne (tgt := 261) dL_law_246 (by decide) (fun c246 => ?_) (fun c246 => ?_)
          · exact g_goto (tgt := 1228) dL_law_261 (by decide) (l_end _ _ _ _ _ _)
          · exact absurd c246 (by decide)
        · exact absurd ht c239
    · exact absurd c187 c220
  · refine g_iconst (v := 1) dL_law_190 (by decide) ?_
    refine g_goto (tgt := 195) dL_law_191 (by decide) ?_
    refine g_aload_n dL_law_195 rfl rfl ?_
    refine g_callS (as := [.ref 0, .int (xs (nI 0 + 1).toNatClampNeg), .int (xs (nI 0 + 2).toNatClampNeg), .int 1, .ref 48]) dL_law_196 mlL_90 isL_edge rfl rfl (w_edge R o C _ _ 1 (Or.inr rfl) f) (by decide) (Nat.le_of_ble_eq_true rfl) (Nat.le_of_ble_eq_true rfl) (Nat.le_of_ble_eq_true rfl) (Or.inl (fun r9 w9 h9 => by obtain ⟨_, _, _, _, rfl, _⟩ := h9; rfl)) ?_ (fun E9 w9 h9 => by obtain ⟨_, _, _, h9, _⟩ := h9; cases h9)
    rintro v9 w9 ⟨k, S', o', h1, rfl, hk⟩
    cases h1
    show GE _ _ _ _ _ _ (wRf S' (wOut o') R) _ _ _
    refine g_istore dL_law_199 (by decide) ?_
    refine g_aload_n dL_law_201 rfl rfl ?_
    refine g_sldc (v := 1) dL_law_202 dL_law_203 dL_law_205 dL_law_206 dL_law_207 (by decide) rfl (by unfold vp_in; decide) ?_
    refine g_sldc (v := 2) dL_law_208 dL_law_209 dL_law_211 dL_law_212 dL_law_213 (by decide) rfl (by unfold vp_in; decide) ?_
    refine g_sldc (v := 3) dL_law_214 dL_law_215 dL_law_217 dL_law_218 dL_law_219 (by decide) rfl (by unfold vp_in; decide) ?_
    refine g_if_eq (tgt := 227) dL_law_220 (by decide) (fun c220 => ?_) (fun c220 => ?_)
    · exact absurd c220 c187
    · refine g_iconst (v := 1) dL_law_223 (by decide) ?_
      refine g_goto (tgt := 228) dL_law_224 (by decide) ?_
      refine cV3N (W := wRf S' (wOut o')) (S := R) (fun _ _ => rfl) dL_law_228 mlL_93 imX5_edge seX5_edge rfl rfl (m_edge _ _ _ 1 (Or.inr rfl) g) (by decide) (Nat.le_of_ble_eq_true rfl) (Nat.le_of_ble_eq_true rfl) (Nat.le_of_ble_eq_true rfl) ?_
      rintro _ R' ⟨r, rfl, hm⟩
      refine g_istore dL_law_231 (by decide) ?_
      rcases hk with ⟨rfl, hA, hv⟩ | ⟨rfl, hA⟩
      · obtain ⟨ht, hr⟩ : R'.1 28 0 = 0 ∧ r = 1 := by
          rcases hm with ⟨-, ht, hr⟩ | ⟨hB, -⟩
          · exact ⟨ht, hr⟩
          · exact absurd hA hB
        replace hv : o' 0 = r.toInt64 := hv.trans (by rw [hr])
        refine g_aload_n dL_law_233 rfl rfl ?_
        refine cV0N (W := wRf S' (wOut o')) (S := R') (fun _ _ => rfl) dL_law_234 mlL_87 imX5_thrown seX5_thrown rfl rfl (m_thrown _) (by decide) (Nat.le_of_ble_eq_true rfl) (Nat.le_of_ble_eq_true rfl) (Nat.le_of_ble_eq_true rfl) ?_
        rintro _ _ ⟨rfl, rfl⟩
        refine g_iload dL_law_237 rfl ?_
        refine g_icmp_eq (tgt := 244) dL_law_239 (by decide) (fun c239 => ?_) (fun c239 => ?_)
        · refine g_iload dL_law_244 rfl ?_
          refine g_if_ne (tgt := 261) dL_law_246 (by decide) (fun c246 => ?_) (fun c246 => ?_)
          · first | exact absurd rfl c246 | exact g_goto (tgt := 1228) dL_law_261 (by decide) (l_end _ _ _ _ _ _)
          · refine g_aload_n dL_law_249 rfl rfl ?_
            refine g_iconst (v := 0) dL_law_250 (by decide) ?_
            refine g_lald dL_law_251 rfl (vp_in_nI (n := 0) (by decide) (by decide)) ?_
            refine g_iload dL_law_252 rfl ?_
            refine g_i2l dL_law_254 ?_
            refine g_lcmp dL_law_255 ?_
            refine g_if_eq (tgt := 261) dL_law_256 (by decide) (fun c256 => ?_) (fun c256 => ?_)
            · first | exact absurd rfl c246 | exact g_goto (tgt := 1228) dL_law_261 (by decide) (l_end _ _ _ _ _ _)
            · exact absurd (cmp_eq (show o' 0 = _ from hv)) c256
        · exact absurd ht c239
      · have ht : R'.1 28 0 = 2 := by
          rcases hm with ⟨hB, -, -⟩ | ⟨-, ht⟩
          · exact absurd hB hA
          · exact ht
        refine g_aload_n dL_law_233 rfl rfl ?_
        refine cV0N (W := wRf S' (wOut o')) (S := R') (fun _ _ => rfl) dL_law_234 mlL_87 imX5_thrown seX5_thrown rfl rfl (m_thrown _) (by decide) (Nat.le_of_ble_eq_true rfl) (Nat.le_of_ble_eq_true rfl) (Nat.le_of_ble_eq_true rfl) ?_
        rintro _ _ ⟨rfl, rfl⟩
        refine g_iload dL_law_237 rfl ?_
        refine g_icmp_eq (tgt := 244) dL_law_239 (by decide) (fun c239 => ?_) (fun c239 => ?_)
        · refine g_iload dL_law_244 rfl ?_
          refine g_if_ne (tgt := 261) dL_law_246 (by decide) (fun c246 => ?_) (fun c246 => ?_)
          · exact g_goto (tgt := 1228) dL_law_261 (by decide) (l_end _ _ _ _ _ _)
          · exact absurd c246 (by decide)
        · exact absurd ht c239
set_option maxRecDepth 100000 in
set_option maxHeartbeats 400000 in
theorem l_one {b : Nat} {xs : Nat → Int32} (R C : gS) (o : Nat → Int64) (f : Fr C) (g : Fm R) (hg : ∀ x : Int32, ¬ x < 0 → x < 24032 → dget C x = fdm x.toNatClampNeg) : GE (gxL b 4 xs) ML_law (12, 440) 32 [none, some (.ref 0), some (.ref 28), some (.ref 48), some (.int (nI 0)), none, none, none] [] (wOf (rtl R (wOut o)) C) 10 100 gTrue := by
  refine g_sld0 dL_law_32 dL_law_33 dL_law_35 rfl (by unfold vp_in; decide) ?_
  refine g_bipush (v := 31) dL_law_36 (by decide) ?_
  refine g_iand dL_law_38 ?_
  refine g_tsw (ts := [132, 168, 264, 308, 376, 432, 476, 501, 514, 582, 638, 682, 769, 837, 893, 961, 1041, 1104, 1159, 1215, 1228]) dL_law_39 (by decide) (fun t ht => ?_)
  simp only [List.mem_cons, List.not_mem_nil, or_false] at ht
  rcases ht with rfl | rfl | rfl | rfl | rfl | rfl | rfl | rfl | rfl | rfl | rfl | rfl | rfl | rfl | rfl | rfl | rfl | rfl | rfl | rfl | rfl
  · exact lk_begin R C o f g hg
  · exact lk_edge R C o f g hg
  · exact lk_version R C o f g hg
  · exact lk_answer R C o f g hg
  · exact lk_drop R C o f g hg
  · exact lk_keep R C o f g hg
  · exact lk_crash R C o f g hg
  · exact lk_open R C o f g hg
  · exact lk_poke R C o f g hg
  · exact lk_byteAt R C o f g hg
  · exact lk_badAt R C o f g hg
  · exact lk_has R C o f g hg
  · exact lk_chunk R C o f g hg
  · exact lk_named R C o f g hg
  · exact lk_differ R C o f g hg
  · exact lk_far R C o f g hg
  · exact lk_usable R C o f g hg
  · exact lk_mask R C o f g hg
  · exact lk_told R C o f g hg
  · exact lk_isOpen R C o f g hg
  · exact l_end _ _ _ _ _ _
