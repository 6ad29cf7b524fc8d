section
variable {τ : gW}
theorem vin {x : Int32} {N : Nat} (hN : N < 2 ^ 31) (h1 : ¬ x < 0) (h2 : ¬ Int32.ofNat N ≤ x) : vp_in x N := by
  obtain ⟨j, hj, rfl, -⟩ := pk_mu h1 h2 hN
  exact vp_in_nI hj hN
theorem vin2 {x : Int32} {N : Nat} (hN : N < 2 ^ 31) (h1 : ¬ x < 0) (h2 : x < Int32.ofNat N) : vp_in x N := vin hN h1 (Int32.not_le.mpr h2)
theorem gCt.ofF {M : gM} {d : Nat × Nat} {mc ms : Nat} {avs : List Value} {w : gW} {Q : gR → gW → Prop} {ls : List (Option Value)} (r : Nat) (hpl : plainFor M.1 = true) (hls : gla avs ++ List.replicate r none = ls) (hlen : (lg_sl avs).length ≤ M.2.2.1) (h : G M d 0 ls [] w mc ms Q) : gCt M d mc ms avs w Q := by
  intro l hl D dA κ sz
  refine MetFree.of_bodySF (code := M.2.1) (maxLocals := M.2.2.1) (ret := M.2.2.2.1) hpl ?_ ?_
  · intro args s m hb hn
    obtain ⟨meth, c, h1, h2, h3, h4, h5, h6, -, -⟩ := gcode_spec (atoms_spec (ws := [gcode M]) hb (gcode M) List.mem_cons_self) hn
    exact ⟨meth, c, h1, h2, h3, h4, h5, h6⟩
  · intro p e s m args below meth c s₁ B hml hPc _
    obtain ⟨rfl, hsz, hT, hP, hK, hD, hH⟩ := hPc
    subst hsz
    have hh0 : s₁.heap = s.heap := by rw [B.state]; rfl
    have X₀ := Stand.of_body B
    obtain ⟨meth', c', g1, g2, g3, g4, g5, g6, g7, g8⟩ := gcode_spec (atoms_spec (ws := [gcode M]) B.pre (gcode M) List.mem_cons_self) B.named
    cases g1.symm.trans B.method
    cases g2.symm.trans X₀.code
    have C : gC M d p l { frames := d.1, cells := mc, slots := ms, locals := d.2 } s m meth c (va_A (gk dA κ w) s.heap.size) D dA :=
      ⟨B.exec, B.bytes, hml, B.returns, findClass_of_methodNamed B.named, hT, hK, fun q h => Or.inr h, B.notSynchronized, ⟨Nat.le_refl _, Nat.le_refl _⟩, g7, (name_of_methodNamed B.named B.method).1, hl, hH⟩
    have hl0 := lv_entry (avs.map (gv κ)) (n := M.2.2.1) (by rw [gsl_len]; exact hlen)
    have hl1 : lv_has ((lg_sl (avs.map (gv κ)) ++ List.replicate (M.2.2.1 - (lg_sl (avs.map (gv κ))).length) Slot.unset).toArray) M.2.2.1 (gas κ 0 ls) := by
      rw [← hls, gas_none, gas_gla]; exact hl0
    have K := h p l e { frames := d.1, cells := mc, slots := ms, locals := d.2 } s m (avs.map (gv κ)).toArray below meth c (va_A (gk dA κ w) s.heap.size) D dA κ w.length C trivial κ s.heap [] _ 0 0 ⟨⟨Nat.le_refl _, fun _ => rfl, fun _ _ => rfl⟩, by simp, by simp, hl1, hP, hD.self, va_S.rf⟩
    obtain ⟨t, a1, o, b1, b2, b3, L, b4, b5⟩ := K s₁ hh0 X₀
    refine ⟨t, o, ?_, b1, b2, b3, L, b4, b5⟩
    rw [lg_entry_eq]
    exact a1
theorem g_mmin {X : gXs} {M : gM} {d : Nat × Nat} {pc : Nat} {ls : List (Option Value)} {st : List Value} {w : gW} {k n : Nat} {Q : gR → gW → Prop} {index : Nat} {x y : Int32} (hd : decode M.2.1 pc = .ok (.invokestatic index, 3)) (hl : gL M.1.cls index MJ9_min_7cf53 2) (hi : Cond.static yJ9_min_7cf53 ∈ gT) (hr : 1 ≤ d.1 ∧ (st.map fun v => v.category).sum + 13 ≤ d.2) (hlk : Cond.methodLink M.1.cls index Lib.Math.min.name ∈ gT) (kk : GE X M d (pc + 3) ls (.int (if y < x then y else x) :: st) w k n Q) : GE X M d pc ls (.int y :: .int x :: st) w k n Q := by
  intro p l e R s m args below meth c A D dA κ0 n0 C EX κ H locs lsr cells slots I
  have hts := gts (args := args) C.2.2.2.2.2.1
  have hR := C.2.2.2.2.2.2.2.2.2.1
  have hi1 := I.2.1
  have hi2 := I.2.2.1
  have hcat : ((st.map (gv κ)).map fun v => v.category).sum = (st.map fun v => v.category).sum := by
    rw [List.map_map]
    exact congrArg List.sum (List.map_congr_left (fun v _ => gv_cat κ v))
  have hcode : (Cond.code Lib.Math.min.name Lib.Math.min.code 2 (some .int)).before args s = true := hts _ hl.1
  exact va_mmin C.1 C.2.1 (by rw [C.2.2.1]; exact I.2.2.2.1.1.symm) C.2.2.2.2.1 (hts _ hlk) (hts _ hi) (hts _ hl.2.1) hcode (by omega) (by rw [hcat]; omega) (by omega) (by omega) hd (kk p l e R s m args below meth c A D dA κ0 n0 C EX κ H locs lsr cells slots I)
theorem g_mmax {X : gXs} {M : gM} {d : Nat × Nat} {pc : Nat} {ls : List (Option Value)} {st : List Value} {w : gW} {k n : Nat} {Q : gR → gW → Prop} {index : Nat} {x y : Int32} (hd : decode M.2.1 pc = .ok (.invokestatic index, 3)) (hl : gL M.1.cls index MJ9_max_7cf53 2) (hi : Cond.static yJ9_max_7cf53 ∈ gT) (hr : 1 ≤ d.1 ∧ (st.map fun v => v.category).sum + 13 ≤ d.2) (hlk : Cond.methodLink M.1.cls index Lib.Math.max.name ∈ gT) (kk : GE X M d (pc + 3) ls (.int (if x < y then y else x) :: st) w k n Q) : GE X M d pc ls (.int y :: .int x :: st) w k n Q := by
  intro p l e R s m args below meth c A D dA κ0 n0 C EX κ H locs lsr cells slots I
  have hts := gts (args := args) C.2.2.2.2.2.1
  have hR := C.2.2.2.2.2.2.2.2.2.1
  have hi1 := I.2.1
  have hi2 := I.2.2.1
  have hcat : ((st.map (gv κ)).map fun v => v.category).sum = (st.map fun v => v.category).sum := by
    rw [List.map_map]
    exact congrArg List.sum (List.map_congr_left (fun v _ => gv_cat κ v))
  have hcode : (Cond.code Lib.Math.max.name Lib.Math.max.code 2 (some .int)).before args s = true := hts _ hl.1
  exact va_mmax C.1 C.2.1 (by rw [C.2.2.1]; exact I.2.2.2.1.1.symm) C.2.2.2.2.1 (hts _ hlk) (hts _ hi) (hts _ hl.2.1) hcode (by omega) (by rw [hcat]; omega) (by omega) (by omega) hd (kk p l e R s m args below meth c A D dA κ0 n0 C EX κ H locs lsr cells slots I)
set_option maxRecDepth 40000 in
theorem mkX1_44 : Cond.methodLink RX1 44 Lib.Math.min.name ∈ gT := gin 250 rfl rfl
set_option maxRecDepth 40000 in
theorem mkX1_50 : Cond.methodLink RX1 50 Lib.Math.max.name ∈ gT := gin 253 rfl rfl
theorem mA_mA (S : gS) (k : Nat) (f g : Nat → Int32) : mA (mA S k f) k g = mA S k g := by
  simp only [mA, Prod.mk.injEq, true_and, and_true]
  funext a
  by_cases h : a = k <;> simp [h]
theorem mL_mL (S : gS) (k : Nat) (f g : Nat → Int64) : mL (mL S k f) k g = mL S k g := by
  simp only [mL, Prod.mk.injEq, true_and]
  funext a
  by_cases h : a = k <;> simp [h]
theorem mA_self (S : gS) (k : Nat) : mA S k (S.2.1 k) = S := by
  obtain ⟨s, a, l⟩ := S
  simp only [mA, Prod.mk.injEq, true_and, and_true]
  funext b
  by_cases h : b = k
  · subst h; simp
  · simp [h]
theorem mL_self (S : gS) (k : Nat) : mL S k (S.2.2 k) = S := by
  obtain ⟨s, a, l⟩ := S
  simp only [mL, Prod.mk.injEq, true_and]
  funext b
  by_cases h : b = k
  · subst h; simp
  · simp [h]
def fillB (f : Nat → Int32) (v : Int32) : Nat → Nat → Int32
  | 0 => f
  | n + 1 => upd (fillB f v n) n v
def fillL (f : Nat → Int64) (v : Int64) : Nat → Nat → Int64
  | 0 => f
  | n + 1 => vp_updL (fillL f v n) n v
set_option maxRecDepth 100000 in
set_option maxHeartbeats 4000000 in
theorem l_fillB (S : gS) (v : Int32) : ∀ (m i : Nat), i + m = 24032 → G MJ7_fill_031fb (0, 0) 5 [some (.ref 2), some (.int v), some (.int (nI i)), some (.int (nI 24032))] [] (wOf τ (mA S 2 (fillB (S.2.1 2) v.toInt8.toInt32 i))) 0 0 (g0 (wOf τ) fun S' => S' = mA S 2 (fillB (S.2.1 2) v.toInt8.toInt32 24032)) := by
  intro m
  induction m with
  | zero =>
    intro i hi
    obtain rfl : i = 24032 := by omega
    refine g_iload_n dJ7_fill_031fb_5 rfl rfl ?_
    refine g_iload_n dJ7_fill_031fb_6 rfl rfl ?_
    refine g_icmp_ge (tgt := 20) dJ7_fill_031fb_7 (by decide) (fun c7 => ?_) (fun c7 => ?_)
    · refine g_vret dJ7_fill_031fb_20 rfl ⟨_, rfl, rfl, ?_⟩
      rfl
    · exact absurd (nI_le (Nat.le_refl _) (by decide)) c7
  | succ m ih =>
    intro i hi
    refine g_iload_n dJ7_fill_031fb_5 rfl rfl ?_
    refine g_iload_n dJ7_fill_031fb_6 rfl rfl ?_
    refine g_icmp_ge (tgt := 20) dJ7_fill_031fb_7 (by decide) (fun c7 => ?_) (fun c7 => ?_)
    · exact absurd c7 (nI_ge (by omega) (by decide))
    · refine g_aload_n dJ7_fill_031fb_10 rfl rfl ?_
      refine g_iload_n dJ7_fill_031fb_11 rfl rfl ?_
      refine g_iload_n dJ7_fill_031fb_12 rfl rfl ?_
      refine p_bast dJ7_fill_031fb_13 rfl (vp_in_nI (by omega) (by decide)) (by with_reducible first | exact wA_2 _ _ _) ?_
      refine g_iinc dJ7_fill_031fb_14 rfl (by decide) (by first | exact gi_1 _ | exact gi_p _) ?_
      refine g_goto (tgt := 5) dJ7_fill_031fb_17 (by decide) ?_
      rw [mA_mA, nI_clamp (by omega)]
      exact ih (i + 1) (by omega)
set_option maxRecDepth 100000 in
set_option maxHeartbeats 4000000 in
theorem c_fillB (S : gS) (v : Int32) : gCt MJ7_fill_031fb (0, 0) 0 0 [.ref 2, .int v] (wOf τ S) (g0 (wOf τ) fun S' => S' = mA S 2 (fillB (S.2.1 2) v.toInt8.toInt32 24032)) := by
  refine gCt.ofF (ls := [some (.ref 2), some (.int v), none, none]) 2 (by decide) rfl (Nat.le_of_ble_eq_true rfl) ?_
  refine g_iconst (v := 0) dJ7_fill_031fb_0 (by decide) ?_
  refine g_istore_n dJ7_fill_031fb_1 rfl (by decide) ?_
  refine g_aload_n dJ7_fill_031fb_2 rfl rfl ?_
  refine g_alen dJ7_fill_031fb_3 rfl (fun _ => rfl) ?_
  refine g_istore_n dJ7_fill_031fb_4 rfl (by decide) ?_
  have h := l_fillB (τ := τ) S v 24032 0 rfl
  rw [show fillB (S.2.1 2) v.toInt8.toInt32 0 = S.2.1 2 from rfl, mA_self] at h
  exact h
set_option maxRecDepth 100000 in
set_option maxHeartbeats 4000000 in
theorem l_fillL5 (S : gS) (v : Int64) : ∀ (m i : Nat), i + m = 64 → G MJ7_fill_d0a16 (0, 0) 6 [some (.ref 5), some (.long v), none, some (.int (nI i)), some (.int (nI 64))] [] (wOf τ (mL S 5 (fillL (S.2.2 5) v i))) 0 0 (g0 (wOf τ) fun S' => S' = mL S 5 (fillL (S.2.2 5) v 64)) := by
  intro m
  induction m with
  | zero =>
    intro i hi
    obtain rfl : i = 64 := by omega
    refine g_iload_n dJ7_fill_d0a16_6 rfl rfl ?_
    refine g_iload dJ7_fill_d0a16_7 rfl ?_
    refine g_icmp_ge (tgt := 22) dJ7_fill_d0a16_9 (by decide) (fun c9 => ?_) (fun c9 => ?_)
    · refine g_vret dJ7_fill_d0a16_22 rfl ⟨_, rfl, rfl, ?_⟩
      rfl
    · exact absurd (nI_le (Nat.le_refl _) (by decide)) c9
  | succ m ih =>
    intro i hi
    refine g_iload_n dJ7_fill_d0a16_6 rfl rfl ?_
    refine g_iload dJ7_fill_d0a16_7 rfl ?_
    refine g_icmp_ge (tgt := 22) dJ7_fill_d0a16_9 (by decide) (fun c9 => ?_) (fun c9 => ?_)
    · exact absurd c9 (nI_ge (by omega) (by decide))
    · refine g_aload_n dJ7_fill_d0a16_12 rfl rfl ?_
      refine g_iload_n dJ7_fill_d0a16_13 rfl rfl ?_
      refine g_lload_n dJ7_fill_d0a16_14 rfl rfl ?_
      refine p_last dJ7_fill_d0a16_15 rfl (vp_in_nI (by omega) (by decide)) (by with_reducible first | exact wA_5 _ _ _) ?_
      refine g_iinc dJ7_fill_d0a16_16 rfl (by decide) (by first | exact gi_1 _ | exact gi_p _) ?_
      refine g_goto (tgt := 6) dJ7_fill_d0a16_19 (by decide) ?_
      rw [mL_mL, nI_clamp (by omega)]
      exact ih (i + 1) (by omega)
set_option maxRecDepth 100000 in
set_option maxHeartbeats 4000000 in
theorem c_fillL5 (S : gS) (v : Int64) : gCt MJ7_fill_d0a16 (0, 0) 0 0 [.ref 5, .long v] (wOf τ S) (g0 (wOf τ) fun S' => S' = mL S 5 (fillL (S.2.2 5) v 64)) := by
  refine gCt.ofF (ls := [some (.ref 5), some (.long v), none, none, none]) 2 (by decide) rfl (Nat.le_of_ble_eq_true rfl) ?_
  refine g_iconst (v := 0) dJ7_fill_d0a16_0 (by decide) ?_
  refine g_istore_n dJ7_fill_d0a16_1 rfl (by decide) ?_
  refine g_aload_n dJ7_fill_d0a16_2 rfl rfl ?_
  refine g_alen dJ7_fill_d0a16_3 rfl (fun _ => rfl) ?_
  refine g_istore dJ7_fill_d0a16_4 (by decide) ?_
  have h := l_fillL5 (τ := τ) S v 64 0 rfl
  rw [show fillL (S.2.2 5) v 0 = S.2.2 5 from rfl, mL_self] at h
  exact h
set_option maxRecDepth 100000 in
set_option maxHeartbeats 4000000 in
theorem l_fillL15 (S : gS) (v : Int64) : ∀ (m i : Nat), i + m = 64 → G MJ7_fill_d0a16 (0, 0) 6 [some (.ref 15), some (.long v), none, some (.int (nI i)), some (.int (nI 64))] [] (wOf τ (mL S 15 (fillL (S.2.2 15) v i))) 0 0 (g0 (wOf τ) fun S' => S' = mL S 15 (fillL (S.2.2 15) v 64)) := by
  intro m
  induction m with
  | zero =>
    intro i hi
    obtain rfl : i = 64 := by omega
    refine g_iload_n dJ7_fill_d0a16_6 rfl rfl ?_
    refine g_iload dJ7_fill_d0a16_7 rfl ?_
    refine g_icmp_ge (tgt := 22) dJ7_fill_d0a16_9 (by decide) (fun c9 => ?_) (fun c9 => ?_)
    · refine g_vret dJ7_fill_d0a16_22 rfl ⟨_, rfl, rfl, ?_⟩
      rfl
    · exact absurd (nI_le (Nat.le_refl _) (by decide)) c9
  | succ m ih =>
    intro i hi
    refine g_iload_n dJ7_fill_d0a16_6 rfl rfl ?_
    refine g_iload dJ7_fill_d0a16_7 rfl ?_
    refine g_icmp_ge (tgt := 22) dJ7_fill_d0a16_9 (by decide) (fun c9 => ?_) (fun c9 => ?_)
    · exact absurd c9 (nI_ge (by omega) (by decide))
    · refine g_aload_n dJ7_fill_d0a16_12 rfl rfl ?_
      refine g_iload_n dJ7_fill_d0a16_13 rfl rfl ?_
      refine g_lload_n dJ7_fill_d0a16_14 rfl rfl ?_
      refine p_last dJ7_fill_d0a16_15 rfl (vp_in_nI (by omega) (by decide)) (by with_reducible first | exact wA_15 _ _ _) ?_
      refine g_iinc dJ7_fill_d0a16_16 rfl (by decide) (by first | exact gi_1 _ | exact gi_p _) ?_
      refine g_goto (tgt := 6) dJ7_fill_d0a16_19 (by decide) ?_
      rw [mL_mL, nI_clamp (by omega)]
      exact ih (i + 1) (by omega)
set_option maxRecDepth 100000 in
set_option maxHeartbeats 4000000 in
theorem c_fillL15 (S : gS) (v : Int64) : gCt MJ7_fill_d0a16 (0, 0) 0 0 [.ref 15, .long v] (wOf τ S) (g0 (wOf τ) fun S' => S' = mL S 15 (fillL (S.2.2 15) v 64)) := by
  refine gCt.ofF (ls := [some (.ref 15), some (.long v), none, none, none]) 2 (by decide) rfl (Nat.le_of_ble_eq_true rfl) ?_
  refine g_iconst (v := 0) dJ7_fill_d0a16_0 (by decide) ?_
  refine g_istore_n dJ7_fill_d0a16_1 rfl (by decide) ?_
  refine g_aload_n dJ7_fill_d0a16_2 rfl rfl ?_
  refine g_alen dJ7_fill_d0a16_3 rfl (fun _ => rfl) ?_
  refine g_istore dJ7_fill_d0a16_4 (by decide) ?_
  have h := l_fillL15 (τ := τ) S v 64 0 rfl
  rw [show fillL (S.2.2 15) v 0 = S.2.2 15 from rfl, mL_self] at h
  exact h
set_option maxRecDepth 100000 in
set_option maxHeartbeats 4000000 in
theorem c_bitCount (S : gS) (x : Int64) : gCt MJ13_bitCount_95d88 (0, 0) 0 0 [.long x] (wOf τ S) (gN (wOf τ) fun v S' => (∃ r : Int32, v = .int r ∧ (x = 0 → r = 0)) ∧ S = S') := by
  refine gCt.ofF (ls := [some (.long x), none]) 0 (by decide) rfl (Nat.le_of_ble_eq_true rfl) ?_
  refine g_lload_n dJ13_bitCount_95d88_0 rfl rfl ?_
  refine g_lload_n dJ13_bitCount_95d88_1 rfl rfl ?_
  refine g_iconst (v := 1) dJ13_bitCount_95d88_2 (by decide) ?_
  refine g_lushr dJ13_bitCount_95d88_3 ?_
  refine g_ldc2 dJ13_bitCount_95d88_4 coJ13_314 ?_
  refine g_land dJ13_bitCount_95d88_7 ?_
  refine g_lsub dJ13_bitCount_95d88_8 ?_
  refine g_lstore_n dJ13_bitCount_95d88_9 rfl (by decide) ?_
  refine g_lload_n dJ13_bitCount_95d88_10 rfl rfl ?_
  refine g_ldc2 dJ13_bitCount_95d88_11 coJ13_316 ?_
  refine g_land dJ13_bitCount_95d88_14 ?_
  refine g_lload_n dJ13_bitCount_95d88_15 rfl rfl ?_
  refine g_iconst (v := 2) dJ13_bitCount_95d88_16 (by decide) ?_
  refine g_lushr dJ13_bitCount_95d88_17 ?_
  refine g_ldc2 dJ13_bitCount_95d88_18 coJ13_316 ?_
  refine g_land dJ13_bitCount_95d88_21 ?_
  refine g_ladd dJ13_bitCount_95d88_22 ?_
  refine g_lstore_n dJ13_bitCount_95d88_23 rfl (by decide) ?_
  refine g_lload_n dJ13_bitCount_95d88_24 rfl rfl ?_
  refine g_lload_n dJ13_bitCount_95d88_25 rfl rfl ?_
  refine g_iconst (v := 4) dJ13_bitCount_95d88_26 (by decide) ?_
  refine g_lushr dJ13_bitCount_95d88_27 ?_
  refine g_ladd dJ13_bitCount_95d88_28 ?_
  refine g_ldc2 dJ13_bitCount_95d88_29 coJ13_318 ?_
  refine g_land dJ13_bitCount_95d88_32 ?_
  refine g_lstore_n dJ13_bitCount_95d88_33 rfl (by decide) ?_
  refine g_lload_n dJ13_bitCount_95d88_34 rfl rfl ?_
  refine g_lload_n dJ13_bitCount_95d88_35 rfl rfl ?_
  refine g_bipush (v := 8) dJ13_bitCount_95d88_36 (by decide) ?_
  refine g_lushr dJ13_bitCount_95d88_38 ?_
  refine g_ladd dJ13_bitCount_95d88_39 ?_
  refine g_lstore_n dJ13_bitCount_95d88_40 rfl (by decide) ?_
  refine g_lload_n dJ13_bitCount_95d88_41 rfl rfl ?_
  refine g_lload_n dJ13_bitCount_95d88_42 rfl rfl ?_
  refine g_bipush (v := 16) dJ13_bitCount_95d88_43 (by decide) ?_
  refine g_lushr dJ13_bitCount_95d88_45 ?_
  refine g_ladd dJ13_bitCount_95d88_46 ?_
  refine g_lstore_n dJ13_bitCount_95d88_47 rfl (by decide) ?_
  refine g_lload_n dJ13_bitCount_95d88_48 rfl rfl ?_
  refine g_lload_n dJ13_bitCount_95d88_49 rfl rfl ?_
  refine g_bipush (v := 32) dJ13_bitCount_95d88_50 (by decide) ?_
  refine g_lushr dJ13_bitCount_95d88_52 ?_
  refine g_ladd dJ13_bitCount_95d88_53 ?_
  refine g_lstore_n dJ13_bitCount_95d88_54 rfl (by decide) ?_
  refine g_lload_n dJ13_bitCount_95d88_55 rfl rfl ?_
  refine g_l2i dJ13_bitCount_95d88_56 ?_
  refine g_bipush (v := 127) dJ13_bitCount_95d88_57 (by decide) ?_
  refine g_iand dJ13_bitCount_95d88_59 ?_
  refine g_iret dJ13_bitCount_95d88_60 rfl ⟨_, _, rfl, rfl, ?_⟩
  exact ⟨⟨_, rfl, fun h => by subst h; decide⟩, rfl⟩
end
