section
variable {Γ : gS} {τ : gW}
/-- the reference's places and old bytes that stand below w are places and bytes -/
def PL (S : gS) (w : Nat) : Prop := ∀ i, i < w → (∃ a : Nat, a < 24032 ∧ S.2.1 30 i = nI a) ∧ ∃ b : Nat, b < 256 ∧ S.2.1 31 i = nI b
def DB (f : Nat → Int32) : Prop := ∀ a, a < 24032 → ∃ b : Nat, b < 256 ∧ f a = nI b
/-- bytes are written: the count goes from w to w', the disk is f, all else stays -/
def Mw (S S' : gS) (w w' : Nat) (f : Nat → Int32) : Prop := S'.1 28 7 = nI w' ∧ S'.2.1 29 = f ∧ (∀ j, j ≠ 7 → S'.1 28 j = S.1 28 j) ∧ (∀ k, k ≠ 28 → S'.1 k = S.1 k) ∧ (∀ k, k ≠ 29 ∧ k ≠ 30 ∧ k ≠ 31 → S'.2.1 k = S.2.1 k) ∧ S'.2.2 = S.2.2 ∧ (DB (S.2.1 29) → DB f) ∧ (DB (S.2.1 29) → PL S w → PL S' w')
theorem Mw.rf {S : gS} {w : Nat} (h : S.1 28 7 = nI w) : Mw S S w w (S.2.1 29) := ⟨h, rfl, fun _ _ => rfl, fun _ _ => rfl, fun _ _ => rfl, rfl, fun h => h, fun _ h => h⟩
theorem Mw.tr {S S1 S2 : gS} {w w1 w2 : Nat} {f1 f2 : Nat → Int32} (h : Mw S S1 w w1 f1) (g : Mw S1 S2 w1 w2 f2) : Mw S S2 w w2 f2 := by
  obtain ⟨h1, h2, h3, h4, h5, h6, h7, h8⟩ := h
  obtain ⟨g1, g2, g3, g4, g5, g6, g7, g8⟩ := g
  exact ⟨g1, g2, fun j hj => (g3 j hj).trans (h3 j hj), fun k hk => (g4 k hk).trans (h4 k hk), fun k hk => (g5 k hk).trans (h5 k hk), g6.trans h6, fun z => g7 (by rw [h2]; exact h7 z), fun z p => g8 (by rw [h2]; exact h7 z) (h8 z p)⟩
theorem DB.upd {f : Nat → Int32} (h : DB f) (a : Nat) (v : Int32) : DB (upd f a (v &&& 255)) := by
  intro b hb
  by_cases e : b = a
  · subst e
    obtain ⟨j, hj, e⟩ := pk_andE v (m := 255) 8 (by decide)
    exact ⟨j, hj, by rw [pk_us]; exact e⟩
  · rw [pk_un e]; exact h b hb
/-- one byte put -/
theorem Mw.put {S : gS} {w a : Nat} {v : Int32} (ix ia : Nat) (wv : Int32) (hix : ix = w) (hia : ia = a) (hwv : wv = nI (w + 1)) (ha : a < 24032) (hw : S.1 28 7 = nI w) (hw2 : w < 131072) :
    Mw S (mA (mS (mA (mA S 30 (upd (S.2.1 30) ix (nI a))) 31 (upd (S.2.1 31) ix (S.2.1 29 ia))) 28 7 wv) 29 (upd (S.2.1 29) ia (v &&& 255))) w (w + 1) (upd (S.2.1 29) a (v &&& 255)) := by
  rw [hix, hia, hwv]
  refine ⟨by simp [mS, mA], by simp [mA], fun j hj => by simp [mS, mA, hj], fun k hk => by funext b; simp [mS, mA, hk], fun k hk => by simp [mS, mA, hk.1, hk.2.1, hk.2.2], by simp [mS, mA], fun h => h.upd a v, fun h p i hi => ?_⟩
  have e1 : (mA (mS (mA (mA S 30 (upd (S.2.1 30) w (nI a))) 31 (upd (S.2.1 31) w (S.2.1 29 a))) 28 7 (nI (w + 1))) 29 (upd (S.2.1 29) a (v &&& 255))).2.1 30 = upd (S.2.1 30) w (nI a) := by simp [mS, mA]
  have e2 : (mA (mS (mA (mA S 30 (upd (S.2.1 30) w (nI a))) 31 (upd (S.2.1 31) w (S.2.1 29 a))) 28 7 (nI (w + 1))) 29 (upd (S.2.1 29) a (v &&& 255))).2.1 31 = upd (S.2.1 31) w (S.2.1 29 a) := by simp [mS, mA]
  rw [e1, e2]
  by_cases e : i = w
  · subst e; rw [pk_us, pk_us]; exact ⟨⟨a, ha, rfl⟩, h a ha⟩
  · rw [pk_un e, pk_un e]; exact p i (by omega)
theorem in_w {x : Int32} {w : Nat} (h : x = nI w) (hw : w < 131072) : vp_in x 131072 := by rw [h]; exact vp_in_nI hw (by decide)
set_option maxRecDepth 100000 in
set_option maxHeartbeats 4000000 in
theorem m_put (S : gS) (a w : Nat) (v : Int32) (ha : a < 24032) (hw : S.1 28 7 = nI w) (hw2 : w < 131072) : gCt MX5_put (0, 0) 0 0 [.ref 28, .int (nI a), .int v] (wRf Γ τ S) (g0 (wRf Γ τ) fun S' => Mw S S' w (w + 1) (upd (S.2.1 29) a (v &&& 255))) := by
  refine gCt.of (ls := [some (.ref 28), some (.int (nI a)), some (.int v)]) 0 (by decide) rfl (Nat.le_of_ble_eq_true rfl) ?_
  refine g_aload_n dX5_put_0 rfl rfl ?_
  refine g_get dX5_put_1 flX5_14 rfl rfl ?_
  refine g_aload_n dX5_put_4 rfl rfl ?_
  refine g_get dX5_put_5 flX5_85 rfl rfl ?_
  refine g_iload_n dX5_put_8 rfl rfl ?_
  refine p_iast dX5_put_9 rfl (in_w hw hw2) (by with_reducible first | exact wA_30 _ _ _ _ | exact wA_31 _ _ _ _ | exact wA_29 _ _ _ _) ?_
  refine g_aload_n dX5_put_10 rfl rfl ?_
  refine g_get dX5_put_11 flX5_17 rfl rfl ?_
  refine g_aload_n dX5_put_14 rfl rfl ?_
  refine g_get dX5_put_15 flX5_85 rfl rfl ?_
  refine g_aload_n dX5_put_18 rfl rfl ?_
  refine g_get dX5_put_19 flX5_7 rfl rfl ?_
  refine g_iload_n dX5_put_22 rfl rfl ?_
  refine g_iald dX5_put_23 rfl (vp_in_nI ha (by decide)) ?_
  refine p_iast dX5_put_24 rfl (in_w hw hw2) (by with_reducible first | exact wA_30 _ _ _ _ | exact wA_31 _ _ _ _ | exact wA_29 _ _ _ _) ?_
  refine g_aload_n dX5_put_25 rfl rfl ?_
  refine g_dup dX5_put_26 rfl ?_
  refine g_get dX5_put_27 flX5_85 rfl rfl ?_
  refine g_iconst (v := 1) dX5_put_30 (by decide) ?_
  refine g_iadd dX5_put_31 ?_
  refine p_put dX5_put_32 fpX5_85 rfl (Nat.le_of_ble_eq_true rfl) (fun _ => rfl) (fun _ => rfl) (by with_reducible first | exact wS_28_7 _ _ _ _) ?_
  refine g_aload_n dX5_put_35 rfl rfl ?_
  refine g_get dX5_put_36 flX5_7 rfl rfl ?_
  refine g_iload_n dX5_put_39 rfl rfl ?_
  refine g_iload_n dX5_put_40 rfl rfl ?_
  refine g_sipush (v := 255) dX5_put_41 (by decide) ?_
  refine g_iand dX5_put_44 ?_
  refine p_iast dX5_put_45 rfl (vp_in_nI ha (by decide)) (by with_reducible first | exact wA_30 _ _ _ _ | exact wA_31 _ _ _ _ | exact wA_29 _ _ _ _) ?_
  refine g_vret dX5_put_46 rfl ⟨_, rfl, rfl, ?_⟩
  exact Mw.put (S := S) (v := v) (S.1 28 7).toNatClampNeg (nI a).toNatClampNeg (S.1 28 7 + 1) (by rw [hw, nI_clamp (by omega)]) (nI_clamp (by omega)) (by rw [hw, nI_1]) ha hw hw2
set_option maxRecDepth 100000 in
set_option maxHeartbeats 4000000 in
theorem m_thrown (S : gS) : gCt MX5_thrown (0, 0) 0 0 [.ref 28] (wRf Γ τ S) (gN (wRf Γ τ) fun v S' => v = .int (S.1 28 0) ∧ S = S') := by
  refine gCt.of (ls := [some (.ref 28)]) 0 (by decide) rfl (Nat.le_of_ble_eq_true rfl) ?_
  refine g_aload_n dX5_thrown_0 rfl rfl ?_
  refine g_get dX5_thrown_1 flX5_75 rfl rfl ?_
  refine g_iret dX5_thrown_4 rfl ⟨_, _, rfl, rfl, ?_⟩
  exact ⟨rfl, rfl⟩
set_option maxRecDepth 100000 in
set_option maxHeartbeats 4000000 in
theorem m_in (S : gS) (x a b : Int32) : gCt MX5_in (0, 0) 0 0 [.int x, .int a, .int b] (wRf Γ τ S) (gN (wRf Γ τ) fun v S' => v = .int (if x < a then 0 else if b < x then 0 else 1) ∧ S = S') := by
  refine gCt.of (ls := [some (.int x), some (.int a), some (.int b)]) 0 (by decide) rfl (Nat.le_of_ble_eq_true rfl) ?_
  refine g_iload_n dX5_in_0 rfl rfl ?_
  refine g_iload_n dX5_in_1 rfl rfl ?_
  refine g_icmp_lt (tgt := 14) dX5_in_2 (by decide) (fun c2 => ?_) (fun c2 => ?_)
  · refine g_iconst (v := 0) dX5_in_14 (by decide) ?_
    refine g_zret dX5_in_15 rfl (by first | rfl | assumption) ⟨_, _, rfl, rfl, ?_⟩
    exact ⟨by simp only [*, if_true, if_false], rfl⟩
  · refine g_iload_n dX5_in_5 rfl rfl ?_
    refine g_iload_n dX5_in_6 rfl rfl ?_
    refine g_icmp_gt (tgt := 14) dX5_in_7 (by decide) (fun c7 => ?_) (fun c7 => ?_)
    · refine g_iconst (v := 0) dX5_in_14 (by decide) ?_
      refine g_zret dX5_in_15 rfl (by first | rfl | assumption) ⟨_, _, rfl, rfl, ?_⟩
      exact ⟨by simp only [*, if_true, if_false], rfl⟩
    · refine g_iconst (v := 1) dX5_in_10 (by decide) ?_
      refine g_goto (tgt := 15) dX5_in_11 (by decide) ?_
      refine g_zret dX5_in_15 rfl (by first | rfl | assumption) ⟨_, _, rfl, rfl, ?_⟩
      exact ⟨by simp only [*, if_true, if_false], rfl⟩
set_option maxRecDepth 100000 in
set_option maxHeartbeats 4000000 in
theorem m_fits (S : gS) (x : Int32) : gCt MX5_fits (0, 0) 0 0 [.ref 28, .int x] (wRf Γ τ S) (gN (wRf Γ τ) fun v S' => v = .int (if 24000 < S.1 28 9 + x then 0 else 1) ∧ S = S') := by
  refine gCt.of (ls := [some (.ref 28), some (.int x)]) 0 (by decide) rfl (Nat.le_of_ble_eq_true rfl) ?_
  refine g_aload_n dX5_fits_0 rfl rfl ?_
  refine g_get dX5_fits_1 flX5_98 rfl rfl ?_
  refine g_iload_n dX5_fits_4 rfl rfl ?_
  refine g_iadd dX5_fits_5 ?_
  refine g_sipush (v := 24000) dX5_fits_6 (by decide) ?_
  refine g_icmp_gt (tgt := 16) dX5_fits_9 (by decide) (fun c9 => ?_) (fun c9 => ?_)
  · refine g_iconst (v := 0) dX5_fits_16 (by decide) ?_
    refine g_zret dX5_fits_17 rfl (by first | rfl | assumption) ⟨_, _, rfl, rfl, ?_⟩
    exact ⟨by simp only [*, if_true, if_false], rfl⟩
  · refine g_iconst (v := 1) dX5_fits_12 (by decide) ?_
    refine g_goto (tgt := 17) dX5_fits_13 (by decide) ?_
    refine g_zret dX5_fits_17 rfl (by first | rfl | assumption) ⟨_, _, rfl, rfl, ?_⟩
    exact ⟨by simp only [*, if_true, if_false], rfl⟩
set_option maxRecDepth 100000 in
set_option maxHeartbeats 4000000 in
theorem m_sizeOf (S : gS) (x : Int32) : gCt MX5_sizeOf (0, 0) 0 0 [.int x] (wRf Γ τ S) (gN (wRf Γ τ) fun v S' => v = .int (if x = 1 then 64 else if x = 2 then 3 else if x = 3 then 16 else if x = 4 then 10 else 0) ∧ S = S') := by
  refine gCt.of (ls := [some (.int x)]) 0 (by decide) rfl (Nat.le_of_ble_eq_true rfl) ?_
  refine g_iload_n dX5_sizeOf_0 rfl rfl ?_
  refine g_iconst (v := 1) dX5_sizeOf_1 (by decide) ?_
  refine g_icmp_ne (tgt := 10) dX5_sizeOf_2 (by decide) (fun c2 => ?_) (fun c2 => ?_)
  · refine g_iload_n dX5_sizeOf_10 rfl rfl ?_
    refine g_iconst (v := 2) dX5_sizeOf_11 (by decide) ?_
    refine g_icmp_ne (tgt := 19) dX5_sizeOf_12 (by decide) (fun c12 => ?_) (fun c12 => ?_)
    · refine g_iload_n dX5_sizeOf_19 rfl rfl ?_
      refine g_iconst (v := 3) dX5_sizeOf_20 (by decide) ?_
      refine g_icmp_ne (tgt := 29) dX5_sizeOf_21 (by decide) (fun c21 => ?_) (fun c21 => ?_)
      · refine g_iload_n dX5_sizeOf_29 rfl rfl ?_
        refine g_iconst (v := 4) dX5_sizeOf_30 (by decide) ?_
        refine g_icmp_ne (tgt := 39) dX5_sizeOf_31 (by decide) (fun c31 => ?_) (fun c31 => ?_)
        · refine g_iconst (v := 0) dX5_sizeOf_39 (by decide) ?_
          refine g_iret dX5_sizeOf_40 rfl ⟨_, _, rfl, rfl, ?_⟩
          exact ⟨by simp [*], rfl⟩
        · refine g_bipush (v := 10) dX5_sizeOf_34 (by decide) ?_
          refine g_goto (tgt := 40) dX5_sizeOf_36 (by decide) ?_
          refine g_iret dX5_sizeOf_40 rfl ⟨_, _, rfl, rfl, ?_⟩
          exact ⟨by simp [*], rfl⟩
      · refine g_bipush (v := 16) dX5_sizeOf_24 (by decide) ?_
        refine g_goto (tgt := 40) dX5_sizeOf_26 (by decide) ?_
        refine g_iret dX5_sizeOf_40 rfl ⟨_, _, rfl, rfl, ?_⟩
        exact ⟨by simp [*], rfl⟩
    · refine g_iconst (v := 3) dX5_sizeOf_15 (by decide) ?_
      refine g_goto (tgt := 40) dX5_sizeOf_16 (by decide) ?_
      refine g_iret dX5_sizeOf_40 rfl ⟨_, _, rfl, rfl, ?_⟩
      exact ⟨by simp [*], rfl⟩
  · refine g_bipush (v := 64) dX5_sizeOf_5 (by decide) ?_
    refine g_goto (tgt := 40) dX5_sizeOf_7 (by decide) ?_
    refine g_iret dX5_sizeOf_40 rfl ⟨_, _, rfl, rfl, ?_⟩
    exact ⟨by simp [*], rfl⟩
set_option maxRecDepth 100000 in
set_option maxHeartbeats 4000000 in
theorem m_hasNow (S : gS) (a : Nat) (y : Int32) (ha : a < 64) : gCt MX5_hasNow (0, 0) 0 0 [.ref 28, .int (nI a), .int y] (wRf Γ τ S) (gN (wRf Γ τ) fun v S' => (∃ r : Int32, v = .int r ∧ (r = 0 ∨ r = 1) ∧ (S.2.2 32 a = 0 → r = 0)) ∧ S = S') := by
  refine gCt.of (ls := [some (.ref 28), some (.int (nI a)), some (.int y)]) 0 (by decide) rfl (Nat.le_of_ble_eq_true rfl) ?_
  refine g_aload_n dX5_hasNow_0 rfl rfl ?_
  refine g_get dX5_hasNow_1 flX5_20 rfl rfl ?_
  refine g_iload_n dX5_hasNow_4 rfl rfl ?_
  refine g_lald dX5_hasNow_5 rfl (vp_in_nI ha (by decide)) ?_
  refine g_iload_n dX5_hasNow_6 rfl rfl ?_
  refine g_lushr dX5_hasNow_7 ?_
  refine g_lconst (v := 1) dX5_hasNow_8 (by decide) ?_
  refine g_land dX5_hasNow_9 ?_
  refine g_lconst (v := 1) dX5_hasNow_10 (by decide) ?_
  refine g_lcmp dX5_hasNow_11 ?_
  refine g_if_ne (tgt := 19) dX5_hasNow_12 (by decide) (fun c12 => ?_) (fun c12 => ?_)
  · refine g_iconst (v := 0) dX5_hasNow_19 (by decide) ?_
    refine g_zret dX5_hasNow_20 rfl (by first | rfl | assumption) ⟨_, _, rfl, rfl, ?_⟩
    first | exact ⟨⟨_, rfl, Or.inl rfl, fun _ => rfl⟩, rfl⟩ | exact ⟨⟨_, rfl, Or.inr rfl, fun h => absurd c12 (by rw [nI_clamp (by omega), h, sh0]; decide)⟩, rfl⟩
  · refine g_iconst (v := 1) dX5_hasNow_15 (by decide) ?_
    refine g_goto (tgt := 20) dX5_hasNow_16 (by decide) ?_
    refine g_zret dX5_hasNow_20 rfl (by first | rfl | assumption) ⟨_, _, rfl, rfl, ?_⟩
    first | exact ⟨⟨_, rfl, Or.inl rfl, fun _ => rfl⟩, rfl⟩ | exact ⟨⟨_, rfl, Or.inr rfl, fun h => absurd c12 (by rw [nI_clamp (by omega), h, sh0]; decide)⟩, rfl⟩
def mnum (f : Nat → Int32) (a : Nat) : Nat → Int64
  | 0 => 0
  | k + 1 => (mnum f a k <<< ((8 : Int32).toInt64 &&& 63)) ||| (f (a + k)).toInt64
def mstep (t : Int64) (b : Int32) : Int64 :=
  let m := t ^^^ b.toInt64
  ((m <<< ((29 : Int32).toInt64 &&& 63)) ||| (m.toUInt64 >>> ((35 : Int32).toInt64.toUInt64 &&& Int64.toUInt64 63)).toInt64) * (-4417276706812531889)
def msum (f : Nat → Int32) (a : Nat) (s : Int64) : Nat → Int64
  | 0 => s
  | k + 1 => mstep (msum f a s k) (f (a + k))
def mbyte (v : Int64) (n k : Nat) : Int32 := (v >>> (((8 : Int32) * (nI n - 1 - nI k)).toInt64 &&& 63)).toInt32 &&& 255
def mput (f : Nat → Int32) (a : Nat) (v : Int64) (n : Nat) : Nat → Nat → Int32
  | 0 => f
  | k + 1 => upd (mput f a v n k) (a + k) (mbyte v n k)
theorem in_d {a k : Nat} (h : a + k < 24032) : vp_in (nI a + nI k) 24032 := by rw [nI_add]; exact vp_in_nI h (by decide)
theorem cl_d {a k : Nat} (h : a + k < 24032) : (nI a + nI k).toNatClampNeg = a + k := by rw [nI_add]; exact nI_clamp (by omega)
set_option maxRecDepth 100000 in
set_option maxHeartbeats 4000000 in
theorem lm_number (S : gS) (a n : Nat) (h : a + n ≤ 24032) : ∀ (m i : Nat), i + m = n → G MX5_number (0, 0) 5 [some (.ref 28), some (.int (nI a)), some (.int (nI n)), some (.long (mnum (S.2.1 29) a i)), none, some (.int (nI i))] [] (wRf Γ τ S) 0 0 (gN (wRf Γ τ) fun v S' => v = .long (mnum (S.2.1 29) a n) ∧ S = S') := by
  intro m
  induction m with
  | zero =>
    intro i hi
    obtain rfl : i = n := by omega
    refine g_iload dX5_number_5 rfl ?_
    refine g_iload_n dX5_number_7 rfl rfl ?_
    refine g_icmp_ge (tgt := 33) dX5_number_8 (by decide) (fun c8 => ?_) (fun c8 => ?_)
    · refine g_lload_n dX5_number_33 rfl rfl ?_
      refine g_lret dX5_number_34 rfl ⟨_, _, rfl, rfl, ?_⟩
      exact ⟨rfl, rfl⟩
    · exact absurd (nI_le (Nat.le_refl _) (by omega)) c8
  | succ m ih =>
    intro i hi
    refine g_iload dX5_number_5 rfl ?_
    refine g_iload_n dX5_number_7 rfl rfl ?_
    refine g_icmp_ge (tgt := 33) dX5_number_8 (by decide) (fun c8 => ?_) (fun c8 => ?_)
    · exact absurd c8 (nI_ge (by omega) (by omega))
    · refine g_lload_n dX5_number_11 rfl rfl ?_
      refine g_bipush (v := 8) dX5_number_12 (by decide) ?_
      refine g_lshl dX5_number_14 ?_
      refine g_aload_n dX5_number_15 rfl rfl ?_
      refine g_get dX5_number_16 flX5_7 rfl rfl ?_
      refine g_iload_n dX5_number_19 rfl rfl ?_
      refine g_iload dX5_number_20 rfl ?_
      refine g_iadd dX5_number_22 ?_
      refine g_iald dX5_number_23 rfl (in_d (by omega)) ?_
      refine g_i2l dX5_number_24 ?_
      refine g_lor dX5_number_25 ?_
      refine g_lstore_n dX5_number_26 rfl (by decide) ?_
      refine g_iinc dX5_number_27 rfl (by decide) (by first | exact gi_1 _ | exact gi_p _) ?_
      refine g_goto (tgt := 5) dX5_number_30 (by decide) ?_
      rw [cl_d (by omega)]
      exact ih (i + 1) (by omega)
set_option maxRecDepth 100000 in
set_option maxHeartbeats 4000000 in
theorem m_number (S : gS) (a n : Nat) (h : a + n ≤ 24032) : gCt MX5_number (0, 0) 0 0 [.ref 28, .int (nI a), .int (nI n)] (wRf Γ τ S) (gN (wRf Γ τ) fun v S' => v = .long (mnum (S.2.1 29) a n) ∧ S = S') := by
  refine gCt.of (ls := [some (.ref 28), some (.int (nI a)), some (.int (nI n)), none, none, none]) 3 (by decide) rfl (Nat.le_of_ble_eq_true rfl) ?_
  refine g_lconst (v := 0) dX5_number_0 (by decide) ?_
  refine g_lstore_n dX5_number_1 rfl (by decide) ?_
  refine g_iconst (v := 0) dX5_number_2 (by decide) ?_
  refine g_istore dX5_number_3 (by decide) ?_
  exact lm_number S a n h n 0 (by omega)
set_option maxRecDepth 100000 in
set_option maxHeartbeats 4000000 in
theorem lm_sum (S : gS) (s : Int64) (a n : Nat) (h : a + n ≤ 24032) : ∀ (m i : Nat), i + m = n → G MX5_sum (0, 0) 6 [some (.ref 28), some (.long s), none, some (.int (nI a)), some (.int (nI n)), some (.long (msum (S.2.1 29) a s i)), none, some (.int (nI i))] [] (wRf Γ τ S) 0 0 (gN (wRf Γ τ) fun v S' => v = .long (msum (S.2.1 29) a s n) ∧ S = S') := by
  intro m
  induction m with
  | zero =>
    intro i hi
    obtain rfl : i = n := by omega
    refine g_iload dX5_sum_6 rfl ?_
    refine g_iload dX5_sum_8 rfl ?_
    refine g_icmp_ge (tgt := 55) dX5_sum_10 (by decide) (fun c10 => ?_) (fun c10 => ?_)
    · refine g_lload dX5_sum_55 rfl ?_
      refine g_lret dX5_sum_57 rfl ⟨_, _, rfl, rfl, ?_⟩
      exact ⟨rfl, rfl⟩
    · exact absurd (nI_le (Nat.le_refl _) (by omega)) c10
  | succ m ih =>
    intro i hi
    refine g_iload dX5_sum_6 rfl ?_
    refine g_iload dX5_sum_8 rfl ?_
    refine g_icmp_ge (tgt := 55) dX5_sum_10 (by decide) (fun c10 => ?_) (fun c10 => ?_)
    · exact absurd c10 (nI_ge (by omega) (by omega))
    · refine g_lload dX5_sum_13 rfl ?_
      refine g_aload_n dX5_sum_15 rfl rfl ?_
      refine g_get dX5_sum_16 flX5_7 rfl rfl ?_
      refine g_iload_n dX5_sum_19 rfl rfl ?_
      refine g_iload dX5_sum_20 rfl ?_
      refine g_iadd dX5_sum_22 ?_
      refine g_iald dX5_sum_23 rfl (in_d (by omega)) ?_
      refine g_i2l dX5_sum_24 ?_
      refine g_lxor dX5_sum_25 ?_
      refine g_lstore dX5_sum_26 (by decide) ?_
      refine g_lload dX5_sum_28 rfl ?_
      refine g_bipush (v := 29) dX5_sum_30 (by decide) ?_
      refine g_lshl dX5_sum_32 ?_
      refine g_lload dX5_sum_33 rfl ?_
      refine g_bipush (v := 35) dX5_sum_35 (by decide) ?_
      refine g_lushr dX5_sum_37 ?_
      refine g_lor dX5_sum_38 ?_
      refine g_lstore dX5_sum_39 (by decide) ?_
      refine g_lload dX5_sum_41 rfl ?_
      refine g_ldc2 dX5_sum_43 coX5_116 ?_
      refine g_lmul dX5_sum_46 ?_
      refine g_lstore dX5_sum_47 (by decide) ?_
      refine g_iinc dX5_sum_49 rfl (by decide) (by first | exact gi_1 _ | exact gi_p _) ?_
      refine g_goto (tgt := 6) dX5_sum_52 (by decide) ?_
      rw [cl_d (by omega)]
      exact ih (i + 1) (by omega)
set_option maxRecDepth 100000 in
set_option maxHeartbeats 4000000 in
theorem m_sum (S : gS) (s : Int64) (a n : Nat) (h : a + n ≤ 24032) : gCt MX5_sum (0, 0) 0 0 [.ref 28, .long s, .int (nI a), .int (nI n)] (wRf Γ τ S) (gN (wRf Γ τ) fun v S' => v = .long (msum (S.2.1 29) a s n) ∧ S = S') := by
  refine gCt.of (ls := [some (.ref 28), some (.long s), none, some (.int (nI a)), some (.int (nI n)), none, none, none]) 3 (by decide) rfl (Nat.le_of_ble_eq_true rfl) ?_
  refine g_lload_n dX5_sum_0 rfl rfl ?_
  refine g_lstore dX5_sum_1 (by decide) ?_
  refine g_iconst (v := 0) dX5_sum_3 (by decide) ?_
  refine g_istore dX5_sum_4 (by decide) ?_
  exact lm_sum S s a n h n 0 (by omega)
set_option maxRecDepth 100000 in
set_option maxHeartbeats 4000000 in
theorem lm_putNumber (S0 : gS) (v : Int64) (a n w : Nat) (h : a + n ≤ 24032) (hw : w + n ≤ 131072) : ∀ (m i : Nat), i + m = n → ∀ S : gS, Mw S0 S w (w + i) (mput (S0.2.1 29) a v n i) → G MX5_putNumber (1, 40) 3 [some (.ref 28), some (.int (nI a)), some (.long v), none, some (.int (nI n)), some (.int (nI i))] [] (wRf Γ τ S) 0 0 (g0 (wRf Γ τ) fun S' => Mw S0 S' w (w + n) (mput (S0.2.1 29) a v n n)) := by
  intro m
  induction m with
  | zero =>
    intro i hi S hS
    obtain rfl : i = n := by omega
    refine g_iload dX5_putNumber_3 rfl ?_
    refine g_iload dX5_putNumber_5 rfl ?_
    refine g_icmp_ge (tgt := 41) dX5_putNumber_7 (by decide) (fun c7 => ?_) (fun c7 => ?_)
    · refine g_vret dX5_putNumber_41 rfl ⟨_, rfl, rfl, ?_⟩
      exact hS
    · exact absurd (nI_le (Nat.le_refl _) (by omega)) c7
  | succ m ih =>
    intro i hi S hS
    refine g_iload dX5_putNumber_3 rfl ?_
    refine g_iload dX5_putNumber_5 rfl ?_
    refine g_icmp_ge (tgt := 41) dX5_putNumber_7 (by decide) (fun c7 => ?_) (fun c7 => ?_)
    · exact absurd c7 (nI_ge (by omega) (by omega))
    · refine g_aload_n dX5_putNumber_10 rfl rfl ?_
      refine g_iload_n dX5_putNumber_11 rfl rfl ?_
      refine g_iload dX5_putNumber_12 rfl ?_
      refine g_iadd dX5_putNumber_14 ?_
      refine g_lload_n dX5_putNumber_15 rfl rfl ?_
      refine g_bipush (v := 8) dX5_putNumber_16 (by decide) ?_
      refine g_iload dX5_putNumber_18 rfl ?_
      refine g_iconst (v := 1) dX5_putNumber_20 (by decide) ?_
      refine g_isub dX5_putNumber_21 ?_
      refine g_iload dX5_putNumber_22 rfl ?_
      refine g_isub dX5_putNumber_24 ?_
      refine g_imul dX5_putNumber_25 ?_
      refine g_lshr dX5_putNumber_26 ?_
      refine g_l2i dX5_putNumber_27 ?_
      refine g_sipush (v := 255) dX5_putNumber_28 (by decide) ?_
      refine g_iand dX5_putNumber_31 ?_
      rw [nI_add]
      refine cV20 (fun _ _ => rfl) dX5_putNumber_32 mlX5_118 imX5_put seX5_put rfl rfl (m_put _ _ (w + i) _ (by omega) hS.1 (by omega)) (by decide) (Nat.le_of_ble_eq_true rfl) (Nat.le_of_ble_eq_true rfl) (Nat.le_of_ble_eq_true rfl) ?_
      rintro S1 hS1
      refine g_iinc dX5_putNumber_35 rfl (by decide) (by first | exact gi_1 _ | exact gi_p _) ?_
      refine g_goto (tgt := 3) dX5_putNumber_38 (by decide) ?_
      have h9 := hS.tr hS1
      rw [hS.2.1] at h9
      refine ih (i + 1) (by omega) _ ?_
      have e9 : mput (S0.2.1 29) a v n (i + 1) = upd (mput (S0.2.1 29) a v n i) (a + i) (mbyte v n i &&& 255) := by
        show upd _ _ _ = upd _ _ _
        rw [show mbyte v n i &&& 255 = mbyte v n i from by unfold mbyte; rw [Int32.and_assoc]; rfl]
      rw [e9]
      exact h9
set_option maxRecDepth 100000 in
set_option maxHeartbeats 4000000 in
theorem m_putNumber (S : gS) (v : Int64) (a n w : Nat) (h : a + n ≤ 24032) (hw : w + n ≤ 131072) (hs : S.1 28 7 = nI w) : gCt MX5_putNumber (1, 40) 0 0 [.ref 28, .int (nI a), .long v, .int (nI n)] (wRf Γ τ S) (g0 (wRf Γ τ) fun S' => Mw S S' w (w + n) (mput (S.2.1 29) a v n n)) := by
  refine gCt.of (ls := [some (.ref 28), some (.int (nI a)), some (.long v), none, some (.int (nI n)), none]) 1 (by decide) rfl (Nat.le_of_ble_eq_true rfl) ?_
  refine g_iconst (v := 0) dX5_putNumber_0 (by decide) ?_
  refine g_istore dX5_putNumber_1 (by decide) ?_
  exact lm_putNumber S v a n w h hw n 0 (by omega) S (Mw.rf hs)
end
