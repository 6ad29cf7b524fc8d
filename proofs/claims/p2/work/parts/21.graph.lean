section
variable {τ : gW}
def nInv (S0 S : gS) (i : Nat) : Prop := Cl S0 S ∧ S.1 6 = S0.1 6 ∧ S.1 4 = S0.1 4 ∧ S.2.2 = S0.2.2 ∧ ((S0.1 6 3 ≤ 0 ∧ (∀ j, j < 64 → S0.2.2 5 j = 0) ∧ ¬ S0.1 4 6 ≤ 0) → (i = 0 → S.1 24 3 = 0 ∧ S.2.1 27 0 = 0) ∧ (0 < i → S.1 24 3 = 1 ∧ S.2.1 25 0 = 0))
set_option maxRecDepth 100000 in
set_option maxHeartbeats 4000000 in
theorem c_requireOpen (S : gS) : gCt MX4_requireOpen (6, 82) 1 6 [.ref 0] (wOf τ S) (gY (wOf τ) (fun S' => S = S' ∧ ¬ S.1 0 5 = 0) (fun E S' => E = gIS ∧ S = S' ∧ S.1 0 5 = 0)) := by
  refine gCt.of (ls := [some (.ref 0)]) 0 (by decide) rfl (Nat.le_of_ble_eq_true rfl) ?_
  refine g_aload_n dX4_requireOpen_0 rfl rfl ?_
  refine g_get dX4_requireOpen_1 flX4_125 rfl rfl ?_
  refine g_if_ne (tgt := 17) dX4_requireOpen_4 (by decide) (fun c4 => ?_) (fun c4 => ?_)
  · refine g_vret dX4_requireOpen_17 rfl (Or.inl ⟨_, rfl, rfl, ?_⟩)
    exact ⟨rfl, c4⟩
  · refine g_throwS (cls := gIS) (names := gup) (text := "the store is closed") fit_1 fit_n clX4_225 in_java_lang_IllegalStateException (by decide +kernel) th_229 nw_java_lang_IllegalStateException to_229 dX4_requireOpen_7 dX4_requireOpen_10 dX4_requireOpen_11 dX4_requireOpen_13 dX4_requireOpen_16 (fun _ h => nomatch h) (by decide) (Nat.le_of_ble_eq_true rfl) (Nat.le_of_ble_eq_true rfl) (Nat.le_of_ble_eq_true rfl) ?_
    exact Or.inr ⟨_, _, rfl, rfl, rfl, rfl, c4⟩
set_option maxRecDepth 100000 in
set_option maxHeartbeats 4000000 in
theorem c_requireNode (S : gS) (x : Int32) : gCt MX4_requireNode (6, 82) 1 6 [.ref 0, .int x] (wOf τ S) (gY (wOf τ) (fun S' => S = S' ∧ ¬ x < 0 ∧ x < 64) (fun E S' => E = gIO ∧ S = S' ∧ (x < 0 ∨ ¬ x < 64))) := by
  refine gCt.of (ls := [some (.ref 0), some (.int x)]) 0 (by decide) rfl (Nat.le_of_ble_eq_true rfl) ?_
  refine g_iload_n dX4_requireNode_0 rfl rfl ?_
  refine g_if_lt (tgt := 10) dX4_requireNode_1 (by decide) (fun c1 => ?_) (fun c1 => ?_)
  · refine g_throwS (cls := gIO) (names := gup) (text := "no such node") fit_2 fit_n clX4_166 in_java_lang_IndexOutOfBoundsException (by decide +kernel) th_170 nw_java_lang_IndexOutOfBoundsException to_170 dX4_requireNode_10 dX4_requireNode_13 dX4_requireNode_14 dX4_requireNode_16 dX4_requireNode_19 (fun _ h => nomatch h) (by decide) (Nat.le_of_ble_eq_true rfl) (Nat.le_of_ble_eq_true rfl) (Nat.le_of_ble_eq_true rfl) ?_
    exact Or.inr ⟨_, _, rfl, rfl, rfl, rfl, by first | exact Or.inl c1 | exact Or.inr c7⟩
  · refine g_iload_n dX4_requireNode_4 rfl rfl ?_
    refine g_bipush (v := 64) dX4_requireNode_5 (by decide) ?_
    refine g_icmp_lt (tgt := 20) dX4_requireNode_7 (by decide) (fun c7 => ?_) (fun c7 => ?_)
    · refine g_vret dX4_requireNode_20 rfl (Or.inl ⟨_, rfl, rfl, ?_⟩)
      exact ⟨rfl, c1, c7⟩
    · refine g_throwS (cls := gIO) (names := gup) (text := "no such node") fit_2 fit_n clX4_166 in_java_lang_IndexOutOfBoundsException (by decide +kernel) th_170 nw_java_lang_IndexOutOfBoundsException to_170 dX4_requireNode_10 dX4_requireNode_13 dX4_requireNode_14 dX4_requireNode_16 dX4_requireNode_19 (fun _ h => nomatch h) (by decide) (Nat.le_of_ble_eq_true rfl) (Nat.le_of_ble_eq_true rfl) (Nat.le_of_ble_eq_true rfl) ?_
      exact Or.inr ⟨_, _, rfl, rfl, rfl, rfl, by first | exact Or.inl c1 | exact Or.inr c7⟩
set_option maxRecDepth 100000 in
set_option maxHeartbeats 4000000 in
theorem c_requireVersion (S : gS) (x : Int32) : gCt MX4_requireVersion (6, 82) 1 6 [.ref 0, .int x] (wOf τ S) (gY (wOf τ) (fun S' => S = S' ∧ ¬ S.1 4 8 ≤ 0) (fun E S' => E = gIO ∧ S = S')) := by
  refine gCt.of (ls := [some (.ref 0), some (.int x)]) 0 (by decide) rfl (Nat.le_of_ble_eq_true rfl) ?_
  refine g_aload_n dX4_requireVersion_0 rfl rfl ?_
  refine g_get dX4_requireVersion_1 flX4_19 rfl rfl ?_
  refine g_iload_n dX4_requireVersion_4 rfl rfl ?_
  refine cV1N (fun _ _ => rfl) dX4_requireVersion_5 mlX4_207 imX2_isThere seX2_isThere rfl rfl (c_isThere4 _ _) (by decide) (Nat.le_of_ble_eq_true rfl) (Nat.le_of_ble_eq_true rfl) (Nat.le_of_ble_eq_true rfl) ?_
  rintro _ _ ⟨⟨rt, rfl, ht01, ht⟩, rfl⟩
  refine g_if_ne (tgt := 21) dX4_requireVersion_8 (by decide) (fun c8 => ?_) (fun c8 => ?_)
  · refine g_vret dX4_requireVersion_21 rfl (Or.inl ⟨_, rfl, rfl, ?_⟩)
    exact ⟨rfl, fun z => (ht c8).2.1 (lt0 z (ht c8).1)⟩
  · refine g_throwS (cls := gIO) (names := gup) (text := "no such version") fit_2 fit_n clX4_166 in_java_lang_IndexOutOfBoundsException (by decide +kernel) th_170 nw_java_lang_IndexOutOfBoundsException to_170 dX4_requireVersion_11 dX4_requireVersion_14 dX4_requireVersion_15 dX4_requireVersion_17 dX4_requireVersion_20 (fun _ h => nomatch h) (by decide) (Nat.le_of_ble_eq_true rfl) (Nat.le_of_ble_eq_true rfl) (Nat.le_of_ble_eq_true rfl) ?_
    exact Or.inr ⟨_, _, rfl, rfl, rfl, rfl⟩
set_option maxRecDepth 100000 in
set_option maxHeartbeats 4000000 in
theorem c_requireGraph (S : gS) (x : Int32) : gCt MX4_requireGraph (7, 104) 1 6 [.ref 0, .int x] (wOf τ S) (gY (wOf τ) (fun S' => S = S' ∧ (x = -1 ∨ ¬ S.1 4 8 ≤ 0)) (fun E S' => E = gIO ∧ S = S' ∧ ¬ x = -1)) := by
  refine gCt.of (ls := [some (.ref 0), some (.int x)]) 0 (by decide) rfl (Nat.le_of_ble_eq_true rfl) ?_
  refine g_iload_n dX4_requireGraph_0 rfl rfl ?_
  refine g_iconst (v := (-1)) dX4_requireGraph_1 (by decide) ?_
  refine g_icmp_eq (tgt := 10) dX4_requireGraph_2 (by decide) (fun c2 => ?_) (fun c2 => ?_)
  · refine g_vret dX4_requireGraph_10 rfl (Or.inl ⟨_, rfl, rfl, ?_⟩)
    first | exact ⟨rfl, Or.inl c2⟩ | exact ⟨rfl, Or.inr hv⟩
  · refine g_aload_n dX4_requireGraph_5 rfl rfl ?_
    refine g_iload_n dX4_requireGraph_6 rfl rfl ?_
    refine cV1Y (fun _ _ => rfl) dX4_requireGraph_7 mlX4_100 imX4_requireVersion seX4_requireVersion rfl rfl (c_requireVersion _ _) (by decide) (Nat.le_of_ble_eq_true rfl) (Nat.le_of_ble_eq_true rfl) (Nat.le_of_ble_eq_true rfl) ?_ ?_
    · rintro _ ⟨rfl, hv⟩
      refine g_vret dX4_requireGraph_10 rfl (Or.inl ⟨_, rfl, rfl, ?_⟩)
      first | exact ⟨rfl, Or.inl c2⟩ | exact ⟨rfl, Or.inr hv⟩
    · rintro E S9 ⟨rfl, rfl⟩
      exact GTE.out (fun _ h => nomatch h) (Or.inr ⟨_, _, rfl, rfl, rfl, rfl, c2⟩)
set_option maxRecDepth 100000 in
set_option maxHeartbeats 4000000 in
theorem c_requireAnswer (S : gS) (x : Int32) : gCt MX4_requireAnswer (6, 82) 1 6 [.ref 0, .int x] (wOf τ S) (gY (wOf τ) (fun S' => S = S' ∧ ¬ x < 0 ∧ x < S.1 4 9) (fun E S' => E = gIO ∧ S = S' ∧ (x < 0 ∨ ¬ x < S.1 4 9))) := by
  refine gCt.of (ls := [some (.ref 0), some (.int x)]) 0 (by decide) rfl (Nat.le_of_ble_eq_true rfl) ?_
  refine g_iload_n dX4_requireAnswer_0 rfl rfl ?_
  refine g_if_lt (tgt := 15) dX4_requireAnswer_1 (by decide) (fun c1 => ?_) (fun c1 => ?_)
  · refine g_throwS (cls := gIO) (names := gup) (text := "no such answer") fit_2 fit_n clX4_166 in_java_lang_IndexOutOfBoundsException (by decide +kernel) th_170 nw_java_lang_IndexOutOfBoundsException to_170 dX4_requireAnswer_15 dX4_requireAnswer_18 dX4_requireAnswer_19 dX4_requireAnswer_21 dX4_requireAnswer_24 (fun _ h => nomatch h) (by decide) (Nat.le_of_ble_eq_true rfl) (Nat.le_of_ble_eq_true rfl) (Nat.le_of_ble_eq_true rfl) ?_
    exact Or.inr ⟨_, _, rfl, rfl, rfl, rfl, by first | exact Or.inl c1 | exact Or.inr c12⟩
  · refine g_iload_n dX4_requireAnswer_4 rfl rfl ?_
    refine g_aload_n dX4_requireAnswer_5 rfl rfl ?_
    refine g_get dX4_requireAnswer_6 flX4_19 rfl rfl ?_
    refine g_get dX4_requireAnswer_9 flX4_103 rfl rfl ?_
    refine g_icmp_lt (tgt := 25) dX4_requireAnswer_12 (by decide) (fun c12 => ?_) (fun c12 => ?_)
    · refine g_vret dX4_requireAnswer_25 rfl (Or.inl ⟨_, rfl, rfl, ?_⟩)
      exact ⟨rfl, c1, c12⟩
    · refine g_throwS (cls := gIO) (names := gup) (text := "no such answer") fit_2 fit_n clX4_166 in_java_lang_IndexOutOfBoundsException (by decide +kernel) th_170 nw_java_lang_IndexOutOfBoundsException to_170 dX4_requireAnswer_15 dX4_requireAnswer_18 dX4_requireAnswer_19 dX4_requireAnswer_21 dX4_requireAnswer_24 (fun _ h => nomatch h) (by decide) (Nat.le_of_ble_eq_true rfl) (Nat.le_of_ble_eq_true rfl) (Nat.le_of_ble_eq_true rfl) ?_
      exact Or.inr ⟨_, _, rfl, rfl, rfl, rfl, by first | exact Or.inl c1 | exact Or.inr c12⟩
set_option maxRecDepth 100000 in
set_option maxHeartbeats 4000000 in
theorem c_requirePlace (S : gS) (x : Int32) : gCt MX4_requirePlace (6, 82) 1 6 [.ref 0, .int x] (wOf τ S) (gY (wOf τ) (fun S' => S = S' ∧ ¬ x < 0 ∧ x < 24032) (fun E S' => E = gIO ∧ S = S' ∧ (x < 0 ∨ ¬ x < 24032))) := by
  refine gCt.of (ls := [some (.ref 0), some (.int x)]) 0 (by decide) rfl (Nat.le_of_ble_eq_true rfl) ?_
  refine g_iload_n dX4_requirePlace_0 rfl rfl ?_
  refine g_if_lt (tgt := 11) dX4_requirePlace_1 (by decide) (fun c1 => ?_) (fun c1 => ?_)
  · refine g_throwS (cls := gIO) (names := gup) (text := "no such place") fit_2 fit_n clX4_166 in_java_lang_IndexOutOfBoundsException (by decide +kernel) th_170 nw_java_lang_IndexOutOfBoundsException to_170 dX4_requirePlace_11 dX4_requirePlace_14 dX4_requirePlace_15 dX4_requirePlace_17 dX4_requirePlace_20 (fun _ h => nomatch h) (by decide) (Nat.le_of_ble_eq_true rfl) (Nat.le_of_ble_eq_true rfl) (Nat.le_of_ble_eq_true rfl) ?_
    exact Or.inr ⟨_, _, rfl, rfl, rfl, rfl, by first | exact Or.inl c1 | exact Or.inr c8⟩
  · refine g_iload_n dX4_requirePlace_4 rfl rfl ?_
    refine g_sipush (v := 24032) dX4_requirePlace_5 (by decide) ?_
    refine g_icmp_lt (tgt := 21) dX4_requirePlace_8 (by decide) (fun c8 => ?_) (fun c8 => ?_)
    · refine g_vret dX4_requirePlace_21 rfl (Or.inl ⟨_, rfl, rfl, ?_⟩)
      exact ⟨rfl, c1, c8⟩
    · refine g_throwS (cls := gIO) (names := gup) (text := "no such place") fit_2 fit_n clX4_166 in_java_lang_IndexOutOfBoundsException (by decide +kernel) th_170 nw_java_lang_IndexOutOfBoundsException to_170 dX4_requirePlace_11 dX4_requirePlace_14 dX4_requirePlace_15 dX4_requirePlace_17 dX4_requirePlace_20 (fun _ h => nomatch h) (by decide) (Nat.le_of_ble_eq_true rfl) (Nat.le_of_ble_eq_true rfl) (Nat.le_of_ble_eq_true rfl) ?_
      exact Or.inr ⟨_, _, rfl, rfl, rfl, rfl, by first | exact Or.inl c1 | exact Or.inr c8⟩
theorem dset_Cl (S : gS) (x v : Int32) : Cl S (dset S x v) := by
  unfold dset
  split
  · exact Cl.rf S
  split
  · exact Cl.rf S
  · exact Cl.a (Cl.rf S) (by decide)
theorem dset_2 (S : gS) (x v : Int32) : (dset S x v).1 = S.1 := dset_1 S x v
theorem Cl.w {S S' : gS} {v : Int32} (h : Cl S S') (hv : ¬ v < 0) : Cl S (mS S' 1 2 v) := by
  intro _
  rw [mS_same]
  exact hv
theorem dwr_Cl {S : gS} (v : Int32) (h0 : ¬ S.1 1 2 < 0) : Cl S (dwr S v) := by
  unfold dwr
  simp only
  refine Cl.s ?_ (by decide) (by decide)
  refine Cl.tr ?_ (dset_Cl _ _ _)
  split
  · exact Cl.rf S
  · rename_i h; exact Cl.w (Cl.a (Cl.rf S) (by decide)) (pos_1 h0 h)
theorem dwrs_Cl (v : Int64) : ∀ (j : Nat) {S : gS}, ¬ S.1 1 2 < 0 → Cl S (dwrs v j S) := by
  intro j
  induction j with
  | zero => intro S _; exact Cl.rf S
  | succ j ih => intro S h; exact (dwr_Cl _ h).tr (ih (dwr_pos _ h))
theorem dback_Cl : ∀ (n : Nat) {S : gS}, ¬ S.1 1 2 < 0 → Cl S (dback n S) := by
  intro n
  induction n with
  | zero => intro S _; exact Cl.rf S
  | succ n ih =>
    intro S h
    unfold dback
    split
    · exact Cl.rf S
    split
    · exact Cl.rf S
    · rename_i h1 h2
      have h3 := sub1 h1
      refine Cl.tr (Cl.w (Cl.rf S) h3) (Cl.tr (dset_Cl _ _ _) (ih ?_))
      rw [dset_w, mS_same]
      exact h3
theorem dwr_k {S : gS} (v : Int32) (a : Nat) (ha : a ≠ 1) : (dwr S v).1 a = S.1 a := by
  unfold dwr
  simp only
  have e : ∀ (T : gS) (j : Nat) (x : Int32), (mS T 1 j x).1 a = T.1 a := fun T j x => funext fun b => mS_ne (fun z => ha z.1)
  rw [e, dset_1]
  split
  · rfl
  · rw [e]; rfl
theorem dwrs_k (v : Int64) (a : Nat) (ha : a ≠ 1) : ∀ (j : Nat) (S : gS), (dwrs v j S).1 a = S.1 a := by
  intro j
  induction j with
  | zero => intro S; rfl
  | succ j ih => intro S; rw [dwrs, ih, dwr_k _ a ha]
theorem dset_L (S : gS) (x v : Int32) : (dset S x v).2.2 = S.2.2 := by
  unfold dset
  split
  · rfl
  split <;> rfl
theorem dwr_L (S : gS) (v : Int32) : (dwr S v).2.2 = S.2.2 := by
  unfold dwr
  simp only
  refine (dset_L _ _ _).trans ?_
  split <;> rfl
theorem dwrs_L (v : Int64) : ∀ (j : Nat) (S : gS), (dwrs v j S).2.2 = S.2.2 := by
  intro j
  induction j with
  | zero => intro S; rfl
  | succ j ih => intro S; rw [dwrs, ih, dwr_L]
/-- the byte at y isn't 3, and the next to be written is the k-th behind it -/
def Hold (S : gS) (y : Int32) (k : Nat) : Prop := ¬ dget S y = 3 ∧ S.1 1 3 = y + nI k
theorem dget_eq {S S' : gS} (h : S.2.1 2 = S'.2.1 2) (y : Int32) : dget S y = dget S' y := by unfold dget; rw [h]
theorem dget_ne (S : gS) {x y : Int32} (v : Int32) (h : x ≠ y) : dget (dset S x v) y = dget S y := by
  unfold dset
  split
  · rfl
  split
  · rfl
  rename_i h1 h2
  unfold dget
  split
  · rfl
  split
  · rename_i h3 h4
    obtain ⟨i, hi, rfl, -⟩ := pk_mu h1 h2 (by decide)
    obtain ⟨j, hj, rfl, -⟩ := pk_mu h3 (Int32.not_le.mpr h4) (by decide)
    have hij : j ≠ i := fun z => h (by rw [z])
    rw [show (mA S 2 (upd (S.2.1 2) (nI i).toNatClampNeg v.toInt8.toInt32.toInt8.toInt32)).2.1 2 = upd (S.2.1 2) (nI i).toNatClampNeg v.toInt8.toInt32.toInt8.toInt32 from by simp [mA], nI_clamp (by omega), nI_clamp (by omega), pk_un hij]
  · rfl
theorem nI_k0 (y : Int32) {k : Nat} (h : 0 < k) (h2 : k < 2 ^ 31) : y + nI k ≠ y := by
  intro z
  have e : nI k = 0 := by
    have := congrArg (fun q => q - y) z
    simpa [Int32.add_comm y (nI k), Int32.add_sub_cancel, Int32.sub_self] using this
  have e2 : (nI k).toNatClampNeg = 0 := by rw [e]; rfl
  rw [nI_clamp h2] at e2
  omega
theorem dwr_at (S : gS) (v : Int32) : (dwr S v).1 1 3 = S.1 1 3 + 1 := by
  unfold dwr
  simp only
  rw [mS_same, dset_1]
  split
  · rfl
  · rw [mS_ne (by decide)]; rfl
theorem dwr_get (S : gS) (v y : Int32) (h : S.1 1 3 ≠ y) : dget (dwr S v) y = dget S y := by
  unfold dwr
  simp only
  refine (dget_eq (S' := dset _ _ v) rfl y).trans ?_
  split
  · exact dget_ne S v h
  · refine (dget_ne _ v (by rw [mS_ne (by decide)]; exact h)).trans ?_
    exact dget_eq (by simp [mS, mA]) y
theorem Hold.wr {S : gS} {y : Int32} {k : Nat} (h : Hold S y k) (v : Int32) (h0 : 0 < k) (h2 : k < 2 ^ 31) : Hold (dwr S v) y (k + 1) := by
  refine ⟨?_, ?_⟩
  · rw [dwr_get _ _ _ (by rw [h.2]; exact nI_k0 y h0 h2)]; exact h.1
  · rw [dwr_at, h.2, Int32.add_assoc, show nI k + 1 = nI (k + 1) from nI_1 k]
theorem Hold.wrs (v : Int64) {y : Int32} : ∀ (j : Nat) {S : gS} {k : Nat}, Hold S y k → 0 < k → k + j < 2 ^ 31 → Hold (dwrs v j S) y (k + j) := by
  intro j
  induction j with
  | zero => intro S k h _ _; exact h
  | succ j ih =>
    intro S k h h0 h2
    have := ih (h.wr (dbyte v j) h0 (by omega)) (by omega) (by omega)
    rw [show k + (j + 1) = k + 1 + j by omega]
    exact this
theorem Hold.one {S : gS} {y : Int32} (h : S.1 1 3 = y) : Hold (dwrs 1 1 S) y 1 := by
  refine ⟨?_, ?_⟩
  · show ¬ dget (dwr S (dbyte 1 0)) y = 3
    unfold dwr
    simp only
    generalize hS1 : (if Int32.ofNat 32192 ≤ S.1 1 2 then S else mS (mA S 3 (upd (S.2.1 3) (S.1 1 2).toNatClampNeg (S.1 1 3 <<< ((8 : Int32) &&& 31) ||| dget S (S.1 1 3)))) 1 2 (S.1 1 2 + 1)) = S1
    have e : S1.1 1 3 = y := by
      rw [← hS1]
      split
      · exact h
      · rw [mS_ne (by decide)]; exact h
    rw [e]
    show ¬ dget (dset S1 y (dbyte 1 0)) y = 3
    unfold dset
    split
    · rename_i h1; unfold dget; rw [if_pos h1]; decide
    split
    · rename_i h1 h2; unfold dget; rw [if_neg h1, if_neg (Int32.not_lt.mpr h2)]; decide
    · rename_i h1 h2
      unfold dget
      rw [if_neg h1, if_pos (Int32.not_le.mp h2), show (mA S1 2 (upd (S1.2.1 2) y.toNatClampNeg (dbyte 1 0).toInt8.toInt32.toInt8.toInt32)).2.1 2 = upd (S1.2.1 2) y.toNatClampNeg (dbyte 1 0).toInt8.toInt32.toInt8.toInt32 from by simp [mA], pk_us]
      decide
  · show (dwr S (dbyte 1 0)).1 1 3 = y + nI 1
    rw [dwr_at, h]; rfl
set_option maxRecDepth 100000 in
set_option maxHeartbeats 4000000 in
theorem c_logHasRoom (S : gS) (x : Int32) : gCt MX4_logHasRoom (0, 0) 0 0 [.ref 0, .int x] (wOf τ S) (gN (wOf τ) fun v S' => (∃ r : Int32, v = .int r ∧ (r = 0 ∨ r = 1) ∧ (¬ 24000 < S.1 4 11 + x → r = 1)) ∧ S = S') := by
  refine gCt.of (ls := [some (.ref 0), some (.int x)]) 0 (by decide) rfl (Nat.le_of_ble_eq_true rfl) ?_
  refine g_aload_n dX4_logHasRoom_0 rfl rfl ?_
  refine g_get dX4_logHasRoom_1 flX4_19 rfl rfl ?_
  refine g_get dX4_logHasRoom_4 flX4_160 rfl rfl ?_
  refine g_iload_n dX4_logHasRoom_7 rfl rfl ?_
  refine g_iadd dX4_logHasRoom_8 ?_
  refine g_sipush (v := 24000) dX4_logHasRoom_9 (by decide) ?_
  refine g_icmp_gt (tgt := 19) dX4_logHasRoom_12 (by decide) (fun c12 => ?_) (fun c12 => ?_)
  · refine g_iconst (v := 0) dX4_logHasRoom_19 (by decide) ?_
    refine g_zret dX4_logHasRoom_20 rfl (by first | rfl | assumption) ⟨_, _, rfl, rfl, ?_⟩
    first | exact ⟨⟨_, rfl, Or.inr rfl, fun _ => rfl⟩, rfl⟩ | exact ⟨⟨_, rfl, Or.inl rfl, fun h => absurd c12 h⟩, rfl⟩
  · refine g_iconst (v := 1) dX4_logHasRoom_15 (by decide) ?_
    refine g_goto (tgt := 20) dX4_logHasRoom_16 (by decide) ?_
    refine g_zret dX4_logHasRoom_20 rfl (by first | rfl | assumption) ⟨_, _, rfl, rfl, ?_⟩
    first | exact ⟨⟨_, rfl, Or.inr rfl, fun _ => rfl⟩, rfl⟩ | exact ⟨⟨_, rfl, Or.inl rfl, fun h => absurd c12 h⟩, rfl⟩
set_option maxRecDepth 100000 in
set_option maxHeartbeats 4000000 in
theorem c_startRow (S : gS) (x y : Int32) (h0 : ¬ S.1 1 2 < 0) : gCt MX4_startRow (3, 90) 0 0 [.ref 0, .int x, .int y] (wOf τ S) (g0 (wOf τ) fun S' => Cl S S' ∧ S'.1 4 = S.1 4 ∧ S'.1 0 = S.1 0 ∧ S'.2.2 = S.2.2 ∧ (x = 1 → Hold S' (32 + S.1 4 11) 4)) := by
  refine gCt.of (ls := [some (.ref 0), some (.int x), some (.int y)]) 0 (by decide) rfl (Nat.le_of_ble_eq_true rfl) ?_
  refine g_aload_n dX4_startRow_0 rfl rfl ?_
  refine g_get dX4_startRow_1 flX4_12 rfl rfl ?_
  refine g_bipush (v := 32) dX4_startRow_4 (by decide) ?_
  refine g_aload_n dX4_startRow_6 rfl rfl ?_
  refine g_get dX4_startRow_7 flX4_19 rfl rfl ?_
  refine g_get dX4_startRow_10 flX4_160 rfl rfl ?_
  refine g_iadd dX4_startRow_13 ?_
  refine cV10 (fun _ _ => rfl) dX4_startRow_14 mlX4_244 imX1_goTo seX1_goTo rfl rfl (c_goTo _ _) (by decide) (Nat.le_of_ble_eq_true rfl) (Nat.le_of_ble_eq_true rfl) (Nat.le_of_ble_eq_true rfl) ?_
  rintro _ rfl
  refine g_aload_n dX4_startRow_17 rfl rfl ?_
  refine g_get dX4_startRow_18 flX4_12 rfl rfl ?_
  refine g_iload_n dX4_startRow_21 rfl rfl ?_
  refine g_i2l dX4_startRow_22 ?_
  refine g_iconst (v := 1) dX4_startRow_23 (by decide) ?_
  refine cV20 (fun _ _ => rfl) dX4_startRow_24 mlX4_72 imX1_write seX1_write rfl rfl (c_write _ _ 1 (by decide) (by rw [mS_ne (by decide)]; exact h0)) (by decide) (Nat.le_of_ble_eq_true rfl) (Nat.le_of_ble_eq_true rfl) (Nat.le_of_ble_eq_true rfl) ?_
  rintro _ rfl
  refine g_aload_n dX4_startRow_27 rfl rfl ?_
  refine g_get dX4_startRow_28 flX4_12 rfl rfl ?_
  refine g_iload_n dX4_startRow_31 rfl rfl ?_
  refine g_i2l dX4_startRow_32 ?_
  refine g_iconst (v := 2) dX4_startRow_33 (by decide) ?_
  refine cV20 (fun _ _ => rfl) dX4_startRow_34 mlX4_72 imX1_write seX1_write rfl rfl (c_write _ _ 2 (by decide) (dwrs_pos _ _ (by rw [mS_ne (by decide)]; exact h0))) (by decide) (Nat.le_of_ble_eq_true rfl) (Nat.le_of_ble_eq_true rfl) (Nat.le_of_ble_eq_true rfl) ?_
  rintro _ rfl
  refine g_aload_n dX4_startRow_37 rfl rfl ?_
  refine g_get dX4_startRow_38 flX4_12 rfl rfl ?_
  refine g_iload_n dX4_startRow_41 rfl rfl ?_
  refine cS1N (fun _ _ => rfl) dX4_startRow_42 mlX4_247 isX4_sizeOf (c_sizeOf _ _) (by decide) (Nat.le_of_ble_eq_true rfl) (Nat.le_of_ble_eq_true rfl) (Nat.le_of_ble_eq_true rfl) ?_
  rintro _ _ ⟨⟨rs, rfl⟩, rfl⟩
  refine g_i2l dX4_startRow_45 ?_
  refine g_iconst (v := 1) dX4_startRow_46 (by decide) ?_
  refine cV20 (fun _ _ => rfl) dX4_startRow_47 mlX4_72 imX1_write seX1_write rfl rfl (c_write _ _ 1 (by decide) (dwrs_pos _ _ (dwrs_pos _ _ (by rw [mS_ne (by decide)]; exact h0)))) (by decide) (Nat.le_of_ble_eq_true rfl) (Nat.le_of_ble_eq_true rfl) (Nat.le_of_ble_eq_true rfl) ?_
  rintro _ rfl
  refine g_vret dX4_startRow_50 rfl ⟨_, rfl, rfl, ?_⟩
  refine ⟨?_, ?_, ?_, ?_, ?_⟩
  · exact Cl.tr (Cl.tr (Cl.tr (Cl.s (Cl.rf S) (by decide) (by decide)) (dwrs_Cl _ _ (by rw [mS_ne (by decide)]; exact h0))) (dwrs_Cl _ _ (dwrs_pos _ _ (by rw [mS_ne (by decide)]; exact h0)))) (dwrs_Cl _ _ (dwrs_pos _ _ (dwrs_pos _ _ (by rw [mS_ne (by decide)]; exact h0))))
  · rw [dwrs_k _ _ (by decide), dwrs_k _ _ (by decide), dwrs_k _ _ (by decide)]; funext b; exact mS_ne (fun z => by omega)
  · rw [dwrs_k _ _ (by decide), dwrs_k _ _ (by decide), dwrs_k _ _ (by decide)]; funext b; exact mS_ne (fun z => by omega)
  · rw [dwrs_L, dwrs_L, dwrs_L]; rfl
  · rintro rfl
    exact Hold.wrs _ 1 (Hold.wrs _ 2 (Hold.one (by rw [mS_same])) (by decide) (by decide)) (by decide) (by decide)
set_option maxRecDepth 100000 in
set_option maxHeartbeats 4000000 in
theorem c_endRow (S : gS) (h0 : ¬ S.1 1 2 < 0) : gCt MX4_endRow (5, 144) 0 0 [.ref 0] (wOf τ S) (g0 (wOf τ) fun S' => Cl S S' ∧ (∀ k, Hold S (32 + S.1 4 11) k → 0 < k → k < 1000 → S'.1 4 8 = S.1 4 8)) := by
  refine gCt.of (ls := [some (.ref 0), none]) 1 (by decide) rfl (Nat.le_of_ble_eq_true rfl) ?_
  refine g_bipush (v := 32) dX4_endRow_0 (by decide) ?_
  refine g_aload_n dX4_endRow_2 rfl rfl ?_
  refine g_get dX4_endRow_3 flX4_19 rfl rfl ?_
  refine g_get dX4_endRow_6 flX4_160 rfl rfl ?_
  refine g_iadd dX4_endRow_9 ?_
  refine g_istore_n dX4_endRow_10 rfl (by decide) ?_
  refine g_aload_n dX4_endRow_11 rfl rfl ?_
  refine g_get dX4_endRow_12 flX4_12 rfl rfl ?_
  refine g_aload_n dX4_endRow_15 rfl rfl ?_
  refine g_get dX4_endRow_16 flX4_12 rfl rfl ?_
  refine g_iload_n dX4_endRow_19 rfl rfl ?_
  refine g_aload_n dX4_endRow_20 rfl rfl ?_
  refine g_get dX4_endRow_21 flX4_12 rfl rfl ?_
  refine g_get dX4_endRow_24 flX4_250 rfl rfl ?_
  refine g_iload_n dX4_endRow_27 rfl rfl ?_
  refine g_i2l dX4_endRow_28 ?_
  refine cV3N (fun _ _ => rfl) dX4_endRow_29 mlX4_253 imX1_sum seX1_sum rfl rfl (c_sum _ _ _ _) (by decide) (Nat.le_of_ble_eq_true rfl) (Nat.le_of_ble_eq_true rfl) (Nat.le_of_ble_eq_true rfl) ?_
  rintro _ _ ⟨rfl, rfl⟩
  refine g_bipush (v := 8) dX4_endRow_32 (by decide) ?_
  refine cV20 (fun _ _ => rfl) dX4_endRow_34 mlX4_72 imX1_write seX1_write rfl rfl (c_write _ _ 8 (by decide) h0) (by decide) (Nat.le_of_ble_eq_true rfl) (Nat.le_of_ble_eq_true rfl) (Nat.le_of_ble_eq_true rfl) ?_
  rintro _ rfl
  refine g_aload_n dX4_endRow_37 rfl rfl ?_
  refine g_get dX4_endRow_38 flX4_19 rfl rfl ?_
  refine g_aload_n dX4_endRow_41 rfl rfl ?_
  refine g_get dX4_endRow_42 flX4_12 rfl rfl ?_
  refine g_iload_n dX4_endRow_45 rfl rfl ?_
  refine cV20 (fun _ _ => rfl) dX4_endRow_46 mlX4_257 imX2_takeRow seX2_takeRow rfl rfl (c_takeRow4 _ _) (by decide) (Nat.le_of_ble_eq_true rfl) (Nat.le_of_ble_eq_true rfl) (Nat.le_of_ble_eq_true rfl) ?_
  rintro S1 hS1
  refine g_vret dX4_endRow_49 rfl ⟨_, rfl, rfl, ?_⟩
  refine ⟨(dwrs_Cl _ _ h0).tr hS1.1, fun k hk h1 h2 => ?_⟩
  rw [hS1.2 (Hold.wrs _ 8 hk h1 (by omega)).1, dwrs_k _ _ (by decide)]
def hright (S : gS) (x : Int32) : Int32 := if lg_cmp (dsum S (if Int32.ofNat 24032 < x + 16 - 8 then Int32.ofNat 24032 else x + 16 - 8) 24033 (if x < 0 then 0 else x) 1) (dnum S (x + 16 - 8) 8) = 0 then (if 0 < lg_cmp (dnum S (x + 4) 4) 24000 then 0 else 1) else 0
set_option maxRecDepth 100000 in
set_option maxHeartbeats 4000000 in
theorem c_isHeadRight (S : gS) (x : Int32) : gCt MX4_isHeadRight (2, 72) 0 0 [.ref 0, .int x] (wOf τ S) (gN (wOf τ) fun v S' => v = .int (hright S x) ∧ S = S') := by
  refine gCt.of (ls := [some (.ref 0), some (.int x), none]) 1 (by decide) rfl (Nat.le_of_ble_eq_true rfl) ?_
  refine g_iload_n dX4_isHeadRight_0 rfl rfl ?_
  refine g_bipush (v := 16) dX4_isHeadRight_1 (by decide) ?_
  refine g_iadd dX4_isHeadRight_3 ?_
  refine g_bipush (v := 8) dX4_isHeadRight_4 (by decide) ?_
  refine g_isub dX4_isHeadRight_6 ?_
  refine g_istore_n dX4_isHeadRight_7 rfl (by decide) ?_
  refine g_aload_n dX4_isHeadRight_8 rfl rfl ?_
  refine g_get dX4_isHeadRight_9 flX4_12 rfl rfl ?_
  refine g_iload_n dX4_isHeadRight_12 rfl rfl ?_
  refine g_iload_n dX4_isHeadRight_13 rfl rfl ?_
  refine g_lconst (v := 1) dX4_isHeadRight_14 (by decide) ?_
  refine cV3N (fun _ _ => rfl) dX4_isHeadRight_15 mlX4_253 imX1_sum seX1_sum rfl rfl (c_sum _ _ _ _) (by decide) (Nat.le_of_ble_eq_true rfl) (Nat.le_of_ble_eq_true rfl) (Nat.le_of_ble_eq_true rfl) ?_
  rintro _ _ ⟨rfl, rfl⟩
  refine g_aload_n dX4_isHeadRight_18 rfl rfl ?_
  refine g_get dX4_isHeadRight_19 flX4_12 rfl rfl ?_
  refine g_iload_n dX4_isHeadRight_22 rfl rfl ?_
  refine g_bipush (v := 8) dX4_isHeadRight_23 (by decide) ?_
  refine cV2N (fun _ _ => rfl) dX4_isHeadRight_25 mlX4_135 imX1_number seX1_number rfl rfl (c_number _ _ 8 (by decide)) (by decide) (Nat.le_of_ble_eq_true rfl) (Nat.le_of_ble_eq_true rfl) (Nat.le_of_ble_eq_true rfl) ?_
  rintro _ _ ⟨rfl, rfl⟩
  refine g_lcmp dX4_isHeadRight_28 ?_
  refine g_if_ne (tgt := 54) dX4_isHeadRight_29 (by decide) (fun c29 => ?_) (fun c29 => ?_)
  · refine g_iconst (v := 0) dX4_isHeadRight_54 (by decide) ?_
    refine g_zret dX4_isHeadRight_55 rfl (by first | rfl | assumption) ⟨_, _, rfl, rfl, ?_⟩
    refine ⟨?_, rfl⟩
    unfold hright
    first | rw [if_pos c29, if_pos c47] | rw [if_pos c29, if_neg c47] | rw [if_neg c29]
  · refine g_aload_n dX4_isHeadRight_32 rfl rfl ?_
    refine g_get dX4_isHeadRight_33 flX4_12 rfl rfl ?_
    refine g_iload_n dX4_isHeadRight_36 rfl rfl ?_
    refine g_iconst (v := 4) dX4_isHeadRight_37 (by decide) ?_
    refine g_iadd dX4_isHeadRight_38 ?_
    refine g_iconst (v := 4) dX4_isHeadRight_39 (by decide) ?_
    refine cV2N (fun _ _ => rfl) dX4_isHeadRight_40 mlX4_135 imX1_number seX1_number rfl rfl (c_number _ _ 4 (by decide)) (by decide) (Nat.le_of_ble_eq_true rfl) (Nat.le_of_ble_eq_true rfl) (Nat.le_of_ble_eq_true rfl) ?_
    rintro _ _ ⟨rfl, rfl⟩
    refine g_ldc2 dX4_isHeadRight_43 coX4_267 ?_
    refine g_lcmp dX4_isHeadRight_46 ?_
    refine g_if_gt (tgt := 54) dX4_isHeadRight_47 (by decide) (fun c47 => ?_) (fun c47 => ?_)
    · refine g_iconst (v := 0) dX4_isHeadRight_54 (by decide) ?_
      refine g_zret dX4_isHeadRight_55 rfl (by first | rfl | assumption) ⟨_, _, rfl, rfl, ?_⟩
      refine ⟨?_, rfl⟩
      unfold hright
      first | rw [if_pos c29, if_pos c47] | rw [if_pos c29, if_neg c47] | rw [if_neg c29]
    · refine g_iconst (v := 1) dX4_isHeadRight_50 (by decide) ?_
      refine g_goto (tgt := 55) dX4_isHeadRight_51 (by decide) ?_
      refine g_zret dX4_isHeadRight_55 rfl (by first | rfl | assumption) ⟨_, _, rfl, rfl, ?_⟩
      refine ⟨?_, rfl⟩
      unfold hright
      first | rw [if_pos c29, if_pos c47] | rw [if_pos c29, if_neg c47] | rw [if_neg c29]
end
