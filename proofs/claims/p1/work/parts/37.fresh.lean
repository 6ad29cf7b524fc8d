/-! THE CLASS, NEW: what its memory holds, and that its disk is the reference's -/
theorem mAs2 (S : gS) (a : Nat) (F : Nat → Int32) : (mA S a F).2.1 a = F := by simp [mA]
theorem dwr_d {S : gS} {a : Nat} (v : Int32) (h : S.1 1 3 = nI a) (ha : a < 24032) : (dwr S v).2.1 2 = upd (S.2.1 2) a v.toInt8.toInt32.toInt8.toInt32 := by
  unfold dwr
  simp only
  show (dset _ _ v).2.1 2 = _
  generalize hS1 : (if Int32.ofNat 32192 ≤ S.1 1 2 then S else mS (mA S 3 (upd (S.2.1 3) (S.1 1 2).toNatClampNeg (S.1 1 3 <<< ((8 : Int32) &&& 31) ||| dget S (S.1 1 3)))) 1 2 (S.1 1 2 + 1)) = S1
  have e : S1.1 1 3 = nI a := by
    rw [← hS1]
    split
    · exact h
    · rw [mS_ne (by decide)]; exact h
  have e2 : S1.2.1 2 = S.2.1 2 := by
    rw [← hS1]
    split
    · rfl
    · simp [mS, mA]
  unfold dset
  rw [e, if_neg (nI_pos (by omega)), if_neg (show ¬ Int32.ofNat 24032 ≤ nI a from nI_ge ha (by decide)), nI_clamp (by omega), ← e2]
  simp [mA]
def wput (f : Nat → Int32) (a : Nat) (v : Int64) : Nat → Nat → Int32
  | 0 => f
  | j + 1 => wput (upd f a (dbyte v j).toInt8.toInt32.toInt8.toInt32) (a + 1) v j
theorem dwrs_d (v : Int64) : ∀ (j a : Nat) (S : gS), S.1 1 3 = nI a → a + j ≤ 24032 → (dwrs v j S).2.1 2 = wput (S.2.1 2) a v j ∧ (dwrs v j S).1 1 3 = nI (a + j) := by
  intro j
  induction j with
  | zero => intro a S h _; exact ⟨rfl, h⟩
  | succ j ih =>
    intro a S h ha
    have h2 : (dwr S (dbyte v j)).1 1 3 = nI (a + 1) := by rw [dwr_at, h, nI_1]
    obtain ⟨k1, k2⟩ := ih (a + 1) (dwr S (dbyte v j)) h2 (by omega)
    refine ⟨?_, ?_⟩
    · show (dwrs v j (dwr S (dbyte v j))).2.1 2 = _
      rw [k1, dwr_d _ h (by omega)]
      rfl
    · show (dwrs v j (dwr S (dbyte v j))).1 1 3 = _
      rw [k2, show a + 1 + j = a + (j + 1) by omega]
theorem wput_ge (v : Int64) : ∀ (j a : Nat) (f : Nat → Int32) (i : Nat), a + j ≤ i → wput f a v j i = f i := by
  intro j
  induction j with
  | zero => intro a f i _; rfl
  | succ j ih =>
    intro a f i h
    show wput (upd f a _) (a + 1) v j i = f i
    rw [ih (a + 1) _ i (by omega), pk_un (by omega)]
theorem dsum_eq {S T : gS} (h : S.2.1 2 = T.2.1 2) (e : Int32) : ∀ (f : Nat) (x : Int32) (s : Int64), dsum S e f x s = dsum T e f x s := by
  intro f
  induction f with
  | zero => intro x s; rfl
  | succ f ih => intro x s; simp only [dsum]; rw [h, ih]
theorem dnum_eq {S T : gS} (h : S.2.1 2 = T.2.1 2) (x : Int32) : ∀ n : Nat, dnum S x n = dnum T x n := by
  intro n
  induction n with
  | zero => rfl
  | succ n ih => simp only [dnum]; rw [ih, dget_eq h]
theorem hright_eq {S T : gS} (h : S.2.1 2 = T.2.1 2) (x : Int32) : hright S x = hright T x := by
  unfold hright
  rw [dsum_eq h, dnum_eq h, dnum_eq h]
def fd8 : Nat → Int32 := wput (wput (fun _ => 0) 0 0 4) 4 0 4
def fdk : Int64 := dsum (mA gS0 2 fd8) 8 24033 0 1
def fdc : Nat → Int32 := wput fd8 8 fdk 8
def anZ : gS := mS (kfor4 64 (mA gS0 2 (fun _ => 0))) 0 4 0
theorem anew_Z : anewS 64 gS0 = mS (mS (whead 0 anZ) 1 2 0) 0 5 1 := by
  unfold anewS
  simp only
  have e : fillB (gS0.2.1 2) 0 24032 = fun _ => 0 := fillB_0 0 24032
  rw [e]
  rfl
theorem whead_d : (whead 0 anZ).2.1 2 = fdc := by
  unfold whead
  simp only
  have a0 : (mS anZ 1 3 0).1 1 3 = nI 0 := mS_same _ _ _ _
  have e0 : (mS anZ 1 3 0).1 0 4 = 0 := rfl
  rw [e0]
  obtain ⟨k1, k2⟩ := dwrs_d (0 : Int32).toInt64 4 0 (mS anZ 1 3 0) a0 (by decide)
  have e1 : (dwrs (0 : Int32).toInt64 4 (mS anZ 1 3 0)).1 4 11 = 0 := by rw [dwrs_k _ _ (by decide)]; rfl
  rw [e1]
  obtain ⟨k3, k4⟩ := dwrs_d (0 : Int32).toInt64 4 (0 + 4) (dwrs (0 : Int32).toInt64 4 (mS anZ 1 3 0)) k2 (by decide)
  have k5 : (dwrs (0 : Int32).toInt64 4 (dwrs (0 : Int32).toInt64 4 (mS anZ 1 3 0))).2.1 2 = fd8 := by rw [k3, k1]; rfl
  rw [k4]
  have e2 : dsum (dwrs (0 : Int32).toInt64 4 (dwrs (0 : Int32).toInt64 4 (mS anZ 1 3 0))) (if Int32.ofNat 24032 < nI (0 + 4 + 4) then Int32.ofNat 24032 else nI (0 + 4 + 4)) 24033 (if (0 : Int32) < 0 then 0 else 0) 1 = fdk := by
    rw [if_neg (by decide), if_neg (by decide)]
    have e3 : (dwrs (0 : Int32).toInt64 4 (dwrs (0 : Int32).toInt64 4 (mS anZ 1 3 0))).2.1 2 = (mA gS0 2 fd8).2.1 2 := by rw [k5]; exact (mAs2 gS0 2 fd8).symm
    exact dsum_eq e3 _ _ _ _
  rw [e2]
  obtain ⟨k6, -⟩ := dwrs_d fdk 8 (0 + 4 + 4) _ k4 (by decide)
  rw [k6, k5]
  rfl
theorem mS_2 (S : gS) (k j : Nat) (v : Int32) : (mS S k j v).2 = S.2 := rfl
theorem an_d : (anewS 64 gS0).2.1 2 = fdc := by rw [anew_Z, mS_2, mS_2]; exact whead_d
theorem an_k (a : Nat) (ha : a ≠ 1) (ha0 : a ≠ 0) : (anewS 64 gS0).1 a = anZ.1 a := by
  rw [anew_Z]
  have e : ∀ (T : gS) (k j : Nat) (v : Int32), a ≠ k → (mS T k j v).1 a = T.1 a := fun T k j v h => funext fun b => mS_ne (fun z => h z.1)
  rw [e _ _ _ _ ha0, e _ _ _ _ ha, whead_k _ _ _ ha]
set_option maxRecDepth 100000 in
theorem fdc_0 : hright (mA gS0 2 fdc) 0 = 1 := by decide +kernel
set_option maxRecDepth 100000 in
theorem fdc_16 : hright (mA gS0 2 fdc) 16 = 0 := by decide +kernel
set_option maxRecDepth 100000 in
theorem fdc_n : (dnum (mA gS0 2 fdc) (0 + 4) 4).toInt32 = 0 := by decide +kernel
set_option maxRecDepth 100000 in
theorem fdc_m : ∀ i : Fin 16, fdc i.val &&& 255 = fdm i.val := by decide +kernel
theorem fdc_fdm (i : Nat) : fdc i &&& 255 = fdm i := by
  by_cases h : i < 16
  · exact fdc_m ⟨i, h⟩
  · have e1 : fdc i = 0 := by
      unfold fdc fd8
      rw [wput_ge _ _ _ _ _ (by omega), wput_ge _ _ _ _ _ (by omega), wput_ge _ _ _ _ _ (by omega)]
    have e2 : fdm i = 0 := by
      unfold fdm mhd
      rw [mput_ge _ _ _ _ _ (by omega), mput_ge _ _ _ _ _ (by omega), mput_ge _ _ _ _ _ (by omega)]
    rw [e1, e2]
    rfl
theorem an_Fr : Fr (anewS 64 gS0) := by
  have h0 : (anewS 64 gS0).1 0 4 = 0 := by
    rw [anew_Z, mS_ne (by decide), mS_ne (by decide), whead_k _ _ _ (by decide)]; rfl
  refine ⟨⟨by rw [anew_Z]; exact mS_same _ _ _ _, h0, anewS_w _ _, ?_⟩, ⟨?_, ?_, ?_, ?_, ?_⟩, ?_, fun j hj => ?_, ?_, ?_, ?_⟩
  · rw [an_k 4 (by decide) (by decide)]; rfl
  · rw [an_k 4 (by decide) (by decide)]; rfl
  · rw [an_k 4 (by decide) (by decide)]; rfl
  · rw [an_k 4 (by decide) (by decide)]; rfl
  · rw [an_k 4 (by decide) (by decide)]; rfl
  · rw [an_k 4 (by decide) (by decide)]; rfl
  · rw [an_k 6 (by decide) (by decide)]; rfl
  · rw [anew_Z, mS_2, mS_2, whead_L]
    have e9 : anZ.2.2 5 = fillL (gS0.2.2 5) 0 64 := by
      unfold anZ kfor4
      simp [mS, mL, mA]
    rw [e9]
    exact fillL_in _ _ _ _ hj
  · rw [hright_eq (T := mA gS0 2 fdc) (by rw [an_d, mAs2]), fdc_0]; decide
  · rw [hright_eq (T := mA gS0 2 fdc) (by rw [an_d, mAs2])]; exact fdc_16
  · rw [dnum_eq (T := mA gS0 2 fdc) (by rw [an_d, mAs2])]; exact fdc_n
theorem an_get {x : Int32} (h1 : ¬ x < 0) (h2 : x < 24032) : dget (anewS 64 gS0) x = fdm x.toNatClampNeg := by
  unfold dget
  rw [if_neg h1, if_pos (show x < Int32.ofNat 24032 from h2), an_d]
  exact fdc_fdm _
