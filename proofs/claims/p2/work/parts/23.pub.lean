section
variable {τ : gW}
theorem g_tsw4 {X : gXs} {M : gM} {d : Nat × Nat} {pc : Nat} {ls : List (Option Value)} {st : List Value} {w : gW} {k n : Nat} {Q : gR → gW → Prop} {dflt : Int} {offs : Array Int} {len : Nat} {x : Int32} {ts : List Nat} {tv : Nat} (hd : decode M.2.1 pc = .ok (.tableswitch dflt 0 9 offs, len)) (hp : (∀ o ∈ dflt :: offs.toList, ∃ t ∈ ts, (pc : Int) + o = (t : Int)) ∧ offs.size = 10) (hv : (∀ i : Fin offs.size, ¬ (pc : Int) + offs[i] = (tv : Int)) ∧ (pc : Int) + dflt = (tv : Int)) (h : ∀ t ∈ ts, (¬ t = tv → ¬ x < 0 ∧ ¬ 9 < x) → (t = tv → ¬ (¬ x < 0 ∧ ¬ 9 < x)) → GE X M d t ls st w k n Q) : GE X M d pc ls (.int x :: st) w k n Q := by
  have z0 : x < 0 ↔ x.toInt < 0 := Int32.lt_iff_toInt_lt
  have z9 : 9 < x ↔ 9 < x.toInt := Int32.lt_iff_toInt_lt
  by_cases h1 : x.toInt < 0
  · obtain ⟨t, ht, e1⟩ := hp.1 dflt List.mem_cons_self
    exact g_tableOut hd (Or.inl h1) e1 (h t ht (fun z => absurd (Int.ofNat_inj.mp (e1.symm.trans hv.2)) z) (fun _ q => q.1 (z0.mpr h1)))
  by_cases h2 : 9 < x.toInt
  · obtain ⟨t, ht, e1⟩ := hp.1 dflt List.mem_cons_self
    exact g_tableOut hd (Or.inr h2) e1 (h t ht (fun z => absurd (Int.ofNat_inj.mp (e1.symm.trans hv.2)) z) (fun _ q => q.2 (z9.mpr h2)))
  have h3 : (x.toInt - 0).toNat < offs.size := by rw [hp.2]; omega
  obtain ⟨t, ht, e1⟩ := hp.1 offs[(x.toInt - 0).toNat] (List.mem_cons_of_mem _ (Array.getElem_mem_toList h3))
  refine g_tableIn hd h1 h2 (Array.getElem?_eq_getElem h3) e1 (h t ht (fun _ => ⟨fun q => h1 (z0.mp q), fun q => h2 (z9.mp q)⟩) (fun z => ?_))
  exact absurd (by rw [← z]; exact e1) (hv.1 ⟨(x.toInt - 0).toNat, h3⟩)
/-- a new object, as its methods find it -/
def Fr (S : gS) : Prop := (S.1 0 5 = 1 ∧ S.1 0 4 = 0 ∧ S.1 1 2 = 0 ∧ S.1 4 6 = 64) ∧ (S.1 4 7 = 0 ∧ S.1 4 8 = 0 ∧ S.1 4 9 = 0 ∧ S.1 4 10 = 0 ∧ S.1 4 11 = 0) ∧ S.1 6 3 = 0 ∧ (∀ j, j < 64 → S.2.2 5 j = 0) ∧ (¬ hright S 0 = 0 ∧ hright S 16 = 0 ∧ (dnum S (0 + 4) 4).toInt32 = 0)
theorem Fr.op {S : gS} (f : Fr S) : ¬ S.1 0 5 = 0 := by rw [f.1.1]; decide
theorem Fr.nv {S : gS} (f : Fr S) : S.1 4 8 ≤ 0 := by rw [f.2.1.2.1]; decide
theorem Fr.nc {S : gS} (f : Fr S) : S.1 6 3 ≤ 0 := by rw [f.2.2.1]; decide
theorem Fr.z {S : gS} (f : Fr S) : ∀ j, j < 64 → S.2.2 5 j = 0 := f.2.2.2.1
theorem Fr.n {S : gS} (f : Fr S) : nFr S := ⟨f.nc, f.z, by rw [f.1.2.2.2]; decide⟩
def inN (x : Int32) : Prop := ¬ x < 0 ∧ x < 64
theorem inN_or {x : Int32} (h : x < 0 ∨ ¬ x < 64) : ¬ inN x := fun z => h.elim z.1 (fun y => y z.2)
set_option maxRecDepth 100000 in
set_option maxHeartbeats 4000000 in
theorem c_begin (S : gS) (x : Int32) (h0 : ¬ S.1 1 2 < 0) : gCt MX4_begin (6, 127) 1 6 [.ref 0, .int x] (wOf τ S) (gY (wOf τ) (fun S' => S' = anewS x S ∧ ¬ x < 0 ∧ ¬ x = 0 ∧ x ≤ 65536) (fun E S' => S = S' ∧ ((E = gNA ∧ x < 0) ∨ (E = gIA ∧ ¬ x < 0 ∧ (x = 0 ∨ ¬ x ≤ 65536))))) := by
  refine gCt.of (ls := [some (.ref 0), some (.int x)]) 0 (by decide) rfl (Nat.le_of_ble_eq_true rfl) ?_
  refine g_iload_n dX4_begin_0 rfl rfl ?_
  refine g_if_ge (tgt := 14) dX4_begin_1 (by decide) (fun c1 => ?_) (fun c1 => ?_)
  · refine g_iload_n dX4_begin_14 rfl rfl ?_
    refine g_if_eq (tgt := 24) dX4_begin_15 (by decide) (fun c15 => ?_) (fun c15 => ?_)
    · refine g_throwS (cls := gIA) (names := gup) (text := "the room is not 1 .. 65536") fit_4 fit_n clX4_45 in_java_lang_IllegalArgumentException (by decide +kernel) th_49 nw_java_lang_IllegalArgumentException to_49 dX4_begin_24 dX4_begin_27 dX4_begin_28 dX4_begin_30 dX4_begin_33 (fun _ h => nomatch h) (by decide) (Nat.le_of_ble_eq_true rfl) (Nat.le_of_ble_eq_true rfl) (Nat.le_of_ble_eq_true rfl) ?_
      exact Or.inr ⟨_, _, rfl, rfl, rfl, Or.inr ⟨rfl, Int32.not_lt.mpr c1, by first | exact Or.inl c15 | exact Or.inr c21⟩⟩
    · refine g_iload_n dX4_begin_18 rfl rfl ?_
      refine g_ldc dX4_begin_19 coX4_44 ?_
      refine g_icmp_le (tgt := 34) dX4_begin_21 (by decide) (fun c21 => ?_) (fun c21 => ?_)
      · refine g_aload_n dX4_begin_34 rfl rfl ?_
        refine g_iload_n dX4_begin_35 rfl rfl ?_
        refine cV10 (fun _ _ => rfl) dX4_begin_36 mlX4_33 imX4_startAnew seX4_startAnew rfl rfl (c_startAnew _ _ h0) (by decide) (Nat.le_of_ble_eq_true rfl) (Nat.le_of_ble_eq_true rfl) (Nat.le_of_ble_eq_true rfl) ?_
        rintro _ rfl
        refine g_vret dX4_begin_39 rfl (Or.inl ⟨_, rfl, rfl, ?_⟩)
        exact ⟨rfl, Int32.not_lt.mpr c1, c15, c21⟩
      · refine g_throwS (cls := gIA) (names := gup) (text := "the room is not 1 .. 65536") fit_4 fit_n clX4_45 in_java_lang_IllegalArgumentException (by decide +kernel) th_49 nw_java_lang_IllegalArgumentException to_49 dX4_begin_24 dX4_begin_27 dX4_begin_28 dX4_begin_30 dX4_begin_33 (fun _ h => nomatch h) (by decide) (Nat.le_of_ble_eq_true rfl) (Nat.le_of_ble_eq_true rfl) (Nat.le_of_ble_eq_true rfl) ?_
        exact Or.inr ⟨_, _, rfl, rfl, rfl, Or.inr ⟨rfl, Int32.not_lt.mpr c1, by first | exact Or.inl c15 | exact Or.inr c21⟩⟩
  · refine g_throwS (cls := gNA) (names := gup) (text := "the room is below 0") fit_3 fit_n clX4_37 in_Jxde1cd (by decide +kernel) th_41 nw_Jxde1cd to_41 dX4_begin_4 dX4_begin_7 dX4_begin_8 dX4_begin_10 dX4_begin_13 (fun _ h => nomatch h) (by decide) (Nat.le_of_ble_eq_true rfl) (Nat.le_of_ble_eq_true rfl) (Nat.le_of_ble_eq_true rfl) ?_
    exact Or.inr ⟨_, _, rfl, rfl, rfl, Or.inl ⟨rfl, Int32.not_le.mp c1⟩⟩
set_option maxRecDepth 100000 in
set_option maxHeartbeats 4000000 in
theorem c_edge (S : gS) (x y z : Int32) (hz : z = 0 ∨ z = 1) (h0 : ¬ S.1 1 2 < 0) : gCt MX4_edge (7, 165) 3 18 [.ref 0, .int x, .int y, .int z] (wOf τ S) (gX (wOf τ) (fun v S' => (∃ r : Int32, v = .int r ∧ (Fr S → (inN x ∧ inN y) ∧ r = z)) ∧ Cl S S') (fun E S' => S = S' ∧ ((E = gIS ∧ ¬ Fr S) ∨ (E = gIO ∧ (Fr S → ¬ inN x ∨ ¬ inN y))))) := by
  refine gCt.of (ls := [some (.ref 0), some (.int x), some (.int y), some (.int z)]) 0 (by decide) rfl (Nat.le_of_ble_eq_true rfl) ?_
  refine g_aload_n dX4_edge_0 rfl rfl ?_
  refine cV0Y (fun _ _ => rfl) dX4_edge_1 mlX4_50 imX4_requireOpen seX4_requireOpen rfl rfl (c_requireOpen _) (by decide) (Nat.le_of_ble_eq_true rfl) (Nat.le_of_ble_eq_true rfl) (Nat.le_of_ble_eq_true rfl) ?_ ?_
  · rintro _ ⟨rfl, hop⟩
    refine g_aload_n dX4_edge_4 rfl rfl ?_
    refine g_iload_n dX4_edge_5 rfl rfl ?_
    refine cV1Y (fun _ _ => rfl) dX4_edge_6 mlX4_53 imX4_requireNode seX4_requireNode rfl rfl (c_requireNode _ _) (by decide) (Nat.le_of_ble_eq_true rfl) (Nat.le_of_ble_eq_true rfl) (Nat.le_of_ble_eq_true rfl) ?_ ?_
    · rintro _ ⟨rfl, ha⟩
      refine g_aload_n dX4_edge_9 rfl rfl ?_
      refine g_iload_n dX4_edge_10 rfl rfl ?_
      refine cV1Y (fun _ _ => rfl) dX4_edge_11 mlX4_53 imX4_requireNode seX4_requireNode rfl rfl (c_requireNode _ _) (by decide) (Nat.le_of_ble_eq_true rfl) (Nat.le_of_ble_eq_true rfl) (Nat.le_of_ble_eq_true rfl) ?_ ?_
      · rintro _ ⟨rfl, hb2⟩
        refine g_aload_n dX4_edge_14 rfl rfl ?_
        refine g_get dX4_edge_15 flX4_19 rfl rfl ?_
        refine g_iconst (v := (-1)) dX4_edge_18 (by decide) ?_
        refine g_iload_n dX4_edge_19 rfl rfl ?_
        refine g_iload_n dX4_edge_20 rfl rfl ?_
        refine cV3N (fun _ _ => rfl) dX4_edge_21 mlX4_56 imX2_joins seX2_joins rfl rfl (c_joins4 _ _ _ _) (by decide) (Nat.le_of_ble_eq_true rfl) (Nat.le_of_ble_eq_true rfl) (Nat.le_of_ble_eq_true rfl) ?_
        rintro _ _ ⟨⟨jo, rfl, jo01, hjo⟩, rfl⟩
        refine g_iload_n dX4_edge_24 rfl rfl ?_
        refine g_icmp_ne (tgt := 30) dX4_edge_25 (by decide) (fun c25 => ?_) (fun c25 => ?_)
        · refine g_aload_n dX4_edge_30 rfl rfl ?_
          refine g_bipush (v := 15) dX4_edge_31 (by decide) ?_
          refine cV1N (fun _ _ => rfl) dX4_edge_33 mlX4_60 imX4_logHasRoom seX4_logHasRoom rfl rfl (c_logHasRoom _ _) (by decide) (Nat.le_of_ble_eq_true rfl) (Nat.le_of_ble_eq_true rfl) (Nat.le_of_ble_eq_true rfl) ?_
          rintro _ _ ⟨⟨lr, rfl, lr01, hlr⟩, rfl⟩
          refine g_if_ne (tgt := 42) dX4_edge_36 (by decide) (fun c36 => ?_) (fun c36 => ?_)
          · refine g_aload_n dX4_edge_42 rfl rfl ?_
            refine g_iconst (v := 2) dX4_edge_43 (by decide) ?_
            refine g_aload_n dX4_edge_44 rfl rfl ?_
            refine g_get dX4_edge_45 flX4_19 rfl rfl ?_
            refine g_get dX4_edge_48 flX4_64 rfl rfl ?_
            refine cV20 (fun _ _ => rfl) dX4_edge_51 mlX4_68 imX4_startRow seX4_startRow rfl rfl (c_startRow _ _ _ h0) (by decide) (Nat.le_of_ble_eq_true rfl) (Nat.le_of_ble_eq_true rfl) (Nat.le_of_ble_eq_true rfl) ?_
            rintro S1 ⟨k1, k2, k3, k4, k5⟩
            refine g_aload_n dX4_edge_54 rfl rfl ?_
            refine g_get dX4_edge_55 flX4_12 rfl rfl ?_
            refine g_iload_n dX4_edge_58 rfl rfl ?_
            refine g_i2l dX4_edge_59 ?_
            refine g_iconst (v := 1) dX4_edge_60 (by decide) ?_
            refine cV20 (fun _ _ => rfl) dX4_edge_61 mlX4_72 imX1_write seX1_write rfl rfl (c_write _ _ 1 (by decide) (k1 h0)) (by decide) (Nat.le_of_ble_eq_true rfl) (Nat.le_of_ble_eq_true rfl) (Nat.le_of_ble_eq_true rfl) ?_
            rintro _ rfl
            refine g_aload_n dX4_edge_64 rfl rfl ?_
            refine g_get dX4_edge_65 flX4_12 rfl rfl ?_
            refine g_iload_n dX4_edge_68 rfl rfl ?_
            refine g_i2l dX4_edge_69 ?_
            refine g_iconst (v := 1) dX4_edge_70 (by decide) ?_
            refine cV20 (fun _ _ => rfl) dX4_edge_71 mlX4_72 imX1_write seX1_write rfl rfl (c_write _ _ 1 (by decide) (dwrs_pos _ _ (k1 h0))) (by decide) (Nat.le_of_ble_eq_true rfl) (Nat.le_of_ble_eq_true rfl) (Nat.le_of_ble_eq_true rfl) ?_
            rintro _ rfl
            refine g_aload_n dX4_edge_74 rfl rfl ?_
            refine g_get dX4_edge_75 flX4_12 rfl rfl ?_
            refine g_iload_n dX4_edge_78 rfl rfl ?_
            refine g_if_eq (tgt := 86) dX4_edge_79 (by decide) (fun c79 => ?_) (fun c79 => ?_)
            · refine g_lconst (v := 0) dX4_edge_86 (by decide) ?_
              refine g_iconst (v := 1) dX4_edge_87 (by decide) ?_
              refine cV20 (fun _ _ => rfl) dX4_edge_88 mlX4_72 imX1_write seX1_write rfl rfl (c_write _ _ 1 (by decide) (dwrs_pos _ _ (dwrs_pos _ _ (k1 h0)))) (by decide) (Nat.le_of_ble_eq_true rfl) (Nat.le_of_ble_eq_true rfl) (Nat.le_of_ble_eq_true rfl) ?_
              rintro _ rfl
              refine g_aload_n dX4_edge_91 rfl rfl ?_
              refine cV00 (fun _ _ => rfl) dX4_edge_92 mlX4_76 imX4_endRow seX4_endRow rfl rfl (c_endRow _ (dwrs_pos _ _ (dwrs_pos _ _ (dwrs_pos _ _ (k1 h0))))) (by decide) (Nat.le_of_ble_eq_true rfl) (Nat.le_of_ble_eq_true rfl) (Nat.le_of_ble_eq_true rfl) ?_
              rintro S2 ⟨j1, j2⟩
              refine g_iconst (v := 1) dX4_edge_95 (by decide) ?_
              refine g_iret dX4_edge_96 rfl (Or.inl ⟨_, _, rfl, rfl, ?_⟩)
              refine ⟨⟨_, rfl, fun f => ⟨⟨ha, hb2⟩, ?_⟩⟩, Cl.tr k1 (Cl.tr (dwrs_Cl _ _ (k1 h0)) (Cl.tr (dwrs_Cl _ _ (dwrs_pos _ _ (k1 h0))) (Cl.tr (dwrs_Cl _ _ (dwrs_pos _ _ (dwrs_pos _ _ (k1 h0)))) j1)))⟩
              rcases hz with hz | hz
              · exact absurd (by rw [hjo rfl f.z, hz]) c25
              · exact hz.symm
            · refine g_lconst (v := 1) dX4_edge_82 (by decide) ?_
              refine g_goto (tgt := 87) dX4_edge_83 (by decide) ?_
              refine g_iconst (v := 1) dX4_edge_87 (by decide) ?_
              refine cV20 (fun _ _ => rfl) dX4_edge_88 mlX4_72 imX1_write seX1_write rfl rfl (c_write _ _ 1 (by decide) (dwrs_pos _ _ (dwrs_pos _ _ (k1 h0)))) (by decide) (Nat.le_of_ble_eq_true rfl) (Nat.le_of_ble_eq_true rfl) (Nat.le_of_ble_eq_true rfl) ?_
              rintro _ rfl
              refine g_aload_n dX4_edge_91 rfl rfl ?_
              refine cV00 (fun _ _ => rfl) dX4_edge_92 mlX4_76 imX4_endRow seX4_endRow rfl rfl (c_endRow _ (dwrs_pos _ _ (dwrs_pos _ _ (dwrs_pos _ _ (k1 h0))))) (by decide) (Nat.le_of_ble_eq_true rfl) (Nat.le_of_ble_eq_true rfl) (Nat.le_of_ble_eq_true rfl) ?_
              rintro S2 ⟨j1, j2⟩
              refine g_iconst (v := 1) dX4_edge_95 (by decide) ?_
              refine g_iret dX4_edge_96 rfl (Or.inl ⟨_, _, rfl, rfl, ?_⟩)
              refine ⟨⟨_, rfl, fun f => ⟨⟨ha, hb2⟩, ?_⟩⟩, Cl.tr k1 (Cl.tr (dwrs_Cl _ _ (k1 h0)) (Cl.tr (dwrs_Cl _ _ (dwrs_pos _ _ (k1 h0))) (Cl.tr (dwrs_Cl _ _ (dwrs_pos _ _ (dwrs_pos _ _ (k1 h0)))) j1)))⟩
              rcases hz with hz | hz
              · exact absurd (by rw [hjo rfl f.z, hz]) c25
              · exact hz.symm
          · refine g_bipush (v := (-3)) dX4_edge_39 (by decide) ?_
            refine g_iret dX4_edge_41 rfl (Or.inl ⟨_, _, rfl, rfl, ?_⟩)
            exact ⟨⟨_, rfl, fun f => absurd c36 (by rw [hlr (by rw [f.2.1.2.2.2.2]; decide)]; decide)⟩, Cl.rf _⟩
        · refine g_iconst (v := 0) dX4_edge_28 (by decide) ?_
          refine g_iret dX4_edge_29 rfl (Or.inl ⟨_, _, rfl, rfl, ?_⟩)
          exact ⟨⟨_, rfl, fun f => ⟨⟨ha, hb2⟩, by rw [hjo rfl f.z] at c25; exact c25⟩⟩, Cl.rf _⟩
      · rintro E S9 ⟨rfl, rfl, hb⟩
        exact GTE.out (fun _ h => nomatch h) (Or.inr ⟨_, _, rfl, rfl, rfl, Or.inr ⟨rfl, fun _ => Or.inr (inN_or hb)⟩⟩)
    · rintro E S9 ⟨rfl, rfl, hb⟩
      exact GTE.out (fun _ h => nomatch h) (Or.inr ⟨_, _, rfl, rfl, rfl, Or.inr ⟨rfl, fun _ => Or.inl (inN_or hb)⟩⟩)
  · rintro E S9 ⟨rfl, rfl, hcl⟩
    exact GTE.out (fun _ h => nomatch h) (Or.inr ⟨_, _, rfl, rfl, rfl, Or.inl ⟨rfl, fun f => f.op hcl⟩⟩)
set_option maxRecDepth 100000 in
set_option maxHeartbeats 4000000 in
theorem l_ver2 (S : gS) (nu : Int32) (h0 : ¬ S.1 1 2 < 0) (hf : Fr S → nu = 0) : ∀ (m i k n : Nat) (S0 : gS), i + m = 8 → Cl S S0 → G MX4_version (7, 188) 101 [some (.ref 0), some (.int nu), some (.int (nI i))] [] (wOf τ S0) k n (gX (wOf τ) (fun v S' => (∃ r : Int32, v = .int r ∧ (Fr S → r = 0)) ∧ Cl S S') (fun E S' => S = S' ∧ ((E = gIS ∧ ¬ Fr S) ∨ (E = gIO ∧ (Fr S → False))))) := by
  intro m
  induction m with
  | zero =>
    intro i k n S0 hi hS
    obtain rfl : i = 8 := by omega
    refine g_iload_n dX4_version_101 rfl rfl ?_
    refine g_bipush (v := 8) dX4_version_102 (by decide) ?_
    refine g_icmp_ge (tgt := 130) dX4_version_104 (by decide) (fun c104 => ?_) (fun c104 => ?_)
    · refine g_aload_n dX4_version_130 rfl rfl ?_
      refine cV00 (fun _ _ => rfl) dX4_version_131 mlX4_76 imX4_endRow seX4_endRow rfl rfl (c_endRow _ (hS h0)) (by decide) (Nat.le_of_ble_eq_true rfl) (Nat.le_of_ble_eq_true rfl) (Nat.le_of_ble_eq_true rfl) ?_
      rintro S2 ⟨j1, j2⟩
      refine g_iload_n dX4_version_134 rfl rfl ?_
      refine g_iret dX4_version_135 rfl (Or.inl ⟨_, _, rfl, rfl, ?_⟩)
      exact ⟨⟨_, rfl, hf⟩, hS.tr j1⟩
    · exact absurd (show (8 : Int32) ≤ nI 8 by decide) c104
  | succ m ih =>
    intro i k n S0 hi hS
    refine g_iload_n dX4_version_101 rfl rfl ?_
    refine g_bipush (v := 8) dX4_version_102 (by decide) ?_
    refine g_icmp_ge (tgt := 130) dX4_version_104 (by decide) (fun c104 => ?_) (fun c104 => ?_)
    · exact absurd c104 (nI_ge (b := 8) (by omega) (by decide))
    · refine g_aload_n dX4_version_107 rfl rfl ?_
      refine g_get dX4_version_108 flX4_12 rfl rfl ?_
      refine g_aload_n dX4_version_111 rfl rfl ?_
      refine g_get dX4_version_112 flX4_29 rfl rfl ?_
      refine g_iload_n dX4_version_115 rfl rfl ?_
      refine cV1N (fun _ _ => rfl) dX4_version_116 mlX4_93 imX3_numberOf seX3_numberOf rfl rfl (c_numberOf _ _) (by decide) (Nat.le_of_ble_eq_true rfl) (Nat.le_of_ble_eq_true rfl) (Nat.le_of_ble_eq_true rfl) ?_
      rintro _ _ ⟨⟨no, rfl, -⟩, rfl⟩
      refine g_i2l dX4_version_119 ?_
      refine g_iconst (v := 2) dX4_version_120 (by decide) ?_
      refine cV20 (fun _ _ => rfl) dX4_version_121 mlX4_72 imX1_write seX1_write rfl rfl (c_write _ _ 2 (by decide) (hS h0)) (by decide) (Nat.le_of_ble_eq_true rfl) (Nat.le_of_ble_eq_true rfl) (Nat.le_of_ble_eq_true rfl) ?_
      rintro _ rfl
      refine g_iinc dX4_version_124 rfl (by decide) (by first | exact gi_1 _ | exact gi_p _) ?_
      refine g_goto (tgt := 101) dX4_version_127 (by decide) ?_
      exact ih (i + 1) _ _ _ (by omega) (hS.tr (dwrs_Cl _ _ (hS h0)))
set_option maxRecDepth 100000 in
set_option maxHeartbeats 4000000 in
theorem l_ver1 (S : gS) (h0 : ¬ S.1 1 2 < 0) : ∀ (m i k n : Nat) (S0 : gS) (l2 : Option Value), i + m = 8 → (Cl S S0 ∧ S0.1 4 8 = S.1 4 8) → G MX4_version (7, 188) 49 [some (.ref 0), some (.int (nI i)), l2] [] (wOf τ S0) k n (gX (wOf τ) (fun v S' => (∃ r : Int32, v = .int r ∧ (Fr S → r = 0)) ∧ Cl S S') (fun E S' => S = S' ∧ ((E = gIS ∧ ¬ Fr S) ∨ (E = gIO ∧ (Fr S → False))))) := by
  intro m
  induction m with
  | zero =>
    intro i k n S0 l2 hi hS
    obtain rfl : i = 8 := by omega
    refine g_iload_n dX4_version_49 rfl rfl ?_
    refine g_bipush (v := 8) dX4_version_50 (by decide) ?_
    refine g_icmp_ge (tgt := 85) dX4_version_52 (by decide) (fun c52 => ?_) (fun c52 => ?_)
    · refine g_aload_n dX4_version_85 rfl rfl ?_
      refine g_get dX4_version_86 flX4_19 rfl rfl ?_
      refine g_get dX4_version_89 flX4_79 rfl rfl ?_
      refine g_istore_n dX4_version_92 rfl (by decide) ?_
      refine g_aload_n dX4_version_93 rfl rfl ?_
      refine g_iconst (v := 3) dX4_version_94 (by decide) ?_
      refine g_iload_n dX4_version_95 rfl rfl ?_
      refine cV20 (fun _ _ => rfl) dX4_version_96 mlX4_68 imX4_startRow seX4_startRow rfl rfl (c_startRow _ _ _ (hS.1 h0)) (by decide) (Nat.le_of_ble_eq_true rfl) (Nat.le_of_ble_eq_true rfl) (Nat.le_of_ble_eq_true rfl) ?_
      rintro S1 ⟨k1, k2, k3, k4, k5⟩
      refine g_iconst (v := 0) dX4_version_99 (by decide) ?_
      refine g_istore_n dX4_version_100 rfl (by decide) ?_
      exact l_ver2 S _ h0 (fun f => by rw [hS.2]; exact f.2.1.2.1) 8 0 _ _ _ rfl (hS.1.tr k1)
    · exact absurd (show (8 : Int32) ≤ nI 8 by decide) c52
  | succ m ih =>
    intro i k n S0 l2 hi hS
    refine g_iload_n dX4_version_49 rfl rfl ?_
    refine g_bipush (v := 8) dX4_version_50 (by decide) ?_
    refine g_icmp_ge (tgt := 85) dX4_version_52 (by decide) (fun c52 => ?_) (fun c52 => ?_)
    · exact absurd c52 (nI_ge (b := 8) (by omega) (by decide))
    · refine g_aload_n dX4_version_55 rfl rfl ?_
      refine g_get dX4_version_56 flX4_29 rfl rfl ?_
      refine g_iload_n dX4_version_59 rfl rfl ?_
      refine cV1N (fun _ _ => rfl) dX4_version_60 mlX4_90 imX3_isNew seX3_isNew rfl rfl (c_isNew _ _) (by decide) (Nat.le_of_ble_eq_true rfl) (Nat.le_of_ble_eq_true rfl) (Nat.le_of_ble_eq_true rfl) ?_
      rintro _ _ ⟨⟨nw, rfl, -⟩, rfl⟩
      refine g_if_eq (tgt := 79) dX4_version_63 (by decide) (fun c63 => ?_) (fun c63 => ?_)
      · refine g_iinc dX4_version_79 rfl (by decide) (by first | exact gi_1 _ | exact gi_p _) ?_
        refine g_goto (tgt := 49) dX4_version_82 (by decide) ?_
        first | exact ih (i + 1) _ _ _ _ (by omega) hS | exact ih (i + 1) _ _ _ _ (by omega) ⟨hS.1.tr j1, j2.trans hS.2⟩
      · refine g_aload_n dX4_version_66 rfl rfl ?_
        refine g_iload_n dX4_version_67 rfl rfl ?_
        refine g_aload_n dX4_version_68 rfl rfl ?_
        refine g_get dX4_version_69 flX4_29 rfl rfl ?_
        refine g_iload_n dX4_version_72 rfl rfl ?_
        refine cV1N (fun _ _ => rfl) dX4_version_73 mlX4_93 imX3_numberOf seX3_numberOf rfl rfl (c_numberOf _ _) (by decide) (Nat.le_of_ble_eq_true rfl) (Nat.le_of_ble_eq_true rfl) (Nat.le_of_ble_eq_true rfl) ?_
        rintro _ _ ⟨⟨no, rfl, -⟩, rfl⟩
        refine cV20 (fun _ _ => rfl) dX4_version_76 mlX4_97 imX4_writeChunk seX4_writeChunk rfl rfl (c_writeChunk _ _ _ (hS.1 h0)) (by decide) (Nat.le_of_ble_eq_true rfl) (Nat.le_of_ble_eq_true rfl) (Nat.le_of_ble_eq_true rfl) ?_
        rintro S2 ⟨j1, j2⟩
        refine g_iinc dX4_version_79 rfl (by decide) (by first | exact gi_1 _ | exact gi_p _) ?_
        refine g_goto (tgt := 49) dX4_version_82 (by decide) ?_
        first | exact ih (i + 1) _ _ _ _ (by omega) hS | exact ih (i + 1) _ _ _ _ (by omega) ⟨hS.1.tr j1, j2.trans hS.2⟩
set_option maxRecDepth 100000 in
set_option maxHeartbeats 4000000 in
theorem c_version (S : gS) (h0 : ¬ S.1 1 2 < 0) : gCt MX4_version (7, 188) 1 6 [.ref 0] (wOf τ S) (gX (wOf τ) (fun v S' => (∃ r : Int32, v = .int r ∧ (Fr S → r = 0)) ∧ Cl S S') (fun E S' => S = S' ∧ ((E = gIS ∧ ¬ Fr S) ∨ (E = gIO ∧ (Fr S → False))))) := by
  refine gCt.of (ls := [some (.ref 0), none, none]) 2 (by decide) rfl (Nat.le_of_ble_eq_true rfl) ?_
  refine g_aload_n dX4_version_0 rfl rfl ?_
  refine cV0Y (fun _ _ => rfl) dX4_version_1 mlX4_50 imX4_requireOpen seX4_requireOpen rfl rfl (c_requireOpen _) (by decide) (Nat.le_of_ble_eq_true rfl) (Nat.le_of_ble_eq_true rfl) (Nat.le_of_ble_eq_true rfl) ?_ ?_
  · rintro _ ⟨rfl, hop⟩
    refine g_aload_n dX4_version_4 rfl rfl ?_
    refine g_get dX4_version_5 flX4_19 rfl rfl ?_
    refine g_get dX4_version_8 flX4_79 rfl rfl ?_
    refine g_bipush (v := 100) dX4_version_11 (by decide) ?_
    refine g_icmp_ge (tgt := 44) dX4_version_13 (by decide) (fun c13 => ?_) (fun c13 => ?_)
    · refine g_bipush (v := (-3)) dX4_version_44 (by decide) ?_
      refine g_iret dX4_version_46 rfl (Or.inl ⟨_, _, rfl, rfl, ?_⟩)
      first | exact ⟨⟨_, rfl, fun f => absurd c13 (by rw [f.2.1.2.1]; decide)⟩, Cl.rf _⟩ | exact ⟨⟨_, rfl, fun f => absurd c27 (by rw [(hnc f.n).1]; decide)⟩, q1⟩ | exact ⟨⟨_, rfl, fun f => absurd c41 (by rw [hlr (by rw [(hnc f.n).2, q2, f.2.1.2.2.2.2]; decide)]; decide)⟩, q1⟩
    · refine g_aload_n dX4_version_16 rfl rfl ?_
      refine g_get dX4_version_17 flX4_29 rfl rfl ?_
      refine g_aload_n dX4_version_20 rfl rfl ?_
      refine g_get dX4_version_21 flX4_19 rfl rfl ?_
      refine cV1N (fun _ _ => rfl) dX4_version_24 mlX4_82 imX3_numberChunks seX3_numberChunks rfl rfl (c_numberChunks _) (by decide) (Nat.le_of_ble_eq_true rfl) (Nat.le_of_ble_eq_true rfl) (Nat.le_of_ble_eq_true rfl) ?_
      rintro _ S1 ⟨⟨nc, rfl, nc01, hnc⟩, q1, q2⟩
      refine g_if_eq (tgt := 44) dX4_version_27 (by decide) (fun c27 => ?_) (fun c27 => ?_)
      · refine g_bipush (v := (-3)) dX4_version_44 (by decide) ?_
        refine g_iret dX4_version_46 rfl (Or.inl ⟨_, _, rfl, rfl, ?_⟩)
        first | exact ⟨⟨_, rfl, fun f => absurd c13 (by rw [f.2.1.2.1]; decide)⟩, Cl.rf _⟩ | exact ⟨⟨_, rfl, fun f => absurd c27 (by rw [(hnc f.n).1]; decide)⟩, q1⟩ | exact ⟨⟨_, rfl, fun f => absurd c41 (by rw [hlr (by rw [(hnc f.n).2, q2, f.2.1.2.2.2.2]; decide)]; decide)⟩, q1⟩
      · refine g_aload_n dX4_version_30 rfl rfl ?_
        refine g_aload_n dX4_version_31 rfl rfl ?_
        refine g_get dX4_version_32 flX4_29 rfl rfl ?_
        refine cV0N (fun _ _ => rfl) dX4_version_35 mlX4_86 imX3_bytes seX3_bytes rfl rfl (c_bytes _) (by decide) (Nat.le_of_ble_eq_true rfl) (Nat.le_of_ble_eq_true rfl) (Nat.le_of_ble_eq_true rfl) ?_
        rintro _ _ ⟨rfl, rfl⟩
        refine cV1N (fun _ _ => rfl) dX4_version_38 mlX4_60 imX4_logHasRoom seX4_logHasRoom rfl rfl (c_logHasRoom _ _) (by decide) (Nat.le_of_ble_eq_true rfl) (Nat.le_of_ble_eq_true rfl) (Nat.le_of_ble_eq_true rfl) ?_
        rintro _ _ ⟨⟨lr, rfl, lr01, hlr⟩, rfl⟩
        refine g_if_ne (tgt := 47) dX4_version_41 (by decide) (fun c41 => ?_) (fun c41 => ?_)
        · refine g_iconst (v := 0) dX4_version_47 (by decide) ?_
          refine g_istore_n dX4_version_48 rfl (by decide) ?_
          exact l_ver1 S h0 8 0 _ _ _ _ rfl ⟨q1, by rw [q2]⟩
        · refine g_bipush (v := (-3)) dX4_version_44 (by decide) ?_
          refine g_iret dX4_version_46 rfl (Or.inl ⟨_, _, rfl, rfl, ?_⟩)
          first | exact ⟨⟨_, rfl, fun f => absurd c13 (by rw [f.2.1.2.1]; decide)⟩, Cl.rf _⟩ | exact ⟨⟨_, rfl, fun f => absurd c27 (by rw [(hnc f.n).1]; decide)⟩, q1⟩ | exact ⟨⟨_, rfl, fun f => absurd c41 (by rw [hlr (by rw [(hnc f.n).2, q2, f.2.1.2.2.2.2]; decide)]; decide)⟩, q1⟩
  · rintro E S9 ⟨rfl, rfl, hcl⟩
    exact GTE.out (fun _ h => nomatch h) (Or.inr ⟨_, _, rfl, rfl, rfl, Or.inl ⟨rfl, fun f => f.op hcl⟩⟩)
set_option maxRecDepth 100000 in
set_option maxHeartbeats 4000000 in
theorem c_answer (S : gS) (x y : Int32) (h0 : ¬ S.1 1 2 < 0) : gCt MX4_answer (7, 165) 3 18 [.ref 0, .int x, .int y] (wOf τ S) (gX (wOf τ) (fun v S' => (∃ r : Int32, v = .int r) ∧ Cl S S' ∧ ¬ Fr S) (fun E S' => S = S' ∧ ((E = gIS ∧ ¬ Fr S) ∨ (E = gIO ∧ (Fr S → True))))) := by
  refine gCt.of (ls := [some (.ref 0), some (.int x), some (.int y), none]) 1 (by decide) rfl (Nat.le_of_ble_eq_true rfl) ?_
  refine g_aload_n dX4_answer_0 rfl rfl ?_
  refine cV0Y (fun _ _ => rfl) dX4_answer_1 mlX4_50 imX4_requireOpen seX4_requireOpen rfl rfl (c_requireOpen _) (by decide) (Nat.le_of_ble_eq_true rfl) (Nat.le_of_ble_eq_true rfl) (Nat.le_of_ble_eq_true rfl) ?_ ?_
  · rintro _ ⟨rfl, hop⟩
    refine g_aload_n dX4_answer_4 rfl rfl ?_
    refine g_iload_n dX4_answer_5 rfl rfl ?_
    refine cV1Y (fun _ _ => rfl) dX4_answer_6 mlX4_100 imX4_requireVersion seX4_requireVersion rfl rfl (c_requireVersion _ _) (by decide) (Nat.le_of_ble_eq_true rfl) (Nat.le_of_ble_eq_true rfl) (Nat.le_of_ble_eq_true rfl) ?_ ?_
    · rintro _ ⟨rfl, hv⟩
      refine g_aload_n dX4_answer_9 rfl rfl ?_
      refine g_iload_n dX4_answer_10 rfl rfl ?_
      refine cV1Y (fun _ _ => rfl) dX4_answer_11 mlX4_53 imX4_requireNode seX4_requireNode rfl rfl (c_requireNode _ _) (by decide) (Nat.le_of_ble_eq_true rfl) (Nat.le_of_ble_eq_true rfl) (Nat.le_of_ble_eq_true rfl) ?_ ?_
      · rintro _ ⟨rfl, hn⟩
        refine g_aload_n dX4_answer_14 rfl rfl ?_
        refine g_get dX4_answer_15 flX4_19 rfl rfl ?_
        refine g_get dX4_answer_18 flX4_103 rfl rfl ?_
        refine g_bipush (v := 100) dX4_answer_21 (by decide) ?_
        refine g_icmp_ge (tgt := 35) dX4_answer_23 (by decide) (fun c23 => ?_) (fun c23 => ?_)
        · refine g_bipush (v := (-3)) dX4_answer_35 (by decide) ?_
          refine g_iret dX4_answer_37 rfl (Or.inl ⟨_, _, rfl, rfl, ?_⟩)
          exact ⟨⟨_, rfl⟩, Cl.rf _, fun f => hv f.nv⟩
        · refine g_aload_n dX4_answer_26 rfl rfl ?_
          refine g_bipush (v := 22) dX4_answer_27 (by decide) ?_
          refine cV1N (fun _ _ => rfl) dX4_answer_29 mlX4_60 imX4_logHasRoom seX4_logHasRoom rfl rfl (c_logHasRoom _ _) (by decide) (Nat.le_of_ble_eq_true rfl) (Nat.le_of_ble_eq_true rfl) (Nat.le_of_ble_eq_true rfl) ?_
          rintro _ _ ⟨⟨lr, rfl, lr01, hlr⟩, rfl⟩
          refine g_if_ne (tgt := 38) dX4_answer_32 (by decide) (fun c32 => ?_) (fun c32 => ?_)
          · refine g_aload_n dX4_answer_38 rfl rfl ?_
            refine g_get dX4_answer_39 flX4_19 rfl rfl ?_
            refine g_get dX4_answer_42 flX4_103 rfl rfl ?_
            refine g_istore_n dX4_answer_45 rfl (by decide) ?_
            refine g_aload_n dX4_answer_46 rfl rfl ?_
            refine g_iconst (v := 4) dX4_answer_47 (by decide) ?_
            refine g_iload_n dX4_answer_48 rfl rfl ?_
            refine cV20 (fun _ _ => rfl) dX4_answer_49 mlX4_68 imX4_startRow seX4_startRow rfl rfl (c_startRow _ _ _ h0) (by decide) (Nat.le_of_ble_eq_true rfl) (Nat.le_of_ble_eq_true rfl) (Nat.le_of_ble_eq_true rfl) ?_
            rintro S1 ⟨k1, k2, k3, k4, k5⟩
            refine g_aload_n dX4_answer_52 rfl rfl ?_
            refine g_get dX4_answer_53 flX4_12 rfl rfl ?_
            refine g_iload_n dX4_answer_56 rfl rfl ?_
            refine g_i2l dX4_answer_57 ?_
            refine g_iconst (v := 1) dX4_answer_58 (by decide) ?_
            refine cV20 (fun _ _ => rfl) dX4_answer_59 mlX4_72 imX1_write seX1_write rfl rfl (c_write _ _ 1 (by decide) (k1 h0)) (by decide) (Nat.le_of_ble_eq_true rfl) (Nat.le_of_ble_eq_true rfl) (Nat.le_of_ble_eq_true rfl) ?_
            rintro _ rfl
            refine g_aload_n dX4_answer_62 rfl rfl ?_
            refine g_get dX4_answer_63 flX4_12 rfl rfl ?_
            refine g_iload_n dX4_answer_66 rfl rfl ?_
            refine g_i2l dX4_answer_67 ?_
            refine g_iconst (v := 1) dX4_answer_68 (by decide) ?_
            refine cV20 (fun _ _ => rfl) dX4_answer_69 mlX4_72 imX1_write seX1_write rfl rfl (c_write _ _ 1 (by decide) (dwrs_pos _ _ (k1 h0))) (by decide) (Nat.le_of_ble_eq_true rfl) (Nat.le_of_ble_eq_true rfl) (Nat.le_of_ble_eq_true rfl) ?_
            rintro _ rfl
            refine g_aload_n dX4_answer_72 rfl rfl ?_
            refine g_get dX4_answer_73 flX4_12 rfl rfl ?_
            refine g_aload_n dX4_answer_76 rfl rfl ?_
            refine g_iload_n dX4_answer_77 rfl rfl ?_
            refine g_iload_n dX4_answer_78 rfl rfl ?_
            refine cV2N (fun _ _ => rfl) dX4_answer_79 mlX4_106 imX4_reachedFrom seX4_reachedFrom rfl rfl (c_reachedFrom _ _ _) (by decide) (Nat.le_of_ble_eq_true rfl) (Nat.le_of_ble_eq_true rfl) (Nat.le_of_ble_eq_true rfl) ?_
            rintro _ _ ⟨⟨rf, rfl⟩, rfl⟩
            refine g_bipush (v := 8) dX4_answer_82 (by decide) ?_
            refine cV20 (fun _ _ => rfl) dX4_answer_84 mlX4_72 imX1_write seX1_write rfl rfl (c_write _ _ 8 (by decide) (dwrs_pos _ _ (dwrs_pos _ _ (k1 h0)))) (by decide) (Nat.le_of_ble_eq_true rfl) (Nat.le_of_ble_eq_true rfl) (Nat.le_of_ble_eq_true rfl) ?_
            rintro _ rfl
            refine g_aload_n dX4_answer_87 rfl rfl ?_
            refine cV00 (fun _ _ => rfl) dX4_answer_88 mlX4_76 imX4_endRow seX4_endRow rfl rfl (c_endRow _ (dwrs_pos _ _ (dwrs_pos _ _ (dwrs_pos _ _ (k1 h0))))) (by decide) (Nat.le_of_ble_eq_true rfl) (Nat.le_of_ble_eq_true rfl) (Nat.le_of_ble_eq_true rfl) ?_
            rintro S2 ⟨j1, j2⟩
            refine g_iload_n dX4_answer_91 rfl rfl ?_
            refine g_iret dX4_answer_92 rfl (Or.inl ⟨_, _, rfl, rfl, ?_⟩)
            exact ⟨⟨_, rfl⟩, Cl.tr k1 (Cl.tr (dwrs_Cl _ _ (k1 h0)) (Cl.tr (dwrs_Cl _ _ (dwrs_pos _ _ (k1 h0))) (Cl.tr (dwrs_Cl _ _ (dwrs_pos _ _ (dwrs_pos _ _ (k1 h0)))) j1))), fun f => hv f.nv⟩
          · refine g_bipush (v := (-3)) dX4_answer_35 (by decide) ?_
            refine g_iret dX4_answer_37 rfl (Or.inl ⟨_, _, rfl, rfl, ?_⟩)
            exact ⟨⟨_, rfl⟩, Cl.rf _, fun f => hv f.nv⟩
      · rintro E S9 ⟨rfl, rfl, hb⟩
        exact GTE.out (fun _ h => nomatch h) (Or.inr ⟨_, _, rfl, rfl, rfl, Or.inr ⟨rfl, fun _ => trivial⟩⟩)
    · rintro E S9 ⟨rfl, rfl⟩
      exact GTE.out (fun _ h => nomatch h) (Or.inr ⟨_, _, rfl, rfl, rfl, Or.inr ⟨rfl, fun _ => trivial⟩⟩)
  · rintro E S9 ⟨rfl, rfl, hcl⟩
    exact GTE.out (fun _ h => nomatch h) (Or.inr ⟨_, _, rfl, rfl, rfl, Or.inl ⟨rfl, fun f => f.op hcl⟩⟩)
set_option maxRecDepth 100000 in
set_option maxHeartbeats 4000000 in
theorem c_drop (S : gS) (x : Int32) (h0 : ¬ S.1 1 2 < 0) : gCt MX4_drop (7, 165) 2 12 [.ref 0, .int x] (wOf τ S) (gX (wOf τ) (fun v S' => (∃ r : Int32, v = .int r) ∧ Cl S S' ∧ ¬ Fr S) (fun E S' => S = S' ∧ ((E = gIS ∧ ¬ Fr S) ∨ (E = gIO ∧ (Fr S → True))))) := by
  refine gCt.of (ls := [some (.ref 0), some (.int x), none]) 1 (by decide) rfl (Nat.le_of_ble_eq_true rfl) ?_
  refine g_aload_n dX4_drop_0 rfl rfl ?_
  refine cV0Y (fun _ _ => rfl) dX4_drop_1 mlX4_50 imX4_requireOpen seX4_requireOpen rfl rfl (c_requireOpen _) (by decide) (Nat.le_of_ble_eq_true rfl) (Nat.le_of_ble_eq_true rfl) (Nat.le_of_ble_eq_true rfl) ?_ ?_
  · rintro _ ⟨rfl, hop⟩
    refine g_aload_n dX4_drop_4 rfl rfl ?_
    refine g_iload_n dX4_drop_5 rfl rfl ?_
    refine cV1Y (fun _ _ => rfl) dX4_drop_6 mlX4_100 imX4_requireVersion seX4_requireVersion rfl rfl (c_requireVersion _ _) (by decide) (Nat.le_of_ble_eq_true rfl) (Nat.le_of_ble_eq_true rfl) (Nat.le_of_ble_eq_true rfl) ?_ ?_
    · rintro _ ⟨rfl, hv⟩
      refine g_aload_n dX4_drop_9 rfl rfl ?_
      refine g_bipush (v := 12) dX4_drop_10 (by decide) ?_
      refine cV1N (fun _ _ => rfl) dX4_drop_12 mlX4_60 imX4_logHasRoom seX4_logHasRoom rfl rfl (c_logHasRoom _ _) (by decide) (Nat.le_of_ble_eq_true rfl) (Nat.le_of_ble_eq_true rfl) (Nat.le_of_ble_eq_true rfl) ?_
      rintro _ _ ⟨⟨lr, rfl, lr01, hlr⟩, rfl⟩
      refine g_if_ne (tgt := 21) dX4_drop_15 (by decide) (fun c15 => ?_) (fun c15 => ?_)
      · refine g_aload_n dX4_drop_21 rfl rfl ?_
        refine g_get dX4_drop_22 flX4_19 rfl rfl ?_
        refine g_get dX4_drop_25 flX4_110 rfl rfl ?_
        refine cV0N (fun _ _ => rfl) dX4_drop_28 mlX4_114 imX0_countNamed seX0_countNamed rfl rfl (c_countNamed6 _) (by decide) (Nat.le_of_ble_eq_true rfl) (Nat.le_of_ble_eq_true rfl) (Nat.le_of_ble_eq_true rfl) ?_
        rintro _ _ ⟨⟨cn, rfl, -⟩, rfl⟩
        refine g_istore_n dX4_drop_31 rfl (by decide) ?_
        refine g_aload_n dX4_drop_32 rfl rfl ?_
        refine g_iconst (v := 5) dX4_drop_33 (by decide) ?_
        refine g_iload_n dX4_drop_34 rfl rfl ?_
        refine cV20 (fun _ _ => rfl) dX4_drop_35 mlX4_68 imX4_startRow seX4_startRow rfl rfl (c_startRow _ _ _ h0) (by decide) (Nat.le_of_ble_eq_true rfl) (Nat.le_of_ble_eq_true rfl) (Nat.le_of_ble_eq_true rfl) ?_
        rintro S1 ⟨k1, k2, k3, k4, k5⟩
        refine g_aload_n dX4_drop_38 rfl rfl ?_
        refine cV00 (fun _ _ => rfl) dX4_drop_39 mlX4_76 imX4_endRow seX4_endRow rfl rfl (c_endRow _ (k1 h0)) (by decide) (Nat.le_of_ble_eq_true rfl) (Nat.le_of_ble_eq_true rfl) (Nat.le_of_ble_eq_true rfl) ?_
        rintro S2 ⟨j1, j2⟩
        refine g_iload_n dX4_drop_42 rfl rfl ?_
        refine g_aload_n dX4_drop_43 rfl rfl ?_
        refine g_get dX4_drop_44 flX4_19 rfl rfl ?_
        refine g_get dX4_drop_47 flX4_110 rfl rfl ?_
        refine cV0N (fun _ _ => rfl) dX4_drop_50 mlX4_114 imX0_countNamed seX0_countNamed rfl rfl (c_countNamed6 _) (by decide) (Nat.le_of_ble_eq_true rfl) (Nat.le_of_ble_eq_true rfl) (Nat.le_of_ble_eq_true rfl) ?_
        rintro _ _ ⟨⟨cn, rfl, -⟩, rfl⟩
        refine g_isub dX4_drop_53 ?_
        refine g_iret dX4_drop_54 rfl (Or.inl ⟨_, _, rfl, rfl, ?_⟩)
        exact ⟨⟨_, rfl⟩, k1.tr j1, fun f => hv f.nv⟩
      · refine g_bipush (v := (-3)) dX4_drop_18 (by decide) ?_
        refine g_iret dX4_drop_20 rfl (Or.inl ⟨_, _, rfl, rfl, ?_⟩)
        exact ⟨⟨_, rfl⟩, Cl.rf _, fun f => hv f.nv⟩
    · rintro E S9 ⟨rfl, rfl⟩
      exact GTE.out (fun _ h => nomatch h) (Or.inr ⟨_, _, rfl, rfl, rfl, Or.inr ⟨rfl, fun _ => trivial⟩⟩)
  · rintro E S9 ⟨rfl, rfl, hcl⟩
    exact GTE.out (fun _ h => nomatch h) (Or.inr ⟨_, _, rfl, rfl, rfl, Or.inl ⟨rfl, fun f => f.op hcl⟩⟩)
set_option maxRecDepth 100000 in
set_option maxHeartbeats 4000000 in
theorem c_keep (S : gS) (h0 : ¬ S.1 1 2 < 0) : gCt MX4_keep (7, 106) 1 6 [.ref 0] (wOf τ S) (gX (wOf τ) (fun v S' => (∃ r : Int32, v = .int r ∧ (Fr S → r = 1)) ∧ Cl S S') (fun E S' => S = S' ∧ ((E = gIS ∧ ¬ Fr S) ∨ (E = gIO ∧ (Fr S → False))))) := by
  refine gCt.of (ls := [some (.ref 0)]) 0 (by decide) rfl (Nat.le_of_ble_eq_true rfl) ?_
  refine g_aload_n dX4_keep_0 rfl rfl ?_
  refine cV0Y (fun _ _ => rfl) dX4_keep_1 mlX4_50 imX4_requireOpen seX4_requireOpen rfl rfl (c_requireOpen _) (by decide) (Nat.le_of_ble_eq_true rfl) (Nat.le_of_ble_eq_true rfl) (Nat.le_of_ble_eq_true rfl) ?_ ?_
  · rintro _ ⟨rfl, hop⟩
    refine g_aload_n dX4_keep_4 rfl rfl ?_
    refine g_dup dX4_keep_5 rfl ?_
    refine g_get dX4_keep_6 flX4_119 rfl rfl ?_
    refine g_iconst (v := 1) dX4_keep_9 (by decide) ?_
    refine g_iadd dX4_keep_10 ?_
    refine p_put dX4_keep_11 fpX4_119 rfl (Nat.le_of_ble_eq_true rfl) (fun _ => rfl) (fun _ => rfl) (by with_reducible first | exact wS_0_4 _ _ _) ?_
    refine g_aload_n dX4_keep_14 rfl rfl ?_
    refine cV00 (fun _ _ => rfl) dX4_keep_15 mlX4_122 imX4_writeHead seX4_writeHead rfl rfl (c_writeHead _ (by rw [mS_ne (by decide)]; exact h0)) (by decide) (Nat.le_of_ble_eq_true rfl) (Nat.le_of_ble_eq_true rfl) (Nat.le_of_ble_eq_true rfl) ?_
    rintro _ rfl
    refine g_aload_n dX4_keep_18 rfl rfl ?_
    refine g_get dX4_keep_19 flX4_119 rfl rfl ?_
    refine g_iret dX4_keep_22 rfl (Or.inl ⟨_, _, rfl, rfl, ?_⟩)
    refine ⟨⟨_, rfl, fun f => ?_⟩, Cl.tr (Cl.s (Cl.rf S) (by decide) (by decide)) (whead_Cl _ (by rw [mS_ne (by decide)]; exact h0))⟩
    rw [whead_k _ _ _ (by decide), mS_same, f.1.2.1]; rfl
  · rintro E S9 ⟨rfl, rfl, hcl⟩
    exact GTE.out (fun _ h => nomatch h) (Or.inr ⟨_, _, rfl, rfl, rfl, Or.inl ⟨rfl, fun f => f.op hcl⟩⟩)
set_option maxRecDepth 100000 in
set_option maxHeartbeats 4000000 in
theorem c_crash (S : gS) (x : Int32) (h0 : ¬ S.1 1 2 < 0) : gCt MX4_crash (2, 84) 0 0 [.ref 0, .int x] (wOf τ S) (gN (wOf τ) fun v S' => (∃ r : Int32, v = .int r ∧ (Fr S → r = 0)) ∧ Cl S S') := by
  refine gCt.of (ls := [some (.ref 0), some (.int x)]) 0 (by decide) rfl (Nat.le_of_ble_eq_true rfl) ?_
  refine g_aload_n dX4_crash_0 rfl rfl ?_
  refine g_get dX4_crash_1 flX4_125 rfl rfl ?_
  refine g_if_ne (tgt := 9) dX4_crash_4 (by decide) (fun c4 => ?_) (fun c4 => ?_)
  · refine g_aload_n dX4_crash_9 rfl rfl ?_
    refine g_iconst (v := 0) dX4_crash_10 (by decide) ?_
    refine p_put dX4_crash_11 fpX4_125 rfl (Nat.le_of_ble_eq_true rfl) (fun _ => rfl) (fun _ => rfl) (by with_reducible first | exact wS_0_5 _ _ _) ?_
    refine g_aload_n dX4_crash_14 rfl rfl ?_
    refine g_get dX4_crash_15 flX4_12 rfl rfl ?_
    refine g_iload_n dX4_crash_18 rfl rfl ?_
    refine cV1N (fun _ _ => rfl) dX4_crash_19 mlX4_129 imX1_takeBack seX1_takeBack rfl rfl (c_takeBack _ _ (by rw [mS_ne (by decide)]; exact h0)) (by decide) (Nat.le_of_ble_eq_true rfl) (Nat.le_of_ble_eq_true rfl) (Nat.le_of_ble_eq_true rfl) ?_
    rintro _ _ ⟨rfl, rfl⟩
    refine g_iret dX4_crash_22 rfl ⟨_, _, rfl, rfl, ?_⟩
    refine ⟨⟨_, rfl, fun f => ?_⟩, Cl.tr (Cl.s (Cl.rf S) (by decide) (by decide)) (dback_Cl _ (by rw [mS_ne (by decide)]; exact h0))⟩
    unfold dcount
    rw [mS_ne (by decide), f.1.2.2.1]
    split
    · split
      · rfl
      · rename_i h1 h2; exact Int32.le_antisymm (Int32.not_lt.mp h2) h1
    · rfl
  · refine g_iconst (v := 0) dX4_crash_7 (by decide) ?_
    refine g_iret dX4_crash_8 rfl ⟨_, _, rfl, rfl, ?_⟩
    exact ⟨⟨_, rfl, fun _ => rfl⟩, Cl.rf _⟩
theorem hright_s (S : gS) (x : Int32) (k j : Nat) (v : Int32) : hright (mS S k j v) x = hright S x := by
  have e1 : ∀ y n, dnum (mS S k j v) y n = dnum S y n := by
    intro y n
    induction n with
    | zero => rfl
    | succ n ih => simp only [dnum]; rw [ih]; rfl
  have e2 : ∀ e f y s, dsum (mS S k j v) e f y s = dsum S e f y s := by
    intro e f
    induction f with
    | zero => intro y s; rfl
    | succ f ih => intro y s; simp only [dsum]; rw [ih]; rfl
  unfold hright
  rw [e1, e1, e2]
theorem dnum_s (S : gS) (k j : Nat) (v : Int32) (y : Int32) (n : Nat) : dnum (mS S k j v) y n = dnum S y n := by
  induction n with
  | zero => rfl
  | succ n ih => simp only [dnum]; rw [ih]; rfl
set_option maxRecDepth 100000 in
set_option maxHeartbeats 4000000 in
theorem c_open (S : gS) (h0 : ¬ S.1 1 2 < 0) : gCt MX4_open (6, 170) 0 0 [.ref 0] (wOf τ S) (gN (wOf τ) fun v S' => (∃ r : Int32, v = .int r ∧ (Fr S → r = 0)) ∧ Cl S S') := by
  refine gCt.of (ls := [some (.ref 0), none, none]) 2 (by decide) rfl (Nat.le_of_ble_eq_true rfl) ?_
  refine g_aload_n dX4_open_0 rfl rfl ?_
  refine g_iconst (v := 0) dX4_open_1 (by decide) ?_
  refine p_put dX4_open_2 fpX4_125 rfl (Nat.le_of_ble_eq_true rfl) (fun _ => rfl) (fun _ => rfl) (by with_reducible first | exact wS_0_5 _ _ _) ?_
  refine g_aload_n dX4_open_5 rfl rfl ?_
  refine cV0N (fun _ _ => rfl) dX4_open_6 mlX4_132 imX4_headToTake seX4_headToTake rfl rfl (c_headToTake _) (by decide) (Nat.le_of_ble_eq_true rfl) (Nat.le_of_ble_eq_true rfl) (Nat.le_of_ble_eq_true rfl) ?_
  rintro _ _ ⟨⟨hd, rfl, hhd⟩, rfl⟩
  refine g_istore_n dX4_open_9 rfl (by decide) ?_
  refine g_iload_n dX4_open_10 rfl rfl ?_
  refine g_iconst (v := (-1)) dX4_open_11 (by decide) ?_
  refine g_icmp_ne (tgt := 17) dX4_open_12 (by decide) (fun c12 => ?_) (fun c12 => ?_)
  · refine g_aload_n dX4_open_17 rfl rfl ?_
    refine g_get dX4_open_18 flX4_19 rfl rfl ?_
    refine g_aload_n dX4_open_21 rfl rfl ?_
    refine g_get dX4_open_22 flX4_12 rfl rfl ?_
    refine g_aload_n dX4_open_25 rfl rfl ?_
    refine g_get dX4_open_26 flX4_12 rfl rfl ?_
    refine g_iload_n dX4_open_29 rfl rfl ?_
    refine g_iconst (v := 4) dX4_open_30 (by decide) ?_
    refine g_iadd dX4_open_31 ?_
    refine g_iconst (v := 4) dX4_open_32 (by decide) ?_
    refine cV2N (fun _ _ => rfl) dX4_open_33 mlX4_135 imX1_number seX1_number rfl rfl (c_number _ _ 4 (by decide)) (by decide) (Nat.le_of_ble_eq_true rfl) (Nat.le_of_ble_eq_true rfl) (Nat.le_of_ble_eq_true rfl) ?_
    rintro _ _ ⟨rfl, rfl⟩
    refine g_l2i dX4_open_36 ?_
    refine g_aload_n dX4_open_37 rfl rfl ?_
    refine g_get dX4_open_38 flX4_19 rfl rfl ?_
    refine g_get dX4_open_41 flX4_138 rfl rfl ?_
    refine cV3N (fun _ _ => rfl) dX4_open_44 mlX4_141 imX2_readLog seX2_readLog rfl rfl (c_readLog4 _ _ _) (by decide) (Nat.le_of_ble_eq_true rfl) (Nat.le_of_ble_eq_true rfl) (Nat.le_of_ble_eq_true rfl) ?_
    rintro _ S1 ⟨⟨bad, rfl, hbad⟩, hS1⟩
    refine g_istore_n dX4_open_47 rfl (by decide) ?_
    refine g_iload_n dX4_open_48 rfl rfl ?_
    refine g_iconst (v := (-1)) dX4_open_49 (by decide) ?_
    refine g_icmp_eq (tgt := 58) dX4_open_50 (by decide) (fun c50 => ?_) (fun c50 => ?_)
    · refine g_aload_n dX4_open_58 rfl rfl ?_
      refine g_aload_n dX4_open_59 rfl rfl ?_
      refine g_get dX4_open_60 flX4_12 rfl rfl ?_
      refine g_iload_n dX4_open_63 rfl rfl ?_
      refine g_iconst (v := 4) dX4_open_64 (by decide) ?_
      refine cV2N (fun _ _ => rfl) dX4_open_65 mlX4_135 imX1_number seX1_number rfl rfl (c_number _ _ 4 (by decide)) (by decide) (Nat.le_of_ble_eq_true rfl) (Nat.le_of_ble_eq_true rfl) (Nat.le_of_ble_eq_true rfl) ?_
      rintro _ _ ⟨rfl, rfl⟩
      refine g_l2i dX4_open_68 ?_
      refine p_put dX4_open_69 fpX4_119 rfl (Nat.le_of_ble_eq_true rfl) (fun _ => rfl) (fun _ => rfl) (by with_reducible first | exact wS_0_4 _ _ _) ?_
      refine g_aload_n dX4_open_72 rfl rfl ?_
      refine g_get dX4_open_73 flX4_12 rfl rfl ?_
      refine cV00 (fun _ _ => rfl) dX4_open_76 mlX4_145 imX1_forgetWritten seX1_forgetWritten rfl rfl (c_forgetWritten _) (by decide) (Nat.le_of_ble_eq_true rfl) (Nat.le_of_ble_eq_true rfl) (Nat.le_of_ble_eq_true rfl) ?_
      rintro _ rfl
      refine g_aload_n dX4_open_79 rfl rfl ?_
      refine g_iconst (v := 1) dX4_open_80 (by decide) ?_
      refine p_put dX4_open_81 fpX4_125 rfl (Nat.le_of_ble_eq_true rfl) (fun _ => rfl) (fun _ => rfl) (by with_reducible first | exact wS_0_5 _ _ _) ?_
      refine g_aload_n dX4_open_84 rfl rfl ?_
      refine g_get dX4_open_85 flX4_19 rfl rfl ?_
      refine cV0N (fun _ _ => rfl) dX4_open_88 mlX4_148 imX2_countThere seX2_countThere rfl rfl (c_countThere4 _) (by decide) (Nat.le_of_ble_eq_true rfl) (Nat.le_of_ble_eq_true rfl) (Nat.le_of_ble_eq_true rfl) ?_
      rintro _ _ ⟨⟨ct, rfl, hct⟩, rfl⟩
      refine g_iret dX4_open_91 rfl ⟨_, _, rfl, rfl, ?_⟩
      refine ⟨⟨_, rfl, fun f => hct ?_⟩, Cl.tr (Cl.s (Cl.rf S) (by decide) (by decide)) (Cl.tr hS1 (Cl.s (Cl.w (Cl.s (Cl.rf _) (by decide) (by decide)) (by decide)) (by decide) (by decide)))⟩
      have e := hhd (by rw [hright_s]; exact f.2.2.2.2.1) (by rw [hright_s]; exact f.2.2.2.2.2.1)
      have e2 := (hbad (by rw [e, dnum_s, f.2.2.2.2.2.2]; decide)).2
      repeat rw [mS_ne (by decide)]
      rw [e2]
      unfold kfor4
      repeat rw [mS_ne (by decide)]
      rw [mS_same]; decide
    · refine g_bipush (v := (-2)) dX4_open_53 (by decide) ?_
      refine g_iload_n dX4_open_55 rfl rfl ?_
      refine g_isub dX4_open_56 ?_
      refine g_iret dX4_open_57 rfl ⟨_, _, rfl, rfl, ?_⟩
      refine ⟨⟨_, rfl, fun f => absurd ?_ c50⟩, Cl.tr (Cl.s (Cl.rf S) (by decide) (by decide)) hS1⟩
      refine (hbad ?_).1
      have e := hhd (by rw [hright_s]; exact f.2.2.2.2.1) (by rw [hright_s]; exact f.2.2.2.2.2.1)
      rw [e, dnum_s, f.2.2.2.2.2.2]; decide
  · refine g_iconst (v := (-1)) dX4_open_15 (by decide) ?_
    refine g_iret dX4_open_16 rfl ⟨_, _, rfl, rfl, ?_⟩
    exact ⟨⟨_, rfl, fun f => absurd c12 (by rw [hhd (by rw [hright_s]; exact f.2.2.2.2.1) (by rw [hright_s]; exact f.2.2.2.2.2.1)]; decide)⟩, Cl.s (Cl.rf S) (by decide) (by decide)⟩
set_option maxRecDepth 100000 in
set_option maxHeartbeats 4000000 in
theorem c_poke (S : gS) (x y : Int32) : gCt MX4_poke (7, 103) 1 6 [.ref 0, .int x, .int y] (wOf τ S) (gX (wOf τ) (fun v S' => v = .int (dget S x) ∧ Cl S S' ∧ ¬ x < 0 ∧ x < 24032) (fun E S' => S = S' ∧ E = gIO ∧ (x < 0 ∨ ¬ x < 24032))) := by
  refine gCt.of (ls := [some (.ref 0), some (.int x), some (.int y), none]) 1 (by decide) rfl (Nat.le_of_ble_eq_true rfl) ?_
  refine g_aload_n dX4_poke_0 rfl rfl ?_
  refine g_iload_n dX4_poke_1 rfl rfl ?_
  refine cV1Y (fun _ _ => rfl) dX4_poke_2 mlX4_151 imX4_requirePlace seX4_requirePlace rfl rfl (c_requirePlace _ _) (by decide) (Nat.le_of_ble_eq_true rfl) (Nat.le_of_ble_eq_true rfl) (Nat.le_of_ble_eq_true rfl) ?_ ?_
  · rintro _ ⟨rfl, hp1, hp2⟩
    refine g_aload_n dX4_poke_5 rfl rfl ?_
    refine g_get dX4_poke_6 flX4_12 rfl rfl ?_
    refine g_iload_n dX4_poke_9 rfl rfl ?_
    refine cV1N (fun _ _ => rfl) dX4_poke_10 mlX4_154 imX1_get seX1_get rfl rfl (c_get _ _) (by decide) (Nat.le_of_ble_eq_true rfl) (Nat.le_of_ble_eq_true rfl) (Nat.le_of_ble_eq_true rfl) ?_
    rintro _ _ ⟨rfl, rfl⟩
    refine g_istore_n dX4_poke_13 rfl (by decide) ?_
    refine g_aload_n dX4_poke_14 rfl rfl ?_
    refine g_get dX4_poke_15 flX4_12 rfl rfl ?_
    refine g_iload_n dX4_poke_18 rfl rfl ?_
    refine g_iload_n dX4_poke_19 rfl rfl ?_
    refine g_iload_n dX4_poke_20 rfl rfl ?_
    refine g_ixor dX4_poke_21 ?_
    refine cV20 (fun _ _ => rfl) dX4_poke_22 mlX4_157 imX1_set seX1_set rfl rfl (c_set _ _ _) (by decide) (Nat.le_of_ble_eq_true rfl) (Nat.le_of_ble_eq_true rfl) (Nat.le_of_ble_eq_true rfl) ?_
    rintro _ rfl
    refine g_iload_n dX4_poke_25 rfl rfl ?_
    refine g_iret dX4_poke_26 rfl (Or.inl ⟨_, _, rfl, rfl, ?_⟩)
    exact ⟨rfl, dset_Cl _ _ _, hp1, hp2⟩
  · rintro E S9 ⟨rfl, rfl, hb⟩
    exact GTE.out (fun _ h => nomatch h) (Or.inr ⟨_, _, rfl, rfl, rfl, rfl, hb⟩)
set_option maxRecDepth 100000 in
set_option maxHeartbeats 4000000 in
theorem c_byteAt (S : gS) (x : Int32) : gCt MX4_byteAt (7, 103) 1 6 [.ref 0, .int x] (wOf τ S) (gX (wOf τ) (fun v S' => v = .int (dget S x) ∧ Cl S S' ∧ ¬ x < 0 ∧ x < 24032) (fun E S' => S = S' ∧ E = gIO ∧ (x < 0 ∨ ¬ x < 24032))) := by
  refine gCt.of (ls := [some (.ref 0), some (.int x)]) 0 (by decide) rfl (Nat.le_of_ble_eq_true rfl) ?_
  refine g_aload_n dX4_byteAt_0 rfl rfl ?_
  refine g_iload_n dX4_byteAt_1 rfl rfl ?_
  refine cV1Y (fun _ _ => rfl) dX4_byteAt_2 mlX4_151 imX4_requirePlace seX4_requirePlace rfl rfl (c_requirePlace _ _) (by decide) (Nat.le_of_ble_eq_true rfl) (Nat.le_of_ble_eq_true rfl) (Nat.le_of_ble_eq_true rfl) ?_ ?_
  · rintro _ ⟨rfl, hp1, hp2⟩
    refine g_aload_n dX4_byteAt_5 rfl rfl ?_
    refine g_get dX4_byteAt_6 flX4_12 rfl rfl ?_
    refine g_iload_n dX4_byteAt_9 rfl rfl ?_
    refine cV1N (fun _ _ => rfl) dX4_byteAt_10 mlX4_154 imX1_get seX1_get rfl rfl (c_get _ _) (by decide) (Nat.le_of_ble_eq_true rfl) (Nat.le_of_ble_eq_true rfl) (Nat.le_of_ble_eq_true rfl) ?_
    rintro _ _ ⟨rfl, rfl⟩
    refine g_iret dX4_byteAt_13 rfl (Or.inl ⟨_, _, rfl, rfl, ?_⟩)
    exact ⟨rfl, Cl.rf _, hp1, hp2⟩
  · rintro E S9 ⟨rfl, rfl, hb⟩
    exact GTE.out (fun _ h => nomatch h) (Or.inr ⟨_, _, rfl, rfl, rfl, rfl, hb⟩)
set_option maxRecDepth 100000 in
set_option maxHeartbeats 4000000 in
theorem c_badAt (S : gS) : gCt MX4_badAt (7, 170) 1 6 [.ref 0] (wOf τ S) (gX (wOf τ) (fun v S' => (∃ r : Int32, v = .int r ∧ (Fr S → r = -1)) ∧ Cl S S') (fun E S' => S = S' ∧ ((E = gIS ∧ ¬ Fr S) ∨ (E = gIO ∧ (Fr S → False))))) := by
  refine gCt.of (ls := [some (.ref 0)]) 0 (by decide) rfl (Nat.le_of_ble_eq_true rfl) ?_
  refine g_aload_n dX4_badAt_0 rfl rfl ?_
  refine cV0Y (fun _ _ => rfl) dX4_badAt_1 mlX4_50 imX4_requireOpen seX4_requireOpen rfl rfl (c_requireOpen _) (by decide) (Nat.le_of_ble_eq_true rfl) (Nat.le_of_ble_eq_true rfl) (Nat.le_of_ble_eq_true rfl) ?_ ?_
  · rintro _ ⟨rfl, hop⟩
    refine g_aload_n dX4_badAt_4 rfl rfl ?_
    refine g_get dX4_badAt_5 flX4_23 rfl rfl ?_
    refine g_aload_n dX4_badAt_8 rfl rfl ?_
    refine g_get dX4_badAt_9 flX4_12 rfl rfl ?_
    refine g_aload_n dX4_badAt_12 rfl rfl ?_
    refine g_get dX4_badAt_13 flX4_19 rfl rfl ?_
    refine g_get dX4_badAt_16 flX4_160 rfl rfl ?_
    refine g_aload_n dX4_badAt_19 rfl rfl ?_
    refine g_get dX4_badAt_20 flX4_19 rfl rfl ?_
    refine g_get dX4_badAt_23 flX4_138 rfl rfl ?_
    refine cV3N (fun _ _ => rfl) dX4_badAt_26 mlX4_141 imX2_readLog seX2_readLog rfl rfl (c_readLog14 _ _ _) (by decide) (Nat.le_of_ble_eq_true rfl) (Nat.le_of_ble_eq_true rfl) (Nat.le_of_ble_eq_true rfl) ?_
    rintro _ S1 ⟨⟨bad, rfl, hbad⟩, hS1⟩
    refine g_iret dX4_badAt_29 rfl (Or.inl ⟨_, _, rfl, rfl, ?_⟩)
    exact ⟨⟨_, rfl, fun f => (hbad (by rw [f.2.1.2.2.2.2]; decide)).1⟩, hS1⟩
  · rintro E S9 ⟨rfl, rfl, hcl⟩
    exact GTE.out (fun _ h => nomatch h) (Or.inr ⟨_, _, rfl, rfl, rfl, Or.inl ⟨rfl, fun f => f.op hcl⟩⟩)
set_option maxRecDepth 100000 in
set_option maxHeartbeats 4000000 in
theorem c_has (S : gS) (x y z : Int32) : gCt MX4_has (8, 125) 4 24 [.ref 0, .int x, .int y, .int z] (wOf τ S) (gX (wOf τ) (fun v S' => (∃ r : Int32, v = .int r ∧ (r = 0 ∨ r = 1) ∧ (Fr S → (x = -1 ∧ inN y ∧ inN z) ∧ r = 0)) ∧ Cl S S') (fun E S' => S = S' ∧ ((E = gIS ∧ ¬ Fr S) ∨ (E = gIO ∧ (Fr S → ¬ x = -1 ∨ ¬ inN y ∨ ¬ inN z))))) := by
  refine gCt.of (ls := [some (.ref 0), some (.int x), some (.int y), some (.int z)]) 0 (by decide) rfl (Nat.le_of_ble_eq_true rfl) ?_
  refine g_aload_n dX4_has_0 rfl rfl ?_
  refine cV0Y (fun _ _ => rfl) dX4_has_1 mlX4_50 imX4_requireOpen seX4_requireOpen rfl rfl (c_requireOpen _) (by decide) (Nat.le_of_ble_eq_true rfl) (Nat.le_of_ble_eq_true rfl) (Nat.le_of_ble_eq_true rfl) ?_ ?_
  · rintro _ ⟨rfl, hop⟩
    refine g_aload_n dX4_has_4 rfl rfl ?_
    refine g_iload_n dX4_has_5 rfl rfl ?_
    refine cV1Y (fun _ _ => rfl) dX4_has_6 mlX4_163 imX4_requireGraph seX4_requireGraph rfl rfl (c_requireGraph _ _) (by decide) (Nat.le_of_ble_eq_true rfl) (Nat.le_of_ble_eq_true rfl) (Nat.le_of_ble_eq_true rfl) ?_ ?_
    · rintro _ ⟨rfl, hg⟩
      refine g_aload_n dX4_has_9 rfl rfl ?_
      refine g_iload_n dX4_has_10 rfl rfl ?_
      refine cV1Y (fun _ _ => rfl) dX4_has_11 mlX4_53 imX4_requireNode seX4_requireNode rfl rfl (c_requireNode _ _) (by decide) (Nat.le_of_ble_eq_true rfl) (Nat.le_of_ble_eq_true rfl) (Nat.le_of_ble_eq_true rfl) ?_ ?_
      · rintro _ ⟨rfl, ha⟩
        refine g_aload_n dX4_has_14 rfl rfl ?_
        refine g_iload_n dX4_has_15 rfl rfl ?_
        refine cV1Y (fun _ _ => rfl) dX4_has_16 mlX4_53 imX4_requireNode seX4_requireNode rfl rfl (c_requireNode _ _) (by decide) (Nat.le_of_ble_eq_true rfl) (Nat.le_of_ble_eq_true rfl) (Nat.le_of_ble_eq_true rfl) ?_ ?_
        · rintro _ ⟨rfl, hb2⟩
          refine g_aload_n dX4_has_19 rfl rfl ?_
          refine g_get dX4_has_20 flX4_19 rfl rfl ?_
          refine g_iload_n dX4_has_23 rfl rfl ?_
          refine g_iload_n dX4_has_24 rfl rfl ?_
          refine g_iload_n dX4_has_25 rfl rfl ?_
          refine cV3N (fun _ _ => rfl) dX4_has_26 mlX4_56 imX2_joins seX2_joins rfl rfl (c_joins4 _ _ _ _) (by decide) (Nat.le_of_ble_eq_true rfl) (Nat.le_of_ble_eq_true rfl) (Nat.le_of_ble_eq_true rfl) ?_
          rintro _ _ ⟨⟨jo, rfl, jo01, hjo⟩, rfl⟩
          refine g_zret dX4_has_29 rfl (by rcases jo01 with rfl | rfl <;> rfl) (Or.inl ⟨_, _, rfl, rfl, ?_⟩)
          exact ⟨⟨_, rfl, jo01, fun f => ⟨⟨hg.resolve_right (fun z => z f.nv), ha, hb2⟩, hjo (hg.resolve_right (fun z => z f.nv)) f.z⟩⟩, Cl.rf _⟩
        · rintro E S9 ⟨rfl, rfl, hb⟩
          exact GTE.out (fun _ h => nomatch h) (Or.inr ⟨_, _, rfl, rfl, rfl, Or.inr ⟨rfl, fun _ => Or.inr (Or.inr (inN_or hb))⟩⟩)
      · rintro E S9 ⟨rfl, rfl, hb⟩
        exact GTE.out (fun _ h => nomatch h) (Or.inr ⟨_, _, rfl, rfl, rfl, Or.inr ⟨rfl, fun _ => Or.inr (Or.inl (inN_or hb))⟩⟩)
    · rintro E S9 ⟨rfl, rfl, hb⟩
      exact GTE.out (fun _ h => nomatch h) (Or.inr ⟨_, _, rfl, rfl, rfl, Or.inr ⟨rfl, fun _ => Or.inl hb⟩⟩)
  · rintro E S9 ⟨rfl, rfl, hcl⟩
    exact GTE.out (fun _ h => nomatch h) (Or.inr ⟨_, _, rfl, rfl, rfl, Or.inl ⟨rfl, fun f => f.op hcl⟩⟩)
set_option maxRecDepth 100000 in
set_option maxHeartbeats 4000000 in
theorem c_chunk (S : gS) (x y : Int32) : gCt MX4_chunk (7, 103) 3 18 [.ref 0, .int x, .int y] (wOf τ S) (gX (wOf τ) (fun v S' => (∃ r : Int32, v = .int r) ∧ Cl S S' ∧ ¬ Fr S) (fun E S' => S = S' ∧ ((E = gIS ∧ ¬ Fr S) ∨ (E = gIO ∧ (Fr S → True))))) := by
  refine gCt.of (ls := [some (.ref 0), some (.int x), some (.int y)]) 0 (by decide) rfl (Nat.le_of_ble_eq_true rfl) ?_
  refine g_aload_n dX4_chunk_0 rfl rfl ?_
  refine cV0Y (fun _ _ => rfl) dX4_chunk_1 mlX4_50 imX4_requireOpen seX4_requireOpen rfl rfl (c_requireOpen _) (by decide) (Nat.le_of_ble_eq_true rfl) (Nat.le_of_ble_eq_true rfl) (Nat.le_of_ble_eq_true rfl) ?_ ?_
  · rintro _ ⟨rfl, hop⟩
    refine g_aload_n dX4_chunk_4 rfl rfl ?_
    refine g_iload_n dX4_chunk_5 rfl rfl ?_
    refine cV1Y (fun _ _ => rfl) dX4_chunk_6 mlX4_100 imX4_requireVersion seX4_requireVersion rfl rfl (c_requireVersion _ _) (by decide) (Nat.le_of_ble_eq_true rfl) (Nat.le_of_ble_eq_true rfl) (Nat.le_of_ble_eq_true rfl) ?_ ?_
    · rintro _ ⟨rfl, hv⟩
      refine g_iload_n dX4_chunk_9 rfl rfl ?_
      refine g_if_lt (tgt := 19) dX4_chunk_10 (by decide) (fun c10 => ?_) (fun c10 => ?_)
      · refine g_throwS (cls := gIO) (names := gup) (text := "a graph has no such chunk") fit_2 fit_n clX4_166 in_java_lang_IndexOutOfBoundsException (by decide +kernel) th_170 nw_java_lang_IndexOutOfBoundsException to_170 dX4_chunk_19 dX4_chunk_22 dX4_chunk_23 dX4_chunk_25 dX4_chunk_28 (fun _ h => nomatch h) (by decide) (Nat.le_of_ble_eq_true rfl) (Nat.le_of_ble_eq_true rfl) (Nat.le_of_ble_eq_true rfl) ?_
        exact Or.inr ⟨_, _, rfl, rfl, rfl, Or.inr ⟨rfl, fun _ => trivial⟩⟩
      · refine g_iload_n dX4_chunk_13 rfl rfl ?_
        refine g_bipush (v := 8) dX4_chunk_14 (by decide) ?_
        refine g_icmp_lt (tgt := 29) dX4_chunk_16 (by decide) (fun c16 => ?_) (fun c16 => ?_)
        · refine g_aload_n dX4_chunk_29 rfl rfl ?_
          refine g_get dX4_chunk_30 flX4_19 rfl rfl ?_
          refine g_get dX4_chunk_33 flX4_110 rfl rfl ?_
          refine g_aload_n dX4_chunk_36 rfl rfl ?_
          refine g_get dX4_chunk_37 flX4_19 rfl rfl ?_
          refine g_iload_n dX4_chunk_40 rfl rfl ?_
          refine g_iload_n dX4_chunk_41 rfl rfl ?_
          refine cV2N (fun _ _ => rfl) dX4_chunk_42 mlX4_171 imX2_slotOf seX2_slotOf rfl rfl (c_slotOf4 _ _ _) (by decide) (Nat.le_of_ble_eq_true rfl) (Nat.le_of_ble_eq_true rfl) (Nat.le_of_ble_eq_true rfl) ?_
          rintro _ _ ⟨⟨sl, rfl⟩, rfl⟩
          refine cV1N (fun _ _ => rfl) dX4_chunk_45 mlX4_175 imX0_numberIn seX0_numberIn rfl rfl (c_numberIn6 _ _) (by decide) (Nat.le_of_ble_eq_true rfl) (Nat.le_of_ble_eq_true rfl) (Nat.le_of_ble_eq_true rfl) ?_
          rintro _ _ ⟨⟨ni, rfl⟩, rfl⟩
          refine g_iret dX4_chunk_48 rfl (Or.inl ⟨_, _, rfl, rfl, ?_⟩)
          exact ⟨⟨_, rfl⟩, Cl.rf _, fun f => hv f.nv⟩
        · refine g_throwS (cls := gIO) (names := gup) (text := "a graph has no such chunk") fit_2 fit_n clX4_166 in_java_lang_IndexOutOfBoundsException (by decide +kernel) th_170 nw_java_lang_IndexOutOfBoundsException to_170 dX4_chunk_19 dX4_chunk_22 dX4_chunk_23 dX4_chunk_25 dX4_chunk_28 (fun _ h => nomatch h) (by decide) (Nat.le_of_ble_eq_true rfl) (Nat.le_of_ble_eq_true rfl) (Nat.le_of_ble_eq_true rfl) ?_
          exact Or.inr ⟨_, _, rfl, rfl, rfl, Or.inr ⟨rfl, fun _ => trivial⟩⟩
    · rintro E S9 ⟨rfl, rfl⟩
      exact GTE.out (fun _ h => nomatch h) (Or.inr ⟨_, _, rfl, rfl, rfl, Or.inr ⟨rfl, fun _ => trivial⟩⟩)
  · rintro E S9 ⟨rfl, rfl, hcl⟩
    exact GTE.out (fun _ h => nomatch h) (Or.inr ⟨_, _, rfl, rfl, rfl, Or.inl ⟨rfl, fun f => f.op hcl⟩⟩)
set_option maxRecDepth 100000 in
set_option maxHeartbeats 4000000 in
theorem c_named (S : gS) (x : Int32) : gCt MX4_named (7, 102) 2 12 [.ref 0, .int x] (wOf τ S) (gX (wOf τ) (fun v S' => (∃ r : Int32, v = .int r ∧ (Fr S → inN x ∧ r = 0)) ∧ Cl S S') (fun E S' => S = S' ∧ ((E = gIS ∧ ¬ Fr S) ∨ (E = gIO ∧ (Fr S → ¬ inN x))))) := by
  refine gCt.of (ls := [some (.ref 0), some (.int x)]) 0 (by decide) rfl (Nat.le_of_ble_eq_true rfl) ?_
  refine g_aload_n dX4_named_0 rfl rfl ?_
  refine cV0Y (fun _ _ => rfl) dX4_named_1 mlX4_50 imX4_requireOpen seX4_requireOpen rfl rfl (c_requireOpen _) (by decide) (Nat.le_of_ble_eq_true rfl) (Nat.le_of_ble_eq_true rfl) (Nat.le_of_ble_eq_true rfl) ?_ ?_
  · rintro _ ⟨rfl, hop⟩
    refine g_iload_n dX4_named_4 rfl rfl ?_
    refine g_if_lt (tgt := 19) dX4_named_5 (by decide) (fun c5 => ?_) (fun c5 => ?_)
    · refine g_throwS (cls := gIO) (names := gup) (text := "no such chunk") fit_2 fit_n clX4_166 in_java_lang_IndexOutOfBoundsException (by decide +kernel) th_170 nw_java_lang_IndexOutOfBoundsException to_170 dX4_named_19 dX4_named_22 dX4_named_23 dX4_named_25 dX4_named_28 (fun _ h => nomatch h) (by decide) (Nat.le_of_ble_eq_true rfl) (Nat.le_of_ble_eq_true rfl) (Nat.le_of_ble_eq_true rfl) ?_
      exact Or.inr ⟨_, _, rfl, rfl, rfl, Or.inr ⟨rfl, fun f z => by first | exact z.1 c5 | exact c16 (by rw [f.1.2.2.2]; exact z.2)⟩⟩
    · refine g_iload_n dX4_named_8 rfl rfl ?_
      refine g_aload_n dX4_named_9 rfl rfl ?_
      refine g_get dX4_named_10 flX4_19 rfl rfl ?_
      refine g_get dX4_named_13 flX4_138 rfl rfl ?_
      refine g_icmp_lt (tgt := 29) dX4_named_16 (by decide) (fun c16 => ?_) (fun c16 => ?_)
      · refine g_aload_n dX4_named_29 rfl rfl ?_
        refine g_get dX4_named_30 flX4_19 rfl rfl ?_
        refine g_get dX4_named_33 flX4_110 rfl rfl ?_
        refine g_aload_n dX4_named_36 rfl rfl ?_
        refine g_get dX4_named_37 flX4_19 rfl rfl ?_
        refine g_get dX4_named_40 flX4_110 rfl rfl ?_
        refine g_iload_n dX4_named_43 rfl rfl ?_
        refine cV1N (fun _ _ => rfl) dX4_named_44 mlX4_180 imX0_find seX0_find rfl rfl (c_find6 _ _) (by decide) (Nat.le_of_ble_eq_true rfl) (Nat.le_of_ble_eq_true rfl) (Nat.le_of_ble_eq_true rfl) ?_
        rintro _ _ ⟨⟨fi, rfl, -⟩, rfl⟩
        refine cV1N (fun _ _ => rfl) dX4_named_47 mlX4_183 imX0_namesOf seX0_namesOf rfl rfl (c_namesOf6 _ _) (by decide) (Nat.le_of_ble_eq_true rfl) (Nat.le_of_ble_eq_true rfl) (Nat.le_of_ble_eq_true rfl) ?_
        rintro _ _ ⟨⟨nm, rfl, hnm⟩, rfl⟩
        refine g_iret dX4_named_50 rfl (Or.inl ⟨_, _, rfl, rfl, ?_⟩)
        exact ⟨⟨_, rfl, fun f => ⟨⟨c5, by rw [f.1.2.2.2] at c16; exact c16⟩, hnm f.nc⟩⟩, Cl.rf _⟩
      · refine g_throwS (cls := gIO) (names := gup) (text := "no such chunk") fit_2 fit_n clX4_166 in_java_lang_IndexOutOfBoundsException (by decide +kernel) th_170 nw_java_lang_IndexOutOfBoundsException to_170 dX4_named_19 dX4_named_22 dX4_named_23 dX4_named_25 dX4_named_28 (fun _ h => nomatch h) (by decide) (Nat.le_of_ble_eq_true rfl) (Nat.le_of_ble_eq_true rfl) (Nat.le_of_ble_eq_true rfl) ?_
        exact Or.inr ⟨_, _, rfl, rfl, rfl, Or.inr ⟨rfl, fun f z => by first | exact z.1 c5 | exact c16 (by rw [f.1.2.2.2]; exact z.2)⟩⟩
  · rintro E S9 ⟨rfl, rfl, hcl⟩
    exact GTE.out (fun _ h => nomatch h) (Or.inr ⟨_, _, rfl, rfl, rfl, Or.inl ⟨rfl, fun f => f.op hcl⟩⟩)
set_option maxRecDepth 100000 in
set_option maxHeartbeats 4000000 in
theorem l_differ (S : gS) (x y : Int32) (hg : Fr S → x = -1 ∧ y = -1) : ∀ (m i k n : Nat) (a : Int32), i + m = 64 → (Fr S → a = 0) → G MX4_differ (8, 125) 19 [some (.ref 0), some (.int x), some (.int y), some (.int a), some (.int (nI i))] [] (wOf τ S) k n (gX (wOf τ) (fun v S' => (∃ r : Int32, v = .int r ∧ (Fr S → (x = -1 ∧ y = -1) ∧ r = 0)) ∧ Cl S S') (fun E S' => S = S' ∧ ((E = gIS ∧ ¬ Fr S) ∨ (E = gIO ∧ (Fr S → ¬ x = -1 ∨ ¬ y = -1))))) := by
  intro m
  induction m with
  | zero =>
    intro i k n a hi ha
    obtain rfl : i = 64 := by omega
    refine g_iload dX4_differ_19 rfl ?_
    refine g_bipush (v := 64) dX4_differ_21 (by decide) ?_
    refine g_icmp_ge (tgt := 59) dX4_differ_23 (by decide) (fun c23 => ?_) (fun c23 => ?_)
    · refine g_iload_n dX4_differ_59 rfl rfl ?_
      refine g_iret dX4_differ_60 rfl (Or.inl ⟨_, _, rfl, rfl, ?_⟩)
      exact ⟨⟨_, rfl, fun f => ⟨hg f, ha f⟩⟩, Cl.rf _⟩
    · exact absurd (show (64 : Int32) ≤ nI 64 by decide) c23
  | succ m ih =>
    intro i k n a hi ha
    refine g_iload dX4_differ_19 rfl ?_
    refine g_bipush (v := 64) dX4_differ_21 (by decide) ?_
    refine g_icmp_ge (tgt := 59) dX4_differ_23 (by decide) (fun c23 => ?_) (fun c23 => ?_)
    · exact absurd c23 (nI_ge (b := 64) (by omega) (by decide))
    · refine g_iload_n dX4_differ_26 rfl rfl ?_
      refine g_aload_n dX4_differ_27 rfl rfl ?_
      refine g_get dX4_differ_28 flX4_19 rfl rfl ?_
      refine g_iload_n dX4_differ_31 rfl rfl ?_
      refine g_iload dX4_differ_32 rfl ?_
      refine cV2N (fun _ _ => rfl) dX4_differ_34 mlX4_186 imX2_edgesFrom seX2_edgesFrom rfl rfl (c_edgesFrom4 _ _ _) (by decide) (Nat.le_of_ble_eq_true rfl) (Nat.le_of_ble_eq_true rfl) (Nat.le_of_ble_eq_true rfl) ?_
      rintro _ _ ⟨⟨e1, rfl, he1⟩, rfl⟩
      refine g_aload_n dX4_differ_37 rfl rfl ?_
      refine g_get dX4_differ_38 flX4_19 rfl rfl ?_
      refine g_iload_n dX4_differ_41 rfl rfl ?_
      refine g_iload dX4_differ_42 rfl ?_
      refine cV2N (fun _ _ => rfl) dX4_differ_44 mlX4_186 imX2_edgesFrom seX2_edgesFrom rfl rfl (c_edgesFrom4 _ _ _) (by decide) (Nat.le_of_ble_eq_true rfl) (Nat.le_of_ble_eq_true rfl) (Nat.le_of_ble_eq_true rfl) ?_
      rintro _ _ ⟨⟨e2, rfl, he2⟩, rfl⟩
      refine g_lxor dX4_differ_47 ?_
      refine cS1N (fun _ _ => rfl) dX4_differ_48 mlX4_189 isJ13_bitCount_95d88 (c_bitCount _ _) (by decide) (Nat.le_of_ble_eq_true rfl) (Nat.le_of_ble_eq_true rfl) (Nat.le_of_ble_eq_true rfl) ?_
      rintro _ _ ⟨⟨bc, rfl, hbc⟩, rfl⟩
      refine g_iadd dX4_differ_51 ?_
      refine g_istore_n dX4_differ_52 rfl (by decide) ?_
      refine g_iinc dX4_differ_53 rfl (by decide) (by first | exact gi_1 _ | exact gi_p _) ?_
      refine g_goto (tgt := 19) dX4_differ_56 (by decide) ?_
      exact ih (i + 1) _ _ _ (by omega) (fun f => by rw [ha f, hbc (by rw [he1 (hg f).1 f.z, he2 (hg f).2 f.z]; rfl)]; rfl)
set_option maxRecDepth 100000 in
set_option maxHeartbeats 4000000 in
theorem c_differ (S : gS) (x y : Int32) : gCt MX4_differ (8, 125) 3 18 [.ref 0, .int x, .int y] (wOf τ S) (gX (wOf τ) (fun v S' => (∃ r : Int32, v = .int r ∧ (Fr S → (x = -1 ∧ y = -1) ∧ r = 0)) ∧ Cl S S') (fun E S' => S = S' ∧ ((E = gIS ∧ ¬ Fr S) ∨ (E = gIO ∧ (Fr S → ¬ x = -1 ∨ ¬ y = -1))))) := by
  refine gCt.of (ls := [some (.ref 0), some (.int x), some (.int y), none, none]) 2 (by decide) rfl (Nat.le_of_ble_eq_true rfl) ?_
  refine g_aload_n dX4_differ_0 rfl rfl ?_
  refine cV0Y (fun _ _ => rfl) dX4_differ_1 mlX4_50 imX4_requireOpen seX4_requireOpen rfl rfl (c_requireOpen _) (by decide) (Nat.le_of_ble_eq_true rfl) (Nat.le_of_ble_eq_true rfl) (Nat.le_of_ble_eq_true rfl) ?_ ?_
  · rintro _ ⟨rfl, hop⟩
    refine g_aload_n dX4_differ_4 rfl rfl ?_
    refine g_iload_n dX4_differ_5 rfl rfl ?_
    refine cV1Y (fun _ _ => rfl) dX4_differ_6 mlX4_163 imX4_requireGraph seX4_requireGraph rfl rfl (c_requireGraph _ _) (by decide) (Nat.le_of_ble_eq_true rfl) (Nat.le_of_ble_eq_true rfl) (Nat.le_of_ble_eq_true rfl) ?_ ?_
    · rintro _ ⟨rfl, hg1⟩
      refine g_aload_n dX4_differ_9 rfl rfl ?_
      refine g_iload_n dX4_differ_10 rfl rfl ?_
      refine cV1Y (fun _ _ => rfl) dX4_differ_11 mlX4_163 imX4_requireGraph seX4_requireGraph rfl rfl (c_requireGraph _ _) (by decide) (Nat.le_of_ble_eq_true rfl) (Nat.le_of_ble_eq_true rfl) (Nat.le_of_ble_eq_true rfl) ?_ ?_
      · rintro _ ⟨rfl, hg2⟩
        refine g_iconst (v := 0) dX4_differ_14 (by decide) ?_
        refine g_istore_n dX4_differ_15 rfl (by decide) ?_
        refine g_iconst (v := 0) dX4_differ_16 (by decide) ?_
        refine g_istore dX4_differ_17 (by decide) ?_
        exact l_differ S x y (fun f => ⟨hg1.resolve_right (fun z => z f.nv), hg2.resolve_right (fun z => z f.nv)⟩) 64 0 _ _ 0 rfl (fun _ => rfl)
      · rintro E S9 ⟨rfl, rfl, hb⟩
        exact GTE.out (fun _ h => nomatch h) (Or.inr ⟨_, _, rfl, rfl, rfl, Or.inr ⟨rfl, fun _ => Or.inr hb⟩⟩)
    · rintro E S9 ⟨rfl, rfl, hb⟩
      exact GTE.out (fun _ h => nomatch h) (Or.inr ⟨_, _, rfl, rfl, rfl, Or.inr ⟨rfl, fun _ => Or.inl hb⟩⟩)
  · rintro E S9 ⟨rfl, rfl, hcl⟩
    exact GTE.out (fun _ h => nomatch h) (Or.inr ⟨_, _, rfl, rfl, rfl, Or.inl ⟨rfl, fun f => f.op hcl⟩⟩)
theorem bit_i : ∀ i j : Fin 64, (lg_cmp (((1 <<< ((nI i.val).toInt64 &&& 63) : Int64).toUInt64 >>> ((nI j.val).toInt64.toUInt64 &&& Int64.toUInt64 63)).toInt64 &&& 1) 0 = 0) ↔ ¬ nI i.val = nI j.val := by decide +kernel
theorem bit_x {y z : Int32} (hy : inN y) (hz : inN z) : (lg_cmp (((1 <<< (y.toInt64 &&& 63) : Int64).toUInt64 >>> (z.toInt64.toUInt64 &&& Int64.toUInt64 63)).toInt64 &&& 1) 0 = 0) ↔ ¬ y = z := by
  obtain ⟨i, hi, rfl, -⟩ := pk_mu (L := 64) hy.1 (Int32.not_le.mpr hy.2) (by decide)
  obtain ⟨j, hj, rfl, -⟩ := pk_mu (L := 64) hz.1 (Int32.not_le.mpr hz.2) (by decide)
  exact bit_i ⟨i, hi⟩ ⟨j, hj⟩
theorem bit_0 (z : Int32) : lg_cmp (((0 : Int64).toUInt64 >>> (z.toInt64.toUInt64 &&& Int64.toUInt64 63)).toInt64 &&& 1) 0 = 0 := by rw [sh0]; decide
set_option maxRecDepth 100000 in
set_option maxHeartbeats 4000000 in
theorem l_far (S : gS) (x y z : Int32) (hg : Fr S → x = -1 ∧ inN y ∧ inN z) : ∀ (m i k n : Nat) (a c : Int64), i + m = 64 → (Fr S → ((i = 0 ∧ c = 1 <<< (y.toInt64 &&& 63)) ∨ (0 < i ∧ ¬ y = z ∧ c = 0))) → G MX4_far (8, 125) 31 [some (.ref 0), some (.int x), some (.int y), some (.int z), some (.long a), none, some (.long c), none, some (.int (nI i))] [] (wOf τ S) k n (gX (wOf τ) (fun v S' => (∃ r : Int32, v = .int r ∧ (Fr S → (x = -1 ∧ inN y ∧ inN z) ∧ r = if y = z then 0 else -1)) ∧ Cl S S') (fun E S' => S = S' ∧ ((E = gIS ∧ ¬ Fr S) ∨ (E = gIO ∧ (Fr S → ¬ x = -1 ∨ ¬ inN y ∨ ¬ inN z))))) := by
  intro m
  induction m with
  | zero =>
    intro i k n a c hi hc
    obtain rfl : i = 64 := by omega
    refine g_iload dX4_far_31 rfl ?_
    refine g_bipush (v := 64) dX4_far_33 (by decide) ?_
    refine g_icmp_ge (tgt := 81) dX4_far_35 (by decide) (fun c35 => ?_) (fun c35 => ?_)
    · refine g_iconst (v := (-1)) dX4_far_81 (by decide) ?_
      refine g_iret dX4_far_82 rfl (Or.inl ⟨_, _, rfl, rfl, ?_⟩)
      refine ⟨⟨_, rfl, fun f => ⟨hg f, ?_⟩⟩, Cl.rf _⟩
      rcases hc f with h | h
      · exact absurd h.1 (by decide)
      · rw [if_neg h.2.1]
    · exact absurd (show (64 : Int32) ≤ nI 64 by decide) c35
  | succ m ih =>
    intro i k n a c hi hc
    refine g_iload dX4_far_31 rfl ?_
    refine g_bipush (v := 64) dX4_far_33 (by decide) ?_
    refine g_icmp_ge (tgt := 81) dX4_far_35 (by decide) (fun c35 => ?_) (fun c35 => ?_)
    · exact absurd c35 (nI_ge (b := 64) (by omega) (by decide))
    · refine g_lload dX4_far_38 rfl ?_
      refine g_iload_n dX4_far_40 rfl rfl ?_
      refine g_lushr dX4_far_41 ?_
      refine g_lconst (v := 1) dX4_far_42 (by decide) ?_
      refine g_land dX4_far_43 ?_
      refine g_lconst (v := 0) dX4_far_44 (by decide) ?_
      refine g_lcmp dX4_far_45 ?_
      refine g_if_eq (tgt := 52) dX4_far_46 (by decide) (fun c46 => ?_) (fun c46 => ?_)
      · refine g_aload_n dX4_far_52 rfl rfl ?_
        refine g_iload_n dX4_far_53 rfl rfl ?_
        refine g_lload dX4_far_54 rfl ?_
        refine cV2N (fun _ _ => rfl) dX4_far_56 mlX4_195 imX4_oneEdgeOn seX4_oneEdgeOn rfl rfl (c_oneEdgeOn _ _ _) (by decide) (Nat.le_of_ble_eq_true rfl) (Nat.le_of_ble_eq_true rfl) (Nat.le_of_ble_eq_true rfl) ?_
        rintro _ _ ⟨⟨oe, rfl, hoe⟩, rfl⟩
        refine g_lload dX4_far_59 rfl ?_
        refine g_ldc2 dX4_far_61 coX4_199 ?_
        refine g_lxor dX4_far_64 ?_
        refine g_land dX4_far_65 ?_
        refine g_lstore dX4_far_66 (by decide) ?_
        refine g_lload dX4_far_68 rfl ?_
        refine g_lload dX4_far_70 rfl ?_
        refine g_lor dX4_far_72 ?_
        refine g_lstore dX4_far_73 (by decide) ?_
        refine g_iinc dX4_far_75 rfl (by decide) (by first | exact gi_1 _ | exact gi_p _) ?_
        refine g_goto (tgt := 31) dX4_far_78 (by decide) ?_
        refine ih (i + 1) _ _ _ _ (by omega) (fun f => Or.inr ⟨by omega, ?_, ?_⟩)
        · rcases hc f with ⟨-, h⟩ | ⟨-, h, -⟩
          · rw [h] at c46; exact (bit_x (hg f).2.1 (hg f).2.2).mp c46
          · exact h
        · rw [hoe (hg f).1 f.z]; exact Int64.zero_and
      · refine g_iload dX4_far_49 rfl ?_
        refine g_iret dX4_far_51 rfl (Or.inl ⟨_, _, rfl, rfl, ?_⟩)
        refine ⟨⟨_, rfl, fun f => ⟨hg f, ?_⟩⟩, Cl.rf _⟩
        rcases hc f with ⟨h1, h⟩ | ⟨-, -, h⟩
        · rw [h] at c46
          rw [if_pos (Classical.byContradiction fun q => c46 ((bit_x (hg f).2.1 (hg f).2.2).mpr q)), h1]; rfl
        · rw [h] at c46; exact absurd (bit_0 _) c46
set_option maxRecDepth 100000 in
set_option maxHeartbeats 4000000 in
theorem c_far (S : gS) (x y z : Int32) : gCt MX4_far (8, 125) 4 24 [.ref 0, .int x, .int y, .int z] (wOf τ S) (gX (wOf τ) (fun v S' => (∃ r : Int32, v = .int r ∧ (Fr S → (x = -1 ∧ inN y ∧ inN z) ∧ r = if y = z then 0 else -1)) ∧ Cl S S') (fun E S' => S = S' ∧ ((E = gIS ∧ ¬ Fr S) ∨ (E = gIO ∧ (Fr S → ¬ x = -1 ∨ ¬ inN y ∨ ¬ inN z))))) := by
  refine gCt.of (ls := [some (.ref 0), some (.int x), some (.int y), some (.int z), none, none, none, none, none]) 5 (by decide) rfl (Nat.le_of_ble_eq_true rfl) ?_
  refine g_aload_n dX4_far_0 rfl rfl ?_
  refine cV0Y (fun _ _ => rfl) dX4_far_1 mlX4_50 imX4_requireOpen seX4_requireOpen rfl rfl (c_requireOpen _) (by decide) (Nat.le_of_ble_eq_true rfl) (Nat.le_of_ble_eq_true rfl) (Nat.le_of_ble_eq_true rfl) ?_ ?_
  · rintro _ ⟨rfl, hop⟩
    refine g_aload_n dX4_far_4 rfl rfl ?_
    refine g_iload_n dX4_far_5 rfl rfl ?_
    refine cV1Y (fun _ _ => rfl) dX4_far_6 mlX4_163 imX4_requireGraph seX4_requireGraph rfl rfl (c_requireGraph _ _) (by decide) (Nat.le_of_ble_eq_true rfl) (Nat.le_of_ble_eq_true rfl) (Nat.le_of_ble_eq_true rfl) ?_ ?_
    · rintro _ ⟨rfl, hg⟩
      refine g_aload_n dX4_far_9 rfl rfl ?_
      refine g_iload_n dX4_far_10 rfl rfl ?_
      refine cV1Y (fun _ _ => rfl) dX4_far_11 mlX4_53 imX4_requireNode seX4_requireNode rfl rfl (c_requireNode _ _) (by decide) (Nat.le_of_ble_eq_true rfl) (Nat.le_of_ble_eq_true rfl) (Nat.le_of_ble_eq_true rfl) ?_ ?_
      · rintro _ ⟨rfl, ha⟩
        refine g_aload_n dX4_far_14 rfl rfl ?_
        refine g_iload_n dX4_far_15 rfl rfl ?_
        refine cV1Y (fun _ _ => rfl) dX4_far_16 mlX4_53 imX4_requireNode seX4_requireNode rfl rfl (c_requireNode _ _) (by decide) (Nat.le_of_ble_eq_true rfl) (Nat.le_of_ble_eq_true rfl) (Nat.le_of_ble_eq_true rfl) ?_ ?_
        · rintro _ ⟨rfl, hb2⟩
          refine g_lconst (v := 1) dX4_far_19 (by decide) ?_
          refine g_iload_n dX4_far_20 rfl rfl ?_
          refine g_lshl dX4_far_21 ?_
          refine g_lstore dX4_far_22 (by decide) ?_
          refine g_lload dX4_far_24 rfl ?_
          refine g_lstore dX4_far_26 (by decide) ?_
          refine g_iconst (v := 0) dX4_far_28 (by decide) ?_
          refine g_istore dX4_far_29 (by decide) ?_
          exact l_far S x y z (fun f => ⟨hg.resolve_right (fun z => z f.nv), ha, hb2⟩) 64 0 _ _ _ _ rfl (fun _ => Or.inl ⟨rfl, rfl⟩)
        · rintro E S9 ⟨rfl, rfl, hb⟩
          exact GTE.out (fun _ h => nomatch h) (Or.inr ⟨_, _, rfl, rfl, rfl, Or.inr ⟨rfl, fun _ => Or.inr (Or.inr (inN_or hb))⟩⟩)
      · rintro E S9 ⟨rfl, rfl, hb⟩
        exact GTE.out (fun _ h => nomatch h) (Or.inr ⟨_, _, rfl, rfl, rfl, Or.inr ⟨rfl, fun _ => Or.inr (Or.inl (inN_or hb))⟩⟩)
    · rintro E S9 ⟨rfl, rfl, hb⟩
      exact GTE.out (fun _ h => nomatch h) (Or.inr ⟨_, _, rfl, rfl, rfl, Or.inr ⟨rfl, fun _ => Or.inl hb⟩⟩)
  · rintro E S9 ⟨rfl, rfl, hcl⟩
    exact GTE.out (fun _ h => nomatch h) (Or.inr ⟨_, _, rfl, rfl, rfl, Or.inl ⟨rfl, fun f => f.op hcl⟩⟩)
set_option maxRecDepth 100000 in
set_option maxHeartbeats 4000000 in
theorem c_usable (S : gS) (x : Int32) : gCt MX4_usable (7, 103) 2 12 [.ref 0, .int x] (wOf τ S) (gX (wOf τ) (fun v S' => (∃ r : Int32, v = .int r ∧ (r = 0 ∨ r = 1)) ∧ Cl S S' ∧ ¬ Fr S) (fun E S' => S = S' ∧ ((E = gIS ∧ ¬ Fr S) ∨ (E = gIO ∧ (Fr S → True))))) := by
  refine gCt.of (ls := [some (.ref 0), some (.int x)]) 0 (by decide) rfl (Nat.le_of_ble_eq_true rfl) ?_
  refine g_aload_n dX4_usable_0 rfl rfl ?_
  refine cV0Y (fun _ _ => rfl) dX4_usable_1 mlX4_50 imX4_requireOpen seX4_requireOpen rfl rfl (c_requireOpen _) (by decide) (Nat.le_of_ble_eq_true rfl) (Nat.le_of_ble_eq_true rfl) (Nat.le_of_ble_eq_true rfl) ?_ ?_
  · rintro _ ⟨rfl, hop⟩
    refine g_aload_n dX4_usable_4 rfl rfl ?_
    refine g_iload_n dX4_usable_5 rfl rfl ?_
    refine cV1Y (fun _ _ => rfl) dX4_usable_6 mlX4_201 imX4_requireAnswer seX4_requireAnswer rfl rfl (c_requireAnswer _ _) (by decide) (Nat.le_of_ble_eq_true rfl) (Nat.le_of_ble_eq_true rfl) (Nat.le_of_ble_eq_true rfl) ?_ ?_
    · rintro _ ⟨rfl, ha1, ha2⟩
      refine g_aload_n dX4_usable_9 rfl rfl ?_
      refine g_get dX4_usable_10 flX4_19 rfl rfl ?_
      refine g_aload_n dX4_usable_13 rfl rfl ?_
      refine g_get dX4_usable_14 flX4_19 rfl rfl ?_
      refine g_iload_n dX4_usable_17 rfl rfl ?_
      refine cV1N (fun _ _ => rfl) dX4_usable_18 mlX4_204 imX2_versionOfAnswer seX2_versionOfAnswer rfl rfl (c_versionOfAnswer4 _ _) (by decide) (Nat.le_of_ble_eq_true rfl) (Nat.le_of_ble_eq_true rfl) (Nat.le_of_ble_eq_true rfl) ?_
      rintro _ _ ⟨⟨va, rfl⟩, rfl⟩
      refine cV1N (fun _ _ => rfl) dX4_usable_21 mlX4_207 imX2_isThere seX2_isThere rfl rfl (c_isThere4 _ _) (by decide) (Nat.le_of_ble_eq_true rfl) (Nat.le_of_ble_eq_true rfl) (Nat.le_of_ble_eq_true rfl) ?_
      rintro _ _ ⟨⟨it, rfl, it01, -⟩, rfl⟩
      refine g_zret dX4_usable_24 rfl (by rcases it01 with rfl | rfl <;> rfl) (Or.inl ⟨_, _, rfl, rfl, ?_⟩)
      exact ⟨⟨_, rfl, it01⟩, Cl.rf _, fun f => absurd ha2 (by rw [f.2.1.2.2.1]; exact ha1)⟩
    · rintro E S9 ⟨rfl, rfl, hb⟩
      exact GTE.out (fun _ h => nomatch h) (Or.inr ⟨_, _, rfl, rfl, rfl, Or.inr ⟨rfl, fun _ => trivial⟩⟩)
  · rintro E S9 ⟨rfl, rfl, hcl⟩
    exact GTE.out (fun _ h => nomatch h) (Or.inr ⟨_, _, rfl, rfl, rfl, Or.inl ⟨rfl, fun f => f.op hcl⟩⟩)
set_option maxRecDepth 100000 in
set_option maxHeartbeats 4000000 in
theorem c_mask (S : gS) (x : Int32) : gCt MX4_mask (7, 103) 2 12 [.ref 0, .int x] (wOf τ S) (gX (wOf τ) (fun v S' => (∃ r : Int64, v = .long r) ∧ Cl S S' ∧ ¬ Fr S) (fun E S' => S = S' ∧ ((E = gIS ∧ ¬ Fr S) ∨ (E = gIO ∧ (Fr S → True))))) := by
  refine gCt.of (ls := [some (.ref 0), some (.int x)]) 0 (by decide) rfl (Nat.le_of_ble_eq_true rfl) ?_
  refine g_aload_n dX4_mask_0 rfl rfl ?_
  refine cV0Y (fun _ _ => rfl) dX4_mask_1 mlX4_50 imX4_requireOpen seX4_requireOpen rfl rfl (c_requireOpen _) (by decide) (Nat.le_of_ble_eq_true rfl) (Nat.le_of_ble_eq_true rfl) (Nat.le_of_ble_eq_true rfl) ?_ ?_
  · rintro _ ⟨rfl, hop⟩
    refine g_aload_n dX4_mask_4 rfl rfl ?_
    refine g_iload_n dX4_mask_5 rfl rfl ?_
    refine cV1Y (fun _ _ => rfl) dX4_mask_6 mlX4_201 imX4_requireAnswer seX4_requireAnswer rfl rfl (c_requireAnswer _ _) (by decide) (Nat.le_of_ble_eq_true rfl) (Nat.le_of_ble_eq_true rfl) (Nat.le_of_ble_eq_true rfl) ?_ ?_
    · rintro _ ⟨rfl, ha1, ha2⟩
      refine g_aload_n dX4_mask_9 rfl rfl ?_
      refine g_get dX4_mask_10 flX4_19 rfl rfl ?_
      refine g_iload_n dX4_mask_13 rfl rfl ?_
      refine cV1N (fun _ _ => rfl) dX4_mask_14 mlX4_210 imX2_maskOfAnswer seX2_maskOfAnswer rfl rfl (c_maskOfAnswer4 _ _) (by decide) (Nat.le_of_ble_eq_true rfl) (Nat.le_of_ble_eq_true rfl) (Nat.le_of_ble_eq_true rfl) ?_
      rintro _ _ ⟨⟨ma, rfl⟩, rfl⟩
      refine g_lret dX4_mask_17 rfl (Or.inl ⟨_, _, rfl, rfl, ?_⟩)
      exact ⟨⟨_, rfl⟩, Cl.rf _, fun f => absurd ha2 (by rw [f.2.1.2.2.1]; exact ha1)⟩
    · rintro E S9 ⟨rfl, rfl, hb⟩
      exact GTE.out (fun _ h => nomatch h) (Or.inr ⟨_, _, rfl, rfl, rfl, Or.inr ⟨rfl, fun _ => trivial⟩⟩)
  · rintro E S9 ⟨rfl, rfl, hcl⟩
    exact GTE.out (fun _ h => nomatch h) (Or.inr ⟨_, _, rfl, rfl, rfl, Or.inl ⟨rfl, fun f => f.op hcl⟩⟩)
set_option maxRecDepth 100000 in
set_option maxHeartbeats 4000000 in
theorem c_told (S : gS) (x : Int32) : gCt MX4_told (7, 102) 2 12 [.ref 0, .int x] (wOf τ S) (gX (wOf τ) (fun v S' => (∃ r : Int32, v = .int r ∧ (Fr S → (¬ x < 0 ∧ ¬ 9 < x) ∧ r = 0)) ∧ Cl S S') (fun E S' => S = S' ∧ ((E = gIS ∧ ¬ Fr S) ∨ (E = gIO ∧ (Fr S → ¬ (¬ x < 0 ∧ ¬ 9 < x)))))) := by
  refine gCt.of (ls := [some (.ref 0), some (.int x)]) 0 (by decide) rfl (Nat.le_of_ble_eq_true rfl) ?_
  refine g_aload_n dX4_told_0 rfl rfl ?_
  refine cV0Y (fun _ _ => rfl) dX4_told_1 mlX4_50 imX4_requireOpen seX4_requireOpen rfl rfl (c_requireOpen _) (by decide) (Nat.le_of_ble_eq_true rfl) (Nat.le_of_ble_eq_true rfl) (Nat.le_of_ble_eq_true rfl) ?_ ?_
  · rintro _ ⟨rfl, hop⟩
    refine g_iload_n dX4_told_4 rfl rfl ?_
    refine g_tsw4 (ts := [60, 68, 76, 84, 92, 100, 105, 113, 124, 132, 140]) (tv := 140) dX4_told_5 (by decide) (by decide) (fun t ht htw hto => ?_)
    simp only [List.mem_cons, List.not_mem_nil, or_false] at ht
    rcases ht with rfl | rfl | rfl | rfl | rfl | rfl | rfl | rfl | rfl | rfl | rfl
    · refine g_aload_n dX4_told_60 rfl rfl ?_
      refine g_get dX4_told_61 flX4_19 rfl rfl ?_
      refine cV0N (fun _ _ => rfl) dX4_told_64 mlX4_148 imX2_countThere seX2_countThere rfl rfl (c_countThere4 _) (by decide) (Nat.le_of_ble_eq_true rfl) (Nat.le_of_ble_eq_true rfl) (Nat.le_of_ble_eq_true rfl) ?_
      rintro _ _ ⟨⟨ct, rfl, hct⟩, rfl⟩
      refine g_iret dX4_told_67 rfl (Or.inl ⟨_, _, rfl, rfl, ?_⟩)
      exact ⟨⟨_, rfl, fun f => ⟨htw (by decide), hct f.nv⟩⟩, Cl.rf _⟩
    · refine g_aload_n dX4_told_68 rfl rfl ?_
      refine g_get dX4_told_69 flX4_19 rfl rfl ?_
      refine g_get dX4_told_72 flX4_79 rfl rfl ?_
      refine g_iret dX4_told_75 rfl (Or.inl ⟨_, _, rfl, rfl, ?_⟩)
      exact ⟨⟨_, rfl, fun f => ⟨htw (by decide), f.2.1.2.1⟩⟩, Cl.rf _⟩
    · refine g_aload_n dX4_told_76 rfl rfl ?_
      refine g_get dX4_told_77 flX4_19 rfl rfl ?_
      refine g_get dX4_told_80 flX4_103 rfl rfl ?_
      refine g_iret dX4_told_83 rfl (Or.inl ⟨_, _, rfl, rfl, ?_⟩)
      exact ⟨⟨_, rfl, fun f => ⟨htw (by decide), f.2.1.2.2.1⟩⟩, Cl.rf _⟩
    · refine g_aload_n dX4_told_84 rfl rfl ?_
      refine g_get dX4_told_85 flX4_19 rfl rfl ?_
      refine g_get dX4_told_88 flX4_160 rfl rfl ?_
      refine g_iret dX4_told_91 rfl (Or.inl ⟨_, _, rfl, rfl, ?_⟩)
      exact ⟨⟨_, rfl, fun f => ⟨htw (by decide), f.2.1.2.2.2.2⟩⟩, Cl.rf _⟩
    · refine g_aload_n dX4_told_92 rfl rfl ?_
      refine g_get dX4_told_93 flX4_19 rfl rfl ?_
      refine g_get dX4_told_96 flX4_64 rfl rfl ?_
      refine g_iret dX4_told_99 rfl (Or.inl ⟨_, _, rfl, rfl, ?_⟩)
      exact ⟨⟨_, rfl, fun f => ⟨htw (by decide), f.2.1.1⟩⟩, Cl.rf _⟩
    · refine g_aload_n dX4_told_100 rfl rfl ?_
      refine g_get dX4_told_101 flX4_119 rfl rfl ?_
      refine g_iret dX4_told_104 rfl (Or.inl ⟨_, _, rfl, rfl, ?_⟩)
      exact ⟨⟨_, rfl, fun f => ⟨htw (by decide), f.1.2.1⟩⟩, Cl.rf _⟩
    · refine g_aload_n dX4_told_105 rfl rfl ?_
      refine g_get dX4_told_106 flX4_19 rfl rfl ?_
      refine cV0N (fun _ _ => rfl) dX4_told_109 mlX4_214 imX2_countEdges seX2_countEdges rfl rfl (c_countEdges4 _) (by decide) (Nat.le_of_ble_eq_true rfl) (Nat.le_of_ble_eq_true rfl) (Nat.le_of_ble_eq_true rfl) ?_
      rintro _ _ ⟨⟨ce, rfl, hce⟩, rfl⟩
      refine g_iret dX4_told_112 rfl (Or.inl ⟨_, _, rfl, rfl, ?_⟩)
      exact ⟨⟨_, rfl, fun f => ⟨htw (by decide), hce f.z⟩⟩, Cl.rf _⟩
    · refine g_aload_n dX4_told_113 rfl rfl ?_
      refine g_get dX4_told_114 flX4_19 rfl rfl ?_
      refine g_get dX4_told_117 flX4_110 rfl rfl ?_
      refine cV0N (fun _ _ => rfl) dX4_told_120 mlX4_114 imX0_countNamed seX0_countNamed rfl rfl (c_countNamed6 _) (by decide) (Nat.le_of_ble_eq_true rfl) (Nat.le_of_ble_eq_true rfl) (Nat.le_of_ble_eq_true rfl) ?_
      rintro _ _ ⟨⟨cn, rfl, hcn⟩, rfl⟩
      refine g_iret dX4_told_123 rfl (Or.inl ⟨_, _, rfl, rfl, ?_⟩)
      exact ⟨⟨_, rfl, fun f => ⟨htw (by decide), hcn f.nc⟩⟩, Cl.rf _⟩
    · refine g_aload_n dX4_told_124 rfl rfl ?_
      refine g_get dX4_told_125 flX4_19 rfl rfl ?_
      refine g_get dX4_told_128 flX4_217 rfl rfl ?_
      refine g_iret dX4_told_131 rfl (Or.inl ⟨_, _, rfl, rfl, ?_⟩)
      exact ⟨⟨_, rfl, fun f => ⟨htw (by decide), f.2.1.2.2.2.1⟩⟩, Cl.rf _⟩
    · refine g_aload_n dX4_told_132 rfl rfl ?_
      refine g_get dX4_told_133 flX4_12 rfl rfl ?_
      refine g_get dX4_told_136 flX4_220 rfl rfl ?_
      refine g_iret dX4_told_139 rfl (Or.inl ⟨_, _, rfl, rfl, ?_⟩)
      exact ⟨⟨_, rfl, fun f => ⟨htw (by decide), f.1.2.2.1⟩⟩, Cl.rf _⟩
    · refine g_throwS (cls := gIO) (names := gup) (text := "nothing of that number is told") fit_2 fit_n clX4_166 in_java_lang_IndexOutOfBoundsException (by decide +kernel) th_170 nw_java_lang_IndexOutOfBoundsException to_170 dX4_told_140 dX4_told_143 dX4_told_144 dX4_told_146 dX4_told_149 (fun _ h => nomatch h) (by decide) (Nat.le_of_ble_eq_true rfl) (Nat.le_of_ble_eq_true rfl) (Nat.le_of_ble_eq_true rfl) ?_
      exact Or.inr ⟨_, _, rfl, rfl, rfl, Or.inr ⟨rfl, fun _ => hto rfl⟩⟩
  · rintro E S9 ⟨rfl, rfl, hcl⟩
    exact GTE.out (fun _ h => nomatch h) (Or.inr ⟨_, _, rfl, rfl, rfl, Or.inl ⟨rfl, fun f => f.op hcl⟩⟩)
set_option maxRecDepth 100000 in
set_option maxHeartbeats 4000000 in
theorem c_isOpen (S : gS) (h1 : S.1 0 5 = 0 ∨ S.1 0 5 = 1) : gCt MX4_isOpen (0, 0) 0 0 [.ref 0] (wOf τ S) (gN (wOf τ) fun v S' => v = .int (S.1 0 5) ∧ S = S') := by
  refine gCt.of (ls := [some (.ref 0)]) 0 (by decide) rfl (Nat.le_of_ble_eq_true rfl) ?_
  refine g_aload_n dX4_isOpen_0 rfl rfl ?_
  refine g_get dX4_isOpen_1 flX4_125 rfl rfl ?_
  refine g_zret dX4_isOpen_4 rfl (by rcases h1 with h | h <;> rw [h] <;> rfl) ⟨_, _, rfl, rfl, ?_⟩
  exact ⟨rfl, rfl⟩
end
