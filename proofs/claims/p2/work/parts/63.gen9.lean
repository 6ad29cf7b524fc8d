section
variable {Γ : gS} {τ : gW}
theorem nI_sub {a b : Nat} (h : b ≤ a) : nI a - nI b = nI (a - b) := by
  have e : nI a = nI (a - b) + nI b := by rw [nI_add, Nat.sub_add_cancel h]
  rw [e, Int32.add_sub_cancel]
theorem le_of_nI {a b : Nat} (ha : a < 2 ^ 31) (h : nI a ≤ nI b) : a ≤ b := Classical.byContradiction fun z => absurd h (nI_ge (by omega) ha)
theorem lt_of_nI {a b : Nat} (hb : a < 2 ^ 31) (h : ¬ nI b ≤ nI a) : a < b := Classical.byContradiction fun z => h (nI_le (by omega) hb)
theorem eq_of_nI {a b : Nat} (ha : a < 2 ^ 31) (hb : b < 2 ^ 31) (h : nI a = nI b) : a = b := by
  have := congrArg Int32.toNatClampNeg h
  rwa [nI_clamp ha, nI_clamp hb] at this
/-- what a right row at L gives to take -/
def TK (S : gS) (L V n len sz : Nat) : Prop := L + 12 + sz ≤ len ∧ S.2.1 29 (32 + L + 3) = nI sz ∧ ((S.2.1 29 (32 + L) = 1 ∧ sz = 64) ∨ (S.2.1 29 (32 + L) = 2 ∧ sz = 3 ∧ ∃ b : Nat, b < 64 ∧ S.2.1 29 (32 + L + 4) = nI b) ∨ (S.2.1 29 (32 + L) = 4 ∧ sz = 10 ∧ n < 100) ∨ (S.2.1 29 (32 + L) = 5 ∧ sz = 0 ∧ ∃ q : Nat, q < 100 ∧ (mnum (S.2.1 29) (32 + L + 1) 2).toInt32 = nI q) ∨ (S.2.1 29 (32 + L) = 3 ∧ sz = 16 ∧ V < 100 ∧ (∀ g', g' < 8 → ∃ q : Nat, q < 65536 ∧ (mnum (S.2.1 29) (32 + L + 4 + 2 * g') 2).toInt32 = nI q ∧ ¬ S.2.1 33 q = -1)))
theorem nI_15 {k : Nat} (hk : k < 256) (h : ¬ (if nI k < 1 then 0 else if 5 < nI k then 0 else 1 : Int32) = 0) : k = 1 ∨ k = 2 ∨ k = 3 ∨ k = 4 ∨ k = 5 := by
  by_cases h1 : nI k < 1
  · rw [if_pos h1] at h; exact absurd rfl h
  rw [if_neg h1] at h
  by_cases h2 : 5 < nI k
  · rw [if_pos h2] at h; exact absurd rfl h
  have k1 : 1 ≤ k := le_of_nI (a := 1) (by decide) (Int32.not_lt.mp h1)
  have k2 : k ≤ 5 := le_of_nI (b := 5) (by omega) (Int32.not_lt.mp h2)
  omega
set_option maxRecDepth 100000 in
set_option maxHeartbeats 400000 in
theorem ln_ir3 (S : gS) (w L V n c rm len : Nat) (h : R0 S w L V n c rm) (hl : len ≤ 24000) (hLl : L ≤ len) (hf : L + 28 ≤ len) (l2 l3 l4 l5 : Option Value) : ∀ (m g : Nat) (is : Int32), g + m = 8 → (is = 0 ∨ is = 1) → (¬ is = 0 → V < 100 ∧ (∀ g', g' < g → ∃ q : Nat, q < 65536 ∧ (mnum (S.2.1 29) (32 + L + 4 + 2 * g') 2).toInt32 = nI q ∧ ¬ S.2.1 33 q = -1)) → G MX5_isRight (2, 43) 329 [some (.ref 28), some (.int (nI (32 + L))), l2, l3, l4, l5, some (.int (nI (32 + L + 4))), some (.int is), some (.int (nI g))] [] (wRf Γ τ S) 0 0 (gN (wRf Γ τ) fun v S' => (∃ r : Int32, v = .int r ∧ (r = 0 ∨ r = 1) ∧ (¬ r = 0 → V < 100 ∧ (∀ g', g' < 8 → ∃ q : Nat, q < 65536 ∧ (mnum (S.2.1 29) (32 + L + 4 + 2 * g') 2).toInt32 = nI q ∧ ¬ S.2.1 33 q = -1))) ∧ S = S') := by
  intro m
  induction m with
  | zero =>
    intro g is hg h01 hs
    obtain rfl : g = 8 := by omega
    refine g_iload dX5_isRight_329 rfl ?_
    refine g_bipush (v := 8) dX5_isRight_331 (by decide) ?_
    refine g_icmp_ge (tgt := 376) dX5_isRight_333 (by decide) (fun c333 => ?_) (fun c333 => ?_)
    · refine g_iload dX5_isRight_376 rfl ?_
      refine g_zret dX5_isRight_378 rfl (by rcases h01 with rfl | rfl <;> rfl) ⟨_, _, rfl, rfl, ?_⟩
      exact ⟨⟨_, rfl, h01, hs⟩, rfl⟩
    · exact absurd (show (8 : Int32) ≤ nI 8 by decide) c333
  | succ m ih =>
    intro g is hg h01 hs
    obtain ⟨q, hq, eq⟩ := num16 h.2.2.2.1 (a := 32 + L + 4 + 2 * g) (by omega)
    refine g_iload dX5_isRight_329 rfl ?_
    refine g_bipush (v := 8) dX5_isRight_331 (by decide) ?_
    refine g_icmp_ge (tgt := 376) dX5_isRight_333 (by decide) (fun c333 => ?_) (fun c333 => ?_)
    · exact absurd c333 (nI_ge (b := 8) (by omega) (by decide))
    · refine g_iload dX5_isRight_336 rfl ?_
      refine g_if_eq (tgt := 367) dX5_isRight_338 (by decide) (fun c338 => ?_) (fun c338 => ?_)
      · refine g_iconst (v := 0) dX5_isRight_367 (by decide) ?_
        refine g_istore dX5_isRight_368 (by decide) ?_
        refine g_iinc dX5_isRight_370 rfl (by decide) (by first | exact gi_1 _ | exact gi_p _) ?_
        refine g_goto (tgt := 329) dX5_isRight_373 (by decide) ?_
        first | exact ih (g + 1) 0 (by omega) (Or.inl rfl) (fun z => absurd rfl z) | (refine ih (g + 1) 1 (by omega) (Or.inr rfl) (fun _ => ⟨(hs c338).1, fun g' hg' => ?_⟩); by_cases e : g' = g; (· rw [e]; exact ⟨q, hq, eq, by rw [nI_clamp (n := q) (by omega)] at c360; exact c360⟩); (· exact (hs c338).2 g' (by omega)))
      · refine g_aload_n dX5_isRight_341 rfl rfl ?_
        refine g_get dX5_isRight_342 flX5_25 rfl rfl ?_
        refine g_aload_n dX5_isRight_345 rfl rfl ?_
        refine g_iload dX5_isRight_346 rfl ?_
        refine g_iconst (v := 2) dX5_isRight_348 (by decide) ?_
        refine g_iload dX5_isRight_349 rfl ?_
        refine g_imul dX5_isRight_351 ?_
        refine g_iadd dX5_isRight_352 ?_
        refine g_eqi (y := nI (32 + L + 4 + 2 * g)) (by rw [show (2 : Int32) = nI 2 from rfl, pk_mul, nI_add]) ?_
        refine g_iconst (v := 2) dX5_isRight_353 (by decide) ?_
        refine cV2N (fun _ _ => rfl) dX5_isRight_354 mlX5_137 imX5_number seX5_number rfl rfl (m_number _ (32 + L + 4 + 2 * g) 2 (by omega)) (by decide) (Nat.le_of_ble_eq_true rfl) (Nat.le_of_ble_eq_true rfl) (Nat.le_of_ble_eq_true rfl) ?_
        rintro _ _ ⟨rfl, rfl⟩
        refine g_l2i dX5_isRight_357 ?_
        refine g_eqi (y := nI (q)) (eq) ?_
        refine g_iald dX5_isRight_358 rfl (vp_in_nI hq (by decide)) ?_
        refine g_iconst (v := (-1)) dX5_isRight_359 (by decide) ?_
        refine g_icmp_eq (tgt := 367) dX5_isRight_360 (by decide) (fun c360 => ?_) (fun c360 => ?_)
        · refine g_iconst (v := 0) dX5_isRight_367 (by decide) ?_
          refine g_istore dX5_isRight_368 (by decide) ?_
          refine g_iinc dX5_isRight_370 rfl (by decide) (by first | exact gi_1 _ | exact gi_p _) ?_
          refine g_goto (tgt := 329) dX5_isRight_373 (by decide) ?_
          first | exact ih (g + 1) 0 (by omega) (Or.inl rfl) (fun z => absurd rfl z) | (refine ih (g + 1) 1 (by omega) (Or.inr rfl) (fun _ => ⟨(hs c338).1, fun g' hg' => ?_⟩); by_cases e : g' = g; (· rw [e]; exact ⟨q, hq, eq, by rw [nI_clamp (n := q) (by omega)] at c360; exact c360⟩); (· exact (hs c338).2 g' (by omega)))
        · refine g_iconst (v := 1) dX5_isRight_363 (by decide) ?_
          refine g_goto (tgt := 368) dX5_isRight_364 (by decide) ?_
          refine g_istore dX5_isRight_368 (by decide) ?_
          refine g_iinc dX5_isRight_370 rfl (by decide) (by first | exact gi_1 _ | exact gi_p _) ?_
          refine g_goto (tgt := 329) dX5_isRight_373 (by decide) ?_
          first | exact ih (g + 1) 0 (by omega) (Or.inl rfl) (fun z => absurd rfl z) | (refine ih (g + 1) 1 (by omega) (Or.inr rfl) (fun _ => ⟨(hs c338).1, fun g' hg' => ?_⟩); by_cases e : g' = g; (· rw [e]; exact ⟨q, hq, eq, by rw [nI_clamp (n := q) (by omega)] at c360; exact c360⟩); (· exact (hs c338).2 g' (by omega)))
set_option maxRecDepth 100000 in
set_option maxHeartbeats 400000 in
theorem n_isRight (S : gS) (w L V n c rm len : Nat) (h : R0 S w L V n c rm) (hl : len ≤ 24000) (hLl : L ≤ len) : gCt MX5_isRight (2, 43) 0 0 [.ref 28, .int (nI (32 + L)), .int (nI (32 + len))] (wRf Γ τ S) (gN (wRf Γ τ) fun v S' => (∃ r : Int32, v = .int r ∧ (r = 0 ∨ r = 1) ∧ (¬ r = 0 → ∃ sz : Nat, TK S L V n len sz)) ∧ S = S') := by
  refine gCt.of (ls := [some (.ref 28), some (.int (nI (32 + L))), some (.int (nI (32 + len))), none, none, none, none, none, none]) 6 (by decide) rfl (Nat.le_of_ble_eq_true rfl) ?_
  refine g_iload_n dX5_isRight_0 rfl rfl ?_
  refine g_iload_n dX5_isRight_1 rfl rfl ?_
  refine g_isub dX5_isRight_2 ?_
  refine g_eqi (y := nI (len - L)) (by rw [nI_sub (by omega), show 32 + len - (32 + L) = len - L by omega]) ?_
  refine g_bipush (v := 12) dX5_isRight_3 (by decide) ?_
  refine g_icmp_ge (tgt := 10) dX5_isRight_5 (by decide) (fun c5 => ?_) (fun c5 => ?_)
  · have h12 : 12 ≤ len - L := le_of_nI (a := 12) (by decide) c5
    obtain ⟨kd, hkd, ekd⟩ := h.2.2.2.1 (32 + L) (by omega)
    obtain ⟨q, hq, eq⟩ := num16 h.2.2.2.1 (a := 32 + L + 1) (by omega)
    obtain ⟨sz, hsz, esz⟩ := h.2.2.2.1 (32 + L + 3) (by omega)
    refine g_aload_n dX5_isRight_10 rfl rfl ?_
    refine g_get dX5_isRight_11 flX5_7 rfl rfl ?_
    refine g_iload_n dX5_isRight_14 rfl rfl ?_
    refine g_iald dX5_isRight_15 rfl (vp_in_nI (by omega) (by decide)) ?_
    refine g_eqi (y := nI (kd)) (by rw [nI_clamp (by omega)]; exact ekd) ?_
    refine g_istore_n dX5_isRight_16 rfl (by decide) ?_
    refine g_aload_n dX5_isRight_17 rfl rfl ?_
    refine g_iload_n dX5_isRight_18 rfl rfl ?_
    refine g_iconst (v := 1) dX5_isRight_19 (by decide) ?_
    refine g_iadd dX5_isRight_20 ?_
    refine g_eqi (y := nI (32 + L + 1)) (nI_1 _) ?_
    refine g_iconst (v := 2) dX5_isRight_21 (by decide) ?_
    refine cV2N (fun _ _ => rfl) dX5_isRight_22 mlX5_137 imX5_number seX5_number rfl rfl (m_number _ (32 + L + 1) 2 (by omega)) (by decide) (Nat.le_of_ble_eq_true rfl) (Nat.le_of_ble_eq_true rfl) (Nat.le_of_ble_eq_true rfl) ?_
    rintro _ _ ⟨rfl, rfl⟩
    refine g_l2i dX5_isRight_25 ?_
    refine g_eqi (y := nI (q)) (eq) ?_
    refine g_istore dX5_isRight_26 (by decide) ?_
    refine g_aload_n dX5_isRight_28 rfl rfl ?_
    refine g_get dX5_isRight_29 flX5_7 rfl rfl ?_
    refine g_iload_n dX5_isRight_32 rfl rfl ?_
    refine g_iconst (v := 3) dX5_isRight_33 (by decide) ?_
    refine g_iadd dX5_isRight_34 ?_
    refine g_eqi (y := nI (32 + L + 3)) (nI_add _ 3) ?_
    refine g_iald dX5_isRight_35 rfl (vp_in_nI (by omega) (by decide)) ?_
    refine g_eqi (y := nI (sz)) (by rw [nI_clamp (n := 32 + L + 3) (by omega)]; exact esz) ?_
    refine g_istore dX5_isRight_36 (by decide) ?_
    refine g_iload_n dX5_isRight_38 rfl rfl ?_
    refine g_iconst (v := 1) dX5_isRight_39 (by decide) ?_
    refine g_iconst (v := 5) dX5_isRight_40 (by decide) ?_
    refine cS3N (fun _ _ => rfl) dX5_isRight_41 mlX5_133 isX5_in (m_in _ _ _ _) (by decide) (Nat.le_of_ble_eq_true rfl) (Nat.le_of_ble_eq_true rfl) (Nat.le_of_ble_eq_true rfl) ?_
    rintro _ _ ⟨rfl, rfl⟩
    refine g_if_eq (tgt := 67) dX5_isRight_44 (by decide) (fun c44 => ?_) (fun c44 => ?_)
    · refine g_iconst (v := 0) dX5_isRight_67 (by decide) ?_
      refine g_zret dX5_isRight_68 rfl (by first | rfl | assumption) ⟨_, _, rfl, rfl, ?_⟩
      exact ⟨⟨_, rfl, Or.inl rfl, fun z => absurd rfl z⟩, rfl⟩
    · show GE gx0 MX5_isRight (2, 43) 47 [some (.ref 28), some (.int (nI (32 + L))), some (.int (nI (32 + len))), some (.int (nI kd)), some (.int (nI q)), some (.int (nI sz)), none, none, none] _ _ _ _ _
      refine g_iload dX5_isRight_47 rfl ?_
      refine g_iload_n dX5_isRight_49 rfl rfl ?_
      refine cS1N (fun _ _ => rfl) dX5_isRight_50 mlX5_141 isX5_sizeOf (m_sizeOf _ _) (by decide) (Nat.le_of_ble_eq_true rfl) (Nat.le_of_ble_eq_true rfl) (Nat.le_of_ble_eq_true rfl) ?_
      rintro _ _ ⟨rfl, rfl⟩
      refine g_icmp_ne (tgt := 67) dX5_isRight_53 (by decide) (fun c53 => ?_) (fun c53 => ?_)
      · refine g_iconst (v := 0) dX5_isRight_67 (by decide) ?_
        refine g_zret dX5_isRight_68 rfl (by first | rfl | assumption) ⟨_, _, rfl, rfl, ?_⟩
        exact ⟨⟨_, rfl, Or.inl rfl, fun z => absurd rfl z⟩, rfl⟩
      · refine g_iload_n dX5_isRight_56 rfl rfl ?_
        refine g_bipush (v := 12) dX5_isRight_57 (by decide) ?_
        refine g_iadd dX5_isRight_59 ?_
        refine g_eqi (y := nI (32 + L + 12)) (nI_add _ 12) ?_
        refine g_iload dX5_isRight_60 rfl ?_
        refine g_iadd dX5_isRight_62 ?_
        refine g_eqi (y := nI (32 + L + 12 + sz)) (nI_add _ _) ?_
        refine g_iload_n dX5_isRight_63 rfl rfl ?_
        refine g_icmp_le (tgt := 69) dX5_isRight_64 (by decide) (fun c64 => ?_) (fun c64 => ?_)
        · show GE gx0 MX5_isRight (2, 43) 69 [some (.ref 28), some (.int (nI (32 + L))), some (.int (nI (32 + len))), some (.int (nI kd)), some (.int (nI q)), some (.int (nI sz)), none, none, none] _ _ _ _ _
          have h15 := nI_15 hkd c44
          have hfit : L + 12 + sz ≤ len := by have := le_of_nI (by omega) c64; omega
          refine g_aload_n dX5_isRight_69 rfl rfl ?_
          refine g_iload_n dX5_isRight_70 rfl rfl ?_
          refine g_iconst (v := 4) dX5_isRight_71 (by decide) ?_
          refine g_iadd dX5_isRight_72 ?_
          refine g_eqi (y := nI (32 + L + 4)) (nI_add _ 4) ?_
          refine g_iload dX5_isRight_73 rfl ?_
          refine g_iadd dX5_isRight_75 ?_
          refine g_eqi (y := nI (32 + L + 4 + sz)) (nI_add _ _) ?_
          refine g_bipush (v := 8) dX5_isRight_76 (by decide) ?_
          refine cV2N (fun _ _ => rfl) dX5_isRight_78 mlX5_137 imX5_number seX5_number rfl rfl (m_number _ (32 + L + 4 + sz) 8 (by omega)) (by decide) (Nat.le_of_ble_eq_true rfl) (Nat.le_of_ble_eq_true rfl) (Nat.le_of_ble_eq_true rfl) ?_
          rintro _ _ ⟨rfl, rfl⟩
          refine g_aload_n dX5_isRight_81 rfl rfl ?_
          refine g_iload_n dX5_isRight_82 rfl rfl ?_
          refine g_i2l dX5_isRight_83 ?_
          refine g_iload_n dX5_isRight_84 rfl rfl ?_
          refine g_iconst (v := 4) dX5_isRight_85 (by decide) ?_
          refine g_iload dX5_isRight_86 rfl ?_
          refine g_iadd dX5_isRight_88 ?_
          refine g_eqi (y := nI (4 + sz)) (nI_add 4 sz) ?_
          refine cV3N (fun _ _ => rfl) dX5_isRight_89 mlX5_126 imX5_sum seX5_sum rfl rfl (m_sum _ _ (32 + L) (4 + sz) (by omega)) (by decide) (Nat.le_of_ble_eq_true rfl) (Nat.le_of_ble_eq_true rfl) (Nat.le_of_ble_eq_true rfl) ?_
          rintro _ _ ⟨rfl, rfl⟩
          refine g_lcmp dX5_isRight_92 ?_
          refine g_if_eq (tgt := 98) dX5_isRight_93 (by decide) (fun c93 => ?_) (fun c93 => ?_)
          · refine g_iload_n dX5_isRight_98 rfl rfl ?_
            refine g_iconst (v := 4) dX5_isRight_99 (by decide) ?_
            refine g_iadd dX5_isRight_100 ?_
            refine g_eqi (y := nI (32 + L + 4)) (nI_add _ 4) ?_
            refine g_istore dX5_isRight_101 (by decide) ?_
            show GE gx0 MX5_isRight (2, 43) 103 [some (.ref 28), some (.int (nI (32 + L))), some (.int (nI (32 + len))), some (.int (nI kd)), some (.int (nI q)), some (.int (nI sz)), some (.int (nI (32 + L + 4))), none, none] _ _ _ _ _
            refine g_iload_n dX5_isRight_103 rfl rfl ?_
            refine g_iconst (v := 1) dX5_isRight_104 (by decide) ?_
            refine g_icmp_ne (tgt := 132) dX5_isRight_105 (by decide) (fun c105 => ?_) (fun c105 => ?_)
            · refine g_iload_n dX5_isRight_132 rfl rfl ?_
              refine g_iconst (v := 2) dX5_isRight_133 (by decide) ?_
              refine g_icmp_ne (tgt := 232) dX5_isRight_134 (by decide) (fun c134 => ?_) (fun c134 => ?_)
              · refine g_iload_n dX5_isRight_232 rfl rfl ?_
                refine g_iconst (v := 4) dX5_isRight_233 (by decide) ?_
                refine g_icmp_ne (tgt := 289) dX5_isRight_234 (by decide) (fun c234 => ?_) (fun c234 => ?_)
                · refine g_iload_n dX5_isRight_289 rfl rfl ?_
                  refine g_iconst (v := 5) dX5_isRight_290 (by decide) ?_
                  refine g_icmp_ne (tgt := 301) dX5_isRight_291 (by decide) (fun c291 => ?_) (fun c291 => ?_)
                  · refine g_iload dX5_isRight_301 rfl ?_
                    refine g_aload_n dX5_isRight_303 rfl rfl ?_
                    refine g_get dX5_isRight_304 flX5_110 rfl rfl ?_
                    refine g_icmp_ne (tgt := 323) dX5_isRight_307 (by decide) (fun c307 => ?_) (fun c307 => ?_)
                    · refine g_iconst (v := 0) dX5_isRight_323 (by decide) ?_
                      refine g_istore dX5_isRight_324 (by decide) ?_
                      show GE gx0 MX5_isRight (2, 43) 326 [some (.ref 28), some (.int (nI (32 + L))), some (.int (nI (32 + len))), some (.int (nI kd)), some (.int (nI q)), some (.int (nI sz)), some (.int (nI (32 + L + 4))), some (.int _), none] _ _ _ _ _
                      refine g_iconst (v := 0) dX5_isRight_326 (by decide) ?_
                      refine g_istore dX5_isRight_327 (by decide) ?_
                      have hk3 : kd = 3 := by
                        rcases h15 with z | z | z | z | z
                        · exact absurd (by rw [z]; rfl) c105
                        · exact absurd (by rw [z]; rfl) c134
                        · exact z
                        · exact absurd (by rw [z]; rfl) c234
                        · exact absurd (by rw [z]; rfl) c291
                      have hs16 : sz = 16 := by
                        have z := c53
                        rw [if_neg c105, if_neg c134, if_pos (show nI kd = 3 by rw [hk3]; rfl)] at z
                        exact eq_of_nI (b := 16) (by omega) (by decide) z
                      refine GE.mono ?_ (ln_ir3 S w L V n c rm len h hl hLl (by omega) _ _ _ _ 8 0 _ rfl (by first | exact Or.inr rfl | exact Or.inl rfl) (fun z => by first | exact absurd rfl z | exact ⟨lt_of_nI (b := 100) (by have := h.2.1.2.2.1; omega) (by rw [← h.1.2.2.1]; exact c316), fun g' hg' => absurd hg' (Nat.not_lt_zero _)⟩))
                      rintro r9 w9 ⟨v9, S9, e1, e2, ⟨r, e3, e4, e5⟩, e6⟩
                      exact ⟨v9, S9, e1, e2, ⟨r, e3, e4, fun z => ⟨sz, hfit, esz, Or.inr (Or.inr (Or.inr (Or.inr ⟨by rw [ekd, hk3]; rfl, hs16, e5 z⟩)))⟩⟩, e6⟩
                    · refine g_aload_n dX5_isRight_310 rfl rfl ?_
                      refine g_get dX5_isRight_311 flX5_110 rfl rfl ?_
                      refine g_bipush (v := 100) dX5_isRight_314 (by decide) ?_
                      refine g_icmp_ge (tgt := 323) dX5_isRight_316 (by decide) (fun c316 => ?_) (fun c316 => ?_)
                      · refine g_iconst (v := 0) dX5_isRight_323 (by decide) ?_
                        refine g_istore dX5_isRight_324 (by decide) ?_
                        show GE gx0 MX5_isRight (2, 43) 326 [some (.ref 28), some (.int (nI (32 + L))), some (.int (nI (32 + len))), some (.int (nI kd)), some (.int (nI q)), some (.int (nI sz)), some (.int (nI (32 + L + 4))), some (.int _), none] _ _ _ _ _
                        refine g_iconst (v := 0) dX5_isRight_326 (by decide) ?_
                        refine g_istore dX5_isRight_327 (by decide) ?_
                        have hk3 : kd = 3 := by
                          rcases h15 with z | z | z | z | z
                          · exact absurd (by rw [z]; rfl) c105
                          · exact absurd (by rw [z]; rfl) c134
                          · exact z
                          · exact absurd (by rw [z]; rfl) c234
                          · exact absurd (by rw [z]; rfl) c291
                        have hs16 : sz = 16 := by
                          have z := c53
                          rw [if_neg c105, if_neg c134, if_pos (show nI kd = 3 by rw [hk3]; rfl)] at z
                          exact eq_of_nI (b := 16) (by omega) (by decide) z
                        refine GE.mono ?_ (ln_ir3 S w L V n c rm len h hl hLl (by omega) _ _ _ _ 8 0 _ rfl (by first | exact Or.inr rfl | exact Or.inl rfl) (fun z => by first | exact absurd rfl z | exact ⟨lt_of_nI (b := 100) (by have := h.2.1.2.2.1; omega) (by rw [← h.1.2.2.1]; exact c316), fun g' hg' => absurd hg' (Nat.not_lt_zero _)⟩))
                        rintro r9 w9 ⟨v9, S9, e1, e2, ⟨r, e3, e4, e5⟩, e6⟩
                        exact ⟨v9, S9, e1, e2, ⟨r, e3, e4, fun z => ⟨sz, hfit, esz, Or.inr (Or.inr (Or.inr (Or.inr ⟨by rw [ekd, hk3]; rfl, hs16, e5 z⟩)))⟩⟩, e6⟩
                      · refine g_iconst (v := 1) dX5_isRight_319 (by decide) ?_
                        refine g_goto (tgt := 324) dX5_isRight_320 (by decide) ?_
                        refine g_istore dX5_isRight_324 (by decide) ?_
                        show GE gx0 MX5_isRight (2, 43) 326 [some (.ref 28), some (.int (nI (32 + L))), some (.int (nI (32 + len))), some (.int (nI kd)), some (.int (nI q)), some (.int (nI sz)), some (.int (nI (32 + L + 4))), some (.int _), none] _ _ _ _ _
                        refine g_iconst (v := 0) dX5_isRight_326 (by decide) ?_
                        refine g_istore dX5_isRight_327 (by decide) ?_
                        have hk3 : kd = 3 := by
                          rcases h15 with z | z | z | z | z
                          · exact absurd (by rw [z]; rfl) c105
                          · exact absurd (by rw [z]; rfl) c134
                          · exact z
                          · exact absurd (by rw [z]; rfl) c234
                          · exact absurd (by rw [z]; rfl) c291
                        have hs16 : sz = 16 := by
                          have z := c53
                          rw [if_neg c105, if_neg c134, if_pos (show nI kd = 3 by rw [hk3]; rfl)] at z
                          exact eq_of_nI (b := 16) (by omega) (by decide) z
                        refine GE.mono ?_ (ln_ir3 S w L V n c rm len h hl hLl (by omega) _ _ _ _ 8 0 _ rfl (by first | exact Or.inr rfl | exact Or.inl rfl) (fun z => by first | exact absurd rfl z | exact ⟨lt_of_nI (b := 100) (by have := h.2.1.2.2.1; omega) (by rw [← h.1.2.2.1]; exact c316), fun g' hg' => absurd hg' (Nat.not_lt_zero _)⟩))
                        rintro r9 w9 ⟨v9, S9, e1, e2, ⟨r, e3, e4, e5⟩, e6⟩
                        exact ⟨v9, S9, e1, e2, ⟨r, e3, e4, fun z => ⟨sz, hfit, esz, Or.inr (Or.inr (Or.inr (Or.inr ⟨by rw [ekd, hk3]; rfl, hs16, e5 z⟩)))⟩⟩, e6⟩
                  · refine g_aload_n dX5_isRight_294 rfl rfl ?_
                    refine g_iload dX5_isRight_295 rfl ?_
                    refine cV1N (fun _ _ => rfl) dX5_isRight_297 mlX5_152 imX5_isThere seX5_isThere rfl rfl (n_isThere _ _ V h.1.2.2.1 h.2.1.2.2.1) (by decide) (Nat.le_of_ble_eq_true rfl) (Nat.le_of_ble_eq_true rfl) (Nat.le_of_ble_eq_true rfl) ?_
                    rintro _ _ ⟨⟨it, rfl, it01, hit⟩, rfl⟩
                    refine g_zret dX5_isRight_300 rfl (by rcases it01 with rfl | rfl <;> rfl) ⟨_, _, rfl, rfl, ?_⟩
                    refine ⟨⟨_, rfl, it01, fun z => ?_⟩, rfl⟩
                    obtain ⟨i, hi, ei⟩ := hit z
                    have hV := h.2.1.2.2.1
                    exact ⟨sz, hfit, esz, Or.inr (Or.inr (Or.inr (Or.inl ⟨ekd.trans c291, (by have z := c53; rw [if_neg c105, if_neg c134, if_neg (fun y => absurd (c291.symm.trans y) (by decide)), if_neg c234] at z; exact eq_of_nI (b := 0) (by omega) (by decide) z), i, by omega, eq.trans ei⟩)))⟩
                · refine g_iload dX5_isRight_237 rfl ?_
                  refine g_aload_n dX5_isRight_239 rfl rfl ?_
                  refine g_get dX5_isRight_240 flX5_113 rfl rfl ?_
                  refine g_icmp_ne (tgt := 287) dX5_isRight_243 (by decide) (fun c243 => ?_) (fun c243 => ?_)
                  · refine g_iconst (v := 0) dX5_isRight_287 (by decide) ?_
                    refine g_zret dX5_isRight_288 rfl (by first | rfl | assumption) ⟨_, _, rfl, rfl, ?_⟩
                    first | exact ⟨⟨_, rfl, Or.inl rfl, fun z => absurd rfl z⟩, rfl⟩ | exact ⟨⟨_, rfl, Or.inr rfl, fun _ => ⟨sz, hfit, esz, Or.inr (Or.inr (Or.inl ⟨ekd.trans c234, (by have z := c53; rw [if_neg c105, if_neg c134, if_neg (fun y => absurd (c234.symm.trans y) (by decide)), if_pos c234] at z; exact eq_of_nI (b := 10) (by omega) (by decide) z), hn100⟩))⟩⟩, rfl⟩
                  · refine g_aload_n dX5_isRight_246 rfl rfl ?_
                    refine g_get dX5_isRight_247 flX5_113 rfl rfl ?_
                    refine g_bipush (v := 100) dX5_isRight_250 (by decide) ?_
                    refine g_icmp_ge (tgt := 287) dX5_isRight_252 (by decide) (fun c252 => ?_) (fun c252 => ?_)
                    · refine g_iconst (v := 0) dX5_isRight_287 (by decide) ?_
                      refine g_zret dX5_isRight_288 rfl (by first | rfl | assumption) ⟨_, _, rfl, rfl, ?_⟩
                      first | exact ⟨⟨_, rfl, Or.inl rfl, fun z => absurd rfl z⟩, rfl⟩ | exact ⟨⟨_, rfl, Or.inr rfl, fun _ => ⟨sz, hfit, esz, Or.inr (Or.inr (Or.inl ⟨ekd.trans c234, (by have z := c53; rw [if_neg c105, if_neg c134, if_neg (fun y => absurd (c234.symm.trans y) (by decide)), if_pos c234] at z; exact eq_of_nI (b := 10) (by omega) (by decide) z), hn100⟩))⟩⟩, rfl⟩
                    · have hn100 : n < 100 := lt_of_nI (b := 100) (by have := h.2.1.2.2.2.1; omega) (by rw [← h.1.2.2.2.1]; exact c252)
                      refine g_aload_n dX5_isRight_255 rfl rfl ?_
                      refine g_aload_n dX5_isRight_256 rfl rfl ?_
                      refine g_get dX5_isRight_257 flX5_7 rfl rfl ?_
                      refine g_iload dX5_isRight_260 rfl ?_
                      refine g_iald dX5_isRight_262 rfl (vp_in_nI (by omega) (by decide)) ?_
                      refine cV1N (fun _ _ => rfl) dX5_isRight_263 mlX5_152 imX5_isThere seX5_isThere rfl rfl (n_isThere _ _ V h.1.2.2.1 h.2.1.2.2.1) (by decide) (Nat.le_of_ble_eq_true rfl) (Nat.le_of_ble_eq_true rfl) (Nat.le_of_ble_eq_true rfl) ?_
                      rintro _ _ ⟨⟨it, rfl, it01, hit⟩, rfl⟩
                      refine g_if_eq (tgt := 287) dX5_isRight_266 (by decide) (fun c266 => ?_) (fun c266 => ?_)
                      · refine g_iconst (v := 0) dX5_isRight_287 (by decide) ?_
                        refine g_zret dX5_isRight_288 rfl (by first | rfl | assumption) ⟨_, _, rfl, rfl, ?_⟩
                        first | exact ⟨⟨_, rfl, Or.inl rfl, fun z => absurd rfl z⟩, rfl⟩ | exact ⟨⟨_, rfl, Or.inr rfl, fun _ => ⟨sz, hfit, esz, Or.inr (Or.inr (Or.inl ⟨ekd.trans c234, (by have z := c53; rw [if_neg c105, if_neg c134, if_neg (fun y => absurd (c234.symm.trans y) (by decide)), if_pos c234] at z; exact eq_of_nI (b := 10) (by omega) (by decide) z), hn100⟩))⟩⟩, rfl⟩
                      · refine g_aload_n dX5_isRight_269 rfl rfl ?_
                        refine g_get dX5_isRight_270 flX5_7 rfl rfl ?_
                        refine g_iload dX5_isRight_273 rfl ?_
                        refine g_iconst (v := 1) dX5_isRight_275 (by decide) ?_
                        refine g_iadd dX5_isRight_276 ?_
                        refine g_eqi (y := nI (32 + L + 4 + 1)) (nI_1 _) ?_
                        refine g_iald dX5_isRight_277 rfl (vp_in_nI (by omega) (by decide)) ?_
                        refine g_bipush (v := 64) dX5_isRight_278 (by decide) ?_
                        refine g_icmp_ge (tgt := 287) dX5_isRight_280 (by decide) (fun c280 => ?_) (fun c280 => ?_)
                        · refine g_iconst (v := 0) dX5_isRight_287 (by decide) ?_
                          refine g_zret dX5_isRight_288 rfl (by first | rfl | assumption) ⟨_, _, rfl, rfl, ?_⟩
                          first | exact ⟨⟨_, rfl, Or.inl rfl, fun z => absurd rfl z⟩, rfl⟩ | exact ⟨⟨_, rfl, Or.inr rfl, fun _ => ⟨sz, hfit, esz, Or.inr (Or.inr (Or.inl ⟨ekd.trans c234, (by have z := c53; rw [if_neg c105, if_neg c134, if_neg (fun y => absurd (c234.symm.trans y) (by decide)), if_pos c234] at z; exact eq_of_nI (b := 10) (by omega) (by decide) z), hn100⟩))⟩⟩, rfl⟩
                        · refine g_iconst (v := 1) dX5_isRight_283 (by decide) ?_
                          refine g_goto (tgt := 288) dX5_isRight_284 (by decide) ?_
                          refine g_zret dX5_isRight_288 rfl (by first | rfl | assumption) ⟨_, _, rfl, rfl, ?_⟩
                          first | exact ⟨⟨_, rfl, Or.inl rfl, fun z => absurd rfl z⟩, rfl⟩ | exact ⟨⟨_, rfl, Or.inr rfl, fun _ => ⟨sz, hfit, esz, Or.inr (Or.inr (Or.inl ⟨ekd.trans c234, (by have z := c53; rw [if_neg c105, if_neg c134, if_neg (fun y => absurd (c234.symm.trans y) (by decide)), if_pos c234] at z; exact eq_of_nI (b := 10) (by omega) (by decide) z), hn100⟩))⟩⟩, rfl⟩
              · obtain ⟨b0, hb0', eb0⟩ := h.2.2.2.1 (32 + L + 4) (by omega)
                obtain ⟨b1, hb1, eb1⟩ := h.2.2.2.1 (32 + L + 4 + 1) (by omega)
                refine g_iload dX5_isRight_137 rfl ?_
                refine g_aload_n dX5_isRight_139 rfl rfl ?_
                refine g_get dX5_isRight_140 flX5_104 rfl rfl ?_
                refine g_icmp_ne (tgt := 230) dX5_isRight_143 (by decide) (fun c143 => ?_) (fun c143 => ?_)
                · refine g_iconst (v := 0) dX5_isRight_230 (by decide) ?_
                  refine g_zret dX5_isRight_231 rfl (by first | rfl | assumption) ⟨_, _, rfl, rfl, ?_⟩
                  first | exact ⟨⟨_, rfl, Or.inl rfl, fun z => absurd rfl z⟩, rfl⟩ | exact ⟨⟨_, rfl, Or.inr rfl, fun _ => ⟨sz, hfit, esz, Or.inr (Or.inl ⟨ekd.trans c134, (by have z := c53; rw [if_neg c105, if_pos c134] at z; exact eq_of_nI (b := 3) (by omega) (by decide) z), b0, hb0, eb0⟩)⟩⟩, rfl⟩
                · refine g_aload_n dX5_isRight_146 rfl rfl ?_
                  refine g_get dX5_isRight_147 flX5_7 rfl rfl ?_
                  refine g_iload dX5_isRight_150 rfl ?_
                  refine g_iald dX5_isRight_152 rfl (vp_in_nI (by omega) (by decide)) ?_
                  refine g_eqi (y := nI (b0)) (by rw [nI_clamp (n := 32 + L + 4) (by omega)]; exact eb0) ?_
                  refine g_bipush (v := 64) dX5_isRight_153 (by decide) ?_
                  refine g_icmp_ge (tgt := 230) dX5_isRight_155 (by decide) (fun c155 => ?_) (fun c155 => ?_)
                  · refine g_iconst (v := 0) dX5_isRight_230 (by decide) ?_
                    refine g_zret dX5_isRight_231 rfl (by first | rfl | assumption) ⟨_, _, rfl, rfl, ?_⟩
                    first | exact ⟨⟨_, rfl, Or.inl rfl, fun z => absurd rfl z⟩, rfl⟩ | exact ⟨⟨_, rfl, Or.inr rfl, fun _ => ⟨sz, hfit, esz, Or.inr (Or.inl ⟨ekd.trans c134, (by have z := c53; rw [if_neg c105, if_pos c134] at z; exact eq_of_nI (b := 3) (by omega) (by decide) z), b0, hb0, eb0⟩)⟩⟩, rfl⟩
                  · refine g_aload_n dX5_isRight_158 rfl rfl ?_
                    refine g_get dX5_isRight_159 flX5_7 rfl rfl ?_
                    refine g_iload dX5_isRight_162 rfl ?_
                    refine g_iconst (v := 1) dX5_isRight_164 (by decide) ?_
                    refine g_iadd dX5_isRight_165 ?_
                    refine g_eqi (y := nI (32 + L + 4 + 1)) (nI_1 _) ?_
                    refine g_iald dX5_isRight_166 rfl (vp_in_nI (by omega) (by decide)) ?_
                    refine g_bipush (v := 64) dX5_isRight_167 (by decide) ?_
                    refine g_icmp_ge (tgt := 230) dX5_isRight_169 (by decide) (fun c169 => ?_) (fun c169 => ?_)
                    · refine g_iconst (v := 0) dX5_isRight_230 (by decide) ?_
                      refine g_zret dX5_isRight_231 rfl (by first | rfl | assumption) ⟨_, _, rfl, rfl, ?_⟩
                      first | exact ⟨⟨_, rfl, Or.inl rfl, fun z => absurd rfl z⟩, rfl⟩ | exact ⟨⟨_, rfl, Or.inr rfl, fun _ => ⟨sz, hfit, esz, Or.inr (Or.inl ⟨ekd.trans c134, (by have z := c53; rw [if_neg c105, if_pos c134] at z; exact eq_of_nI (b := 3) (by omega) (by decide) z), b0, hb0, eb0⟩)⟩⟩, rfl⟩
                    · refine g_aload_n dX5_isRight_172 rfl rfl ?_
                      refine g_get dX5_isRight_173 flX5_7 rfl rfl ?_
                      refine g_iload dX5_isRight_176 rfl ?_
                      refine g_iconst (v := 2) dX5_isRight_178 (by decide) ?_
                      refine g_iadd dX5_isRight_179 ?_
                      refine g_eqi (y := nI (32 + L + 4 + 2)) (nI_add _ 2) ?_
                      refine g_iald dX5_isRight_180 rfl (vp_in_nI (by omega) (by decide)) ?_
                      refine g_iconst (v := 2) dX5_isRight_181 (by decide) ?_
                      refine g_icmp_ge (tgt := 230) dX5_isRight_182 (by decide) (fun c182 => ?_) (fun c182 => ?_)
                      · refine g_iconst (v := 0) dX5_isRight_230 (by decide) ?_
                        refine g_zret dX5_isRight_231 rfl (by first | rfl | assumption) ⟨_, _, rfl, rfl, ?_⟩
                        first | exact ⟨⟨_, rfl, Or.inl rfl, fun z => absurd rfl z⟩, rfl⟩ | exact ⟨⟨_, rfl, Or.inr rfl, fun _ => ⟨sz, hfit, esz, Or.inr (Or.inl ⟨ekd.trans c134, (by have z := c53; rw [if_neg c105, if_pos c134] at z; exact eq_of_nI (b := 3) (by omega) (by decide) z), b0, hb0, eb0⟩)⟩⟩, rfl⟩
                      · have hb0 : b0 < 64 := lt_of_nI (b := 64) (by omega) c155
                        refine g_aload_n dX5_isRight_185 rfl rfl ?_
                        refine g_aload_n dX5_isRight_186 rfl rfl ?_
                        refine g_get dX5_isRight_187 flX5_7 rfl rfl ?_
                        refine g_iload dX5_isRight_190 rfl ?_
                        refine g_iald dX5_isRight_192 rfl (vp_in_nI (by omega) (by decide)) ?_
                        refine g_eqi (y := nI (b0)) (by rw [nI_clamp (n := 32 + L + 4) (by omega)]; exact eb0) ?_
                        refine g_aload_n dX5_isRight_193 rfl rfl ?_
                        refine g_get dX5_isRight_194 flX5_7 rfl rfl ?_
                        refine g_iload dX5_isRight_197 rfl ?_
                        refine g_iconst (v := 1) dX5_isRight_199 (by decide) ?_
                        refine g_iadd dX5_isRight_200 ?_
                        refine g_eqi (y := nI (32 + L + 4 + 1)) (nI_1 _) ?_
                        refine g_iald dX5_isRight_201 rfl (vp_in_nI (by omega) (by decide)) ?_
                        refine cV2N (fun _ _ => rfl) dX5_isRight_202 mlX5_148 imX5_hasNow seX5_hasNow rfl rfl (m_hasNow _ b0 _ hb0) (by decide) (Nat.le_of_ble_eq_true rfl) (Nat.le_of_ble_eq_true rfl) (Nat.le_of_ble_eq_true rfl) ?_
                        rintro _ _ ⟨⟨hn, rfl, -⟩, rfl⟩
                        refine g_aload_n dX5_isRight_205 rfl rfl ?_
                        refine g_get dX5_isRight_206 flX5_7 rfl rfl ?_
                        refine g_iload dX5_isRight_209 rfl ?_
                        refine g_iconst (v := 2) dX5_isRight_211 (by decide) ?_
                        refine g_iadd dX5_isRight_212 ?_
                        refine g_eqi (y := nI (32 + L + 4 + 2)) (nI_add _ 2) ?_
                        refine g_iald dX5_isRight_213 rfl (vp_in_nI (by omega) (by decide)) ?_
                        refine g_iconst (v := 1) dX5_isRight_214 (by decide) ?_
                        refine g_icmp_ne (tgt := 222) dX5_isRight_215 (by decide) (fun c215 => ?_) (fun c215 => ?_)
                        · refine g_iconst (v := 0) dX5_isRight_222 (by decide) ?_
                          refine g_icmp_eq (tgt := 230) dX5_isRight_223 (by decide) (fun c223 => ?_) (fun c223 => ?_)
                          · refine g_iconst (v := 0) dX5_isRight_230 (by decide) ?_
                            refine g_zret dX5_isRight_231 rfl (by first | rfl | assumption) ⟨_, _, rfl, rfl, ?_⟩
                            first | exact ⟨⟨_, rfl, Or.inl rfl, fun z => absurd rfl z⟩, rfl⟩ | exact ⟨⟨_, rfl, Or.inr rfl, fun _ => ⟨sz, hfit, esz, Or.inr (Or.inl ⟨ekd.trans c134, (by have z := c53; rw [if_neg c105, if_pos c134] at z; exact eq_of_nI (b := 3) (by omega) (by decide) z), b0, hb0, eb0⟩)⟩⟩, rfl⟩
                          · refine g_iconst (v := 1) dX5_isRight_226 (by decide) ?_
                            refine g_goto (tgt := 231) dX5_isRight_227 (by decide) ?_
                            refine g_zret dX5_isRight_231 rfl (by first | rfl | assumption) ⟨_, _, rfl, rfl, ?_⟩
                            first | exact ⟨⟨_, rfl, Or.inl rfl, fun z => absurd rfl z⟩, rfl⟩ | exact ⟨⟨_, rfl, Or.inr rfl, fun _ => ⟨sz, hfit, esz, Or.inr (Or.inl ⟨ekd.trans c134, (by have z := c53; rw [if_neg c105, if_pos c134] at z; exact eq_of_nI (b := 3) (by omega) (by decide) z), b0, hb0, eb0⟩)⟩⟩, rfl⟩
                        · refine g_iconst (v := 1) dX5_isRight_218 (by decide) ?_
                          refine g_goto (tgt := 223) dX5_isRight_219 (by decide) ?_
                          refine g_icmp_eq (tgt := 230) dX5_isRight_223 (by decide) (fun c223 => ?_) (fun c223 => ?_)
                          · refine g_iconst (v := 0) dX5_isRight_230 (by decide) ?_
                            refine g_zret dX5_isRight_231 rfl (by first | rfl | assumption) ⟨_, _, rfl, rfl, ?_⟩
                            first | exact ⟨⟨_, rfl, Or.inl rfl, fun z => absurd rfl z⟩, rfl⟩ | exact ⟨⟨_, rfl, Or.inr rfl, fun _ => ⟨sz, hfit, esz, Or.inr (Or.inl ⟨ekd.trans c134, (by have z := c53; rw [if_neg c105, if_pos c134] at z; exact eq_of_nI (b := 3) (by omega) (by decide) z), b0, hb0, eb0⟩)⟩⟩, rfl⟩
                          · refine g_iconst (v := 1) dX5_isRight_226 (by decide) ?_
                            refine g_goto (tgt := 231) dX5_isRight_227 (by decide) ?_
                            refine g_zret dX5_isRight_231 rfl (by first | rfl | assumption) ⟨_, _, rfl, rfl, ?_⟩
                            first | exact ⟨⟨_, rfl, Or.inl rfl, fun z => absurd rfl z⟩, rfl⟩ | exact ⟨⟨_, rfl, Or.inr rfl, fun _ => ⟨sz, hfit, esz, Or.inr (Or.inl ⟨ekd.trans c134, (by have z := c53; rw [if_neg c105, if_pos c134] at z; exact eq_of_nI (b := 3) (by omega) (by decide) z), b0, hb0, eb0⟩)⟩⟩, rfl⟩
            · refine g_iload dX5_isRight_108 rfl ?_
              refine g_aload_n dX5_isRight_110 rfl rfl ?_
              refine g_get dX5_isRight_111 flX5_79 rfl rfl ?_
              refine g_icmp_ge (tgt := 130) dX5_isRight_114 (by decide) (fun c114 => ?_) (fun c114 => ?_)
              · refine g_iconst (v := 0) dX5_isRight_130 (by decide) ?_
                refine g_zret dX5_isRight_131 rfl (by first | rfl | assumption) ⟨_, _, rfl, rfl, ?_⟩
                first | exact ⟨⟨_, rfl, Or.inl rfl, fun z => absurd rfl z⟩, rfl⟩ | exact ⟨⟨_, rfl, Or.inr rfl, fun _ => ⟨sz, hfit, esz, Or.inl ⟨ekd.trans c105, (by have z := c53; rw [if_pos c105] at z; exact eq_of_nI (b := 64) (by omega) (by decide) z)⟩⟩⟩, rfl⟩
              · refine g_aload_n dX5_isRight_117 rfl rfl ?_
                refine g_iload dX5_isRight_118 rfl ?_
                refine cV1N (fun _ _ => rfl) dX5_isRight_120 mlX5_145 imX5_namedBy seX5_namedBy rfl rfl (n_namedBy _ _ V h.1.2.2.1 h.2.1.2.2.1) (by decide) (Nat.le_of_ble_eq_true rfl) (Nat.le_of_ble_eq_true rfl) (Nat.le_of_ble_eq_true rfl) ?_
                rintro _ _ ⟨⟨nb, rfl⟩, rfl⟩
                refine g_if_ne (tgt := 130) dX5_isRight_123 (by decide) (fun c123 => ?_) (fun c123 => ?_)
                · refine g_iconst (v := 0) dX5_isRight_130 (by decide) ?_
                  refine g_zret dX5_isRight_131 rfl (by first | rfl | assumption) ⟨_, _, rfl, rfl, ?_⟩
                  first | exact ⟨⟨_, rfl, Or.inl rfl, fun z => absurd rfl z⟩, rfl⟩ | exact ⟨⟨_, rfl, Or.inr rfl, fun _ => ⟨sz, hfit, esz, Or.inl ⟨ekd.trans c105, (by have z := c53; rw [if_pos c105] at z; exact eq_of_nI (b := 64) (by omega) (by decide) z)⟩⟩⟩, rfl⟩
                · refine g_iconst (v := 1) dX5_isRight_126 (by decide) ?_
                  refine g_goto (tgt := 131) dX5_isRight_127 (by decide) ?_
                  refine g_zret dX5_isRight_131 rfl (by first | rfl | assumption) ⟨_, _, rfl, rfl, ?_⟩
                  first | exact ⟨⟨_, rfl, Or.inl rfl, fun z => absurd rfl z⟩, rfl⟩ | exact ⟨⟨_, rfl, Or.inr rfl, fun _ => ⟨sz, hfit, esz, Or.inl ⟨ekd.trans c105, (by have z := c53; rw [if_pos c105] at z; exact eq_of_nI (b := 64) (by omega) (by decide) z)⟩⟩⟩, rfl⟩
          · refine g_iconst (v := 0) dX5_isRight_96 (by decide) ?_
            refine g_zret dX5_isRight_97 rfl (by first | rfl | assumption) ⟨_, _, rfl, rfl, ?_⟩
            exact ⟨⟨_, rfl, Or.inl rfl, fun z => absurd rfl z⟩, rfl⟩
        · refine g_iconst (v := 0) dX5_isRight_67 (by decide) ?_
          refine g_zret dX5_isRight_68 rfl (by first | rfl | assumption) ⟨_, _, rfl, rfl, ?_⟩
          exact ⟨⟨_, rfl, Or.inl rfl, fun z => absurd rfl z⟩, rfl⟩
  · refine g_iconst (v := 0) dX5_isRight_8 (by decide) ?_
    refine g_zret dX5_isRight_9 rfl (by first | rfl | assumption) ⟨_, _, rfl, rfl, ?_⟩
    exact ⟨⟨_, rfl, Or.inl rfl, fun z => absurd rfl z⟩, rfl⟩
end
