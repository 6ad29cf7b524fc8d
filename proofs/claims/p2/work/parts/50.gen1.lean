section
variable {Γ : gS} {τ : gW}
/-- the places of chunks, the parts of versions -/
def SL (R : gS) (c : Nat) : Prop := ∀ j, j < 65536 → R.2.1 33 j = -1 ∨ ∃ q : Nat, q < c ∧ R.2.1 33 j = nI q
def PT (R : gS) (V : Nat) : Prop := ∀ i, i < 8 * V → ∃ q : Nat, q < 65536 ∧ R.2.1 36 i = nI q ∧ ¬ R.2.1 33 q = -1
def Mr (R : gS) (V c : Nat) : Prop := R.1 28 16 = nI V ∧ V ≤ 100 ∧ c ≤ 315 ∧ SL R c ∧ PT R V
theorem nI_m1 (k : Nat) : nI (k + 1) - 1 = nI k := by
  rw [← nI_1 k, Int32.add_sub_cancel]
theorem inV {x : Int32} {V : Nat} (hV : V ≤ 100) (h : ¬ (if x < 0 then 0 else if nI V - 1 < x then 0 else 1 : Int32) = 0) : ∃ i : Nat, i < V ∧ x = nI i := by
  by_cases h1 : x < 0
  · rw [if_pos h1] at h; exact absurd rfl h
  rw [if_neg h1] at h
  by_cases h2 : nI V - 1 < x
  · rw [if_pos h2] at h; exact absurd rfl h
  obtain ⟨j, hj, rfl⟩ := nI_of0 h1
  cases V with
  | zero =>
    refine absurd ?_ h2
    refine Int32.not_le.mp fun z => ?_
    exact absurd (Int32.le_trans (nI_pos' hj) z) (by decide)
  | succ k =>
    refine ⟨j, ?_, rfl⟩
    rw [nI_m1] at h2
    refine Classical.byContradiction fun z => h2 (nI_lt (by omega) hj)
theorem ix8n {i g N : Nat} (h : 8 * i + g < N) (hN : N < 2 ^ 31) : vp_in (8 * nI i + nI g) N := ix_8 h hN
theorem cl8n {i g : Nat} (h : 8 * i + g < 2 ^ 31) : (8 * nI i + nI g).toNatClampNeg = 8 * i + g := by
  rw [show (8 : Int32) = nI 8 from rfl, pk_mul, nI_add]; exact nI_clamp h
set_option maxRecDepth 100000 in
set_option maxHeartbeats 400000 in
theorem n_isThere (S : gS) (x : Int32) (V : Nat) (hv : S.1 28 16 = nI V) (hV : V ≤ 100) : gCt MX5_isThere (1, 22) 0 0 [.ref 28, .int x] (wRf Γ τ S) (gN (wRf Γ τ) fun v S' => (∃ r : Int32, v = .int r ∧ (r = 0 ∨ r = 1) ∧ (¬ r = 0 → ∃ i : Nat, i < V ∧ x = nI i)) ∧ S = S') := by
  refine gCt.of (ls := [some (.ref 28), some (.int x)]) 0 (by decide) rfl (Nat.le_of_ble_eq_true rfl) ?_
  refine g_iload_n dX5_isThere_0 rfl rfl ?_
  refine g_iconst (v := 0) dX5_isThere_1 (by decide) ?_
  refine g_aload_n dX5_isThere_2 rfl rfl ?_
  refine g_get dX5_isThere_3 flX5_110 rfl rfl ?_
  refine g_iconst (v := 1) dX5_isThere_6 (by decide) ?_
  refine g_isub dX5_isThere_7 ?_
  refine g_eqi (y := nI V - 1) (by rw [hv]) ?_
  refine cS3N (fun _ _ => rfl) dX5_isThere_8 mlX5_133 isX5_in (m_in _ _ _ _) (by decide) (Nat.le_of_ble_eq_true rfl) (Nat.le_of_ble_eq_true rfl) (Nat.le_of_ble_eq_true rfl) ?_
  rintro _ _ ⟨rfl, rfl⟩
  refine g_if_eq (tgt := 27) dX5_isThere_11 (by decide) (fun c11 => ?_) (fun c11 => ?_)
  · refine g_iconst (v := 0) dX5_isThere_27 (by decide) ?_
    refine g_zret dX5_isThere_28 rfl (by first | rfl | assumption) ⟨_, _, rfl, rfl, ?_⟩
    first | exact ⟨⟨_, rfl, Or.inl rfl, fun z => absurd rfl z⟩, rfl⟩ | exact ⟨⟨_, rfl, Or.inr rfl, fun _ => inV hV c11⟩, rfl⟩
  · refine g_aload_n dX5_isThere_14 rfl rfl ?_
    refine g_get dX5_isThere_15 flX5_31 rfl rfl ?_
    refine g_iload_n dX5_isThere_18 rfl rfl ?_
    refine g_zald dX5_isThere_19 rfl (by obtain ⟨i, hi, e⟩ := inV hV c11; rw [e]; exact vp_in_nI (by omega) (by decide)) ?_
    refine g_if_eq (tgt := 27) dX5_isThere_20 (by decide) (fun c20 => ?_) (fun c20 => ?_)
    · refine g_iconst (v := 0) dX5_isThere_27 (by decide) ?_
      refine g_zret dX5_isThere_28 rfl (by first | rfl | assumption) ⟨_, _, rfl, rfl, ?_⟩
      first | exact ⟨⟨_, rfl, Or.inl rfl, fun z => absurd rfl z⟩, rfl⟩ | exact ⟨⟨_, rfl, Or.inr rfl, fun _ => inV hV c11⟩, rfl⟩
    · refine g_iconst (v := 1) dX5_isThere_23 (by decide) ?_
      refine g_goto (tgt := 28) dX5_isThere_24 (by decide) ?_
      refine g_zret dX5_isThere_28 rfl (by first | rfl | assumption) ⟨_, _, rfl, rfl, ?_⟩
      first | exact ⟨⟨_, rfl, Or.inl rfl, fun z => absurd rfl z⟩, rfl⟩ | exact ⟨⟨_, rfl, Or.inr rfl, fun _ => inV hV c11⟩, rfl⟩
set_option maxRecDepth 100000 in
set_option maxHeartbeats 400000 in
theorem n_isVersion (S : gS) (x : Int32) (V : Nat) (hv : S.1 28 16 = nI V) (hV : V ≤ 100) : gCt MX5_isVersion (2, 43) 0 0 [.ref 28, .int x] (wRf Γ τ S) (gN (wRf Γ τ) fun v S' => (∃ r : Int32, v = .int r ∧ (r = 0 ∨ r = 1) ∧ (¬ r = 0 → x = -1 ∨ ∃ i : Nat, i < V ∧ x = nI i)) ∧ S = S') := by
  refine gCt.of (ls := [some (.ref 28), some (.int x)]) 0 (by decide) rfl (Nat.le_of_ble_eq_true rfl) ?_
  refine g_iload_n dX5_isVersion_0 rfl rfl ?_
  refine g_iconst (v := (-1)) dX5_isVersion_1 (by decide) ?_
  refine g_icmp_eq (tgt := 13) dX5_isVersion_2 (by decide) (fun c2 => ?_) (fun c2 => ?_)
  · refine g_iconst (v := 1) dX5_isVersion_13 (by decide) ?_
    refine g_goto (tgt := 18) dX5_isVersion_14 (by decide) ?_
    refine g_zret dX5_isVersion_18 rfl (by first | rfl | assumption) ⟨_, _, rfl, rfl, ?_⟩
    first | exact ⟨⟨_, rfl, Or.inl rfl, fun z => absurd rfl z⟩, rfl⟩ | exact ⟨⟨_, rfl, Or.inr rfl, fun _ => Or.inl c2⟩, rfl⟩ | exact ⟨⟨_, rfl, Or.inr rfl, fun _ => Or.inr (hit c10)⟩, rfl⟩
  · refine g_aload_n dX5_isVersion_5 rfl rfl ?_
    refine g_iload_n dX5_isVersion_6 rfl rfl ?_
    refine cV1N (fun _ _ => rfl) dX5_isVersion_7 mlX5_152 imX5_isThere seX5_isThere rfl rfl (n_isThere _ _ V hv hV) (by decide) (Nat.le_of_ble_eq_true rfl) (Nat.le_of_ble_eq_true rfl) (Nat.le_of_ble_eq_true rfl) ?_
    rintro _ _ ⟨⟨it, rfl, it01, hit⟩, rfl⟩
    refine g_if_eq (tgt := 17) dX5_isVersion_10 (by decide) (fun c10 => ?_) (fun c10 => ?_)
    · refine g_iconst (v := 0) dX5_isVersion_17 (by decide) ?_
      refine g_zret dX5_isVersion_18 rfl (by first | rfl | assumption) ⟨_, _, rfl, rfl, ?_⟩
      first | exact ⟨⟨_, rfl, Or.inl rfl, fun z => absurd rfl z⟩, rfl⟩ | exact ⟨⟨_, rfl, Or.inr rfl, fun _ => Or.inl c2⟩, rfl⟩ | exact ⟨⟨_, rfl, Or.inr rfl, fun _ => Or.inr (hit c10)⟩, rfl⟩
    · refine g_iconst (v := 1) dX5_isVersion_13 (by decide) ?_
      refine g_goto (tgt := 18) dX5_isVersion_14 (by decide) ?_
      refine g_zret dX5_isVersion_18 rfl (by first | rfl | assumption) ⟨_, _, rfl, rfl, ?_⟩
      first | exact ⟨⟨_, rfl, Or.inl rfl, fun z => absurd rfl z⟩, rfl⟩ | exact ⟨⟨_, rfl, Or.inr rfl, fun _ => Or.inl c2⟩, rfl⟩ | exact ⟨⟨_, rfl, Or.inr rfl, fun _ => Or.inr (hit c10)⟩, rfl⟩
set_option maxRecDepth 100000 in
set_option maxHeartbeats 400000 in
theorem n_edges0 (S : gS) (a : Nat) (ha : a < 64) : gCt MX5_edges (0, 0) 0 0 [.ref 28, .int (-1), .int (nI a)] (wRf Γ τ S) (gN (wRf Γ τ) fun v S' => (∃ r : Int64, v = .long r) ∧ S = S') := by
  refine gCt.of (ls := [some (.ref 28), some (.int (-1)), some (.int (nI a))]) 0 (by decide) rfl (Nat.le_of_ble_eq_true rfl) ?_
  refine g_iload_n dX5_edges_0 rfl rfl ?_
  refine g_iconst (v := (-1)) dX5_edges_1 (by decide) ?_
  refine g_icmp_ne (tgt := 14) dX5_edges_2 (by decide) (fun c2 => ?_) (fun c2 => ?_)
  · exact absurd rfl c2
  · refine g_aload_n dX5_edges_5 rfl rfl ?_
    refine g_get dX5_edges_6 flX5_20 rfl rfl ?_
    refine g_iload_n dX5_edges_9 rfl rfl ?_
    refine g_lald dX5_edges_10 rfl (vp_in_nI ha (by decide)) ?_
    refine g_goto (tgt := 46) dX5_edges_11 (by decide) ?_
    refine g_lret dX5_edges_46 rfl ⟨_, _, rfl, rfl, ?_⟩
    exact ⟨⟨_, rfl⟩, rfl⟩
set_option maxRecDepth 100000 in
set_option maxHeartbeats 400000 in
theorem n_edgesV (S : gS) (i a : Nat) (ha : a < 64) (V c : Nat) (h : Mr S V c) (hi : i < V) : gCt MX5_edges (0, 0) 0 0 [.ref 28, .int (nI i), .int (nI a)] (wRf Γ τ S) (gN (wRf Γ τ) fun v S' => (∃ r : Int64, v = .long r) ∧ S = S') := by
  refine gCt.of (ls := [some (.ref 28), some (.int (nI i)), some (.int (nI a))]) 0 (by decide) rfl (Nat.le_of_ble_eq_true rfl) ?_
  obtain ⟨hv, hV, hc, hS, hP⟩ := h
  obtain ⟨q, hq, hq2, hq3⟩ := hP (8 * i + a / 8) (by omega)
  obtain ⟨t, ht, ht2⟩ := (hS q hq).resolve_left hq3
  refine g_iload_n dX5_edges_0 rfl rfl ?_
  refine g_iconst (v := (-1)) dX5_edges_1 (by decide) ?_
  refine g_icmp_ne (tgt := 14) dX5_edges_2 (by decide) (fun c2 => ?_) (fun c2 => ?_)
  · refine g_aload_n dX5_edges_14 rfl rfl ?_
    refine g_get dX5_edges_15 flX5_28 rfl rfl ?_
    refine g_bipush (v := 8) dX5_edges_18 (by decide) ?_
    refine g_aload_n dX5_edges_20 rfl rfl ?_
    refine g_get dX5_edges_21 flX5_25 rfl rfl ?_
    refine g_aload_n dX5_edges_24 rfl rfl ?_
    refine g_get dX5_edges_25 flX5_35 rfl rfl ?_
    refine g_bipush (v := 8) dX5_edges_28 (by decide) ?_
    refine g_iload_n dX5_edges_30 rfl rfl ?_
    refine g_imul dX5_edges_31 ?_
    refine g_iload_n dX5_edges_32 rfl rfl ?_
    refine g_bipush (v := 8) dX5_edges_33 (by decide) ?_
    refine g_idiv dX5_edges_35 (by decide) ?_
    refine g_iadd dX5_edges_36 ?_
    refine g_eqi (y := nI (8 * i + a / 8)) (by rw [show (8 : Int32) = nI 8 from rfl, pk_mul, pk_div (by omega) (by decide) (by decide), nI_add]) ?_
    refine g_iald dX5_edges_37 rfl (vp_in_nI (by omega) (by decide)) ?_
    refine g_eqi (y := nI (q)) (by rw [nI_clamp (by omega)]; exact hq2) ?_
    refine g_iald dX5_edges_38 rfl (vp_in_nI hq (by decide)) ?_
    refine g_eqi (y := nI (t)) (by rw [nI_clamp (by omega)]; exact ht2) ?_
    refine g_imul dX5_edges_39 ?_
    refine g_iload_n dX5_edges_40 rfl rfl ?_
    refine g_bipush (v := 8) dX5_edges_41 (by decide) ?_
    refine g_irem dX5_edges_43 (by decide) ?_
    refine g_iadd dX5_edges_44 ?_
    refine g_eqi (y := nI (8 * t + a % 8)) (by rw [show (8 : Int32) = nI 8 from rfl, pk_mul, pk_rem (by omega) (by decide) (by decide), nI_add]) ?_
    refine g_lald dX5_edges_45 rfl (vp_in_nI (by omega) (by decide)) ?_
    refine g_lret dX5_edges_46 rfl ⟨_, _, rfl, rfl, ?_⟩
    exact ⟨⟨_, rfl⟩, rfl⟩
  · refine g_aload_n dX5_edges_5 rfl rfl ?_
    refine g_get dX5_edges_6 flX5_20 rfl rfl ?_
    refine g_iload_n dX5_edges_9 rfl rfl ?_
    refine g_lald dX5_edges_10 rfl (vp_in_nI ha (by decide)) ?_
    refine g_goto (tgt := 46) dX5_edges_11 (by decide) ?_
    refine g_lret dX5_edges_46 rfl ⟨_, _, rfl, rfl, ?_⟩
    exact ⟨⟨_, rfl⟩, rfl⟩
set_option maxRecDepth 100000 in
set_option maxHeartbeats 400000 in
theorem ln_nb2 (S : gS) (x n : Int32) (i : Nat) (hi : i < 100) {Q : gR → gW → Prop} (kk : ∀ is : Int32, G MX5_namedBy (0, 0) 68 [some (.ref 28), some (.int x), some (.int n), some (.int (nI i)), some (.int is), some (.int (nI 8))] [] (wRf Γ τ S) 0 0 Q) : ∀ (m g : Nat) (is : Int32), g + m = 8 → G MX5_namedBy (0, 0) 18 [some (.ref 28), some (.int x), some (.int n), some (.int (nI i)), some (.int is), some (.int (nI g))] [] (wRf Γ τ S) 0 0 Q := by
  intro m
  induction m with
  | zero =>
    intro g is hg
    obtain rfl : g = 8 := by omega
    refine g_iload dX5_namedBy_18 rfl ?_
    refine g_bipush (v := 8) dX5_namedBy_20 (by decide) ?_
    refine g_icmp_ge (tgt := 68) dX5_namedBy_22 (by decide) (fun c22 => ?_) (fun c22 => ?_)
    · exact kk is
    · exact absurd (show (8 : Int32) ≤ nI 8 by decide) c22
  | succ m ih =>
    intro g is hg
    refine g_iload dX5_namedBy_18 rfl ?_
    refine g_bipush (v := 8) dX5_namedBy_20 (by decide) ?_
    refine g_icmp_ge (tgt := 68) dX5_namedBy_22 (by decide) (fun c22 => ?_) (fun c22 => ?_)
    · exact absurd c22 (nI_ge (b := 8) (by omega) (by decide))
    · refine g_iload dX5_namedBy_25 rfl ?_
      refine g_if_ne (tgt := 55) dX5_namedBy_27 (by decide) (fun c27 => ?_) (fun c27 => ?_)
      · refine g_iconst (v := 1) dX5_namedBy_55 (by decide) ?_
        refine g_goto (tgt := 60) dX5_namedBy_56 (by decide) ?_
        refine g_istore dX5_namedBy_60 (by decide) ?_
        refine g_iinc dX5_namedBy_62 rfl (by decide) (by first | exact gi_1 _ | exact gi_p _) ?_
        refine g_goto (tgt := 18) dX5_namedBy_65 (by decide) ?_
        exact ih (g + 1) _ (by omega)
      · refine g_aload_n dX5_namedBy_30 rfl rfl ?_
        refine g_get dX5_namedBy_31 flX5_31 rfl rfl ?_
        refine g_iload_n dX5_namedBy_34 rfl rfl ?_
        refine g_zald dX5_namedBy_35 rfl (vp_in_nI (by omega) (by decide)) ?_
        refine g_if_eq (tgt := 59) dX5_namedBy_36 (by decide) (fun c36 => ?_) (fun c36 => ?_)
        · refine g_iconst (v := 0) dX5_namedBy_59 (by decide) ?_
          refine g_istore dX5_namedBy_60 (by decide) ?_
          refine g_iinc dX5_namedBy_62 rfl (by decide) (by first | exact gi_1 _ | exact gi_p _) ?_
          refine g_goto (tgt := 18) dX5_namedBy_65 (by decide) ?_
          exact ih (g + 1) _ (by omega)
        · refine g_aload_n dX5_namedBy_39 rfl rfl ?_
          refine g_get dX5_namedBy_40 flX5_35 rfl rfl ?_
          refine g_bipush (v := 8) dX5_namedBy_43 (by decide) ?_
          refine g_iload_n dX5_namedBy_45 rfl rfl ?_
          refine g_imul dX5_namedBy_46 ?_
          refine g_iload dX5_namedBy_47 rfl ?_
          refine g_iadd dX5_namedBy_49 ?_
          refine g_iald dX5_namedBy_50 rfl (ix8n (by omega) (by decide)) ?_
          refine g_iload_n dX5_namedBy_51 rfl rfl ?_
          refine g_icmp_ne (tgt := 59) dX5_namedBy_52 (by decide) (fun c52 => ?_) (fun c52 => ?_)
          · refine g_iconst (v := 0) dX5_namedBy_59 (by decide) ?_
            refine g_istore dX5_namedBy_60 (by decide) ?_
            refine g_iinc dX5_namedBy_62 rfl (by decide) (by first | exact gi_1 _ | exact gi_p _) ?_
            refine g_goto (tgt := 18) dX5_namedBy_65 (by decide) ?_
            exact ih (g + 1) _ (by omega)
          · refine g_iconst (v := 1) dX5_namedBy_55 (by decide) ?_
            refine g_goto (tgt := 60) dX5_namedBy_56 (by decide) ?_
            refine g_istore dX5_namedBy_60 (by decide) ?_
            refine g_iinc dX5_namedBy_62 rfl (by decide) (by first | exact gi_1 _ | exact gi_p _) ?_
            refine g_goto (tgt := 18) dX5_namedBy_65 (by decide) ?_
            exact ih (g + 1) _ (by omega)
set_option maxRecDepth 100000 in
set_option maxHeartbeats 400000 in
theorem ln_nb1 (S : gS) (x : Int32) (V : Nat) (hv : S.1 28 16 = nI V) (hV : V ≤ 100) : ∀ (m i : Nat) (n : Int32) (l4 l5 : Option Value), i + m = V → G MX5_namedBy (0, 0) 4 [some (.ref 28), some (.int x), some (.int n), some (.int (nI i)), l4, l5] [] (wRf Γ τ S) 0 0 (gN (wRf Γ τ) fun v S' => (∃ r : Int32, v = .int r) ∧ S = S') := by
  intro m
  induction m with
  | zero =>
    intro i n l4 l5 hi
    obtain rfl : i = V := by omega
    refine g_iload_n dX5_namedBy_4 rfl rfl ?_
    refine g_aload_n dX5_namedBy_5 rfl rfl ?_
    refine g_get dX5_namedBy_6 flX5_110 rfl rfl ?_
    refine g_icmp_ge (tgt := 87) dX5_namedBy_9 (by decide) (fun c9 => ?_) (fun c9 => ?_)
    · refine g_iload_n dX5_namedBy_87 rfl rfl ?_
      refine g_iret dX5_namedBy_88 rfl ⟨_, _, rfl, rfl, ?_⟩
      exact ⟨⟨_, rfl⟩, rfl⟩
    · exact absurd (by rw [hv]; exact Int32.le_refl _) c9
  | succ m ih =>
    intro i n l4 l5 hi
    refine g_iload_n dX5_namedBy_4 rfl rfl ?_
    refine g_aload_n dX5_namedBy_5 rfl rfl ?_
    refine g_get dX5_namedBy_6 flX5_110 rfl rfl ?_
    refine g_icmp_ge (tgt := 87) dX5_namedBy_9 (by decide) (fun c9 => ?_) (fun c9 => ?_)
    · exact absurd c9 (by rw [hv]; exact nI_ge (by omega) (by omega))
    · refine g_iconst (v := 0) dX5_namedBy_12 (by decide) ?_
      refine g_istore dX5_namedBy_13 (by decide) ?_
      refine g_iconst (v := 0) dX5_namedBy_15 (by decide) ?_
      refine g_istore dX5_namedBy_16 (by decide) ?_
      refine ln_nb2 S x n i (by omega) (fun is => ?_) 8 0 _ rfl
      refine g_iload_n dX5_namedBy_68 rfl rfl ?_
      refine g_iload dX5_namedBy_69 rfl ?_
      refine g_if_eq (tgt := 78) dX5_namedBy_71 (by decide) (fun c71 => ?_) (fun c71 => ?_)
      · refine g_iconst (v := 0) dX5_namedBy_78 (by decide) ?_
        refine g_iadd dX5_namedBy_79 ?_
        refine g_istore_n dX5_namedBy_80 rfl (by decide) ?_
        refine g_iinc dX5_namedBy_81 rfl (by decide) (by first | exact gi_1 _ | exact gi_p _) ?_
        refine g_goto (tgt := 4) dX5_namedBy_84 (by decide) ?_
        exact ih (i + 1) _ _ _ (by omega)
      · refine g_iconst (v := 1) dX5_namedBy_74 (by decide) ?_
        refine g_goto (tgt := 79) dX5_namedBy_75 (by decide) ?_
        refine g_iadd dX5_namedBy_79 ?_
        refine g_istore_n dX5_namedBy_80 rfl (by decide) ?_
        refine g_iinc dX5_namedBy_81 rfl (by decide) (by first | exact gi_1 _ | exact gi_p _) ?_
        refine g_goto (tgt := 4) dX5_namedBy_84 (by decide) ?_
        exact ih (i + 1) _ _ _ (by omega)
set_option maxRecDepth 100000 in
set_option maxHeartbeats 400000 in
theorem n_namedBy (S : gS) (x : Int32) (V : Nat) (hv : S.1 28 16 = nI V) (hV : V ≤ 100) : gCt MX5_namedBy (0, 0) 0 0 [.ref 28, .int x] (wRf Γ τ S) (gN (wRf Γ τ) fun v S' => (∃ r : Int32, v = .int r) ∧ S = S') := by
  refine gCt.of (ls := [some (.ref 28), some (.int x), none, none, none, none]) 4 (by decide) rfl (Nat.le_of_ble_eq_true rfl) ?_
  refine g_iconst (v := 0) dX5_namedBy_0 (by decide) ?_
  refine g_istore_n dX5_namedBy_1 rfl (by decide) ?_
  refine g_iconst (v := 0) dX5_namedBy_2 (by decide) ?_
  refine g_istore_n dX5_namedBy_3 rfl (by decide) ?_
  exact ln_nb1 S x V hv hV V 0 _ _ _ (by omega)
set_option maxRecDepth 100000 in
set_option maxHeartbeats 400000 in
theorem ln_tm (S : gS) (V : Nat) (hv : S.1 28 16 = nI V) (hV : V ≤ 100) : ∀ (m i : Nat) (n : Int32), i + m = V → G MX5_thereMany (0, 0) 4 [some (.ref 28), some (.int n), some (.int (nI i))] [] (wRf Γ τ S) 0 0 (gN (wRf Γ τ) fun v S' => (∃ r : Int32, v = .int r) ∧ S = S') := by
  intro m
  induction m with
  | zero =>
    intro i n hi
    obtain rfl : i = V := by omega
    refine g_iload_n dX5_thereMany_4 rfl rfl ?_
    refine g_aload_n dX5_thereMany_5 rfl rfl ?_
    refine g_get dX5_thereMany_6 flX5_110 rfl rfl ?_
    refine g_icmp_ge (tgt := 35) dX5_thereMany_9 (by decide) (fun c9 => ?_) (fun c9 => ?_)
    · refine g_iload_n dX5_thereMany_35 rfl rfl ?_
      refine g_iret dX5_thereMany_36 rfl ⟨_, _, rfl, rfl, ?_⟩
      exact ⟨⟨_, rfl⟩, rfl⟩
    · exact absurd (by rw [hv]; exact Int32.le_refl _) c9
  | succ m ih =>
    intro i n hi
    refine g_iload_n dX5_thereMany_4 rfl rfl ?_
    refine g_aload_n dX5_thereMany_5 rfl rfl ?_
    refine g_get dX5_thereMany_6 flX5_110 rfl rfl ?_
    refine g_icmp_ge (tgt := 35) dX5_thereMany_9 (by decide) (fun c9 => ?_) (fun c9 => ?_)
    · exact absurd c9 (by rw [hv]; exact nI_ge (by omega) (by omega))
    · refine g_iload_n dX5_thereMany_12 rfl rfl ?_
      refine g_aload_n dX5_thereMany_13 rfl rfl ?_
      refine g_get dX5_thereMany_14 flX5_31 rfl rfl ?_
      refine g_iload_n dX5_thereMany_17 rfl rfl ?_
      refine g_zald dX5_thereMany_18 rfl (vp_in_nI (by omega) (by decide)) ?_
      refine g_if_eq (tgt := 26) dX5_thereMany_19 (by decide) (fun c19 => ?_) (fun c19 => ?_)
      · refine g_iconst (v := 0) dX5_thereMany_26 (by decide) ?_
        refine g_iadd dX5_thereMany_27 ?_
        refine g_istore_n dX5_thereMany_28 rfl (by decide) ?_
        refine g_iinc dX5_thereMany_29 rfl (by decide) (by first | exact gi_1 _ | exact gi_p _) ?_
        refine g_goto (tgt := 4) dX5_thereMany_32 (by decide) ?_
        exact ih (i + 1) _ (by omega)
      · refine g_iconst (v := 1) dX5_thereMany_22 (by decide) ?_
        refine g_goto (tgt := 27) dX5_thereMany_23 (by decide) ?_
        refine g_iadd dX5_thereMany_27 ?_
        refine g_istore_n dX5_thereMany_28 rfl (by decide) ?_
        refine g_iinc dX5_thereMany_29 rfl (by decide) (by first | exact gi_1 _ | exact gi_p _) ?_
        refine g_goto (tgt := 4) dX5_thereMany_32 (by decide) ?_
        exact ih (i + 1) _ (by omega)
set_option maxRecDepth 100000 in
set_option maxHeartbeats 400000 in
theorem n_thereMany (S : gS) (V : Nat) (hv : S.1 28 16 = nI V) (hV : V ≤ 100) : gCt MX5_thereMany (0, 0) 0 0 [.ref 28] (wRf Γ τ S) (gN (wRf Γ τ) fun v S' => (∃ r : Int32, v = .int r) ∧ S = S') := by
  refine gCt.of (ls := [some (.ref 28), none, none]) 2 (by decide) rfl (Nat.le_of_ble_eq_true rfl) ?_
  refine g_iconst (v := 0) dX5_thereMany_0 (by decide) ?_
  refine g_istore_n dX5_thereMany_1 rfl (by decide) ?_
  refine g_iconst (v := 0) dX5_thereMany_2 (by decide) ?_
  refine g_istore_n dX5_thereMany_3 rfl (by decide) ?_
  exact ln_tm S V hv hV V 0 _ (by omega)
set_option maxRecDepth 100000 in
set_option maxHeartbeats 400000 in
theorem ln_nm (S : gS) (V : Nat) (hv : S.1 28 16 = nI V) (hV : V ≤ 100) : ∀ (m i : Nat) (n : Int32), i + m = 65536 → G MX5_namedMany (1, 25) 4 [some (.ref 28), some (.int n), some (.int (nI i))] [] (wRf Γ τ S) 0 0 (gN (wRf Γ τ) fun v S' => (∃ r : Int32, v = .int r) ∧ S = S') := by
  intro m
  induction m with
  | zero =>
    intro i n hi
    obtain rfl : i = 65536 := by omega
    refine g_iload_n dX5_namedMany_4 rfl rfl ?_
    refine g_ldc dX5_namedMany_5 coX5_24 ?_
    refine g_icmp_ge (tgt := 42) dX5_namedMany_7 (by decide) (fun c7 => ?_) (fun c7 => ?_)
    · refine g_iload_n dX5_namedMany_42 rfl rfl ?_
      refine g_iret dX5_namedMany_43 rfl ⟨_, _, rfl, rfl, ?_⟩
      exact ⟨⟨_, rfl⟩, rfl⟩
    · exact absurd (nI_le (a := 65536) (b := 65536) (Nat.le_refl _) (by decide)) c7
  | succ m ih =>
    intro i n hi
    refine g_iload_n dX5_namedMany_4 rfl rfl ?_
    refine g_ldc dX5_namedMany_5 coX5_24 ?_
    refine g_icmp_ge (tgt := 42) dX5_namedMany_7 (by decide) (fun c7 => ?_) (fun c7 => ?_)
    · exact absurd c7 (nI_ge (b := 65536) (by omega) (by decide))
    · refine g_iload_n dX5_namedMany_10 rfl rfl ?_
      refine g_aload_n dX5_namedMany_11 rfl rfl ?_
      refine g_get dX5_namedMany_12 flX5_25 rfl rfl ?_
      refine g_iload_n dX5_namedMany_15 rfl rfl ?_
      refine g_iald dX5_namedMany_16 rfl (vp_in_nI (by omega) (by decide)) ?_
      refine g_iconst (v := (-1)) dX5_namedMany_17 (by decide) ?_
      refine g_icmp_eq (tgt := 33) dX5_namedMany_18 (by decide) (fun c18 => ?_) (fun c18 => ?_)
      · refine g_iconst (v := 0) dX5_namedMany_33 (by decide) ?_
        refine g_iadd dX5_namedMany_34 ?_
        refine g_istore_n dX5_namedMany_35 rfl (by decide) ?_
        refine g_iinc dX5_namedMany_36 rfl (by decide) (by first | exact gi_1 _ | exact gi_p _) ?_
        refine g_goto (tgt := 4) dX5_namedMany_39 (by decide) ?_
        exact ih (i + 1) _ (by omega)
      · refine g_aload_n dX5_namedMany_21 rfl rfl ?_
        refine g_iload_n dX5_namedMany_22 rfl rfl ?_
        refine cV1N (fun _ _ => rfl) dX5_namedMany_23 mlX5_145 imX5_namedBy seX5_namedBy rfl rfl (n_namedBy _ _ V hv hV) (by decide) (Nat.le_of_ble_eq_true rfl) (Nat.le_of_ble_eq_true rfl) (Nat.le_of_ble_eq_true rfl) ?_
        rintro _ _ ⟨⟨nb, rfl⟩, rfl⟩
        refine g_if_le (tgt := 33) dX5_namedMany_26 (by decide) (fun c26 => ?_) (fun c26 => ?_)
        · refine g_iconst (v := 0) dX5_namedMany_33 (by decide) ?_
          refine g_iadd dX5_namedMany_34 ?_
          refine g_istore_n dX5_namedMany_35 rfl (by decide) ?_
          refine g_iinc dX5_namedMany_36 rfl (by decide) (by first | exact gi_1 _ | exact gi_p _) ?_
          refine g_goto (tgt := 4) dX5_namedMany_39 (by decide) ?_
          exact ih (i + 1) _ (by omega)
        · refine g_iconst (v := 1) dX5_namedMany_29 (by decide) ?_
          refine g_goto (tgt := 34) dX5_namedMany_30 (by decide) ?_
          refine g_iadd dX5_namedMany_34 ?_
          refine g_istore_n dX5_namedMany_35 rfl (by decide) ?_
          refine g_iinc dX5_namedMany_36 rfl (by decide) (by first | exact gi_1 _ | exact gi_p _) ?_
          refine g_goto (tgt := 4) dX5_namedMany_39 (by decide) ?_
          exact ih (i + 1) _ (by omega)
set_option maxRecDepth 100000 in
set_option maxHeartbeats 400000 in
theorem n_namedMany (S : gS) (V : Nat) (hv : S.1 28 16 = nI V) (hV : V ≤ 100) : gCt MX5_namedMany (1, 25) 0 0 [.ref 28] (wRf Γ τ S) (gN (wRf Γ τ) fun v S' => (∃ r : Int32, v = .int r) ∧ S = S') := by
  refine gCt.of (ls := [some (.ref 28), none, none]) 2 (by decide) rfl (Nat.le_of_ble_eq_true rfl) ?_
  refine g_iconst (v := 0) dX5_namedMany_0 (by decide) ?_
  refine g_istore_n dX5_namedMany_1 rfl (by decide) ?_
  refine g_iconst (v := 0) dX5_namedMany_2 (by decide) ?_
  refine g_istore_n dX5_namedMany_3 rfl (by decide) ?_
  exact ln_nm S V hv hV 65536 0 _ rfl
end
