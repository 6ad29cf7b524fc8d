section
variable {Γ : gS} {τ : gW}
theorem ph_le : ∀ (N n : Nat) (g : Nat → Nat), (∀ j, j < n → g j < N) → (∀ i j, i < n → j < n → g i = g j → i = j) → n ≤ N := by
  intro N
  induction N with
  | zero =>
    intro n g h1 h2
    cases n with
    | zero => exact Nat.le_refl _
    | succ n => exact absurd (h1 0 (by omega)) (Nat.not_lt_zero _)
  | succ N ih =>
    intro n g h1 h2
    cases n with
    | zero => exact Nat.zero_le _
    | succ n =>
      refine Nat.succ_le_succ (ih n (fun j => if g j = N then g n else g j) (fun j hj => ?_) (fun i j hi hj => ?_))
      · have a1 := h1 j (by omega)
        have a2 := h1 n (by omega)
        have a3 : g j ≠ g n := fun z => by have := h2 j n (by omega) (by omega) z; omega
        show (if g j = N then g n else g j) < N
        split <;> omega
      · have a3 : g i ≠ g n := fun z => by have := h2 i n (by omega) (by omega) z; omega
        have a4 : g j ≠ g n := fun z => by have := h2 j n (by omega) (by omega) z; omega
        show (if g i = N then g n else g i) = (if g j = N then g n else g j) → i = j
        intro z
        by_cases e1 : g i = N
        · by_cases e2 : g j = N
          · exact h2 i j (by omega) (by omega) (e1.trans e2.symm)
          · rw [if_pos e1, if_neg e2] at z; exact absurd z.symm a4
        · by_cases e2 : g j = N
          · rw [if_neg e1, if_pos e2] at z; exact absurd z a3
          · rw [if_neg e1, if_neg e2] at z; exact h2 i j (by omega) (by omega) z
/-- n numbers that all stand among N cells are no more than these -/
theorem ph_n {N n : Nat} {E : Nat → Int32} (hn : n < 2 ^ 31) (H : ∀ j, j < n → ∃ i, i < N ∧ E i = nI j) : n ≤ N := by
  have hg : ∃ g : Nat → Nat, ∀ j, j < n → g j < N ∧ E (g j) = nI j := ⟨fun j => if h : j < n then Classical.choose (H j h) else 0, fun j hj => by
    simp only [dif_pos hj]
    exact Classical.choose_spec (H j hj)⟩
  obtain ⟨g, hg⟩ := hg
  refine ph_le N n g (fun j hj => (hg j hj).1) (fun i j hi hj z => ?_)
  have e1 := (hg i hi).2
  have e2 := (hg j hj).2
  rw [z] at e1
  exact eq_of_nI (by omega) (by omega) (e1.symm.trans e2)
set_option maxRecDepth 100000 in
set_option maxHeartbeats 400000 in
theorem ln_al (S : gS) (q g s : Nat) (hq : q < 65536) (hg : g < 8) (hs : S.2.1 33 q = nI s) (hs2 : s < 315) : ∀ (m k : Nat) (is : Int32), k + m = 8 → (is = 0 ∨ is = 1) → G MX5_isAlike (0, 0) 5 [some (.ref 28), some (.int (nI q)), some (.int (nI g)), some (.int is), some (.int (nI k))] [] (wRf Γ τ S) 0 0 (gN (wRf Γ τ) fun v S' => (∃ r : Int32, v = .int r ∧ (r = 0 ∨ r = 1)) ∧ S = S') := by
  intro m
  induction m with
  | zero =>
    intro k is hk h01
    obtain rfl : k = 8 := by omega
    refine g_iload dX5_isAlike_5 rfl ?_
    refine g_bipush (v := 8) dX5_isAlike_7 (by decide) ?_
    refine g_icmp_ge (tgt := 61) dX5_isAlike_9 (by decide) (fun c9 => ?_) (fun c9 => ?_)
    · refine g_iload_n dX5_isAlike_61 rfl rfl ?_
      refine g_zret dX5_isAlike_62 rfl (by rcases h01 with rfl | rfl <;> rfl) ⟨_, _, rfl, rfl, ?_⟩
      exact ⟨⟨_, rfl, h01⟩, rfl⟩
    · exact absurd (show (8 : Int32) ≤ nI 8 by decide) c9
  | succ m ih =>
    intro k is hk h01
    refine g_iload dX5_isAlike_5 rfl ?_
    refine g_bipush (v := 8) dX5_isAlike_7 (by decide) ?_
    refine g_icmp_ge (tgt := 61) dX5_isAlike_9 (by decide) (fun c9 => ?_) (fun c9 => ?_)
    · exact absurd c9 (nI_ge (b := 8) (by omega) (by decide))
    · refine g_iload_n dX5_isAlike_12 rfl rfl ?_
      refine g_if_eq (tgt := 53) dX5_isAlike_13 (by decide) (fun c13 => ?_) (fun c13 => ?_)
      · refine g_iconst (v := 0) dX5_isAlike_53 (by decide) ?_
        refine g_istore_n dX5_isAlike_54 rfl (by decide) ?_
        refine g_iinc dX5_isAlike_55 rfl (by decide) (by first | exact gi_1 _ | exact gi_p _) ?_
        refine g_goto (tgt := 5) dX5_isAlike_58 (by decide) ?_
        first | exact ih (k + 1) _ (by omega) (Or.inl rfl) | exact ih (k + 1) _ (by omega) (Or.inr rfl)
      · refine g_aload_n dX5_isAlike_16 rfl rfl ?_
        refine g_get dX5_isAlike_17 flX5_28 rfl rfl ?_
        refine g_bipush (v := 8) dX5_isAlike_20 (by decide) ?_
        refine g_aload_n dX5_isAlike_22 rfl rfl ?_
        refine g_get dX5_isAlike_23 flX5_25 rfl rfl ?_
        refine g_iload_n dX5_isAlike_26 rfl rfl ?_
        refine g_iald dX5_isAlike_27 rfl (vp_in_nI hq (by decide)) ?_
        refine g_eqi (y := nI (s)) (by rw [nI_clamp (n := q) (by omega)]; exact hs) ?_
        refine g_imul dX5_isAlike_28 ?_
        refine g_iload dX5_isAlike_29 rfl ?_
        refine g_iadd dX5_isAlike_31 ?_
        refine g_lald dX5_isAlike_32 rfl (ix8n (by omega) (by decide)) ?_
        refine g_aload_n dX5_isAlike_33 rfl rfl ?_
        refine g_get dX5_isAlike_34 flX5_20 rfl rfl ?_
        refine g_bipush (v := 8) dX5_isAlike_37 (by decide) ?_
        refine g_iload_n dX5_isAlike_39 rfl rfl ?_
        refine g_imul dX5_isAlike_40 ?_
        refine g_iload dX5_isAlike_41 rfl ?_
        refine g_iadd dX5_isAlike_43 ?_
        refine g_lald dX5_isAlike_44 rfl (ix8n (by omega) (by decide)) ?_
        refine g_lcmp dX5_isAlike_45 ?_
        refine g_if_ne (tgt := 53) dX5_isAlike_46 (by decide) (fun c46 => ?_) (fun c46 => ?_)
        · refine g_iconst (v := 0) dX5_isAlike_53 (by decide) ?_
          refine g_istore_n dX5_isAlike_54 rfl (by decide) ?_
          refine g_iinc dX5_isAlike_55 rfl (by decide) (by first | exact gi_1 _ | exact gi_p _) ?_
          refine g_goto (tgt := 5) dX5_isAlike_58 (by decide) ?_
          first | exact ih (k + 1) _ (by omega) (Or.inl rfl) | exact ih (k + 1) _ (by omega) (Or.inr rfl)
        · refine g_iconst (v := 1) dX5_isAlike_49 (by decide) ?_
          refine g_goto (tgt := 54) dX5_isAlike_50 (by decide) ?_
          refine g_istore_n dX5_isAlike_54 rfl (by decide) ?_
          refine g_iinc dX5_isAlike_55 rfl (by decide) (by first | exact gi_1 _ | exact gi_p _) ?_
          refine g_goto (tgt := 5) dX5_isAlike_58 (by decide) ?_
          first | exact ih (k + 1) _ (by omega) (Or.inl rfl) | exact ih (k + 1) _ (by omega) (Or.inr rfl)
set_option maxRecDepth 100000 in
set_option maxHeartbeats 400000 in
theorem n_isAlike (S : gS) (q g s : Nat) (hq : q < 65536) (hg : g < 8) (hs : S.2.1 33 q = nI s) (hs2 : s < 315) : gCt MX5_isAlike (0, 0) 0 0 [.ref 28, .int (nI q), .int (nI g)] (wRf Γ τ S) (gN (wRf Γ τ) fun v S' => (∃ r : Int32, v = .int r ∧ (r = 0 ∨ r = 1)) ∧ S = S') := by
  refine gCt.of (ls := [some (.ref 28), some (.int (nI q)), some (.int (nI g)), none, none]) 2 (by decide) rfl (Nat.le_of_ble_eq_true rfl) ?_
  refine g_iconst (v := 1) dX5_isAlike_0 (by decide) ?_
  refine g_istore_n dX5_isAlike_1 rfl (by decide) ?_
  refine g_iconst (v := 0) dX5_isAlike_2 (by decide) ?_
  refine g_istore dX5_isAlike_3 (by decide) ?_
  exact ln_al S q g s hq hg hs hs2 8 0 _ rfl (Or.inr rfl)
set_option maxRecDepth 100000 in
set_option maxHeartbeats 400000 in
theorem ln_fd2 (S : gS) (g : Nat) (hg : g < 8) (V c : Nat) (h : Mr S V c) (v : Nat) (hv : v < V) (kk : G MX5_find (1, 24) 64 [some (.ref 28), some (.int (nI g)), some (.int (nI v)), some (.int (nI 8))] [] (wRf Γ τ S) 0 0 (gN (wRf Γ τ) fun v S' => (∃ r : Int32, v = .int r ∧ (r = -1 ∨ ∃ q : Nat, q < 65536 ∧ r = nI q ∧ ¬ S.2.1 33 q = -1)) ∧ S = S')) : ∀ (m k : Nat), k + m = 8 → G MX5_find (1, 24) 12 [some (.ref 28), some (.int (nI g)), some (.int (nI v)), some (.int (nI k))] [] (wRf Γ τ S) 0 0 (gN (wRf Γ τ) fun v S' => (∃ r : Int32, v = .int r ∧ (r = -1 ∨ ∃ q : Nat, q < 65536 ∧ r = nI q ∧ ¬ S.2.1 33 q = -1)) ∧ S = S') := by
  have hV := h.2.1
  have hc := h.2.2.1
  intro m
  induction m with
  | zero =>
    intro k hk
    obtain rfl : k = 8 := by omega
    refine g_iload_n dX5_find_12 rfl rfl ?_
    refine g_bipush (v := 8) dX5_find_13 (by decide) ?_
    refine g_icmp_ge (tgt := 64) dX5_find_15 (by decide) (fun c15 => ?_) (fun c15 => ?_)
    · exact kk
    · exact absurd (show (8 : Int32) ≤ nI 8 by decide) c15
  | succ m ih =>
    intro k hk
    obtain ⟨q, hq, eq, hne⟩ := h.2.2.2.2 (8 * v + k) (by omega)
    obtain ⟨s, hs2, hs⟩ := (h.2.2.2.1 q hq).resolve_left hne
    replace hs2 : s < 315 := by omega
    refine g_iload_n dX5_find_12 rfl rfl ?_
    refine g_bipush (v := 8) dX5_find_13 (by decide) ?_
    refine g_icmp_ge (tgt := 64) dX5_find_15 (by decide) (fun c15 => ?_) (fun c15 => ?_)
    · exact absurd c15 (nI_ge (b := 8) (by omega) (by decide))
    · refine g_aload_n dX5_find_18 rfl rfl ?_
      refine g_get dX5_find_19 flX5_31 rfl rfl ?_
      refine g_iload_n dX5_find_22 rfl rfl ?_
      refine g_zald dX5_find_23 rfl (vp_in_nI (by omega) (by decide)) ?_
      refine g_if_eq (tgt := 58) dX5_find_24 (by decide) (fun c24 => ?_) (fun c24 => ?_)
      · refine g_iinc dX5_find_58 rfl (by decide) (by first | exact gi_1 _ | exact gi_p _) ?_
        refine g_goto (tgt := 12) dX5_find_61 (by decide) ?_
        exact ih (k + 1) (by omega)
      · refine g_aload_n dX5_find_27 rfl rfl ?_
        refine g_aload_n dX5_find_28 rfl rfl ?_
        refine g_get dX5_find_29 flX5_35 rfl rfl ?_
        refine g_bipush (v := 8) dX5_find_32 (by decide) ?_
        refine g_iload_n dX5_find_34 rfl rfl ?_
        refine g_imul dX5_find_35 ?_
        refine g_iload_n dX5_find_36 rfl rfl ?_
        refine g_iadd dX5_find_37 ?_
        refine g_eqi (y := nI (8 * v + k)) (by rw [show (8 : Int32) = nI 8 from rfl, pk_mul, nI_add]) ?_
        refine g_iald dX5_find_38 rfl (vp_in_nI (by omega) (by decide)) ?_
        refine g_eqi (y := nI (q)) (by rw [nI_clamp (n := 8 * v + k) (by omega)]; exact eq) ?_
        refine g_iload_n dX5_find_39 rfl rfl ?_
        refine cV2N (fun _ _ => rfl) dX5_find_40 mlX5_166 imX5_isAlike seX5_isAlike rfl rfl (n_isAlike _ q g s hq hg hs hs2) (by decide) (Nat.le_of_ble_eq_true rfl) (Nat.le_of_ble_eq_true rfl) (Nat.le_of_ble_eq_true rfl) ?_
        rintro _ _ ⟨⟨al, rfl, al01⟩, rfl⟩
        refine g_if_eq (tgt := 58) dX5_find_43 (by decide) (fun c43 => ?_) (fun c43 => ?_)
        · refine g_iinc dX5_find_58 rfl (by decide) (by first | exact gi_1 _ | exact gi_p _) ?_
          refine g_goto (tgt := 12) dX5_find_61 (by decide) ?_
          exact ih (k + 1) (by omega)
        · refine g_aload_n dX5_find_46 rfl rfl ?_
          refine g_get dX5_find_47 flX5_35 rfl rfl ?_
          refine g_bipush (v := 8) dX5_find_50 (by decide) ?_
          refine g_iload_n dX5_find_52 rfl rfl ?_
          refine g_imul dX5_find_53 ?_
          refine g_iload_n dX5_find_54 rfl rfl ?_
          refine g_iadd dX5_find_55 ?_
          refine g_eqi (y := nI (8 * v + k)) (by rw [show (8 : Int32) = nI 8 from rfl, pk_mul, nI_add]) ?_
          refine g_iald dX5_find_56 rfl (vp_in_nI (by omega) (by decide)) ?_
          refine g_eqi (y := nI (q)) (by rw [nI_clamp (n := 8 * v + k) (by omega)]; exact eq) ?_
          refine g_iret dX5_find_57 rfl ⟨_, _, rfl, rfl, ?_⟩
          exact ⟨⟨_, rfl, Or.inr ⟨q, hq, rfl, hne⟩⟩, rfl⟩
set_option maxRecDepth 100000 in
set_option maxHeartbeats 400000 in
theorem ln_fd1 (S : gS) (g : Nat) (hg : g < 8) (V c : Nat) (h : Mr S V c) : ∀ (m v : Nat) (l3 : Option Value), v + m = V → G MX5_find (1, 24) 2 [some (.ref 28), some (.int (nI g)), some (.int (nI v)), l3] [] (wRf Γ τ S) 0 0 (gN (wRf Γ τ) fun v S' => (∃ r : Int32, v = .int r ∧ (r = -1 ∨ ∃ q : Nat, q < 65536 ∧ r = nI q ∧ ¬ S.2.1 33 q = -1)) ∧ S = S') := by
  have hV := h.2.1
  intro m
  induction m with
  | zero =>
    intro v l3 hv
    obtain rfl : v = V := by omega
    refine g_iload_n dX5_find_2 rfl rfl ?_
    refine g_aload_n dX5_find_3 rfl rfl ?_
    refine g_get dX5_find_4 flX5_110 rfl rfl ?_
    refine g_icmp_ge (tgt := 70) dX5_find_7 (by decide) (fun c7 => ?_) (fun c7 => ?_)
    · refine g_iconst (v := (-1)) dX5_find_70 (by decide) ?_
      refine g_iret dX5_find_71 rfl ⟨_, _, rfl, rfl, ?_⟩
      exact ⟨⟨_, rfl, Or.inl rfl⟩, rfl⟩
    · exact absurd (by rw [h.1]; exact Int32.le_refl _) c7
  | succ m ih =>
    intro v l3 hv
    refine g_iload_n dX5_find_2 rfl rfl ?_
    refine g_aload_n dX5_find_3 rfl rfl ?_
    refine g_get dX5_find_4 flX5_110 rfl rfl ?_
    refine g_icmp_ge (tgt := 70) dX5_find_7 (by decide) (fun c7 => ?_) (fun c7 => ?_)
    · exact absurd c7 (by rw [h.1]; exact nI_ge (by omega) (by omega))
    · refine g_iconst (v := 0) dX5_find_10 (by decide) ?_
      refine g_istore_n dX5_find_11 rfl (by decide) ?_
      refine ln_fd2 S g hg V c h v (by omega) ?_ 8 0 rfl
      refine g_iinc dX5_find_64 rfl (by decide) (by first | exact gi_1 _ | exact gi_p _) ?_
      refine g_goto (tgt := 2) dX5_find_67 (by decide) ?_
      exact ih (v + 1) _ (by omega)
set_option maxRecDepth 100000 in
set_option maxHeartbeats 400000 in
theorem n_find (S : gS) (g : Nat) (hg : g < 8) (V c : Nat) (h : Mr S V c) : gCt MX5_find (1, 24) 0 0 [.ref 28, .int (nI g)] (wRf Γ τ S) (gN (wRf Γ τ) fun v S' => (∃ r : Int32, v = .int r ∧ (r = -1 ∨ ∃ q : Nat, q < 65536 ∧ r = nI q ∧ ¬ S.2.1 33 q = -1)) ∧ S = S') := by
  refine gCt.of (ls := [some (.ref 28), some (.int (nI g)), none, none]) 2 (by decide) rfl (Nat.le_of_ble_eq_true rfl) ?_
  refine g_iconst (v := 0) dX5_find_0 (by decide) ?_
  refine g_istore_n dX5_find_1 rfl (by decide) ?_
  exact ln_fd1 S g hg V c h V 0 _ (by omega)
set_option maxRecDepth 100000 in
set_option maxHeartbeats 400000 in
theorem ln_ea2 (S : gS) (g : Nat) (hg : g < 8) (e : Nat) (he : e < g) (kk : ∀ is : Int32, G MX5_earlier (0, 0) 63 [some (.ref 28), some (.int (nI g)), some (.int (nI e)), some (.int is), some (.int (nI 8))] [] (wRf Γ τ S) 0 0 (gN (wRf Γ τ) fun v S' => (∃ r : Int32, v = .int r ∧ (r = -1 ∨ ∃ e : Nat, e < g ∧ r = nI e)) ∧ S = S')) : ∀ (m k : Nat) (is : Int32), k + m = 8 → G MX5_earlier (0, 0) 12 [some (.ref 28), some (.int (nI g)), some (.int (nI e)), some (.int is), some (.int (nI k))] [] (wRf Γ τ S) 0 0 (gN (wRf Γ τ) fun v S' => (∃ r : Int32, v = .int r ∧ (r = -1 ∨ ∃ e : Nat, e < g ∧ r = nI e)) ∧ S = S') := by
  intro m
  induction m with
  | zero =>
    intro k is hk
    obtain rfl : k = 8 := by omega
    refine g_iload dX5_earlier_12 rfl ?_
    refine g_bipush (v := 8) dX5_earlier_14 (by decide) ?_
    refine g_icmp_ge (tgt := 63) dX5_earlier_16 (by decide) (fun c16 => ?_) (fun c16 => ?_)
    · exact kk _
    · exact absurd (show (8 : Int32) ≤ nI 8 by decide) c16
  | succ m ih =>
    intro k is hk
    refine g_iload dX5_earlier_12 rfl ?_
    refine g_bipush (v := 8) dX5_earlier_14 (by decide) ?_
    refine g_icmp_ge (tgt := 63) dX5_earlier_16 (by decide) (fun c16 => ?_) (fun c16 => ?_)
    · exact absurd c16 (nI_ge (b := 8) (by omega) (by decide))
    · refine g_iload_n dX5_earlier_19 rfl rfl ?_
      refine g_if_eq (tgt := 55) dX5_earlier_20 (by decide) (fun c20 => ?_) (fun c20 => ?_)
      · refine g_iconst (v := 0) dX5_earlier_55 (by decide) ?_
        refine g_istore_n dX5_earlier_56 rfl (by decide) ?_
        refine g_iinc dX5_earlier_57 rfl (by decide) (by first | exact gi_1 _ | exact gi_p _) ?_
        refine g_goto (tgt := 12) dX5_earlier_60 (by decide) ?_
        exact ih (k + 1) _ (by omega)
      · refine g_aload_n dX5_earlier_23 rfl rfl ?_
        refine g_get dX5_earlier_24 flX5_20 rfl rfl ?_
        refine g_bipush (v := 8) dX5_earlier_27 (by decide) ?_
        refine g_iload_n dX5_earlier_29 rfl rfl ?_
        refine g_imul dX5_earlier_30 ?_
        refine g_iload dX5_earlier_31 rfl ?_
        refine g_iadd dX5_earlier_33 ?_
        refine g_lald dX5_earlier_34 rfl (ix8n (by omega) (by decide)) ?_
        refine g_aload_n dX5_earlier_35 rfl rfl ?_
        refine g_get dX5_earlier_36 flX5_20 rfl rfl ?_
        refine g_bipush (v := 8) dX5_earlier_39 (by decide) ?_
        refine g_iload_n dX5_earlier_41 rfl rfl ?_
        refine g_imul dX5_earlier_42 ?_
        refine g_iload dX5_earlier_43 rfl ?_
        refine g_iadd dX5_earlier_45 ?_
        refine g_lald dX5_earlier_46 rfl (ix8n (by omega) (by decide)) ?_
        refine g_lcmp dX5_earlier_47 ?_
        refine g_if_ne (tgt := 55) dX5_earlier_48 (by decide) (fun c48 => ?_) (fun c48 => ?_)
        · refine g_iconst (v := 0) dX5_earlier_55 (by decide) ?_
          refine g_istore_n dX5_earlier_56 rfl (by decide) ?_
          refine g_iinc dX5_earlier_57 rfl (by decide) (by first | exact gi_1 _ | exact gi_p _) ?_
          refine g_goto (tgt := 12) dX5_earlier_60 (by decide) ?_
          exact ih (k + 1) _ (by omega)
        · refine g_iconst (v := 1) dX5_earlier_51 (by decide) ?_
          refine g_goto (tgt := 56) dX5_earlier_52 (by decide) ?_
          refine g_istore_n dX5_earlier_56 rfl (by decide) ?_
          refine g_iinc dX5_earlier_57 rfl (by decide) (by first | exact gi_1 _ | exact gi_p _) ?_
          refine g_goto (tgt := 12) dX5_earlier_60 (by decide) ?_
          exact ih (k + 1) _ (by omega)
set_option maxRecDepth 100000 in
set_option maxHeartbeats 400000 in
theorem ln_ea1 (S : gS) (g : Nat) (hg : g < 8) : ∀ (m e : Nat) (l3 l4 : Option Value), e + m = g → G MX5_earlier (0, 0) 2 [some (.ref 28), some (.int (nI g)), some (.int (nI e)), l3, l4] [] (wRf Γ τ S) 0 0 (gN (wRf Γ τ) fun v S' => (∃ r : Int32, v = .int r ∧ (r = -1 ∨ ∃ e : Nat, e < g ∧ r = nI e)) ∧ S = S') := by
  intro m
  induction m with
  | zero =>
    intro e l3 l4 he
    obtain rfl : e = g := by omega
    refine g_iload_n dX5_earlier_2 rfl rfl ?_
    refine g_iload_n dX5_earlier_3 rfl rfl ?_
    refine g_icmp_ge (tgt := 75) dX5_earlier_4 (by decide) (fun c4 => ?_) (fun c4 => ?_)
    · refine g_iconst (v := (-1)) dX5_earlier_75 (by decide) ?_
      refine g_iret dX5_earlier_76 rfl ⟨_, _, rfl, rfl, ?_⟩
      exact ⟨⟨_, rfl, Or.inl rfl⟩, rfl⟩
    · exact absurd (Int32.le_refl _) c4
  | succ m ih =>
    intro e l3 l4 he
    refine g_iload_n dX5_earlier_2 rfl rfl ?_
    refine g_iload_n dX5_earlier_3 rfl rfl ?_
    refine g_icmp_ge (tgt := 75) dX5_earlier_4 (by decide) (fun c4 => ?_) (fun c4 => ?_)
    · exact absurd c4 (nI_ge (by omega) (by omega))
    · refine g_iconst (v := 1) dX5_earlier_7 (by decide) ?_
      refine g_istore_n dX5_earlier_8 rfl (by decide) ?_
      refine g_iconst (v := 0) dX5_earlier_9 (by decide) ?_
      refine g_istore dX5_earlier_10 (by decide) ?_
      refine ln_ea2 S g hg e (by omega) (fun is => ?_) 8 0 _ rfl
      refine g_iload_n dX5_earlier_63 rfl rfl ?_
      refine g_if_eq (tgt := 69) dX5_earlier_64 (by decide) (fun c64 => ?_) (fun c64 => ?_)
      · refine g_iinc dX5_earlier_69 rfl (by decide) (by first | exact gi_1 _ | exact gi_p _) ?_
        refine g_goto (tgt := 2) dX5_earlier_72 (by decide) ?_
        exact ih (e + 1) _ _ (by omega)
      · refine g_iload_n dX5_earlier_67 rfl rfl ?_
        refine g_iret dX5_earlier_68 rfl ⟨_, _, rfl, rfl, ?_⟩
        exact ⟨⟨_, rfl, Or.inr ⟨e, by omega, rfl⟩⟩, rfl⟩
set_option maxRecDepth 100000 in
set_option maxHeartbeats 400000 in
theorem n_earlier (S : gS) (g : Nat) (hg : g < 8) : gCt MX5_earlier (0, 0) 0 0 [.ref 28, .int (nI g)] (wRf Γ τ S) (gN (wRf Γ τ) fun v S' => (∃ r : Int32, v = .int r ∧ (r = -1 ∨ ∃ e : Nat, e < g ∧ r = nI e)) ∧ S = S') := by
  refine gCt.of (ls := [some (.ref 28), some (.int (nI g)), none, none, none]) 3 (by decide) rfl (Nat.le_of_ble_eq_true rfl) ?_
  refine g_iconst (v := 0) dX5_earlier_0 (by decide) ?_
  refine g_istore_n dX5_earlier_1 rfl (by decide) ?_
  exact ln_ea1 S g hg g 0 _ _ (by omega)
set_option maxRecDepth 100000 in
set_option maxHeartbeats 400000 in
theorem ln_nw2 (S : gS) (x n : Int32) (i : Nat) (hi : i < 100) {Q : gR → gW → Prop} (kk : ∀ is : Int32, (is = 0 ∨ (∃ i, i < 800 ∧ S.2.1 36 i = x)) → G MX5_namedBy (0, 0) 68 [some (.ref 28), some (.int x), some (.int n), some (.int (nI i)), some (.int is), some (.int (nI 8))] [] (wRf Γ τ S) 0 0 Q) : ∀ (m g : Nat) (is : Int32), g + m = 8 → (is = 0 ∨ (∃ i, i < 800 ∧ S.2.1 36 i = x)) → G MX5_namedBy (0, 0) 18 [some (.ref 28), some (.int x), some (.int n), some (.int (nI i)), some (.int is), some (.int (nI g))] [] (wRf Γ τ S) 0 0 Q := by
  intro m
  induction m with
  | zero =>
    intro g is hg hw
    obtain rfl : g = 8 := by omega
    refine g_iload dX5_namedBy_18 rfl ?_
    refine g_bipush (v := 8) dX5_namedBy_20 (by decide) ?_
    refine g_icmp_ge (tgt := 68) dX5_namedBy_22 (by decide) (fun c22 => ?_) (fun c22 => ?_)
    · exact kk is hw
    · exact absurd (show (8 : Int32) ≤ nI 8 by decide) c22
  | succ m ih =>
    intro g is hg hw
    refine g_iload dX5_namedBy_18 rfl ?_
    refine g_bipush (v := 8) dX5_namedBy_20 (by decide) ?_
    refine g_icmp_ge (tgt := 68) dX5_namedBy_22 (by decide) (fun c22 => ?_) (fun c22 => ?_)
    · exact absurd c22 (nI_ge (b := 8) (by omega) (by decide))
    · refine g_iload dX5_namedBy_25 rfl ?_
      refine g_if_ne (tgt := 55) dX5_namedBy_27 (by decide) (fun c27 => ?_) (fun c27 => ?_)
      · refine g_iconst (v := 1) dX5_namedBy_55 (by decide) ?_
        refine g_goto (tgt := 60) dX5_namedBy_56 (by decide) ?_
        refine g_istore dX5_namedBy_60 (by decide) ?_
        refine g_iinc dX5_namedBy_62 rfl (by decide) (by first | exact gi_1 _ | exact gi_p _) ?_
        refine g_goto (tgt := 18) dX5_namedBy_65 (by decide) ?_
        first | exact ih (g + 1) _ (by omega) (Or.inl rfl) | exact ih (g + 1) _ (by omega) (Or.inr (hw.resolve_left c27)) | exact ih (g + 1) _ (by omega) (Or.inr ⟨8 * i + g, by omega, by rw [cl8n (by omega)] at c52; exact c52⟩)
      · refine g_aload_n dX5_namedBy_30 rfl rfl ?_
        refine g_get dX5_namedBy_31 flX5_31 rfl rfl ?_
        refine g_iload_n dX5_namedBy_34 rfl rfl ?_
        refine g_zald dX5_namedBy_35 rfl (vp_in_nI (by omega) (by decide)) ?_
        refine g_if_eq (tgt := 59) dX5_namedBy_36 (by decide) (fun c36 => ?_) (fun c36 => ?_)
        · refine g_iconst (v := 0) dX5_namedBy_59 (by decide) ?_
          refine g_istore dX5_namedBy_60 (by decide) ?_
          refine g_iinc dX5_namedBy_62 rfl (by decide) (by first | exact gi_1 _ | exact gi_p _) ?_
          refine g_goto (tgt := 18) dX5_namedBy_65 (by decide) ?_
          first | exact ih (g + 1) _ (by omega) (Or.inl rfl) | exact ih (g + 1) _ (by omega) (Or.inr (hw.resolve_left c27)) | exact ih (g + 1) _ (by omega) (Or.inr ⟨8 * i + g, by omega, by rw [cl8n (by omega)] at c52; exact c52⟩)
        · refine g_aload_n dX5_namedBy_39 rfl rfl ?_
          refine g_get dX5_namedBy_40 flX5_35 rfl rfl ?_
          refine g_bipush (v := 8) dX5_namedBy_43 (by decide) ?_
          refine g_iload_n dX5_namedBy_45 rfl rfl ?_
          refine g_imul dX5_namedBy_46 ?_
          refine g_iload dX5_namedBy_47 rfl ?_
          refine g_iadd dX5_namedBy_49 ?_
          refine g_iald dX5_namedBy_50 rfl (ix8n (by omega) (by decide)) ?_
          refine g_iload_n dX5_namedBy_51 rfl rfl ?_
          refine g_icmp_ne (tgt := 59) dX5_namedBy_52 (by decide) (fun c52 => ?_) (fun c52 => ?_)
          · refine g_iconst (v := 0) dX5_namedBy_59 (by decide) ?_
            refine g_istore dX5_namedBy_60 (by decide) ?_
            refine g_iinc dX5_namedBy_62 rfl (by decide) (by first | exact gi_1 _ | exact gi_p _) ?_
            refine g_goto (tgt := 18) dX5_namedBy_65 (by decide) ?_
            first | exact ih (g + 1) _ (by omega) (Or.inl rfl) | exact ih (g + 1) _ (by omega) (Or.inr (hw.resolve_left c27)) | exact ih (g + 1) _ (by omega) (Or.inr ⟨8 * i + g, by omega, by rw [cl8n (by omega)] at c52; exact c52⟩)
          · refine g_iconst (v := 1) dX5_namedBy_55 (by decide) ?_
            refine g_goto (tgt := 60) dX5_namedBy_56 (by decide) ?_
            refine g_istore dX5_namedBy_60 (by decide) ?_
            refine g_iinc dX5_namedBy_62 rfl (by decide) (by first | exact gi_1 _ | exact gi_p _) ?_
            refine g_goto (tgt := 18) dX5_namedBy_65 (by decide) ?_
            first | exact ih (g + 1) _ (by omega) (Or.inl rfl) | exact ih (g + 1) _ (by omega) (Or.inr (hw.resolve_left c27)) | exact ih (g + 1) _ (by omega) (Or.inr ⟨8 * i + g, by omega, by rw [cl8n (by omega)] at c52; exact c52⟩)
set_option maxRecDepth 100000 in
set_option maxHeartbeats 400000 in
theorem ln_nw1 (S : gS) (x : Int32) (V : Nat) (hv : S.1 28 16 = nI V) (hV : V ≤ 100) : ∀ (m i : Nat) (n : Int32) (l4 l5 : Option Value), i + m = V → (n = 0 ∨ (∃ i, i < 800 ∧ S.2.1 36 i = x)) → G MX5_namedBy (0, 0) 4 [some (.ref 28), some (.int x), some (.int n), some (.int (nI i)), l4, l5] [] (wRf Γ τ S) 0 0 (gN (wRf Γ τ) fun v S' => (∃ r : Int32, v = .int r ∧ (r = 0 ∨ (∃ i, i < 800 ∧ S.2.1 36 i = x))) ∧ S = S') := by
  intro m
  induction m with
  | zero =>
    intro i n l4 l5 hi hw
    obtain rfl : i = V := by omega
    refine g_iload_n dX5_namedBy_4 rfl rfl ?_
    refine g_aload_n dX5_namedBy_5 rfl rfl ?_
    refine g_get dX5_namedBy_6 flX5_110 rfl rfl ?_
    refine g_icmp_ge (tgt := 87) dX5_namedBy_9 (by decide) (fun c9 => ?_) (fun c9 => ?_)
    · refine g_iload_n dX5_namedBy_87 rfl rfl ?_
      refine g_iret dX5_namedBy_88 rfl ⟨_, _, rfl, rfl, ?_⟩
      exact ⟨⟨_, rfl, hw⟩, rfl⟩
    · exact absurd (by rw [hv]; exact Int32.le_refl _) c9
  | succ m ih =>
    intro i n l4 l5 hi hw
    refine g_iload_n dX5_namedBy_4 rfl rfl ?_
    refine g_aload_n dX5_namedBy_5 rfl rfl ?_
    refine g_get dX5_namedBy_6 flX5_110 rfl rfl ?_
    refine g_icmp_ge (tgt := 87) dX5_namedBy_9 (by decide) (fun c9 => ?_) (fun c9 => ?_)
    · exact absurd c9 (by rw [hv]; exact nI_ge (by omega) (by omega))
    · refine g_iconst (v := 0) dX5_namedBy_12 (by decide) ?_
      refine g_istore dX5_namedBy_13 (by decide) ?_
      refine g_iconst (v := 0) dX5_namedBy_15 (by decide) ?_
      refine g_istore dX5_namedBy_16 (by decide) ?_
      refine ln_nw2 S x n i (by omega) (fun is his => ?_) 8 0 _ rfl (Or.inl rfl)
      refine g_iload_n dX5_namedBy_68 rfl rfl ?_
      refine g_iload dX5_namedBy_69 rfl ?_
      refine g_if_eq (tgt := 78) dX5_namedBy_71 (by decide) (fun c71 => ?_) (fun c71 => ?_)
      · refine g_iconst (v := 0) dX5_namedBy_78 (by decide) ?_
        refine g_iadd dX5_namedBy_79 ?_
        refine g_istore_n dX5_namedBy_80 rfl (by decide) ?_
        refine g_iinc dX5_namedBy_81 rfl (by decide) (by first | exact gi_1 _ | exact gi_p _) ?_
        refine g_goto (tgt := 4) dX5_namedBy_84 (by decide) ?_
        first | exact ih (i + 1) _ _ _ (by omega) (hw.elim (fun z => Or.inl (by rw [z]; rfl)) Or.inr) | exact ih (i + 1) _ _ _ (by omega) (Or.inr (his.resolve_left c71)) | exact ih (i + 1) _ _ _ (by omega) (Or.inr (his.resolve_left c72))
      · refine g_iconst (v := 1) dX5_namedBy_74 (by decide) ?_
        refine g_goto (tgt := 79) dX5_namedBy_75 (by decide) ?_
        refine g_iadd dX5_namedBy_79 ?_
        refine g_istore_n dX5_namedBy_80 rfl (by decide) ?_
        refine g_iinc dX5_namedBy_81 rfl (by decide) (by first | exact gi_1 _ | exact gi_p _) ?_
        refine g_goto (tgt := 4) dX5_namedBy_84 (by decide) ?_
        first | exact ih (i + 1) _ _ _ (by omega) (hw.elim (fun z => Or.inl (by rw [z]; rfl)) Or.inr) | exact ih (i + 1) _ _ _ (by omega) (Or.inr (his.resolve_left c71)) | exact ih (i + 1) _ _ _ (by omega) (Or.inr (his.resolve_left c72))
set_option maxRecDepth 100000 in
set_option maxHeartbeats 400000 in
theorem n_nbw (S : gS) (x : Int32) (V : Nat) (hv : S.1 28 16 = nI V) (hV : V ≤ 100) : gCt MX5_namedBy (0, 0) 0 0 [.ref 28, .int x] (wRf Γ τ S) (gN (wRf Γ τ) fun v S' => (∃ r : Int32, v = .int r ∧ (r = 0 ∨ (∃ i, i < 800 ∧ S.2.1 36 i = x))) ∧ S = S') := by
  refine gCt.of (ls := [some (.ref 28), some (.int x), none, none, none, none]) 4 (by decide) rfl (Nat.le_of_ble_eq_true rfl) ?_
  refine g_iconst (v := 0) dX5_namedBy_0 (by decide) ?_
  refine g_istore_n dX5_namedBy_1 rfl (by decide) ?_
  refine g_iconst (v := 0) dX5_namedBy_2 (by decide) ?_
  refine g_istore_n dX5_namedBy_3 rfl (by decide) ?_
  exact ln_nw1 S x V hv hV V 0 _ _ _ (by omega) (Or.inl rfl)
/-- the parts, and behind them the numbers -/
def lfE (S : gS) (i : Nat) : Int32 := if i < 800 then S.2.1 36 i else S.2.1 39 (i - 800)
set_option maxRecDepth 100000 in
set_option maxHeartbeats 400000 in
theorem ln_lf2 (S : gS) (g : Nat) (hg : g ≤ 8) (V c : Nat) (h : Mr S V c) (n : Nat) {Q : gR → gW → Prop} (kk : ∀ us : Int32, (us = 0 ∨ ∃ i, i < 808 ∧ lfE S i = nI n) → G MX5_leastFree (1, 25) 68 [some (.ref 28), some (.int (nI g)), some (.int (nI n)), some (.int us), some (.int (nI g))] [] (wRf Γ τ S) 0 0 Q) : ∀ (m e : Nat) (us : Int32), e + m = g → (us = 0 ∨ ∃ i, i < 808 ∧ lfE S i = nI n) → G MX5_leastFree (1, 25) 25 [some (.ref 28), some (.int (nI g)), some (.int (nI n)), some (.int us), some (.int (nI e))] [] (wRf Γ τ S) 0 0 Q := by
  intro m
  induction m with
  | zero =>
    intro e us he hw
    obtain rfl : e = g := by omega
    refine g_iload dX5_leastFree_25 rfl ?_
    refine g_iload_n dX5_leastFree_27 rfl rfl ?_
    refine g_icmp_ge (tgt := 68) dX5_leastFree_28 (by decide) (fun c28 => ?_) (fun c28 => ?_)
    · exact kk us hw
    · exact absurd (Int32.le_refl _) c28
  | succ m ih =>
    intro e us he hw
    refine g_iload dX5_leastFree_25 rfl ?_
    refine g_iload_n dX5_leastFree_27 rfl rfl ?_
    refine g_icmp_ge (tgt := 68) dX5_leastFree_28 (by decide) (fun c28 => ?_) (fun c28 => ?_)
    · exact absurd c28 (nI_ge (by omega) (by omega))
    · refine g_iload_n dX5_leastFree_31 rfl rfl ?_
      refine g_if_ne (tgt := 56) dX5_leastFree_32 (by decide) (fun c32 => ?_) (fun c32 => ?_)
      · refine g_iconst (v := 1) dX5_leastFree_56 (by decide) ?_
        refine g_goto (tgt := 61) dX5_leastFree_57 (by decide) ?_
        refine g_istore_n dX5_leastFree_61 rfl (by decide) ?_
        refine g_iinc dX5_leastFree_62 rfl (by decide) (by first | exact gi_1 _ | exact gi_p _) ?_
        refine g_goto (tgt := 25) dX5_leastFree_65 (by decide) ?_
        first | exact ih (e + 1) _ (by omega) (Or.inl rfl) | exact ih (e + 1) _ (by omega) (Or.inr (hw.resolve_left c32)) | exact ih (e + 1) _ (by omega) (Or.inr ⟨800 + e, by omega, by unfold lfE; rw [if_neg (by omega), show 800 + e - 800 = e by omega]; rw [nI_clamp (n := e) (by omega)] at c53; exact c53⟩)
      · refine g_aload_n dX5_leastFree_35 rfl rfl ?_
        refine g_get dX5_leastFree_36 flX5_47 rfl rfl ?_
        refine g_iload dX5_leastFree_39 rfl ?_
        refine g_zald dX5_leastFree_41 rfl (vp_in_nI (by omega) (by decide)) ?_
        refine g_if_eq (tgt := 60) dX5_leastFree_42 (by decide) (fun c42 => ?_) (fun c42 => ?_)
        · refine g_iconst (v := 0) dX5_leastFree_60 (by decide) ?_
          refine g_istore_n dX5_leastFree_61 rfl (by decide) ?_
          refine g_iinc dX5_leastFree_62 rfl (by decide) (by first | exact gi_1 _ | exact gi_p _) ?_
          refine g_goto (tgt := 25) dX5_leastFree_65 (by decide) ?_
          first | exact ih (e + 1) _ (by omega) (Or.inl rfl) | exact ih (e + 1) _ (by omega) (Or.inr (hw.resolve_left c32)) | exact ih (e + 1) _ (by omega) (Or.inr ⟨800 + e, by omega, by unfold lfE; rw [if_neg (by omega), show 800 + e - 800 = e by omega]; rw [nI_clamp (n := e) (by omega)] at c53; exact c53⟩)
        · refine g_aload_n dX5_leastFree_45 rfl rfl ?_
          refine g_get dX5_leastFree_46 flX5_44 rfl rfl ?_
          refine g_iload dX5_leastFree_49 rfl ?_
          refine g_iald dX5_leastFree_51 rfl (vp_in_nI (by omega) (by decide)) ?_
          refine g_iload_n dX5_leastFree_52 rfl rfl ?_
          refine g_icmp_ne (tgt := 60) dX5_leastFree_53 (by decide) (fun c53 => ?_) (fun c53 => ?_)
          · refine g_iconst (v := 0) dX5_leastFree_60 (by decide) ?_
            refine g_istore_n dX5_leastFree_61 rfl (by decide) ?_
            refine g_iinc dX5_leastFree_62 rfl (by decide) (by first | exact gi_1 _ | exact gi_p _) ?_
            refine g_goto (tgt := 25) dX5_leastFree_65 (by decide) ?_
            first | exact ih (e + 1) _ (by omega) (Or.inl rfl) | exact ih (e + 1) _ (by omega) (Or.inr (hw.resolve_left c32)) | exact ih (e + 1) _ (by omega) (Or.inr ⟨800 + e, by omega, by unfold lfE; rw [if_neg (by omega), show 800 + e - 800 = e by omega]; rw [nI_clamp (n := e) (by omega)] at c53; exact c53⟩)
          · refine g_iconst (v := 1) dX5_leastFree_56 (by decide) ?_
            refine g_goto (tgt := 61) dX5_leastFree_57 (by decide) ?_
            refine g_istore_n dX5_leastFree_61 rfl (by decide) ?_
            refine g_iinc dX5_leastFree_62 rfl (by decide) (by first | exact gi_1 _ | exact gi_p _) ?_
            refine g_goto (tgt := 25) dX5_leastFree_65 (by decide) ?_
            first | exact ih (e + 1) _ (by omega) (Or.inl rfl) | exact ih (e + 1) _ (by omega) (Or.inr (hw.resolve_left c32)) | exact ih (e + 1) _ (by omega) (Or.inr ⟨800 + e, by omega, by unfold lfE; rw [if_neg (by omega), show 800 + e - 800 = e by omega]; rw [nI_clamp (n := e) (by omega)] at c53; exact c53⟩)
set_option maxRecDepth 100000 in
set_option maxHeartbeats 400000 in
theorem ln_lfx (S : gS) (g : Nat) (hg : g ≤ 8) (V c : Nat) (h : Mr S V c) (n : Nat) (hn : n ≤ 808) (l4 : Option Value) : G MX5_leastFree (1, 25) 4 [some (.ref 28), some (.int (nI g)), some (.int (nI n)), some (.int 0), l4] [] (wRf Γ τ S) 0 0 (gN (wRf Γ τ) fun v S' => (∃ q : Nat, q ≤ 808 ∧ v = .int (nI q)) ∧ S = S') := by
  refine g_iload_n dX5_leastFree_4 rfl rfl ?_
  refine g_if_eq (tgt := 83) dX5_leastFree_5 (by decide) (fun c5 => ?_) (fun c5 => ?_)
  · refine g_iload_n dX5_leastFree_83 rfl rfl ?_
    refine g_iret dX5_leastFree_84 rfl ⟨_, _, rfl, rfl, ?_⟩
    exact ⟨⟨n, hn, rfl⟩, rfl⟩
  · exact absurd rfl c5
set_option maxRecDepth 100000 in
set_option maxHeartbeats 400000 in
theorem ln_lf1 (S : gS) (g : Nat) (hg : g ≤ 8) (V c : Nat) (h : Mr S V c) : ∀ (m n : Nat) (us : Int32) (l4 : Option Value), n + m = 809 → ¬ us = 0 → (∀ j, j < n → ∃ i, i < 808 ∧ lfE S i = nI j) → G MX5_leastFree (1, 25) 4 [some (.ref 28), some (.int (nI g)), some (.int (nI n)), some (.int us), l4] [] (wRf Γ τ S) 0 0 (gN (wRf Γ τ) fun v S' => (∃ q : Nat, q ≤ 808 ∧ v = .int (nI q)) ∧ S = S') := by
  intro m
  induction m with
  | zero =>
    intro n us l4 hm hu H
    have := ph_n (by omega) H
    omega
  | succ m ih =>
    intro n us l4 hm hu H
    refine g_iload_n dX5_leastFree_4 rfl rfl ?_
    refine g_if_eq (tgt := 83) dX5_leastFree_5 (by decide) (fun c5 => ?_) (fun c5 => ?_)
    · exact absurd c5 hu
    · refine g_aload_n dX5_leastFree_8 rfl rfl ?_
      refine g_iload_n dX5_leastFree_9 rfl rfl ?_
      refine cV1N (fun _ _ => rfl) dX5_leastFree_10 mlX5_145 imX5_namedBy seX5_namedBy rfl rfl (n_nbw _ (nI n) V h.1 h.2.1) (by decide) (Nat.le_of_ble_eq_true rfl) (Nat.le_of_ble_eq_true rfl) (Nat.le_of_ble_eq_true rfl) ?_
      rintro _ _ ⟨⟨nb, rfl, hnb⟩, rfl⟩
      refine g_if_le (tgt := 20) dX5_leastFree_13 (by decide) (fun c13 => ?_) (fun c13 => ?_)
      · refine g_iconst (v := 0) dX5_leastFree_20 (by decide) ?_
        refine g_istore_n dX5_leastFree_21 rfl (by decide) ?_
        refine g_iconst (v := 0) dX5_leastFree_22 (by decide) ?_
        refine g_istore dX5_leastFree_23 (by decide) ?_
        refine ln_lf2 S g hg V c h n (fun us hus => ?_) g 0 _ (by omega) (by first | exact Or.inl rfl | exact Or.inr (by obtain ⟨i, i1, i2⟩ := hnb.resolve_left (fun z => c13 (by rw [z]; exact Int32.le_refl _)); exact ⟨i, by omega, by unfold lfE; rw [if_pos i1]; exact i2⟩))
        refine g_iload_n dX5_leastFree_68 rfl rfl ?_
        refine g_iload_n dX5_leastFree_69 rfl rfl ?_
        refine g_if_eq (tgt := 77) dX5_leastFree_70 (by decide) (fun c70 => ?_) (fun c70 => ?_)
        · refine g_iconst (v := 0) dX5_leastFree_77 (by decide) ?_
          refine g_iadd dX5_leastFree_78 ?_
          refine g_eqi (y := nI (n)) (Int32.add_zero _) ?_
          refine g_istore_n dX5_leastFree_79 rfl (by decide) ?_
          refine g_goto (tgt := 4) dX5_leastFree_80 (by decide) ?_
          subst c70
          exact ln_lfx S g hg V c h n (by omega) _
        · refine g_iconst (v := 1) dX5_leastFree_73 (by decide) ?_
          refine g_goto (tgt := 78) dX5_leastFree_74 (by decide) ?_
          refine g_iadd dX5_leastFree_78 ?_
          refine g_eqi (y := nI (n + 1)) (nI_1 _) ?_
          refine g_istore_n dX5_leastFree_79 rfl (by decide) ?_
          refine g_goto (tgt := 4) dX5_leastFree_80 (by decide) ?_
          refine ih (n + 1) _ _ (by omega) c70 (fun j hj => ?_)
          by_cases e : j = n
          · rw [e]; exact hus.resolve_left c70
          · exact H j (by omega)
      · refine g_iconst (v := 1) dX5_leastFree_16 (by decide) ?_
        refine g_goto (tgt := 21) dX5_leastFree_17 (by decide) ?_
        refine g_istore_n dX5_leastFree_21 rfl (by decide) ?_
        refine g_iconst (v := 0) dX5_leastFree_22 (by decide) ?_
        refine g_istore dX5_leastFree_23 (by decide) ?_
        refine ln_lf2 S g hg V c h n (fun us hus => ?_) g 0 _ (by omega) (by first | exact Or.inl rfl | exact Or.inr (by obtain ⟨i, i1, i2⟩ := hnb.resolve_left (fun z => c13 (by rw [z]; exact Int32.le_refl _)); exact ⟨i, by omega, by unfold lfE; rw [if_pos i1]; exact i2⟩))
        refine g_iload_n dX5_leastFree_68 rfl rfl ?_
        refine g_iload_n dX5_leastFree_69 rfl rfl ?_
        refine g_if_eq (tgt := 77) dX5_leastFree_70 (by decide) (fun c70 => ?_) (fun c70 => ?_)
        · refine g_iconst (v := 0) dX5_leastFree_77 (by decide) ?_
          refine g_iadd dX5_leastFree_78 ?_
          refine g_eqi (y := nI (n)) (Int32.add_zero _) ?_
          refine g_istore_n dX5_leastFree_79 rfl (by decide) ?_
          refine g_goto (tgt := 4) dX5_leastFree_80 (by decide) ?_
          subst c70
          exact ln_lfx S g hg V c h n (by omega) _
        · refine g_iconst (v := 1) dX5_leastFree_73 (by decide) ?_
          refine g_goto (tgt := 78) dX5_leastFree_74 (by decide) ?_
          refine g_iadd dX5_leastFree_78 ?_
          refine g_eqi (y := nI (n + 1)) (nI_1 _) ?_
          refine g_istore_n dX5_leastFree_79 rfl (by decide) ?_
          refine g_goto (tgt := 4) dX5_leastFree_80 (by decide) ?_
          refine ih (n + 1) _ _ (by omega) c70 (fun j hj => ?_)
          by_cases e : j = n
          · rw [e]; exact hus.resolve_left c70
          · exact H j (by omega)
set_option maxRecDepth 100000 in
set_option maxHeartbeats 400000 in
theorem n_leastFree (S : gS) (g : Nat) (hg : g ≤ 8) (V c : Nat) (h : Mr S V c) : gCt MX5_leastFree (1, 25) 0 0 [.ref 28, .int (nI g)] (wRf Γ τ S) (gN (wRf Γ τ) fun v S' => (∃ q : Nat, q ≤ 808 ∧ v = .int (nI q)) ∧ S = S') := by
  refine gCt.of (ls := [some (.ref 28), some (.int (nI g)), none, none, none]) 3 (by decide) rfl (Nat.le_of_ble_eq_true rfl) ?_
  refine g_iconst (v := 0) dX5_leastFree_0 (by decide) ?_
  refine g_istore_n dX5_leastFree_1 rfl (by decide) ?_
  refine g_iconst (v := 1) dX5_leastFree_2 (by decide) ?_
  refine g_istore_n dX5_leastFree_3 rfl (by decide) ?_
  exact ln_lf1 S g hg V c h 809 0 _ _ rfl (by decide) (fun j hj => absurd hj (Nat.not_lt_zero _))
end
