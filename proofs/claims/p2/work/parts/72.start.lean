set_option maxRecDepth 100000 in
set_option maxHeartbeats 400000 in
theorem ls_3 {b L : Nat} {xs : Nat → Int32} (hL : L ≤ 2048) (C R : gS) (f : ¬ C.1 1 2 < 0) (g : RI R 0) : GE (gxL b L xs) ML_law (12, 440) 15 [none, some (.ref 0), none, none, none, none, none, none] [.ref 28] (wRf C [] R) 600976 6803054 gTrue := by
  refine g_astore_n dL_law_15 rfl (by decide) ?_
  refine g_iconst (v := 1) dL_law_16 (by decide) ?_
  refine g_newa (k := 600975) (n := 6803053) (t := 1) (N := 1) (a0 := (1, .inr (.inl (fun _ => 0)))) (ty := .long) dL_law_17 rfl ac_long (fun _ h => by cases h) (fun _ => rfl) (fun _ => rfl) (fun _ => rfl) (by decide) (by decide) (by decide) rfl ?_
  show GE (gxL b L xs) ML_law (12, 440) 19 [none, some (.ref 0), some (.ref 28), none, none, none, none, none] [.ref 48] (wOf (rtl R (wOut (fun _ => 0))) C) 600975 6803053 gTrue
  refine g_astore_n dL_law_19 rfl (by decide) ?_
  refine g_iconst (v := 0) dL_law_20 (by decide) ?_
  refine g_istore dL_law_21 (by decide) ?_
  exact GE.less (k' := 5 * 512) (n' := 30 * 512) (by decide) (by decide) (l_all hL 512 0 R C (fun _ => 0) none none none (by omega) (by decide) f g)
set_option maxRecDepth 100000 in
set_option maxHeartbeats 400000 in
theorem ls_2 {b L : Nat} {xs : Nat → Int32} (hL : L ≤ 2048) (C : gS) (f : ¬ C.1 1 2 < 0) : GE (gxL b L xs) ML_law (12, 440) 7 [none, none, none, none, none, none, none, none] [.ref 0] (wOf [] C) 600996 7227797 gTrue := by
  refine g_astore_n dL_law_7 rfl (by decide) ?_
  refine g_new (k := 600995) (n := 7227766) (ci := 5) (C := RX5) (T := TX5) (N := 31) (fs := [.int 0, .int 0, .null, .int 0, .int 0, .null, .null, .int 0, .int 0, .int 0, .int 0, .int 0, .null, .null, .int 0, .null, .int 0, .null, .null, .int 0, .null, .null, .null, .null, .null, .null, .null, .null, .null, .null, .null]) (ty := tyX5) dL_law_8 rfl uT5 tyX5_ok clL_78 nw_X5 in_X5 (fun j hj => match j, hj with | 0, _ => rfl | 1, _ => rfl | 2, _ => rfl | 3, _ => rfl | 4, _ => rfl | 5, _ => rfl | 6, _ => rfl | 7, _ => rfl | 8, _ => rfl | 9, _ => rfl | 10, _ => rfl | 11, _ => rfl | 12, _ => rfl | 13, _ => rfl | 14, _ => rfl | 15, _ => rfl | 16, _ => rfl | 17, _ => rfl | 18, _ => rfl | 19, _ => rfl | 20, _ => rfl | 21, _ => rfl | 22, _ => rfl | 23, _ => rfl | 24, _ => rfl | 25, _ => rfl | 26, _ => rfl | 27, _ => rfl | 28, _ => rfl | 29, _ => rfl | 30, _ => rfl | (j + 31), h => absurd h (by omega)) (fun _ => rfl) rfl ?_
  show GE (gxL b L xs) ML_law (12, 440) 11 [none, some (.ref 0), none, none, none, none, none, none] [.ref 28] (wOf [.inr (5, [.int 0, .int 0, .null, .int 0, .int 0, .null, .null, .int 0, .int 0, .int 0, .int 0, .int 0, .null, .null, .int 0, .null, .int 0, .null, .null, .int 0, .null, .null, .null, .null, .null, .null, .null, .null, .null, .null, .null])] C) 600995 7227766 gTrue
  refine g_dup dL_law_11 rfl ?_
  refine g_callI (as := []) dL_law_12 mlL_80 rfl imX5_init rfl rfl rfl rfl (i_model C) (by decide) (Nat.le_of_ble_eq_true rfl) (Nat.le_of_ble_eq_true rfl) (Nat.le_of_ble_eq_true rfl) (Or.inr ⟨rfl, rfl⟩) ?_ (fun E w' h => by obtain ⟨_, h, _⟩ := h; cases h)
  rintro v w' ⟨R, h1, rfl, g⟩
  cases h1
  exact ls_3 hL C R f g
set_option maxRecDepth 100000 in
set_option maxHeartbeats 400000 in
theorem ls_1 {b L : Nat} {xs : Nat → Int32} (hL : L ≤ 2048) : GE (gxL b L xs) ML_law (12, 440) 0 [none, none, none, none, none, none, none, none] [] [] 601024 7293034 gTrue := by
  refine g_new (k := 601023) (n := 7293028) (ci := 4) (C := RX4) (T := TX4) (N := 6) (fs := [.null, .null, .null, .null, .int 0, .int 0]) (ty := tyX4) dL_law_0 rfl uT4 tyX4_ok clL_8 nw_X4 in_X4 (fun j hj => match j, hj with | 0, _ => rfl | 1, _ => rfl | 2, _ => rfl | 3, _ => rfl | 4, _ => rfl | 5, _ => rfl | (j + 6), h => absurd h (by omega)) (fun _ => rfl) rfl ?_
  show GE (gxL b L xs) ML_law (12, 440) 3 [none, none, none, none, none, none, none, none] [.ref 0] [.inr (4, [.null, .null, .null, .null, .int 0, .int 0])] 601023 7293028 gTrue
  refine g_dup dL_law_3 rfl ?_
  refine g_callI (as := []) dL_law_4 mlL_77 rfl imX4_init rfl rfl rfl rfl i_graph (by decide) (Nat.le_of_ble_eq_true rfl) (Nat.le_of_ble_eq_true rfl) (Nat.le_of_ble_eq_true rfl) (Or.inr ⟨rfl, rfl⟩) ?_ (fun E w' h => by obtain ⟨_, h, _⟩ := h; cases h)
  rintro v w' ⟨S', h1, rfl, rfl⟩
  cases h1
  exact ls_2 hL (anewS 64 gS0) (by rw [anewS_w]; decide)
