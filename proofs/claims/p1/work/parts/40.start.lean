set_option maxRecDepth 100000 in
set_option maxHeartbeats 400000 in
theorem ls_3 {b L : Nat} {xs : Nat → Int32} (hL : L ≤ 4) (C R : gS) (f : Fr C) (hg : ∀ x : Int32, ¬ x < 0 → x < 24032 → dget C x = fdm x.toNatClampNeg) (g : Fm R) : GE (gxL b L xs) ML_law (12, 440) 15 [none, some (.ref 0), none, none, none, none, none, none] [.ref 28] (wRf C [] R) 599954 6812251 gTrue := by
  refine g_astore_n dL_law_15 rfl (by decide) ?_
  refine g_iconst (v := 1) dL_law_16 (by decide) ?_
  refine g_newa (k := 599953) (n := 6812250) (t := 1) (N := 1) (a0 := (1, .inr (.inl (fun _ => 0)))) (ty := .long) dL_law_17 rfl ac_long (fun _ h => by cases h) (fun _ => rfl) (fun _ => rfl) (fun _ => rfl) (by decide) (by decide) (by decide) rfl ?_
  show GE (gxL b L xs) ML_law (12, 440) 19 [none, some (.ref 0), some (.ref 28), none, none, none, none, none] [.ref 48] (wOf (rtl R (wOut (fun _ => 0))) C) 599953 6812250 gTrue
  refine g_astore_n dL_law_19 rfl (by decide) ?_
  refine g_iconst (v := 0) dL_law_20 (by decide) ?_
  refine g_istore dL_law_21 (by decide) ?_
  refine g_iload dL_law_23 rfl ?_
  refine g_slen dL_law_25 dL_law_26 ?_
  refine g_iconst (v := 4) dL_law_27 (by decide) ?_
  refine g_isub dL_law_28 ?_
  refine g_icmp_gt (tgt := 1234) dL_law_29 (by decide) (fun c29 => ?_) (fun c29 => ?_)
  · refine g_iconst (v := 1) dL_law_1234 (by decide) ?_
    exact g_zret dL_law_1235 rfl (by first | rfl | assumption) rfl
  · have h4 : L = 4 := by
      rcases (show L = 0 ∨ L = 1 ∨ L = 2 ∨ L = 3 ∨ L = 4 by omega) with rfl | rfl | rfl | rfl | rfl
      · exact absurd (by decide) c29
      · exact absurd (by decide) c29
      · exact absurd (by decide) c29
      · exact absurd (by decide) c29
      · rfl
    subst h4
    exact GE.less (k' := 10) (n' := 100) (by decide) (by decide) (l_one R C (fun _ => 0) f g hg)
set_option maxRecDepth 100000 in
set_option maxHeartbeats 400000 in
theorem ls_2 {b L : Nat} {xs : Nat → Int32} (hL : L ≤ 4) (C : gS) (f : Fr C) (hg : ∀ x : Int32, ¬ x < 0 → x < 24032 → dget C x = fdm x.toNatClampNeg) : GE (gxL b L xs) ML_law (12, 440) 7 [none, none, none, none, none, none, none, none] [.ref 0] (wOf [] C) 599974 7236994 gTrue := by
  refine g_astore_n dL_law_7 rfl (by decide) ?_
  refine g_new (k := 599973) (n := 7236963) (ci := 5) (C := RX5) (T := TX5) (N := 31) (fs := [.int 0, .int 0, .null, .int 0, .int 0, .null, .null, .int 0, .int 0, .int 0, .int 0, .int 0, .null, .null, .int 0, .null, .int 0, .null, .null, .int 0, .null, .null, .null, .null, .null, .null, .null, .null, .null, .null, .null]) (ty := tyX5) dL_law_8 rfl uT5 tyX5_ok clL_78 nw_X5 in_X5 (fun j hj => match j, hj with | 0, _ => rfl | 1, _ => rfl | 2, _ => rfl | 3, _ => rfl | 4, _ => rfl | 5, _ => rfl | 6, _ => rfl | 7, _ => rfl | 8, _ => rfl | 9, _ => rfl | 10, _ => rfl | 11, _ => rfl | 12, _ => rfl | 13, _ => rfl | 14, _ => rfl | 15, _ => rfl | 16, _ => rfl | 17, _ => rfl | 18, _ => rfl | 19, _ => rfl | 20, _ => rfl | 21, _ => rfl | 22, _ => rfl | 23, _ => rfl | 24, _ => rfl | 25, _ => rfl | 26, _ => rfl | 27, _ => rfl | 28, _ => rfl | 29, _ => rfl | 30, _ => rfl | (j + 31), h => absurd h (by omega)) (fun _ => rfl) rfl ?_
  show GE (gxL b L xs) ML_law (12, 440) 11 [none, some (.ref 0), none, none, none, none, none, none] [.ref 28] (wOf [.inr (5, [.int 0, .int 0, .null, .int 0, .int 0, .null, .null, .int 0, .int 0, .int 0, .int 0, .int 0, .null, .null, .int 0, .null, .int 0, .null, .null, .int 0, .null, .null, .null, .null, .null, .null, .null, .null, .null, .null, .null])] C) 599973 7236963 gTrue
  refine g_dup dL_law_11 rfl ?_
  refine g_callI (as := []) dL_law_12 mlL_80 rfl imX5_init rfl rfl rfl rfl (i_model C) (by decide) (Nat.le_of_ble_eq_true rfl) (Nat.le_of_ble_eq_true rfl) (Nat.le_of_ble_eq_true rfl) (Or.inr ⟨rfl, rfl⟩) ?_ (fun E w' h => by obtain ⟨_, h, _⟩ := h; cases h)
  rintro v w' ⟨R, h1, rfl, g⟩
  cases h1
  exact ls_3 hL C R f hg g
set_option maxRecDepth 100000 in
set_option maxHeartbeats 400000 in
theorem ls_1 {b L : Nat} {xs : Nat → Int32} (hL : L ≤ 4) : GE (gxL b L xs) ML_law (12, 440) 0 [none, none, none, none, none, none, none, none] [] [] 600002 7302231 gTrue := by
  refine g_new (k := 600001) (n := 7302225) (ci := 4) (C := RX4) (T := TX4) (N := 6) (fs := [.null, .null, .null, .null, .int 0, .int 0]) (ty := tyX4) dL_law_0 rfl uT4 tyX4_ok clL_8 nw_X4 in_X4 (fun j hj => match j, hj with | 0, _ => rfl | 1, _ => rfl | 2, _ => rfl | 3, _ => rfl | 4, _ => rfl | 5, _ => rfl | (j + 6), h => absurd h (by omega)) (fun _ => rfl) rfl ?_
  show GE (gxL b L xs) ML_law (12, 440) 3 [none, none, none, none, none, none, none, none] [.ref 0] [.inr (4, [.null, .null, .null, .null, .int 0, .int 0])] 600001 7302225 gTrue
  refine g_dup dL_law_3 rfl ?_
  refine g_callI (as := []) dL_law_4 mlL_77 rfl imX4_init rfl rfl rfl rfl i_graph (by decide) (Nat.le_of_ble_eq_true rfl) (Nat.le_of_ble_eq_true rfl) (Nat.le_of_ble_eq_true rfl) (Or.inr ⟨rfl, rfl⟩) ?_ (fun E w' h => by obtain ⟨_, h, _⟩ := h; cases h)
  rintro v w' ⟨S', h1, rfl, rfl⟩
  cases h1
  exact ls_2 hL (anewS 64 gS0) an_Fr (fun x h1 h2 => an_get h1 h2)
