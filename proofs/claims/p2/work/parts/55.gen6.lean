section
variable {Γ : gS} {τ : gW}
theorem fitL {L k : Nat} (h : ¬ (if 24000 < nI L + nI k then 0 else 1 : Int32) = 0) (hb : L + k < 2 ^ 31) : L + k ≤ 24000 := by
  refine Classical.byContradiction fun z => h (if_pos ?_)
  rw [nI_add]
  exact nI_lt (a := 24000) (by omega) hb
theorem mput_lo (f : Nat → Int32) (a : Nat) (v : Int64) (n : Nat) {j : Nat} (h : j < a) : ∀ k, mput f a v n k j = f j := by
  intro k
  induction k with
  | zero => rfl
  | succ k ih => show upd (mput f a v n k) (a + k) (mbyte v n k) j = f j; rw [pk_un (by omega)]; exact ih
theorem mput_hi (f : Nat → Int32) (a : Nat) (v : Int64) (n : Nat) {j : Nat} : ∀ k, a + k ≤ j → mput f a v n k j = f j := by
  intro k
  induction k with
  | zero => intro _; rfl
  | succ k ih => intro h; show upd (mput f a v n k) (a + k) (mbyte v n k) j = f j; rw [pk_un (by omega)]; exact ih (by omega)
theorem mb_100 : ∀ i : Fin 100, mbyte (nI i.val).toInt64 2 0 = nI 0 ∧ mbyte (nI i.val).toInt64 2 1 = nI i.val := by decide +kernel
/-- two bytes put are read back -/
theorem put2 (f : Nat → Int32) (a q : Nat) (hq : q < 100) : mput f a (nI q).toInt64 2 2 a = nI 0 ∧ mput f a (nI q).toInt64 2 2 (a + 1) = nI q := by
  obtain ⟨h1, h2⟩ := mb_100 ⟨q, hq⟩
  constructor
  · show upd (upd f (a + 0) (mbyte (nI q).toInt64 2 0)) (a + 1) (mbyte (nI q).toInt64 2 1) a = _
    rw [pk_un (by omega), Nat.add_zero, pk_us]; exact h1
  · show upd (upd f (a + 0) (mbyte (nI q).toInt64 2 0)) (a + 1) (mbyte (nI q).toInt64 2 1) (a + 1) = _
    rw [pk_us]; exact h2
theorem mhead_k (f : Nat → Int32) (a : Nat) (x y z : Int32) : mhead f a x y z a = x &&& 255 := by
  unfold mhead
  rw [pk_un (by omega), mput_lo _ _ _ _ (by omega), pk_us]
theorem mhead_q (f : Nat → Int32) (a : Nat) (x z : Int32) (q : Nat) (hq : q < 100) : mhead f a x (nI q) z (a + 1) = nI 0 ∧ mhead f a x (nI q) z (a + 1 + 1) = nI q := by
  unfold mhead
  obtain ⟨h1, h2⟩ := put2 (upd f a (x &&& 255)) (a + 1) q hq
  constructor
  · rw [pk_un (by omega)]; exact h1
  · rw [pk_un (by omega)]; exact h2
theorem b64 : ∀ i : Fin 64, nI i.val &&& 255 = nI i.val := by decide +kernel
theorem edge_r (i L : Nat) (hi : i < 64) (D : Nat → Int32) (y z w9 : Int32) (v9 : Int64) : (mput (upd (upd (upd (mhead D (32 + L) 2 w9 3) (32 + L + 4) (nI i &&& 255)) (32 + L + 4 + 1) (y &&& 255)) (32 + L + 4 + 2) (z &&& 255)) (32 + L + 4 + 3) v9 8 8) (32 + L) = 2 ∧ (mput (upd (upd (upd (mhead D (32 + L) 2 w9 3) (32 + L + 4) (nI i &&& 255)) (32 + L + 4 + 1) (y &&& 255)) (32 + L + 4 + 2) (z &&& 255)) (32 + L + 4 + 3) v9 8 8) (32 + L + 4) = nI i := by
  constructor
  · rw [mput_lo _ _ _ _ (by omega), pk_un (by omega), pk_un (by omega), pk_un (by omega), mhead_k]; rfl
  · rw [mput_lo _ _ _ _ (by omega), pk_un (by omega), pk_un (by omega), pk_us]; exact b64 ⟨i, hi⟩
set_option maxRecDepth 100000 in
set_option maxHeartbeats 400000 in
theorem lb_edge (S : gS) (x y z : Int32) (t : Nat) (h : RI S t) (ht : t < 512) (tv : Int32) (htv : ¬ tv ≤ 0) : G MX5_edge (3, 89) 40 [some (.ref 28), some (.int x), some (.int y), some (.int z), none] [] (wRf Γ τ (mS S 28 0 tv)) 0 0 (gN (wRf Γ τ) fun v S' => (∃ r : Int32, v = .int r) ∧ RI S' (t + 1)) := by
  refine g_aload_n dX5_edge_40 rfl rfl ?_
  refine g_get dX5_edge_41 flX5_75 rfl rfl ?_
  rw [mS_same]
  refine g_if_le (tgt := 49) dX5_edge_44 (by decide) (fun c44 => ?_) (fun c44 => ?_)
  · exact absurd c44 htv
  · refine g_iconst (v := 0) dX5_edge_47 (by decide) ?_
    refine g_iret dX5_edge_48 rfl ⟨_, _, rfl, rfl, ?_⟩
    exact ⟨⟨_, rfl⟩, h.th _⟩
set_option maxRecDepth 100000 in
set_option maxHeartbeats 400000 in
theorem lg_edge (S : gS) (x y z : Int32) (t : Nat) (h : RI S t) (ht : t < 512) (hx : inN x) (ho : S.1 28 3 = 1) : G MX5_edge (3, 89) 40 [some (.ref 28), some (.int x), some (.int y), some (.int z), none] [] (wRf Γ τ (mS S 28 0 0)) 0 0 (gN (wRf Γ τ) fun v S' => (∃ r : Int32, v = .int r) ∧ RI S' (t + 1)) := by
  obtain ⟨w, L, V, n, c, rm, h⟩ := h
  have hb := h.2 ho
  have hL := h.1.2.1.2.1
  have hw := h.1.2.1.1
  have h9 : (mS S 28 0 0).1 28 9 = nI L := h.1.1.2.1
  have h7 : (mS S 28 0 0).1 28 7 = nI w := h.1.1.1
  have hR : R0 (mS S 28 0 0) w L V n c rm := h.1
  obtain ⟨i, hi, rfl⟩ := inNi hx
  refine g_aload_n dX5_edge_40 rfl rfl ?_
  refine g_get dX5_edge_41 flX5_75 rfl rfl ?_
  rw [mS_same]
  refine g_if_le (tgt := 49) dX5_edge_44 (by decide) (fun c44 => ?_) (fun c44 => ?_)
  · refine g_aload_n dX5_edge_49 rfl rfl ?_
    refine g_iload_n dX5_edge_50 rfl rfl ?_
    refine g_iload_n dX5_edge_51 rfl rfl ?_
    refine cV2N (fun _ _ => rfl) dX5_edge_52 mlX5_148 imX5_hasNow seX5_hasNow rfl rfl (m_hasNow _ i _ hi) (by decide) (Nat.le_of_ble_eq_true rfl) (Nat.le_of_ble_eq_true rfl) (Nat.le_of_ble_eq_true rfl) ?_
    rintro _ _ ⟨⟨hn, rfl, -⟩, rfl⟩
    refine g_iload_n dX5_edge_55 rfl rfl ?_
    refine g_icmp_ne (tgt := 61) dX5_edge_56 (by decide) (fun c56 => ?_) (fun c56 => ?_)
    · refine g_aload_n dX5_edge_61 rfl rfl ?_
      refine g_bipush (v := 15) dX5_edge_62 (by decide) ?_
      refine cV1N (fun _ _ => rfl) dX5_edge_64 mlX5_156 imX5_fits seX5_fits rfl rfl (m_fits _ _) (by decide) (Nat.le_of_ble_eq_true rfl) (Nat.le_of_ble_eq_true rfl) (Nat.le_of_ble_eq_true rfl) ?_
      rintro _ _ ⟨rfl, rfl⟩
      refine g_if_ne (tgt := 73) dX5_edge_67 (by decide) (fun c67 => ?_) (fun c67 => ?_)
      · have hf : L + 15 ≤ 24000 := fitL (k := 15) (by have q := c67; rw [h9] at q; exact q) (by omega)
        refine g_aload_n dX5_edge_73 rfl rfl ?_
        refine g_iconst (v := 2) dX5_edge_74 (by decide) ?_
        refine g_aload_n dX5_edge_75 rfl rfl ?_
        refine g_get dX5_edge_76 flX5_104 rfl rfl ?_
        refine g_iconst (v := 3) dX5_edge_79 (by decide) ?_
        refine cV3N (fun _ _ => rfl) dX5_edge_80 mlX5_159 imX5_begin_ seX5_begin_ rfl rfl (m_begin_ _ L w _ _ _ h9 (by omega) h7 (by omega)) (by decide) (Nat.le_of_ble_eq_true rfl) (Nat.le_of_ble_eq_true rfl) (Nat.le_of_ble_eq_true rfl) ?_
        rintro _ S1 ⟨rfl, hS1⟩
        refine g_istore dX5_edge_83 (by decide) ?_
        refine g_aload_n dX5_edge_85 rfl rfl ?_
        refine g_iload dX5_edge_86 rfl ?_
        refine g_iload_n dX5_edge_88 rfl rfl ?_
        refine cV20 (fun _ _ => rfl) dX5_edge_89 mlX5_118 imX5_put seX5_put rfl rfl (m_put _ (32 + L + 4) (w + 4) _ (by omega) hS1.1 (by omega)) (by decide) (Nat.le_of_ble_eq_true rfl) (Nat.le_of_ble_eq_true rfl) (Nat.le_of_ble_eq_true rfl) ?_
        rintro S2 hS2
        refine g_aload_n dX5_edge_92 rfl rfl ?_
        refine g_iload dX5_edge_93 rfl ?_
        refine g_iconst (v := 1) dX5_edge_95 (by decide) ?_
        refine g_iadd dX5_edge_96 ?_
        refine g_eqi (y := nI (32 + L + 4 + 1)) (nI_1 _) ?_
        refine g_iload_n dX5_edge_97 rfl rfl ?_
        refine cV20 (fun _ _ => rfl) dX5_edge_98 mlX5_118 imX5_put seX5_put rfl rfl (m_put _ (32 + L + 4 + 1) (w + 4 + 1) _ (by omega) hS2.1 (by omega)) (by decide) (Nat.le_of_ble_eq_true rfl) (Nat.le_of_ble_eq_true rfl) (Nat.le_of_ble_eq_true rfl) ?_
        rintro S3 hS3
        refine g_aload_n dX5_edge_101 rfl rfl ?_
        refine g_iload dX5_edge_102 rfl ?_
        refine g_iconst (v := 2) dX5_edge_104 (by decide) ?_
        refine g_iadd dX5_edge_105 ?_
        refine g_eqi (y := nI (32 + L + 4 + 2)) (nI_add _ 2) ?_
        refine g_iload_n dX5_edge_106 rfl rfl ?_
        refine g_if_eq (tgt := 114) dX5_edge_107 (by decide) (fun c107 => ?_) (fun c107 => ?_)
        · refine g_iconst (v := 0) dX5_edge_114 (by decide) ?_
          refine cV20 (fun _ _ => rfl) dX5_edge_115 mlX5_118 imX5_put seX5_put rfl rfl (m_put _ (32 + L + 4 + 2) (w + 4 + 1 + 1) _ (by omega) hS3.1 (by omega)) (by decide) (Nat.le_of_ble_eq_true rfl) (Nat.le_of_ble_eq_true rfl) (Nat.le_of_ble_eq_true rfl) ?_
          rintro S4 hS4
          have e4 := hS4.2.1
          rw [hS3.2.1, hS2.2.1, hS1.2.1] at e4
          have hl4 : S4.1 28 9 = nI L := (hS4.2.2.1 9 (by decide)).trans ((hS3.2.2.1 9 (by decide)).trans ((hS2.2.2.1 9 (by decide)).trans ((hS1.2.2.1 9 (by decide)).trans h9)))
          refine g_aload_n dX5_edge_118 rfl rfl ?_
          refine g_iconst (v := 3) dX5_edge_119 (by decide) ?_
          refine cV10 (fun _ _ => rfl) dX5_edge_120 mlX5_163 imX5_end seX5_end rfl rfl (m_end _ L (w + 4 + 1 + 1 + 1) 3 (fun S' => R0 S' (w + 4 + 1 + 1 + 1 + 8) (L + 15) V n c rm) hl4 (by omega) hS4.1 (by omega) (fun S5 hS5 => (n_take2 S5 (w + 4 + 1 + 1 + 1 + 8) L V n c rm (hR.wr ((((hS1.tr hS2).tr hS3).tr hS4).tr hS5) (by omega)) hf i (by rw [hS5.2.1, e4]; exact (edge_r i L hi _ _ _ _ _).1) (by rw [hS5.2.1, e4]; exact (edge_r i L hi _ _ _ _ _).2) hi).mono (fun r9 w9 h9 => by obtain ⟨S9, q1, q2, q3⟩ := h9; exact ⟨S9, q1, q2, q3.1⟩))) (by decide) (Nat.le_of_ble_eq_true rfl) (Nat.le_of_ble_eq_true rfl) (Nat.le_of_ble_eq_true rfl) ?_
          rintro S6 hS6
          refine g_iconst (v := 1) dX5_edge_123 (by decide) ?_
          refine g_iret dX5_edge_124 rfl ⟨_, _, rfl, rfl, ?_⟩
          exact ⟨⟨_, rfl⟩, w + 4 + 1 + 1 + 1 + 8, L + 15, V, n, c, rm, hS6, fun _ => by omega⟩
        · refine g_iconst (v := 1) dX5_edge_110 (by decide) ?_
          refine g_goto (tgt := 115) dX5_edge_111 (by decide) ?_
          refine cV20 (fun _ _ => rfl) dX5_edge_115 mlX5_118 imX5_put seX5_put rfl rfl (m_put _ (32 + L + 4 + 2) (w + 4 + 1 + 1) _ (by omega) hS3.1 (by omega)) (by decide) (Nat.le_of_ble_eq_true rfl) (Nat.le_of_ble_eq_true rfl) (Nat.le_of_ble_eq_true rfl) ?_
          rintro S4 hS4
          have e4 := hS4.2.1
          rw [hS3.2.1, hS2.2.1, hS1.2.1] at e4
          have hl4 : S4.1 28 9 = nI L := (hS4.2.2.1 9 (by decide)).trans ((hS3.2.2.1 9 (by decide)).trans ((hS2.2.2.1 9 (by decide)).trans ((hS1.2.2.1 9 (by decide)).trans h9)))
          refine g_aload_n dX5_edge_118 rfl rfl ?_
          refine g_iconst (v := 3) dX5_edge_119 (by decide) ?_
          refine cV10 (fun _ _ => rfl) dX5_edge_120 mlX5_163 imX5_end seX5_end rfl rfl (m_end _ L (w + 4 + 1 + 1 + 1) 3 (fun S' => R0 S' (w + 4 + 1 + 1 + 1 + 8) (L + 15) V n c rm) hl4 (by omega) hS4.1 (by omega) (fun S5 hS5 => (n_take2 S5 (w + 4 + 1 + 1 + 1 + 8) L V n c rm (hR.wr ((((hS1.tr hS2).tr hS3).tr hS4).tr hS5) (by omega)) hf i (by rw [hS5.2.1, e4]; exact (edge_r i L hi _ _ _ _ _).1) (by rw [hS5.2.1, e4]; exact (edge_r i L hi _ _ _ _ _).2) hi).mono (fun r9 w9 h9 => by obtain ⟨S9, q1, q2, q3⟩ := h9; exact ⟨S9, q1, q2, q3.1⟩))) (by decide) (Nat.le_of_ble_eq_true rfl) (Nat.le_of_ble_eq_true rfl) (Nat.le_of_ble_eq_true rfl) ?_
          rintro S6 hS6
          refine g_iconst (v := 1) dX5_edge_123 (by decide) ?_
          refine g_iret dX5_edge_124 rfl ⟨_, _, rfl, rfl, ?_⟩
          exact ⟨⟨_, rfl⟩, w + 4 + 1 + 1 + 1 + 8, L + 15, V, n, c, rm, hS6, fun _ => by omega⟩
      · refine g_bipush (v := (-3)) dX5_edge_70 (by decide) ?_
        refine g_iret dX5_edge_72 rfl ⟨_, _, rfl, rfl, ?_⟩
        exact ⟨⟨_, rfl⟩, w, L, V, n, c, rm, (h.th 0).up (by omega)⟩
    · refine g_iconst (v := 0) dX5_edge_59 (by decide) ?_
      refine g_iret dX5_edge_60 rfl ⟨_, _, rfl, rfl, ?_⟩
      exact ⟨⟨_, rfl⟩, w, L, V, n, c, rm, (h.th 0).up (by omega)⟩
  · exact absurd (by decide) c44
set_option maxRecDepth 100000 in
set_option maxHeartbeats 400000 in
theorem n_edge (S : gS) (x y z : Int32) (t : Nat) (h : RI S t) (ht : t < 512) : gCt MX5_edge (3, 89) 0 0 [.ref 28, .int x, .int y, .int z] (wRf Γ τ S) (gN (wRf Γ τ) fun v S' => (∃ r : Int32, v = .int r) ∧ RI S' (t + 1)) := by
  refine gCt.of (ls := [some (.ref 28), some (.int x), some (.int y), some (.int z), none]) 1 (by decide) rfl (Nat.le_of_ble_eq_true rfl) ?_
  refine g_aload_n dX5_edge_0 rfl rfl ?_
  refine g_aload_n dX5_edge_1 rfl rfl ?_
  refine g_get dX5_edge_2 flX5_94 rfl rfl ?_
  refine g_if_ne (tgt := 12) dX5_edge_5 (by decide) (fun c5 => ?_) (fun c5 => ?_)
  · refine g_iload_n dX5_edge_12 rfl rfl ?_
    refine g_iconst (v := 0) dX5_edge_13 (by decide) ?_
    refine g_bipush (v := 63) dX5_edge_14 (by decide) ?_
    refine cS3N (fun _ _ => rfl) dX5_edge_16 mlX5_133 isX5_in (m_in _ _ _ _) (by decide) (Nat.le_of_ble_eq_true rfl) (Nat.le_of_ble_eq_true rfl) (Nat.le_of_ble_eq_true rfl) ?_
    rintro _ _ ⟨rfl, rfl⟩
    refine g_if_eq (tgt := 32) dX5_edge_19 (by decide) (fun c19 => ?_) (fun c19 => ?_)
    · refine g_iconst (v := 2) dX5_edge_32 (by decide) ?_
      refine g_goto (tgt := 37) dX5_edge_33 (by decide) ?_
      refine p_put dX5_edge_37 fpX5_75 rfl (Nat.le_of_ble_eq_true rfl) (fun _ => rfl) (fun _ => rfl) (by with_reducible first | exact wS_28_0 _ _ _ _) ?_
      exact lb_edge S x y z t h ht 2 (by decide)
    · refine g_iload_n dX5_edge_22 rfl rfl ?_
      refine g_iconst (v := 0) dX5_edge_23 (by decide) ?_
      refine g_bipush (v := 63) dX5_edge_24 (by decide) ?_
      refine cS3N (fun _ _ => rfl) dX5_edge_26 mlX5_133 isX5_in (m_in _ _ _ _) (by decide) (Nat.le_of_ble_eq_true rfl) (Nat.le_of_ble_eq_true rfl) (Nat.le_of_ble_eq_true rfl) ?_
      rintro _ _ ⟨rfl, rfl⟩
      refine g_if_ne (tgt := 36) dX5_edge_29 (by decide) (fun c29 => ?_) (fun c29 => ?_)
      · refine g_iconst (v := 0) dX5_edge_36 (by decide) ?_
        refine p_put dX5_edge_37 fpX5_75 rfl (Nat.le_of_ble_eq_true rfl) (fun _ => rfl) (fun _ => rfl) (by with_reducible first | exact wS_28_0 _ _ _ _) ?_
        exact lg_edge S x y z t h ht (in63n c19) (by obtain ⟨w, L, V, n, c, rm, h⟩ := h; exact h.1.2.2.1.resolve_left c5)
      · refine g_iconst (v := 2) dX5_edge_32 (by decide) ?_
        refine g_goto (tgt := 37) dX5_edge_33 (by decide) ?_
        refine p_put dX5_edge_37 fpX5_75 rfl (Nat.le_of_ble_eq_true rfl) (fun _ => rfl) (fun _ => rfl) (by with_reducible first | exact wS_28_0 _ _ _ _) ?_
        exact lb_edge S x y z t h ht 2 (by decide)
  · refine g_iconst (v := 1) dX5_edge_8 (by decide) ?_
    refine g_goto (tgt := 37) dX5_edge_9 (by decide) ?_
    refine p_put dX5_edge_37 fpX5_75 rfl (Nat.le_of_ble_eq_true rfl) (fun _ => rfl) (fun _ => rfl) (by with_reducible first | exact wS_28_0 _ _ _ _) ?_
    exact lb_edge S x y z t h ht 1 (by decide)
set_option maxRecDepth 100000 in
set_option maxHeartbeats 400000 in
theorem lb_drop (S : gS) (x : Int32) (V0 c0 : Nat) (h0 : Mr S V0 c0) (t : Nat) (h : RI S t) (ht : t < 512) (tv : Int32) (htv : ¬ tv ≤ 0) : G MX5_drop (3, 89) 28 [some (.ref 28), some (.int x), none] [] (wRf Γ τ (mS S 28 0 tv)) 0 0 (gN (wRf Γ τ) fun v S' => (∃ r : Int32, v = .int r) ∧ RI S' (t + 1)) := by
  refine g_aload_n dX5_drop_28 rfl rfl ?_
  refine g_get dX5_drop_29 flX5_75 rfl rfl ?_
  rw [mS_same]
  refine g_if_le (tgt := 37) dX5_drop_32 (by decide) (fun c32 => ?_) (fun c32 => ?_)
  · exact absurd c32 htv
  · refine g_iconst (v := 0) dX5_drop_35 (by decide) ?_
    refine g_iret dX5_drop_36 rfl ⟨_, _, rfl, rfl, ?_⟩
    exact ⟨⟨_, rfl⟩, h.th _⟩
set_option maxRecDepth 100000 in
set_option maxHeartbeats 400000 in
theorem lg_drop (S : gS) (x : Int32) (V0 c0 : Nat) (h0 : Mr S V0 c0) (t : Nat) (h : RI S t) (ht : t < 512) (hx : ∃ i : Nat, i < V0 ∧ x = nI i) (ho : S.1 28 3 = 1) : G MX5_drop (3, 89) 28 [some (.ref 28), some (.int x), none] [] (wRf Γ τ (mS S 28 0 0)) 0 0 (gN (wRf Γ τ) fun v S' => (∃ r : Int32, v = .int r) ∧ RI S' (t + 1)) := by
  obtain ⟨w, L, V, n, c, rm, h⟩ := h
  have hb := h.2 ho
  have hL := h.1.2.1.2.1
  have hw := h.1.2.1.1
  have h9 : (mS S 28 0 0).1 28 9 = nI L := h.1.1.2.1
  have h7 : (mS S 28 0 0).1 28 7 = nI w := h.1.1.1
  have hR : R0 (mS S 28 0 0) w L V n c rm := h.1
  obtain ⟨i, hi, rfl⟩ := hx
  have hV0 := h0.2.1
  refine g_aload_n dX5_drop_28 rfl rfl ?_
  refine g_get dX5_drop_29 flX5_75 rfl rfl ?_
  rw [mS_same]
  refine g_if_le (tgt := 37) dX5_drop_32 (by decide) (fun c32 => ?_) (fun c32 => ?_)
  · refine g_aload_n dX5_drop_37 rfl rfl ?_
    refine g_bipush (v := 12) dX5_drop_38 (by decide) ?_
    refine cV1N (fun _ _ => rfl) dX5_drop_40 mlX5_156 imX5_fits seX5_fits rfl rfl (m_fits _ _) (by decide) (Nat.le_of_ble_eq_true rfl) (Nat.le_of_ble_eq_true rfl) (Nat.le_of_ble_eq_true rfl) ?_
    rintro _ _ ⟨rfl, rfl⟩
    refine g_if_ne (tgt := 49) dX5_drop_43 (by decide) (fun c43 => ?_) (fun c43 => ?_)
    · have hf : L + 12 ≤ 24000 := fitL (k := 12) (by have q := c43; rw [h9] at q; exact q) (by omega)
      refine g_aload_n dX5_drop_49 rfl rfl ?_
      refine cV0N (fun _ _ => rfl) dX5_drop_50 mlX5_184 imX5_namedMany seX5_namedMany rfl rfl (n_namedMany _ V hR.1.2.2.1 hR.2.1.2.2.1) (by decide) (Nat.le_of_ble_eq_true rfl) (Nat.le_of_ble_eq_true rfl) (Nat.le_of_ble_eq_true rfl) ?_
      rintro _ _ ⟨⟨nm, rfl⟩, rfl⟩
      refine g_istore_n dX5_drop_53 rfl (by decide) ?_
      refine g_aload_n dX5_drop_54 rfl rfl ?_
      refine g_iconst (v := 5) dX5_drop_55 (by decide) ?_
      refine g_iload_n dX5_drop_56 rfl rfl ?_
      refine g_iconst (v := 0) dX5_drop_57 (by decide) ?_
      refine cV3N (fun _ _ => rfl) dX5_drop_58 mlX5_159 imX5_begin_ seX5_begin_ rfl rfl (m_begin_ _ L w _ _ _ h9 (by omega) h7 (by omega)) (by decide) (Nat.le_of_ble_eq_true rfl) (Nat.le_of_ble_eq_true rfl) (Nat.le_of_ble_eq_true rfl) ?_
      rintro _ S1 ⟨rfl, hS1⟩
      refine g_pop dX5_drop_61 rfl ?_
      refine g_aload_n dX5_drop_62 rfl rfl ?_
      refine g_iconst (v := 0) dX5_drop_63 (by decide) ?_
      refine cV10 (fun _ _ => rfl) dX5_drop_64 mlX5_163 imX5_end seX5_end rfl rfl (m_end _ L (w + 4) 0 (fun S' => R0 S' (w + 4 + 8) (L + 12) V n c rm) ((hS1.2.2.1 9 (by decide)).trans h9) (by omega) hS1.1 (by omega) (fun S5 hS5 => (n_take5 S5 (w + 4 + 8) L V n c rm (hR.wr (hS1.tr hS5) (by omega)) hf i (by rw [hS5.2.1, mput_lo _ _ _ _ (by omega), hS1.2.1, mhead_k]; rfl) (num2 (i := 0) (j := i) (by omega) (by omega) (by rw [hS5.2.1, mput_lo _ _ _ _ (by omega), hS1.2.1]; exact (mhead_q _ _ _ _ i (by omega)).1) (by rw [hS5.2.1, mput_lo _ _ _ _ (by omega), hS1.2.1]; exact (mhead_q _ _ _ _ i (by omega)).2) |>.trans (by rw [show 256 * 0 + i = i by omega])) (by omega)).mono (fun r9 w9 h9 => by obtain ⟨S9, q1, q2, q3⟩ := h9; exact ⟨S9, q1, q2, q3.1⟩))) (by decide) (Nat.le_of_ble_eq_true rfl) (Nat.le_of_ble_eq_true rfl) (Nat.le_of_ble_eq_true rfl) ?_
      rintro S6 hS6
      refine g_iload_n dX5_drop_67 rfl rfl ?_
      refine g_aload_n dX5_drop_68 rfl rfl ?_
      refine cV0N (fun _ _ => rfl) dX5_drop_69 mlX5_184 imX5_namedMany seX5_namedMany rfl rfl (n_namedMany _ V hS6.1.2.2.1 hS6.2.1.2.2.1) (by decide) (Nat.le_of_ble_eq_true rfl) (Nat.le_of_ble_eq_true rfl) (Nat.le_of_ble_eq_true rfl) ?_
      rintro _ _ ⟨⟨nm2, rfl⟩, rfl⟩
      refine g_isub dX5_drop_72 ?_
      refine g_iret dX5_drop_73 rfl ⟨_, _, rfl, rfl, ?_⟩
      exact ⟨⟨_, rfl⟩, w + 4 + 8, L + 12, V, n, c, rm, hS6, fun _ => by omega⟩
    · refine g_bipush (v := (-3)) dX5_drop_46 (by decide) ?_
      refine g_iret dX5_drop_48 rfl ⟨_, _, rfl, rfl, ?_⟩
      exact ⟨⟨_, rfl⟩, w, L, V, n, c, rm, (h.th 0).up (by omega)⟩
  · exact absurd (by decide) c32
set_option maxRecDepth 100000 in
set_option maxHeartbeats 400000 in
theorem n_drop (S : gS) (x : Int32) (V0 c0 : Nat) (h0 : Mr S V0 c0) (t : Nat) (h : RI S t) (ht : t < 512) : gCt MX5_drop (3, 89) 0 0 [.ref 28, .int x] (wRf Γ τ S) (gN (wRf Γ τ) fun v S' => (∃ r : Int32, v = .int r) ∧ RI S' (t + 1)) := by
  refine gCt.of (ls := [some (.ref 28), some (.int x), none]) 1 (by decide) rfl (Nat.le_of_ble_eq_true rfl) ?_
  refine g_aload_n dX5_drop_0 rfl rfl ?_
  refine g_aload_n dX5_drop_1 rfl rfl ?_
  refine g_get dX5_drop_2 flX5_94 rfl rfl ?_
  refine g_if_ne (tgt := 12) dX5_drop_5 (by decide) (fun c5 => ?_) (fun c5 => ?_)
  · refine g_aload_n dX5_drop_12 rfl rfl ?_
    refine g_iload_n dX5_drop_13 rfl rfl ?_
    refine cV1N (fun _ _ => rfl) dX5_drop_14 mlX5_152 imX5_isThere seX5_isThere rfl rfl (n_isThere _ _ V0 h0.1 h0.2.1) (by decide) (Nat.le_of_ble_eq_true rfl) (Nat.le_of_ble_eq_true rfl) (Nat.le_of_ble_eq_true rfl) ?_
    rintro _ _ ⟨⟨it, rfl, it01, hit⟩, rfl⟩
    refine g_if_ne (tgt := 24) dX5_drop_17 (by decide) (fun c17 => ?_) (fun c17 => ?_)
    · refine g_iconst (v := 0) dX5_drop_24 (by decide) ?_
      refine p_put dX5_drop_25 fpX5_75 rfl (Nat.le_of_ble_eq_true rfl) (fun _ => rfl) (fun _ => rfl) (by with_reducible first | exact wS_28_0 _ _ _ _) ?_
      exact lg_drop S x V0 c0 h0 t h ht (hit c17) (by obtain ⟨w, L, V, n, c, rm, h⟩ := h; exact h.1.2.2.1.resolve_left c5)
    · refine g_iconst (v := 2) dX5_drop_20 (by decide) ?_
      refine g_goto (tgt := 25) dX5_drop_21 (by decide) ?_
      refine p_put dX5_drop_25 fpX5_75 rfl (Nat.le_of_ble_eq_true rfl) (fun _ => rfl) (fun _ => rfl) (by with_reducible first | exact wS_28_0 _ _ _ _) ?_
      exact lb_drop S x V0 c0 h0 t h ht 2 (by decide)
  · refine g_iconst (v := 1) dX5_drop_8 (by decide) ?_
    refine g_goto (tgt := 25) dX5_drop_9 (by decide) ?_
    refine p_put dX5_drop_25 fpX5_75 rfl (Nat.le_of_ble_eq_true rfl) (fun _ => rfl) (fun _ => rfl) (by with_reducible first | exact wS_28_0 _ _ _ _) ?_
    exact lb_drop S x V0 c0 h0 t h ht 1 (by decide)
end
