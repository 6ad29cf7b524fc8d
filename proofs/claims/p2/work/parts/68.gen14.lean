section
variable {Γ : gS} {τ : gW}
/-- how many are new below g -/
def vcn (N : Nat → Int32) : Nat → Nat
  | 0 => 0
  | g + 1 => vcn N g + (if N g = 0 then 0 else 1)
theorem vcn_cg {N M : Nat → Int32} {g : Nat} (h : ∀ i, i < g → N i = M i) : vcn N g = vcn M g := by
  induction g with
  | zero => rfl
  | succ g ih =>
    show vcn N g + (if N g = 0 then 0 else 1) = vcn M g + (if M g = 0 then 0 else 1)
    rw [ih (fun i hi => h i (by omega)), h g (by omega)]
theorem vcn_s0 {N : Nat → Int32} {g : Nat} (h : N g = 0) : vcn N (g + 1) = vcn N g := by
  show vcn N g + (if N g = 0 then 0 else 1) = _
  rw [if_pos h, Nat.add_zero]
theorem vcn_s1 {N : Nat → Int32} {g : Nat} (h : ¬ N g = 0) : vcn N (g + 1) = vcn N g + 1 := by
  show vcn N g + (if N g = 0 then 0 else 1) = _
  rw [if_neg h]
theorem vcn_le (N : Nat → Int32) (g : Nat) : vcn N g ≤ g := by
  induction g with
  | zero => exact Nat.le_refl _
  | succ g ih =>
    show vcn N g + (if N g = 0 then 0 else 1) ≤ g + 1
    split <;> omega
theorem vcn_mo (N : Nat → Int32) (g : Nat) : ∀ k : Nat, vcn N g ≤ vcn N (g + k) := by
  intro k
  induction k with
  | zero => exact Nat.le_refl _
  | succ k ih => exact Nat.le_trans ih (Nat.le_add_right _ _)
/-- the numbers below g: each is of a chunk that is there, or of one that is new at a place a .. b - 1 -/
def GD (T : gS) (a b x : Nat) : Prop := ∃ q : Nat, q < 65536 ∧ T.2.1 39 x = nI q ∧ (¬ T.2.1 33 q = -1 ∨ ∃ y, a ≤ y ∧ y < b ∧ ¬ T.2.1 40 y = 0 ∧ T.2.1 39 y = nI q)
def NG (T : gS) (a b g : Nat) : Prop := ∀ x, x < g → GD T a b x
theorem GD.up {T : gS} {a b x : Nat} (h : GD T a b x) : GD T a (b + 1) x := by
  obtain ⟨q, q1, q2, q3⟩ := h
  exact ⟨q, q1, q2, q3.imp id (fun ⟨y, y1, y2, y3⟩ => ⟨y, y1, by omega, y3⟩)⟩
theorem NG.up {T : gS} {a b g : Nat} (h : NG T a b g) (hg : GD T a (b + 1) g) : NG T a (b + 1) (g + 1) := by
  intro x hx
  by_cases e : x = g
  · rw [e]; exact hg
  · exact (h x (by omega)).up
theorem GD.cg {T T' : gS} {a b x x' : Nat} (h : GD T a b x) (e33 : T'.2.1 33 = T.2.1 33) (ex : T'.2.1 39 x' = T.2.1 39 x) (e39 : ∀ i, i < b → T'.2.1 39 i = T.2.1 39 i) (e40 : ∀ i, i < b → T'.2.1 40 i = T.2.1 40 i) : GD T' a b x' := by
  obtain ⟨q, q1, q2, q3⟩ := h
  refine ⟨q, q1, by rw [ex]; exact q2, ?_⟩
  rcases q3 with z | ⟨y, y1, y2, y3, y4⟩
  · exact Or.inl (by rw [e33]; exact z)
  · exact Or.inr ⟨y, y1, y2, by rw [e40 y y2]; exact y3, by rw [e39 y y2]; exact y4⟩
theorem NG.cg {T T' : gS} {a g : Nat} (h : NG T a g g) (e33 : T'.2.1 33 = T.2.1 33) (e39 : ∀ i, i < g → T'.2.1 39 i = T.2.1 39 i) (e40 : ∀ i, i < g → T'.2.1 40 i = T.2.1 40 i) : NG T' a g g :=
  fun x hx => (h x hx).cg e33 (e39 x hx) e39 e40
def VS (S T : gS) : Prop := T.1 = S.1 ∧ ∀ k, k ≠ 39 → k ≠ 40 → T.2.1 k = S.2.1 k
theorem VS.a {S T : gS} (h : VS S T) (k : Nat) (hk : k = 39 ∨ k = 40) (F : Nat → Int32) : VS S (mA T k F) :=
  ⟨h.1, fun x x1 x2 => by rw [mAk3 _ _ _ _ (by omega)]; exact h.2 x x1 x2⟩
theorem VS.r0 {S T : gS} {w L V n c rm : Nat} (k : VS S T) (h : R0 S w L V n c rm) : R0 T w L V n c rm := by
  obtain ⟨k1, k2⟩ := k
  unfold R0 PL SL PT
  rw [k1, k2 29 (by decide) (by decide), k2 30 (by decide) (by decide), k2 31 (by decide) (by decide), k2 33 (by decide) (by decide), k2 36 (by decide) (by decide)]
  exact h
theorem v_r12 {T : gS} {g : Nat} (r o : Int32) (ho : o = 0) (hN : NG T 0 g g) : NG (mA (mA T 39 (upd (T.2.1 39) g r)) 40 (upd (T.2.1 40) g o)) 0 g g ∧ (mA (mA T 39 (upd (T.2.1 39) g r)) 40 (upd (T.2.1 40) g o)).2.1 40 g = 0 ∧ (mA (mA T 39 (upd (T.2.1 39) g r)) 40 (upd (T.2.1 40) g o)).2.1 39 g = r ∧ vcn ((mA (mA T 39 (upd (T.2.1 39) g r)) 40 (upd (T.2.1 40) g o)).2.1 40) g = vcn (T.2.1 40) g ∧ (mA (mA T 39 (upd (T.2.1 39) g r)) 40 (upd (T.2.1 40) g o)).2.1 33 = T.2.1 33 := by
  have e33 : (mA (mA T 39 (upd (T.2.1 39) g r)) 40 (upd (T.2.1 40) g o)).2.1 33 = T.2.1 33 := by rw [mAk3 _ _ _ _ (by decide), mAk3 _ _ _ _ (by decide)]
  have e39 : (mA (mA T 39 (upd (T.2.1 39) g r)) 40 (upd (T.2.1 40) g o)).2.1 39 = upd (T.2.1 39) g r := by rw [mAk3 _ _ _ _ (by decide), mAs3]
  have e40 : (mA (mA T 39 (upd (T.2.1 39) g r)) 40 (upd (T.2.1 40) g o)).2.1 40 = upd (T.2.1 40) g o := mAs3 _ _ _
  refine ⟨hN.cg e33 (fun i hi => by rw [e39, pk_un (by omega)]) (fun i hi => by rw [e40, pk_un (by omega)]), by rw [e40, pk_us]; exact ho, by rw [e39, pk_us], ?_, e33⟩
  rw [e40]
  exact vcn_cg (fun i hi => pk_un (by omega))
theorem v_cp {T : gS} {g e : Nat} (hN : NG T 0 g g) (he : e < g) : NG (mA T 39 (upd (T.2.1 39) g (T.2.1 39 e))) 0 g g ∧ GD (mA T 39 (upd (T.2.1 39) g (T.2.1 39 e))) 0 g g := by
  have e33 : (mA T 39 (upd (T.2.1 39) g (T.2.1 39 e))).2.1 33 = T.2.1 33 := mAk3 _ _ _ _ (by decide)
  have e39 : (mA T 39 (upd (T.2.1 39) g (T.2.1 39 e))).2.1 39 = upd (T.2.1 39) g (T.2.1 39 e) := mAs3 _ _ _
  have e40 : (mA T 39 (upd (T.2.1 39) g (T.2.1 39 e))).2.1 40 = T.2.1 40 := mAk3 _ _ _ _ (by decide)
  exact ⟨hN.cg e33 (fun i hi => by rw [e39, pk_un (by omega)]) (fun i hi => by rw [e40]), (hN e he).cg e33 (by rw [e39, pk_us]) (fun i hi => by rw [e39, pk_un (by omega)]) (fun i hi => by rw [e40])⟩
theorem v_new {T : gS} {g q : Nat} (o : Int32) (ho : ¬ o = 0) (hq : q < 65536) (hN : NG T 0 g g) : NG (mA (mA T 39 (upd (T.2.1 39) g (nI q))) 40 (upd (T.2.1 40) g o)) 0 (g + 1) (g + 1) ∧ vcn ((mA (mA T 39 (upd (T.2.1 39) g (nI q))) 40 (upd (T.2.1 40) g o)).2.1 40) (g + 1) = vcn (T.2.1 40) g + 1 := by
  have e33 : (mA (mA T 39 (upd (T.2.1 39) g (nI q))) 40 (upd (T.2.1 40) g o)).2.1 33 = T.2.1 33 := by rw [mAk3 _ _ _ _ (by decide), mAk3 _ _ _ _ (by decide)]
  have e39 : (mA (mA T 39 (upd (T.2.1 39) g (nI q))) 40 (upd (T.2.1 40) g o)).2.1 39 = upd (T.2.1 39) g (nI q) := by rw [mAk3 _ _ _ _ (by decide), mAs3]
  have e40 : (mA (mA T 39 (upd (T.2.1 39) g (nI q))) 40 (upd (T.2.1 40) g o)).2.1 40 = upd (T.2.1 40) g o := mAs3 _ _ _
  have hN2 : NG (mA (mA T 39 (upd (T.2.1 39) g (nI q))) 40 (upd (T.2.1 40) g o)) 0 g g := hN.cg e33 (fun i hi => by rw [e39, pk_un (by omega)]) (fun i hi => by rw [e40, pk_un (by omega)])
  refine ⟨hN2.up ⟨q, hq, by rw [e39, pk_us], Or.inr ⟨g, Nat.zero_le _, by omega, by rw [e40, pk_us]; exact ho, by rw [e39, pk_us]⟩⟩, ?_⟩
  rw [e40, vcn_s1 (by rw [pk_us]; exact ho), vcn_cg (fun i hi => pk_un (by omega))]
theorem mnum2_cg {f f' : Nat → Int32} {a : Nat} (h0 : f a = f' a) (h1 : f (a + 1) = f' (a + 1)) : mnum f a 2 = mnum f' a 2 := by
  simp only [mnum, Nat.add_zero, h0, h1]
theorem mhead_n (f : Nat → Int32) (a : Nat) (x z : Int32) {q : Nat} (hq : q < 65536) : (mnum (mhead f a x (nI q) z) (a + 1) 2).toInt32 = nI q := by
  unfold mhead
  rw [mnum2_cg (f' := mput (upd f a (x &&& 255)) (a + 1) (nI q).toInt64 2 2) (pk_un (by omega)) (pk_un (by omega))]
  exact put_num _ _ q hq
theorem Mw.cs {S S' : gS} {w w' w2 : Nat} {f : Nat → Int32} (h : Mw S S' w w' f) (e : w' = w2) : Mw S S' w w2 f := e ▸ h
theorem v_t1 (T U S5 : gS) (w L V n c rm q : Nat) {f : Nat → Int32} {v5 : Int64} (h : R0 T w L V n c rm) (hU : Mw T U w (w + 4 + 64) f) (hS5 : Mw U S5 (w + 4 + 64) (w + 4 + 64 + 8) (mput (U.2.1 29) (32 + L + 4 + 64) v5 8 8)) (hf : L + 104 ≤ 24000) (hq : q < 65536) (hw : w + 80 ≤ 32192) (hc : c < 315) (hlo : ∀ j, j < 32 + L + 4 → f j = mhead (T.2.1 29) (32 + L) 1 (nI q) 64 j) : gCt MX5_take (1, 25) 0 0 [.ref 28, .int (nI (32 + L)), .int (nI 64)] (wRf Γ τ S5) (g0 (wRf Γ τ) fun S' => R0 S' (w + 4 + 64 + 8) (L + 76) V n (c + 1) rm ∧ ¬ S'.2.1 33 q = -1 ∧ (∀ j, ¬ T.2.1 33 j = -1 → ¬ S'.2.1 33 j = -1) ∧ S'.2.1 39 = T.2.1 39 ∧ S'.2.1 40 = T.2.1 40) := by
  have eF : ∀ j, j < 32 + L + 4 → S5.2.1 29 j = mhead (T.2.1 29) (32 + L) 1 (nI q) 64 j := fun j hj => by
    rw [hS5.2.1, mput_lo _ _ _ _ (by omega), hU.2.1]; exact hlo j hj
  have hTS := hU.tr hS5
  refine (n_take1 S5 (w + 4 + 64 + 8) L V n c rm (h.wr hTS (by omega)) (by omega) hc q ?_ ?_ hq).mono ?_
  · rw [eF _ (by omega), mhead_k]; rfl
  · rw [mnum2_cg (f' := mhead (T.2.1 29) (32 + L) 1 (nI q) 64) (eF _ (by omega)) (eF _ (by omega))]
    exact mhead_n _ _ _ _ hq
  · rintro r9 w9 ⟨S', e1, e2, e3, e4, e5, e6, -, -⟩
    have k : ∀ x, x ≠ 29 ∧ x ≠ 30 ∧ x ≠ 31 → S5.2.1 x = T.2.1 x := hTS.2.2.2.2.1
    refine ⟨S', e1, e2, e3, e4, fun j hj => e5 j (by rw [k 33 (by decide)]; exact hj), ?_, ?_⟩
    · rw [e6 39 (by decide), k 39 (by decide)]
    · rw [e6 40 (by decide), k 40 (by decide)]
theorem v_t3 (T U S5 : gS) (w L V n c rm : Nat) {f : Nat → Int32} {v5 : Int64} (h : R0 T w L V n c rm) (hU : Mw T U w (w + 4 + 16) f) (hS5 : Mw U S5 (w + 4 + 16) (w + 4 + 16 + 8) (mput (U.2.1 29) (32 + L + 4 + 16) v5 8 8)) (hf : L + 28 ≤ 24000) (hV : V < 100) (hN : NG T 8 8 8) (hw : w + 28 ≤ 32192) (hlo : ∀ j, j < 32 + L + 4 → f j = mhead (T.2.1 29) (32 + L) 3 (nI V) 16 j) (hnm : ∀ x, x < 8 → (mnum f (32 + L + 4 + 2 * x) 2).toInt32 = T.2.1 39 x) : gCt MX5_take (1, 25) 0 0 [.ref 28, .int (nI (32 + L)), .int (nI 16)] (wRf Γ τ S5) (g0 (wRf Γ τ) fun S' => R0 S' (w + 4 + 16 + 8) (L + 28) (V + 1) n c rm) := by
  have eF : ∀ j, j < 32 + L + 4 + 16 → S5.2.1 29 j = f j := fun j hj => by
    rw [hS5.2.1, mput_lo _ _ _ _ (by omega), hU.2.1]
  have hTS := hU.tr hS5
  refine (n_take3 S5 (w + 4 + 16 + 8) L V n c rm (h.wr hTS (by omega)) (by omega) hV ?_ ?_).mono ?_
  · rw [eF _ (by omega), hlo _ (by omega), mhead_k]; rfl
  · intro g hg
    obtain ⟨q, q1, q2, q3⟩ := hN g hg
    refine ⟨q, q1, ?_, ?_⟩
    · rw [mnum2_cg (f' := f) (eF _ (by omega)) (eF _ (by omega)), hnm g hg]; exact q2
    · rw [hTS.2.2.2.2.1 33 (by decide)]
      rcases q3 with z | ⟨y, y1, y2, -⟩
      · exact z
      · omega
  · rintro r9 w9 ⟨S', e1, e2, e3, -⟩
    exact ⟨S', e1, e2, e3⟩
set_option maxRecDepth 100000 in
set_option maxHeartbeats 400000 in
theorem ln_vin (T : gS) (w L g : Nat) (b : Int32) (F0 : Nat → Int32) (hw : w + 80 ≤ 32192) (hL : L + 76 ≤ 24000) (hg : g < 8) {Q : gR → gW → Prop} (kk : ∀ (U : gS) (f : Nat → Int32), Mw T U w (w + 4 + 64) f → (∀ j, j < 32 + L + 4 → f j = F0 j) → G MX5_version (3, 89) 241 [some (.ref 28), some (.int b), some (.int (nI g)), some (.int (nI (32 + L + 4))), some (.int (nI 8))] [] (wRf Γ τ U) 0 0 Q) : ∀ (m k : Nat) (U : gS) (f : Nat → Int32), k + m = 8 → Mw T U w (w + 4 + 8 * k) f → (∀ j, j < 32 + L + 4 → f j = F0 j) → G MX5_version (3, 89) 203 [some (.ref 28), some (.int b), some (.int (nI g)), some (.int (nI (32 + L + 4))), some (.int (nI k))] [] (wRf Γ τ U) 0 0 Q := by
  intro m
  induction m with
  | zero =>
    intro k U f hk hU hlo
    obtain rfl : k = 8 := by omega
    refine g_iload dX5_version_203 rfl ?_
    refine g_bipush (v := 8) dX5_version_205 (by decide) ?_
    refine g_icmp_ge (tgt := 241) dX5_version_207 (by decide) (fun c207 => ?_) (fun c207 => ?_)
    · exact kk U f hU hlo
    · exact absurd (show (8 : Int32) ≤ nI 8 by decide) c207
  | succ m ih =>
    intro k U f hk hU hlo
    refine g_iload dX5_version_203 rfl ?_
    refine g_bipush (v := 8) dX5_version_205 (by decide) ?_
    refine g_icmp_ge (tgt := 241) dX5_version_207 (by decide) (fun c207 => ?_) (fun c207 => ?_)
    · exact absurd c207 (nI_ge (b := 8) (by omega) (by decide))
    · refine g_aload_n dX5_version_210 rfl rfl ?_
      refine g_iload_n dX5_version_211 rfl rfl ?_
      refine g_bipush (v := 8) dX5_version_212 (by decide) ?_
      refine g_iload dX5_version_214 rfl ?_
      refine g_imul dX5_version_216 ?_
      refine g_iadd dX5_version_217 ?_
      refine g_eqi (y := nI (32 + L + 4 + 8 * k)) (by rw [show (8 : Int32) = nI 8 from rfl, pk_mul, nI_add]) ?_
      refine g_aload_n dX5_version_218 rfl rfl ?_
      refine g_get dX5_version_219 flX5_20 rfl rfl ?_
      refine g_bipush (v := 8) dX5_version_222 (by decide) ?_
      refine g_iload_n dX5_version_224 rfl rfl ?_
      refine g_imul dX5_version_225 ?_
      refine g_iload dX5_version_226 rfl ?_
      refine g_iadd dX5_version_228 ?_
      refine g_lald dX5_version_229 rfl (ix8n (by omega) (by decide)) ?_
      refine g_bipush (v := 8) dX5_version_230 (by decide) ?_
      refine cV30 (fun _ _ => rfl) dX5_version_232 mlX5_122 imX5_putNumber seX5_putNumber rfl rfl (m_putNumber _ _ (32 + L + 4 + 8 * k) 8 (w + 4 + 8 * k) (by omega) (by omega) hU.1) (by decide) (Nat.le_of_ble_eq_true rfl) (Nat.le_of_ble_eq_true rfl) (Nat.le_of_ble_eq_true rfl) ?_
      rintro U2 hU2
      refine g_iinc dX5_version_235 rfl (by decide) (by first | exact gi_1 _ | exact gi_p _) ?_
      refine g_goto (tgt := 203) dX5_version_238 (by decide) ?_
      refine ih (k + 1) U2 _ (by omega) ((hU.tr hU2).cs (by omega)) (fun j hj => ?_)
      rw [mput_lo _ _ _ _ (by omega), hU.2.1]
      exact hlo j hj
set_option maxRecDepth 100000 in
set_option maxHeartbeats 400000 in
theorem ln_vv (T : gS) (w L : Nat) (b : Int32) (l4 : Option Value) (F0 : Nat → Int32) (hw : w + 28 ≤ 32192) (hL : L + 28 ≤ 24000) (hN : NG T 8 8 8) {Q : gR → gW → Prop} (kk : ∀ (U : gS) (f : Nat → Int32), Mw T U w (w + 4 + 16) f → (∀ j, j < 32 + L + 4 → f j = F0 j) → (∀ x, x < 8 → (mnum f (32 + L + 4 + 2 * x) 2).toInt32 = T.2.1 39 x) → G MX5_version (3, 89) 296 [some (.ref 28), some (.int b), some (.int (nI (32 + L + 4))), some (.int (nI 8)), l4] [] (wRf Γ τ U) 0 0 Q) : ∀ (m k : Nat) (U : gS) (f : Nat → Int32), k + m = 8 → Mw T U w (w + 4 + 2 * k) f → (∀ j, j < 32 + L + 4 → f j = F0 j) → (∀ x, x < k → (mnum f (32 + L + 4 + 2 * x) 2).toInt32 = T.2.1 39 x) → G MX5_version (3, 89) 267 [some (.ref 28), some (.int b), some (.int (nI (32 + L + 4))), some (.int (nI k)), l4] [] (wRf Γ τ U) 0 0 Q := by
  intro m
  induction m with
  | zero =>
    intro k U f hk hU hlo hnm
    obtain rfl : k = 8 := by omega
    refine g_iload_n dX5_version_267 rfl rfl ?_
    refine g_bipush (v := 8) dX5_version_268 (by decide) ?_
    refine g_icmp_ge (tgt := 296) dX5_version_270 (by decide) (fun c270 => ?_) (fun c270 => ?_)
    · exact kk U f hU hlo hnm
    · exact absurd (show (8 : Int32) ≤ nI 8 by decide) c270
  | succ m ih =>
    intro k U f hk hU hlo hnm
    obtain ⟨q, hq, eq, -⟩ := hN k (by omega)
    refine g_iload_n dX5_version_267 rfl rfl ?_
    refine g_bipush (v := 8) dX5_version_268 (by decide) ?_
    refine g_icmp_ge (tgt := 296) dX5_version_270 (by decide) (fun c270 => ?_) (fun c270 => ?_)
    · exact absurd c270 (nI_ge (b := 8) (by omega) (by decide))
    · refine g_aload_n dX5_version_273 rfl rfl ?_
      refine g_iload_n dX5_version_274 rfl rfl ?_
      refine g_iconst (v := 2) dX5_version_275 (by decide) ?_
      refine g_iload_n dX5_version_276 rfl rfl ?_
      refine g_imul dX5_version_277 ?_
      refine g_iadd dX5_version_278 ?_
      refine g_eqi (y := nI (32 + L + 4 + 2 * k)) (by rw [show (2 : Int32) = nI 2 from rfl, pk_mul, nI_add]) ?_
      refine g_aload_n dX5_version_279 rfl rfl ?_
      refine g_get dX5_version_280 flX5_44 rfl rfl ?_
      refine g_iload_n dX5_version_283 rfl rfl ?_
      refine g_iald dX5_version_284 rfl (vp_in_nI (by omega) (by decide)) ?_
      refine g_eqi (y := nI (q)) (by rw [nI_clamp (n := k) (by omega), hU.2.2.2.2.1 39 (by decide)]; exact eq) ?_
      refine g_i2l dX5_version_285 ?_
      refine g_iconst (v := 2) dX5_version_286 (by decide) ?_
      refine cV30 (fun _ _ => rfl) dX5_version_287 mlX5_122 imX5_putNumber seX5_putNumber rfl rfl (m_putNumber _ _ (32 + L + 4 + 2 * k) 2 (w + 4 + 2 * k) (by omega) (by omega) hU.1) (by decide) (Nat.le_of_ble_eq_true rfl) (Nat.le_of_ble_eq_true rfl) (Nat.le_of_ble_eq_true rfl) ?_
      rintro U2 hU2
      refine g_iinc dX5_version_290 rfl (by decide) (by first | exact gi_1 _ | exact gi_p _) ?_
      refine g_goto (tgt := 267) dX5_version_293 (by decide) ?_
      refine ih (k + 1) U2 _ (by omega) ((hU.tr hU2).cs (by omega)) (fun j hj => ?_) (fun x hx => ?_)
      · rw [mput_lo _ _ _ _ (by omega), hU.2.1]
        exact hlo j hj
      · by_cases e : x = k
        · rw [e, put_num _ _ q hq, eq]
        · rw [mnum2_cg (f' := f) (by rw [mput_lo _ _ _ _ (by omega), hU.2.1]) (by rw [mput_lo _ _ _ _ (by omega), hU.2.1])]
          exact hnm x (by omega)
set_option maxRecDepth 100000 in
set_option maxHeartbeats 400000 in
theorem ln_vz (V n rm t : Nat) (ht : t < 512) (hV : V < 100) (w L c : Nat) (T : gS) (b : Int32) (l3 l4 : Option Value) (h : R0 T w L V n c rm) (hb : w ≤ L + 16 * t) (hf : L + 28 ≤ 24000) (hN : NG T 8 8 8) : G MX5_version (3, 89) 253 [some (.ref 28), some (.int b), some (.int (nI 8)), l3, l4] [] (wRf Γ τ T) 0 0 (gN (wRf Γ τ) fun v S' => (∃ r : Int32, v = .int r) ∧ RI S' (t + 1)) := by
  refine g_aload_n dX5_version_253 rfl rfl ?_
  refine g_iconst (v := 3) dX5_version_254 (by decide) ?_
  refine g_aload_n dX5_version_255 rfl rfl ?_
  refine g_get dX5_version_256 flX5_110 rfl rfl ?_
  refine g_eqi (y := nI (V)) (h.1.2.2.1) ?_
  refine g_bipush (v := 16) dX5_version_259 (by decide) ?_
  refine cV3N (fun _ _ => rfl) dX5_version_261 mlX5_159 imX5_begin_ seX5_begin_ rfl rfl (m_begin_ _ L w _ _ _ h.1.2.1 (by omega) h.1.1 (by omega)) (by decide) (Nat.le_of_ble_eq_true rfl) (Nat.le_of_ble_eq_true rfl) (Nat.le_of_ble_eq_true rfl) ?_
  rintro _ U ⟨rfl, hU⟩
  refine g_istore_n dX5_version_264 rfl (by decide) ?_
  refine g_iconst (v := 0) dX5_version_265 (by decide) ?_
  refine g_istore_n dX5_version_266 rfl (by decide) ?_
  refine ln_vv T w L b l4 _ (by omega) hf hN (fun U f hU hlo hnm => ?_) 8 0 U _ rfl hU (fun _ _ => rfl) (fun x hx => absurd hx (Nat.not_lt_zero _))
  refine g_aload_n dX5_version_296 rfl rfl ?_
  refine g_bipush (v := 16) dX5_version_297 (by decide) ?_
  refine cV10 (fun _ _ => rfl) dX5_version_299 mlX5_163 imX5_end seX5_end rfl rfl (m_end _ L (w + 4 + 16) 16 (fun S' => R0 S' (w + 4 + 16 + 8) (L + 28) (V + 1) n c rm) ((hU.2.2.1 9 (by decide)).trans h.1.2.1) (by omega) hU.1 (by omega) (fun S5 hS5 => v_t3 T U S5 w L V n c rm h hU hS5 hf hV hN (by omega) hlo hnm)) (by decide) (Nat.le_of_ble_eq_true rfl) (Nat.le_of_ble_eq_true rfl) (Nat.le_of_ble_eq_true rfl) ?_
  rintro S6 hS6
  refine g_aload_n dX5_version_302 rfl rfl ?_
  refine g_get dX5_version_303 flX5_110 rfl rfl ?_
  refine g_iconst (v := 1) dX5_version_306 (by decide) ?_
  refine g_isub dX5_version_307 ?_
  refine g_iret dX5_version_308 rfl ⟨_, _, rfl, rfl, ?_⟩
  exact ⟨⟨_, rfl⟩, w + 4 + 16 + 8, L + 28, V + 1, n, c, rm, hS6, fun _ => by omega⟩
theorem NG.nx {T T' : gS} {g : Nat} (h : NG T g 8 8) (e40 : T.2.1 40 g = 0) (e : T' = T) : NG T' (g + 1) 8 8 := by
  subst e
  intro x hx
  obtain ⟨q, q1, q2, q3⟩ := h x hx
  refine ⟨q, q1, q2, q3.imp id ?_⟩
  rintro ⟨y, y1, y2, y3, y4⟩
  refine ⟨y, ?_, y2, y3, y4⟩
  have : y ≠ g := fun z => y3 (by rw [z]; exact e40)
  omega
theorem NG.tk {T T' : gS} {g q : Nat} (h : NG T g 8 8) (hq : q < 65536) (eq : T.2.1 39 g = nI q) (s1 : ¬ T'.2.1 33 q = -1) (s2 : ∀ j, ¬ T.2.1 33 j = -1 → ¬ T'.2.1 33 j = -1) (s3 : T'.2.1 39 = T.2.1 39) (s4 : T'.2.1 40 = T.2.1 40) : NG T' (g + 1) 8 8 := by
  intro x hx
  obtain ⟨p, p1, p2, p3⟩ := h x hx
  refine ⟨p, p1, by rw [s3]; exact p2, ?_⟩
  rcases p3 with z | ⟨y, y1, y2, y3, y4⟩
  · exact Or.inl (s2 p z)
  · by_cases e : y = g
    · rw [e, eq] at y4
      rw [← eq_of_nI (by omega) (by omega) y4]
      exact Or.inl s1
    · exact Or.inr ⟨y, by omega, y2, by rw [s4]; exact y3, by rw [s3]; exact y4⟩
set_option maxRecDepth 100000 in
set_option maxHeartbeats 400000 in
theorem ln_v2 (V n rm t : Nat) (ht : t < 512) (hV : V < 100) (b : Int32) : ∀ (m g w L c : Nat) (T : gS) (l3 l4 : Option Value), g + m = 8 → R0 T w L V n c rm → w ≤ L + 16 * t → L + 28 + 76 * vcn (T.2.1 40) 8 ≤ 24000 + 76 * vcn (T.2.1 40) g → NG T g 8 8 → G MX5_version (3, 89) 168 [some (.ref 28), some (.int b), some (.int (nI g)), l3, l4] [] (wRf Γ τ T) 0 0 (gN (wRf Γ τ) fun v S' => (∃ r : Int32, v = .int r) ∧ RI S' (t + 1)) := by
  intro m
  induction m with
  | zero =>
    intro g w L c T l3 l4 hg h hb hf hN
    obtain rfl : g = 8 := by omega
    refine g_iload_n dX5_version_168 rfl rfl ?_
    refine g_bipush (v := 8) dX5_version_169 (by decide) ?_
    refine g_icmp_ge (tgt := 253) dX5_version_171 (by decide) (fun c171 => ?_) (fun c171 => ?_)
    · exact ln_vz V n rm t ht hV w L c T b l3 l4 h hb (by omega) hN
    · exact absurd (show (8 : Int32) ≤ nI 8 by decide) c171
  | succ m ih =>
    intro g w L c T l3 l4 hg h hb hf hN
    obtain ⟨q, hq, eq, -⟩ := hN g (by omega)
    have hcL := h.2.1.2.2.2.2.1
    refine g_iload_n dX5_version_168 rfl rfl ?_
    refine g_bipush (v := 8) dX5_version_169 (by decide) ?_
    refine g_icmp_ge (tgt := 253) dX5_version_171 (by decide) (fun c171 => ?_) (fun c171 => ?_)
    · exact absurd c171 (nI_ge (b := 8) (by omega) (by decide))
    · refine g_aload_n dX5_version_174 rfl rfl ?_
      refine g_get dX5_version_175 flX5_47 rfl rfl ?_
      refine g_iload_n dX5_version_178 rfl rfl ?_
      refine g_zald dX5_version_179 rfl (vp_in_nI (by omega) (by decide)) ?_
      refine g_if_ne (tgt := 186) dX5_version_180 (by decide) (fun c180 => ?_) (fun c180 => ?_)
      · rw [nI_clamp (n := g) (by omega)] at c180
        have hf4 : L + 104 ≤ 24000 := by
          have k1 := vcn_mo (T.2.1 40) (g + 1) (7 - g)
          rw [show g + 1 + (7 - g) = 8 by omega, vcn_s1 c180] at k1
          omega
        refine g_aload_n dX5_version_186 rfl rfl ?_
        refine g_iconst (v := 1) dX5_version_187 (by decide) ?_
        refine g_aload_n dX5_version_188 rfl rfl ?_
        refine g_get dX5_version_189 flX5_44 rfl rfl ?_
        refine g_iload_n dX5_version_192 rfl rfl ?_
        refine g_iald dX5_version_193 rfl (vp_in_nI (by omega) (by decide)) ?_
        refine g_eqi (y := nI (q)) (by rw [nI_clamp (n := g) (by omega)]; exact eq) ?_
        refine g_bipush (v := 64) dX5_version_194 (by decide) ?_
        refine cV3N (fun _ _ => rfl) dX5_version_196 mlX5_159 imX5_begin_ seX5_begin_ rfl rfl (m_begin_ _ L w _ _ _ h.1.2.1 (by omega) h.1.1 (by omega)) (by decide) (Nat.le_of_ble_eq_true rfl) (Nat.le_of_ble_eq_true rfl) (Nat.le_of_ble_eq_true rfl) ?_
        rintro _ U ⟨rfl, hU⟩
        refine g_istore_n dX5_version_199 rfl (by decide) ?_
        refine g_iconst (v := 0) dX5_version_200 (by decide) ?_
        refine g_istore dX5_version_201 (by decide) ?_
        refine ln_vin T w L g b _ (by omega) (by omega) (by omega) (fun U f hU hlo => ?_) 8 0 U _ rfl hU (fun _ _ => rfl)
        refine g_aload_n dX5_version_241 rfl rfl ?_
        refine g_bipush (v := 64) dX5_version_242 (by decide) ?_
        refine cV10 (fun _ _ => rfl) dX5_version_244 mlX5_163 imX5_end seX5_end rfl rfl (m_end _ L (w + 4 + 64) 64 (fun S' => R0 S' (w + 4 + 64 + 8) (L + 76) V n (c + 1) rm ∧ ¬ S'.2.1 33 q = -1 ∧ (∀ j, ¬ T.2.1 33 j = -1 → ¬ S'.2.1 33 j = -1) ∧ S'.2.1 39 = T.2.1 39 ∧ S'.2.1 40 = T.2.1 40) ((hU.2.2.1 9 (by decide)).trans h.1.2.1) (by omega) hU.1 (by omega) (fun S5 hS5 => v_t1 T U S5 w L V n c rm q h hU hS5 hf4 hq (by omega) (by omega) hlo)) (by decide) (Nat.le_of_ble_eq_true rfl) (Nat.le_of_ble_eq_true rfl) (Nat.le_of_ble_eq_true rfl) ?_
        rintro S6 ⟨hS6, s1, s2, s3, s4⟩
        refine g_iinc dX5_version_247 rfl (by decide) (by first | exact gi_1 _ | exact gi_p _) ?_
        refine g_goto (tgt := 168) dX5_version_250 (by decide) ?_
        refine ih (g + 1) (w + 4 + 64 + 8) (L + 76) (c + 1) S6 _ _ (by omega) hS6 (by omega) ?_ (hN.tk hq eq s1 s2 s3 s4)
        rw [s4, vcn_s1 c180]
        omega
      · refine g_goto (tgt := 247) dX5_version_183 (by decide) ?_
        refine g_iinc dX5_version_247 rfl (by decide) (by first | exact gi_1 _ | exact gi_p _) ?_
        refine g_goto (tgt := 168) dX5_version_250 (by decide) ?_
        rw [nI_clamp (n := g) (by omega)] at c180
        exact ih (g + 1) w L c T _ _ (by omega) h hb (by rw [vcn_s0 c180]; exact hf) (hN.nx c180 rfl)
set_option maxRecDepth 100000 in
set_option maxHeartbeats 400000 in
theorem ln_vf (S : gS) (w L V n c rm t : Nat) (h : R0 S w L V n c rm) (hV : V < 100) (hb : w ≤ L + 16 * t) (ht : t < 512) (T : gS) (b : Int32) (l3 : Option Value) (hT : VS S T) (hN : NG T 0 8 8) (hbb : b = nI (28 + 76 * vcn (T.2.1 40) 8)) : G MX5_version (3, 89) 155 [some (.ref 28), some (.int b), some (.int (nI 8)), l3, none] [] (wRf Γ τ T) 0 0 (gN (wRf Γ τ) fun v S' => (∃ r : Int32, v = .int r) ∧ RI S' (t + 1)) := by
  subst hbb
  have hR : R0 T w L V n c rm := hT.r0 h
  have h9 := hR.1.2.1
  have hv8 := vcn_le (T.2.1 40) 8
  have hL := h.2.1.2.1
  refine g_aload_n dX5_version_155 rfl rfl ?_
  refine g_iload_n dX5_version_156 rfl rfl ?_
  refine cV1N (fun _ _ => rfl) dX5_version_157 mlX5_156 imX5_fits seX5_fits rfl rfl (m_fits _ _) (by decide) (Nat.le_of_ble_eq_true rfl) (Nat.le_of_ble_eq_true rfl) (Nat.le_of_ble_eq_true rfl) ?_
  rintro _ _ ⟨rfl, rfl⟩
  refine g_if_ne (tgt := 166) dX5_version_160 (by decide) (fun c160 => ?_) (fun c160 => ?_)
  · have hf : L + (28 + 76 * vcn (T.2.1 40) 8) ≤ 24000 := fitL (by have q := c160; rw [h9] at q; exact q) (by omega)
    refine g_iconst (v := 0) dX5_version_166 (by decide) ?_
    refine g_istore_n dX5_version_167 rfl (by decide) ?_
    exact ln_v2 V n rm t ht hV _ 8 0 w L c T _ _ rfl hR hb (by show L + 28 + 76 * vcn (T.2.1 40) 8 ≤ 24000 + 76 * 0; omega) hN
  · refine g_bipush (v := (-3)) dX5_version_163 (by decide) ?_
    refine g_iret dX5_version_165 rfl ⟨_, _, rfl, rfl, ?_⟩
    exact ⟨⟨_, rfl⟩, w, L, V, n, c, rm, hR, fun _ => by omega⟩
set_option maxRecDepth 100000 in
set_option maxHeartbeats 400000 in
theorem ln_v99 (S : gS) (w L V n c rm t : Nat) (h : R0 S w L V n c rm) (hV : V < 100) (hb : w ≤ L + 16 * t) (ht : t < 512) (g : Nat) (hg : g < 8) (kk : ∀ (T : gS) (b : Int32) (l3 : Option Value), VS S T → NG T 0 (g + 1) (g + 1) → b = nI (28 + 76 * vcn (T.2.1 40) (g + 1)) → G MX5_version (3, 89) 42 [some (.ref 28), some (.int b), some (.int (nI (g + 1))), l3, none] [] (wRf Γ τ T) 0 0 (gN (wRf Γ τ) fun v S' => (∃ r : Int32, v = .int r) ∧ RI S' (t + 1))) (T : gS) (b : Int32) (l3 : Option Value) (hT : VS S T) (hN : NG T 0 g g) (h40 : T.2.1 40 g = 0) (h39 : T.2.1 39 g = -1 ∨ GD T 0 g g) (hbb : b = nI (28 + 76 * vcn (T.2.1 40) g)) : G MX5_version (3, 89) 99 [some (.ref 28), some (.int b), some (.int (nI g)), l3, none] [] (wRf Γ τ T) 0 0 (gN (wRf Γ τ) fun v S' => (∃ r : Int32, v = .int r) ∧ RI S' (t + 1)) := by
  refine g_aload_n dX5_version_99 rfl rfl ?_
  refine g_get dX5_version_100 flX5_44 rfl rfl ?_
  refine g_iload_n dX5_version_103 rfl rfl ?_
  refine g_iald dX5_version_104 rfl (vp_in_nI hg (by decide)) ?_
  refine g_eqi (y := T.2.1 39 g) (by rw [nI_clamp (n := g) (by omega)]) ?_
  refine g_iconst (v := (-1)) dX5_version_105 (by decide) ?_
  refine g_icmp_eq (tgt := 112) dX5_version_106 (by decide) (fun c106 => ?_) (fun c106 => ?_)
  · refine g_aload_n dX5_version_112 rfl rfl ?_
    refine g_get dX5_version_113 flX5_44 rfl rfl ?_
    refine g_iload_n dX5_version_116 rfl rfl ?_
    refine g_aload_n dX5_version_117 rfl rfl ?_
    refine g_iload_n dX5_version_118 rfl rfl ?_
    refine cV1N (fun _ _ => rfl) dX5_version_119 mlX5_175 imX5_leastFree seX5_leastFree rfl rfl (n_leastFree T g (by omega) V c (hT.r0 h).mr) (by decide) (Nat.le_of_ble_eq_true rfl) (Nat.le_of_ble_eq_true rfl) (Nat.le_of_ble_eq_true rfl) ?_
    rintro _ _ ⟨⟨q, hq, rfl⟩, rfl⟩
    refine p_iast dX5_version_122 rfl (vp_in_nI hg (by decide)) (by with_reducible first | exact wA_29 _ _ _ _ | exact wA_30 _ _ _ _ | exact wA_31 _ _ _ _ | exact wA_32 _ _ _ _ | exact wA_33 _ _ _ _ | exact wA_34 _ _ _ _ | exact wA_35 _ _ _ _ | exact wA_36 _ _ _ _ | exact wA_37 _ _ _ _ | exact wA_38 _ _ _ _ | exact wA_39 _ _ _ _ | exact wA_40 _ _ _ _ | exact wA_41 _ _ _ _ | exact wA_42 _ _ _ _ | exact wA_43 _ _ _ _ | exact wA_44 _ _ _ _ | exact wA_45 _ _ _ _ | exact wA_46 _ _ _ _ | exact wA_47 _ _ _ _) ?_
    refine g_aload_n dX5_version_123 rfl rfl ?_
    refine g_get dX5_version_124 flX5_47 rfl rfl ?_
    refine g_iload_n dX5_version_127 rfl rfl ?_
    refine g_iconst (v := 1) dX5_version_128 (by decide) ?_
    refine p_zast dX5_version_129 rfl (vp_in_nI hg (by decide)) (by with_reducible first | exact wA_29 _ _ _ _ | exact wA_30 _ _ _ _ | exact wA_31 _ _ _ _ | exact wA_32 _ _ _ _ | exact wA_33 _ _ _ _ | exact wA_34 _ _ _ _ | exact wA_35 _ _ _ _ | exact wA_36 _ _ _ _ | exact wA_37 _ _ _ _ | exact wA_38 _ _ _ _ | exact wA_39 _ _ _ _ | exact wA_40 _ _ _ _ | exact wA_41 _ _ _ _ | exact wA_42 _ _ _ _ | exact wA_43 _ _ _ _ | exact wA_44 _ _ _ _ | exact wA_45 _ _ _ _ | exact wA_46 _ _ _ _ | exact wA_47 _ _ _ _) ?_
    refine g_iinc dX5_version_130 rfl (by decide) rfl ?_
    refine g_aload_n dX5_version_133 rfl rfl ?_
    refine g_get dX5_version_134 flX5_44 rfl rfl ?_
    refine g_iload_n dX5_version_137 rfl rfl ?_
    refine g_iald dX5_version_138 rfl (vp_in_nI hg (by decide)) ?_
    refine g_aload_n dX5_version_139 rfl rfl ?_
    refine g_get dX5_version_140 flX5_79 rfl rfl ?_
    refine g_icmp_lt (tgt := 149) dX5_version_143 (by decide) (fun c143 => ?_) (fun c143 => ?_)
    · refine g_iinc dX5_version_149 rfl (by decide) (by first | exact gi_1 _ | exact gi_p _) ?_
      refine g_goto (tgt := 42) dX5_version_152 (by decide) ?_
      refine kk _ _ _ ((hT.a 39 (Or.inl rfl) _).a 40 (Or.inr rfl) _) ?_ ?_
      · rw [nI_clamp (n := g) (by omega)]
        exact (v_new _ (by decide) (by omega) hN).1
      · rw [nI_clamp (n := g) (by omega)]
        refine Eq.trans ?_ (congrArg (fun z => nI (28 + 76 * z)) (v_new (T := T) (g := g) (q := q) (vp_nar .boolean 1) (by decide) (by omega) hN).2.symm)
        rw [hbb]
        exact (nI_add _ 76).trans (congrArg nI (by omega))
    · refine g_bipush (v := (-3)) dX5_version_146 (by decide) ?_
      refine g_iret dX5_version_148 rfl ⟨_, _, rfl, rfl, ?_⟩
      exact ⟨⟨_, rfl⟩, w, L, V, n, c, rm, ((hT.a 39 (Or.inl rfl) _).a 40 (Or.inr rfl) _).r0 h, fun _ => by omega⟩
  · refine g_goto (tgt := 149) dX5_version_109 (by decide) ?_
    refine g_iinc dX5_version_149 rfl (by decide) (by first | exact gi_1 _ | exact gi_p _) ?_
    refine g_goto (tgt := 42) dX5_version_152 (by decide) ?_
    exact kk T b _ hT (hN.up (h39.resolve_left c106).up) (by rw [vcn_s0 h40]; exact hbb)
set_option maxRecDepth 100000 in
set_option maxHeartbeats 400000 in
theorem ln_v66 (S : gS) (w L V n c rm t : Nat) (h : R0 S w L V n c rm) (hV : V < 100) (hb : w ≤ L + 16 * t) (ht : t < 512) (g : Nat) (hg : g < 8) (kk : ∀ (T : gS) (b : Int32) (l3 : Option Value), VS S T → NG T 0 (g + 1) (g + 1) → b = nI (28 + 76 * vcn (T.2.1 40) (g + 1)) → G MX5_version (3, 89) 42 [some (.ref 28), some (.int b), some (.int (nI (g + 1))), l3, none] [] (wRf Γ τ T) 0 0 (gN (wRf Γ τ) fun v S' => (∃ r : Int32, v = .int r) ∧ RI S' (t + 1))) (T : gS) (b : Int32) (l3 : Option Value) (hT : VS S T) (hN : NG T 0 g g) (h40 : T.2.1 40 g = 0) (h39 : T.2.1 39 g = -1 ∨ GD T 0 g g) (hbb : b = nI (28 + 76 * vcn (T.2.1 40) g)) : G MX5_version (3, 89) 66 [some (.ref 28), some (.int b), some (.int (nI g)), l3, none] [] (wRf Γ τ T) 0 0 (gN (wRf Γ τ) fun v S' => (∃ r : Int32, v = .int r) ∧ RI S' (t + 1)) := by
  refine g_aload_n dX5_version_66 rfl rfl ?_
  refine g_iload_n dX5_version_67 rfl rfl ?_
  refine cV1N (fun _ _ => rfl) dX5_version_68 mlX5_172 imX5_earlier seX5_earlier rfl rfl (n_earlier T g hg) (by decide) (Nat.le_of_ble_eq_true rfl) (Nat.le_of_ble_eq_true rfl) (Nat.le_of_ble_eq_true rfl) ?_
  rintro _ _ ⟨⟨r, rfl, hr⟩, rfl⟩
  refine g_istore_n dX5_version_71 rfl (by decide) ?_
  refine g_aload_n dX5_version_72 rfl rfl ?_
  refine g_get dX5_version_73 flX5_44 rfl rfl ?_
  refine g_iload_n dX5_version_76 rfl rfl ?_
  refine g_iald dX5_version_77 rfl (vp_in_nI hg (by decide)) ?_
  refine g_eqi (y := T.2.1 39 g) (by rw [nI_clamp (n := g) (by omega)]) ?_
  refine g_iconst (v := (-1)) dX5_version_78 (by decide) ?_
  refine g_icmp_ne (tgt := 99) dX5_version_79 (by decide) (fun c79 => ?_) (fun c79 => ?_)
  · exact ln_v99 S w L V n c rm t h hV hb ht g hg kk T b _ hT hN h40 h39 hbb
  · refine g_iload_n dX5_version_82 rfl rfl ?_
    refine g_iconst (v := (-1)) dX5_version_83 (by decide) ?_
    refine g_icmp_eq (tgt := 99) dX5_version_84 (by decide) (fun c84 => ?_) (fun c84 => ?_)
    · exact ln_v99 S w L V n c rm t h hV hb ht g hg kk T b _ hT hN h40 h39 hbb
    · obtain ⟨e, he, rfl⟩ := hr.resolve_left c84
      refine g_aload_n dX5_version_87 rfl rfl ?_
      refine g_get dX5_version_88 flX5_44 rfl rfl ?_
      refine g_iload_n dX5_version_91 rfl rfl ?_
      refine g_aload_n dX5_version_92 rfl rfl ?_
      refine g_get dX5_version_93 flX5_44 rfl rfl ?_
      refine g_iload_n dX5_version_96 rfl rfl ?_
      refine g_iald dX5_version_97 rfl (vp_in_nI (by omega) (by decide)) ?_
      refine p_iast dX5_version_98 rfl (vp_in_nI hg (by decide)) (by with_reducible first | exact wA_29 _ _ _ _ | exact wA_30 _ _ _ _ | exact wA_31 _ _ _ _ | exact wA_32 _ _ _ _ | exact wA_33 _ _ _ _ | exact wA_34 _ _ _ _ | exact wA_35 _ _ _ _ | exact wA_36 _ _ _ _ | exact wA_37 _ _ _ _ | exact wA_38 _ _ _ _ | exact wA_39 _ _ _ _ | exact wA_40 _ _ _ _ | exact wA_41 _ _ _ _ | exact wA_42 _ _ _ _ | exact wA_43 _ _ _ _ | exact wA_44 _ _ _ _ | exact wA_45 _ _ _ _ | exact wA_46 _ _ _ _ | exact wA_47 _ _ _ _) ?_
      rw [nI_clamp (n := g) (by omega), nI_clamp (n := e) (by omega)]
      exact ln_v99 S w L V n c rm t h hV hb ht g hg kk _ b _ (hT.a 39 (Or.inl rfl) _) (v_cp hN he).1 h40 (Or.inr (v_cp hN he).2) hbb
set_option maxRecDepth 100000 in
set_option maxHeartbeats 400000 in
theorem ln_v1 (S : gS) (w L V n c rm t : Nat) (h : R0 S w L V n c rm) (hV : V < 100) (hb : w ≤ L + 16 * t) (ht : t < 512) : ∀ (m g : Nat) (T : gS) (b : Int32) (l3 : Option Value), g + m = 8 → VS S T → NG T 0 g g → b = nI (28 + 76 * vcn (T.2.1 40) g) → G MX5_version (3, 89) 42 [some (.ref 28), some (.int b), some (.int (nI g)), l3, none] [] (wRf Γ τ T) 0 0 (gN (wRf Γ τ) fun v S' => (∃ r : Int32, v = .int r) ∧ RI S' (t + 1)) := by
  intro m
  induction m with
  | zero =>
    intro g T b l3 hg hT hN hbb
    obtain rfl : g = 8 := by omega
    refine g_iload_n dX5_version_42 rfl rfl ?_
    refine g_bipush (v := 8) dX5_version_43 (by decide) ?_
    refine g_icmp_ge (tgt := 155) dX5_version_45 (by decide) (fun c45 => ?_) (fun c45 => ?_)
    · exact ln_vf S w L V n c rm t h hV hb ht T b l3 hT hN hbb
    · exact absurd (show (8 : Int32) ≤ nI 8 by decide) c45
  | succ m ih =>
    intro g T b l3 hg8 hT hN hbb
    have hg : g < 8 := by omega
    refine g_iload_n dX5_version_42 rfl rfl ?_
    refine g_bipush (v := 8) dX5_version_43 (by decide) ?_
    refine g_icmp_ge (tgt := 155) dX5_version_45 (by decide) (fun c45 => ?_) (fun c45 => ?_)
    · exact absurd c45 (nI_ge (b := 8) (by omega) (by decide))
    · refine g_aload_n dX5_version_48 rfl rfl ?_
      refine g_get dX5_version_49 flX5_44 rfl rfl ?_
      refine g_iload_n dX5_version_52 rfl rfl ?_
      refine g_aload_n dX5_version_53 rfl rfl ?_
      refine g_iload_n dX5_version_54 rfl rfl ?_
      refine cV1N (fun _ _ => rfl) dX5_version_55 mlX5_169 imX5_find seX5_find rfl rfl (n_find T g hg V c (hT.r0 h).mr) (by decide) (Nat.le_of_ble_eq_true rfl) (Nat.le_of_ble_eq_true rfl) (Nat.le_of_ble_eq_true rfl) ?_
      rintro _ _ ⟨⟨r, rfl, hr⟩, rfl⟩
      refine p_iast dX5_version_58 rfl (vp_in_nI hg (by decide)) (by with_reducible first | exact wA_29 _ _ _ _ | exact wA_30 _ _ _ _ | exact wA_31 _ _ _ _ | exact wA_32 _ _ _ _ | exact wA_33 _ _ _ _ | exact wA_34 _ _ _ _ | exact wA_35 _ _ _ _ | exact wA_36 _ _ _ _ | exact wA_37 _ _ _ _ | exact wA_38 _ _ _ _ | exact wA_39 _ _ _ _ | exact wA_40 _ _ _ _ | exact wA_41 _ _ _ _ | exact wA_42 _ _ _ _ | exact wA_43 _ _ _ _ | exact wA_44 _ _ _ _ | exact wA_45 _ _ _ _ | exact wA_46 _ _ _ _ | exact wA_47 _ _ _ _) ?_
      refine g_aload_n dX5_version_59 rfl rfl ?_
      refine g_get dX5_version_60 flX5_47 rfl rfl ?_
      refine g_iload_n dX5_version_63 rfl rfl ?_
      refine g_iconst (v := 0) dX5_version_64 (by decide) ?_
      refine p_zast dX5_version_65 rfl (vp_in_nI hg (by decide)) (by with_reducible first | exact wA_29 _ _ _ _ | exact wA_30 _ _ _ _ | exact wA_31 _ _ _ _ | exact wA_32 _ _ _ _ | exact wA_33 _ _ _ _ | exact wA_34 _ _ _ _ | exact wA_35 _ _ _ _ | exact wA_36 _ _ _ _ | exact wA_37 _ _ _ _ | exact wA_38 _ _ _ _ | exact wA_39 _ _ _ _ | exact wA_40 _ _ _ _ | exact wA_41 _ _ _ _ | exact wA_42 _ _ _ _ | exact wA_43 _ _ _ _ | exact wA_44 _ _ _ _ | exact wA_45 _ _ _ _ | exact wA_46 _ _ _ _ | exact wA_47 _ _ _ _) ?_
      rw [nI_clamp (n := g) (by omega)]
      obtain ⟨u1, u2, u3, u4, u5⟩ := v_r12 (T := T) (g := g) r (vp_nar .boolean 0) (by decide) hN
      refine ln_v66 S w L V n c rm t h hV hb ht g hg (fun T b l3 hT hN hb => ih (g + 1) T b l3 (by omega) hT hN hb) _ b _ ((hT.a 39 (Or.inl rfl) _).a 40 (Or.inr rfl) _) u1 u2 ?_ (hbb.trans (congrArg (fun z => nI (28 + 76 * z)) u4.symm))
      rcases hr with z | ⟨q, q1, q2, q3⟩
      · exact Or.inl (u3.trans z)
      · exact Or.inr ⟨q, q1, u3.trans q2, Or.inl (fun z => q3 ((congrFun u5 q).symm.trans z))⟩
set_option maxRecDepth 100000 in
set_option maxHeartbeats 400000 in
theorem n_version (S : gS) (t : Nat) (h : RI S t) (ht : t < 512) : gCt MX5_version (3, 89) 0 0 [.ref 28] (wRf Γ τ S) (gN (wRf Γ τ) fun v S' => (∃ r : Int32, v = .int r) ∧ RI S' (t + 1)) := by
  refine gCt.of (ls := [some (.ref 28), none, none, none, none]) 4 (by decide) rfl (Nat.le_of_ble_eq_true rfl) ?_
  have h0 := h
  obtain ⟨w, L, V, n, c, rm, hC⟩ := h
  have hR : R0 (mS S 28 0 0) w L V n c rm := hC.1
  refine g_aload_n dX5_version_0 rfl rfl ?_
  refine g_aload_n dX5_version_1 rfl rfl ?_
  refine g_get dX5_version_2 flX5_94 rfl rfl ?_
  refine g_if_eq (tgt := 12) dX5_version_5 (by decide) (fun c5 => ?_) (fun c5 => ?_)
  · refine g_iconst (v := 1) dX5_version_12 (by decide) ?_
    refine p_put dX5_version_13 fpX5_75 rfl (Nat.le_of_ble_eq_true rfl) (fun _ => rfl) (fun _ => rfl) (by with_reducible first | exact wS_28_0 _ _ _ _) ?_
    refine g_aload_n dX5_version_16 rfl rfl ?_
    refine g_get dX5_version_17 flX5_75 rfl rfl ?_
    rw [mS_same]
    refine g_if_le (tgt := 25) dX5_version_20 (by decide) (fun c20 => ?_) (fun c20 => ?_)
    · exact absurd c20 (by decide)
    · refine g_iconst (v := 0) dX5_version_23 (by decide) ?_
      refine g_iret dX5_version_24 rfl ⟨_, _, rfl, rfl, ?_⟩
      exact ⟨⟨_, rfl⟩, h0.th _⟩
  · refine g_iconst (v := 0) dX5_version_8 (by decide) ?_
    refine g_goto (tgt := 13) dX5_version_9 (by decide) ?_
    refine p_put dX5_version_13 fpX5_75 rfl (Nat.le_of_ble_eq_true rfl) (fun _ => rfl) (fun _ => rfl) (by with_reducible first | exact wS_28_0 _ _ _ _) ?_
    refine g_aload_n dX5_version_16 rfl rfl ?_
    refine g_get dX5_version_17 flX5_75 rfl rfl ?_
    rw [mS_same]
    refine g_if_le (tgt := 25) dX5_version_20 (by decide) (fun c20 => ?_) (fun c20 => ?_)
    · refine g_aload_n dX5_version_25 rfl rfl ?_
      refine g_get dX5_version_26 flX5_110 rfl rfl ?_
      refine g_eqi (y := nI (V)) (hR.1.2.2.1) ?_
      refine g_bipush (v := 100) dX5_version_29 (by decide) ?_
      refine g_icmp_ne (tgt := 37) dX5_version_31 (by decide) (fun c31 => ?_) (fun c31 => ?_)
      · refine g_bipush (v := 28) dX5_version_37 (by decide) ?_
        refine g_istore_n dX5_version_39 rfl (by decide) ?_
        refine g_iconst (v := 0) dX5_version_40 (by decide) ?_
        refine g_istore_n dX5_version_41 rfl (by decide) ?_
        exact ln_v1 (mS S 28 0 0) w L V n c rm t hR (by have := hR.2.1.2.2.1; have : V ≠ 100 := fun z => c31 (by rw [z]; rfl); omega) (hC.2 (hC.1.2.2.1.resolve_left c5)) ht 8 0 _ _ _ rfl ⟨rfl, fun _ _ _ => rfl⟩ (fun x hx => absurd hx (Nat.not_lt_zero _)) rfl
      · refine g_bipush (v := (-3)) dX5_version_34 (by decide) ?_
        refine g_iret dX5_version_36 rfl ⟨_, _, rfl, rfl, ?_⟩
        exact ⟨⟨_, rfl⟩, h0.th _⟩
    · exact absurd (by decide) c20
end
