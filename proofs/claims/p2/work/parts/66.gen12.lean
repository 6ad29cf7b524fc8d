section
variable {Γ : gS} {τ : gW}
/-- what was copied: a1 from b1 as far as i, a2 from b2 as far as j; but for a1, a2, e1, e2 the rows are as they were -/
def KB (e1 e2 a1 b1 a2 b2 : Nat) (S T : gS) (i j : Nat) : Prop := T.1 = S.1 ∧ (∀ k, k ≠ a1 → k ≠ a2 → k ≠ e1 → k ≠ e2 → T.2.1 k = S.2.1 k) ∧ (∀ m, m < i → T.2.1 a1 m = S.2.1 b1 m) ∧ (∀ m, m < j → T.2.1 a2 m = S.2.1 b2 m)
theorem KB.o {e1 e2 a1 b1 a2 b2 : Nat} {S T : gS} {i j : Nat} (h : KB e1 e2 a1 b1 a2 b2 S T i j) (k : Nat) (hk : k = e1 ∨ k = e2) (h1 : a1 ≠ k) (h2 : a2 ≠ k) (F : Nat → Int32) : KB e1 e2 a1 b1 a2 b2 S (mA T k F) i j := by
  refine ⟨h.1, fun x x1 x2 x3 x4 => ?_, fun m hm => ?_, fun m hm => ?_⟩
  · rw [mAk3 _ _ _ _ (by omega)]; exact h.2.1 x x1 x2 x3 x4
  · rw [mAk3 _ _ _ _ h1]; exact h.2.2.1 m hm
  · rw [mAk3 _ _ _ _ h2]; exact h.2.2.2 m hm
theorem KB.s1 {e1 e2 a1 b1 a2 b2 : Nat} {S T : gS} {i j : Nat} (h : KB e1 e2 a1 b1 a2 b2 S T i j) (h1 : b1 ≠ a1 ∧ b1 ≠ a2 ∧ b1 ≠ e1 ∧ b1 ≠ e2) (h2 : a2 ≠ a1) : KB e1 e2 a1 b1 a2 b2 S (mA T a1 (upd (T.2.1 a1) i (T.2.1 b1 i))) (i + 1) j := by
  refine ⟨h.1, fun x x1 x2 x3 x4 => ?_, fun m hm => ?_, fun m hm => ?_⟩
  · rw [mAk3 _ _ _ _ x1]; exact h.2.1 x x1 x2 x3 x4
  · rw [mAs3]
    by_cases e : m = i
    · rw [e, pk_us, h.2.1 b1 h1.1 h1.2.1 h1.2.2.1 h1.2.2.2]
    · rw [pk_un e]; exact h.2.2.1 m (by omega)
  · rw [mAk3 _ _ _ _ h2]; exact h.2.2.2 m hm
theorem KB.s2 {e1 e2 a1 b1 a2 b2 : Nat} {S T : gS} {i j : Nat} (h : KB e1 e2 a1 b1 a2 b2 S T i j) (h1 : b2 ≠ a1 ∧ b2 ≠ a2 ∧ b2 ≠ e1 ∧ b2 ≠ e2) (h2 : a1 ≠ a2) : KB e1 e2 a1 b1 a2 b2 S (mA T a2 (upd (T.2.1 a2) j (T.2.1 b2 j))) i (j + 1) := by
  refine ⟨h.1, fun x x1 x2 x3 x4 => ?_, fun m hm => ?_, fun m hm => ?_⟩
  · rw [mAk3 _ _ _ _ x2]; exact h.2.1 x x1 x2 x3 x4
  · rw [mAk3 _ _ _ _ h2]; exact h.2.2.1 m hm
  · rw [mAs3]
    by_cases e : m = j
    · rw [e, pk_us, h.2.1 b2 h1.1 h1.2.1 h1.2.2.1 h1.2.2.2]
    · rw [pk_un e]; exact h.2.2.2 m (by omega)
set_option maxRecDepth 100000 in
set_option maxHeartbeats 400000 in
theorem kb1_0 (S : gS) {Q : gR → gW → Prop} (kk : ∀ T : gS, KB 44 46 42 33 45 36 S T 0 0 → G MX5_keepBeside (0, 0) 45 [some (.ref 28), some (.int 0), some (.int (nI 64))] [] (wRf Γ τ T) 0 0 Q) : ∀ (m i : Nat) (T : gS), i + m = 64 → KB 44 46 42 33 45 36 S T 0 0 → G MX5_keepBeside (0, 0) 2 [some (.ref 28), some (.int 0), some (.int (nI i))] [] (wRf Γ τ T) 0 0 Q := by
  intro m
  induction m with
  | zero =>
    intro i T hi hT
    obtain rfl : i = 64 := by omega
    refine g_iload_n dX5_keepBeside_2 rfl rfl ?_
    refine g_bipush (v := 64) dX5_keepBeside_3 (by decide) ?_
    refine g_icmp_ge (tgt := 45) dX5_keepBeside_5 (by decide) (fun c5 => ?_) (fun c5 => ?_)
    · exact kk T hT
    · exact absurd (nI_le (a := 64) (b := 64) (Nat.le_refl _) (by decide)) c5
  | succ m ih =>
    intro i T hi hT
    refine g_iload_n dX5_keepBeside_2 rfl rfl ?_
    refine g_bipush (v := 64) dX5_keepBeside_3 (by decide) ?_
    refine g_icmp_ge (tgt := 45) dX5_keepBeside_5 (by decide) (fun c5 => ?_) (fun c5 => ?_)
    · exact absurd c5 (nI_ge (b := 64) (by omega) (by decide))
    · refine g_iload_n dX5_keepBeside_8 rfl rfl ?_
      refine g_if_eq (tgt := 27) dX5_keepBeside_9 (by decide) (fun c9 => ?_) (fun c9 => ?_)
      · refine g_aload_n dX5_keepBeside_27 rfl rfl ?_
        refine g_get dX5_keepBeside_28 flX5_50 rfl rfl ?_
        refine g_iload_n dX5_keepBeside_31 rfl rfl ?_
        refine g_aload_n dX5_keepBeside_32 rfl rfl ?_
        refine g_get dX5_keepBeside_33 flX5_20 rfl rfl ?_
        refine g_iload_n dX5_keepBeside_36 rfl rfl ?_
        refine g_lald dX5_keepBeside_37 rfl (vp_in_nI (by omega) (by decide)) ?_
        refine p_last dX5_keepBeside_38 rfl (vp_in_nI (by omega) (by decide)) (by with_reducible first | exact wA_29 _ _ _ _ | exact wA_30 _ _ _ _ | exact wA_31 _ _ _ _ | exact wA_32 _ _ _ _ | exact wA_33 _ _ _ _ | exact wA_34 _ _ _ _ | exact wA_35 _ _ _ _ | exact wA_36 _ _ _ _ | exact wA_37 _ _ _ _ | exact wA_38 _ _ _ _ | exact wA_39 _ _ _ _ | exact wA_40 _ _ _ _ | exact wA_41 _ _ _ _ | exact wA_42 _ _ _ _ | exact wA_43 _ _ _ _ | exact wA_44 _ _ _ _ | exact wA_45 _ _ _ _ | exact wA_46 _ _ _ _ | exact wA_47 _ _ _ _) ?_
        refine g_iinc dX5_keepBeside_39 rfl (by decide) (by first | exact gi_1 _ | exact gi_p _) ?_
        refine g_goto (tgt := 2) dX5_keepBeside_42 (by decide) ?_
        exact ih (i + 1) _ (by omega) hT
      · exact absurd rfl c9
set_option maxRecDepth 100000 in
set_option maxHeartbeats 400000 in
theorem kb2_0 (S : gS) {Q : gR → gW → Prop} (kk : ∀ T : gS, KB 44 46 42 33 45 36 S T 65536 0 → G MX5_keepBeside (0, 0) 90 [some (.ref 28), some (.int 0), some (.int (nI 65536))] [] (wRf Γ τ T) 0 0 Q) : ∀ (m i : Nat) (T : gS), i + m = 65536 → KB 44 46 42 33 45 36 S T i 0 → G MX5_keepBeside (0, 0) 47 [some (.ref 28), some (.int 0), some (.int (nI i))] [] (wRf Γ τ T) 0 0 Q := by
  intro m
  induction m with
  | zero =>
    intro i T hi hT
    obtain rfl : i = 65536 := by omega
    refine g_iload_n dX5_keepBeside_47 rfl rfl ?_
    refine g_ldc dX5_keepBeside_48 coX5_24 ?_
    refine g_icmp_ge (tgt := 90) dX5_keepBeside_50 (by decide) (fun c50 => ?_) (fun c50 => ?_)
    · exact kk T hT
    · exact absurd (nI_le (a := 65536) (b := 65536) (Nat.le_refl _) (by decide)) c50
  | succ m ih =>
    intro i T hi hT
    refine g_iload_n dX5_keepBeside_47 rfl rfl ?_
    refine g_ldc dX5_keepBeside_48 coX5_24 ?_
    refine g_icmp_ge (tgt := 90) dX5_keepBeside_50 (by decide) (fun c50 => ?_) (fun c50 => ?_)
    · exact absurd c50 (nI_ge (b := 65536) (by omega) (by decide))
    · refine g_iload_n dX5_keepBeside_53 rfl rfl ?_
      refine g_if_eq (tgt := 72) dX5_keepBeside_54 (by decide) (fun c54 => ?_) (fun c54 => ?_)
      · refine g_aload_n dX5_keepBeside_72 rfl rfl ?_
        refine g_get dX5_keepBeside_73 flX5_53 rfl rfl ?_
        refine g_iload_n dX5_keepBeside_76 rfl rfl ?_
        refine g_aload_n dX5_keepBeside_77 rfl rfl ?_
        refine g_get dX5_keepBeside_78 flX5_25 rfl rfl ?_
        refine g_iload_n dX5_keepBeside_81 rfl rfl ?_
        refine g_iald dX5_keepBeside_82 rfl (vp_in_nI (by omega) (by decide)) ?_
        refine p_iast dX5_keepBeside_83 rfl (vp_in_nI (by omega) (by decide)) (by with_reducible first | exact wA_29 _ _ _ _ | exact wA_30 _ _ _ _ | exact wA_31 _ _ _ _ | exact wA_32 _ _ _ _ | exact wA_33 _ _ _ _ | exact wA_34 _ _ _ _ | exact wA_35 _ _ _ _ | exact wA_36 _ _ _ _ | exact wA_37 _ _ _ _ | exact wA_38 _ _ _ _ | exact wA_39 _ _ _ _ | exact wA_40 _ _ _ _ | exact wA_41 _ _ _ _ | exact wA_42 _ _ _ _ | exact wA_43 _ _ _ _ | exact wA_44 _ _ _ _ | exact wA_45 _ _ _ _ | exact wA_46 _ _ _ _ | exact wA_47 _ _ _ _) ?_
        refine g_iinc dX5_keepBeside_84 rfl (by decide) (by first | exact gi_1 _ | exact gi_p _) ?_
        refine g_goto (tgt := 47) dX5_keepBeside_87 (by decide) ?_
        refine ih (i + 1) _ (by omega) ?_
        rw [nI_clamp (n := i) (by omega)]
        exact hT.s1 (by decide) (by decide)
      · exact absurd rfl c54
set_option maxRecDepth 100000 in
set_option maxHeartbeats 400000 in
theorem kb3_0 (S : gS) {Q : gR → gW → Prop} (kk : ∀ T : gS, KB 44 46 42 33 45 36 S T 65536 0 → G MX5_keepBeside (0, 0) 136 [some (.ref 28), some (.int 0), some (.int (nI 2560))] [] (wRf Γ τ T) 0 0 Q) : ∀ (m i : Nat) (T : gS), i + m = 2560 → KB 44 46 42 33 45 36 S T 65536 0 → G MX5_keepBeside (0, 0) 92 [some (.ref 28), some (.int 0), some (.int (nI i))] [] (wRf Γ τ T) 0 0 Q := by
  intro m
  induction m with
  | zero =>
    intro i T hi hT
    obtain rfl : i = 2560 := by omega
    refine g_iload_n dX5_keepBeside_92 rfl rfl ?_
    refine g_sipush (v := 2560) dX5_keepBeside_93 (by decide) ?_
    refine g_icmp_ge (tgt := 136) dX5_keepBeside_96 (by decide) (fun c96 => ?_) (fun c96 => ?_)
    · exact kk T hT
    · exact absurd (nI_le (a := 2560) (b := 2560) (Nat.le_refl _) (by decide)) c96
  | succ m ih =>
    intro i T hi hT
    refine g_iload_n dX5_keepBeside_92 rfl rfl ?_
    refine g_sipush (v := 2560) dX5_keepBeside_93 (by decide) ?_
    refine g_icmp_ge (tgt := 136) dX5_keepBeside_96 (by decide) (fun c96 => ?_) (fun c96 => ?_)
    · exact absurd c96 (nI_ge (b := 2560) (by omega) (by decide))
    · refine g_iload_n dX5_keepBeside_99 rfl rfl ?_
      refine g_if_eq (tgt := 118) dX5_keepBeside_100 (by decide) (fun c100 => ?_) (fun c100 => ?_)
      · refine g_aload_n dX5_keepBeside_118 rfl rfl ?_
        refine g_get dX5_keepBeside_119 flX5_56 rfl rfl ?_
        refine g_iload_n dX5_keepBeside_122 rfl rfl ?_
        refine g_aload_n dX5_keepBeside_123 rfl rfl ?_
        refine g_get dX5_keepBeside_124 flX5_28 rfl rfl ?_
        refine g_iload_n dX5_keepBeside_127 rfl rfl ?_
        refine g_lald dX5_keepBeside_128 rfl (vp_in_nI (by omega) (by decide)) ?_
        refine p_last dX5_keepBeside_129 rfl (vp_in_nI (by omega) (by decide)) (by with_reducible first | exact wA_29 _ _ _ _ | exact wA_30 _ _ _ _ | exact wA_31 _ _ _ _ | exact wA_32 _ _ _ _ | exact wA_33 _ _ _ _ | exact wA_34 _ _ _ _ | exact wA_35 _ _ _ _ | exact wA_36 _ _ _ _ | exact wA_37 _ _ _ _ | exact wA_38 _ _ _ _ | exact wA_39 _ _ _ _ | exact wA_40 _ _ _ _ | exact wA_41 _ _ _ _ | exact wA_42 _ _ _ _ | exact wA_43 _ _ _ _ | exact wA_44 _ _ _ _ | exact wA_45 _ _ _ _ | exact wA_46 _ _ _ _ | exact wA_47 _ _ _ _) ?_
        refine g_iinc dX5_keepBeside_130 rfl (by decide) (by first | exact gi_1 _ | exact gi_p _) ?_
        refine g_goto (tgt := 92) dX5_keepBeside_133 (by decide) ?_
        exact ih (i + 1) _ (by omega) hT
      · exact absurd rfl c100
set_option maxRecDepth 100000 in
set_option maxHeartbeats 400000 in
theorem kb4_0 (S : gS) {Q : gR → gW → Prop} (kk : ∀ T : gS, KB 44 46 42 33 45 36 S T 65536 800 → G MX5_keepBeside (0, 0) 182 [some (.ref 28), some (.int 0), some (.int (nI 800))] [] (wRf Γ τ T) 0 0 Q) : ∀ (m i : Nat) (T : gS), i + m = 800 → KB 44 46 42 33 45 36 S T 65536 i → G MX5_keepBeside (0, 0) 138 [some (.ref 28), some (.int 0), some (.int (nI i))] [] (wRf Γ τ T) 0 0 Q := by
  intro m
  induction m with
  | zero =>
    intro i T hi hT
    obtain rfl : i = 800 := by omega
    refine g_iload_n dX5_keepBeside_138 rfl rfl ?_
    refine g_sipush (v := 800) dX5_keepBeside_139 (by decide) ?_
    refine g_icmp_ge (tgt := 182) dX5_keepBeside_142 (by decide) (fun c142 => ?_) (fun c142 => ?_)
    · exact kk T hT
    · exact absurd (nI_le (a := 800) (b := 800) (Nat.le_refl _) (by decide)) c142
  | succ m ih =>
    intro i T hi hT
    refine g_iload_n dX5_keepBeside_138 rfl rfl ?_
    refine g_sipush (v := 800) dX5_keepBeside_139 (by decide) ?_
    refine g_icmp_ge (tgt := 182) dX5_keepBeside_142 (by decide) (fun c142 => ?_) (fun c142 => ?_)
    · exact absurd c142 (nI_ge (b := 800) (by omega) (by decide))
    · refine g_iload_n dX5_keepBeside_145 rfl rfl ?_
      refine g_if_eq (tgt := 164) dX5_keepBeside_146 (by decide) (fun c146 => ?_) (fun c146 => ?_)
      · refine g_aload_n dX5_keepBeside_164 rfl rfl ?_
        refine g_get dX5_keepBeside_165 flX5_62 rfl rfl ?_
        refine g_iload_n dX5_keepBeside_168 rfl rfl ?_
        refine g_aload_n dX5_keepBeside_169 rfl rfl ?_
        refine g_get dX5_keepBeside_170 flX5_35 rfl rfl ?_
        refine g_iload_n dX5_keepBeside_173 rfl rfl ?_
        refine g_iald dX5_keepBeside_174 rfl (vp_in_nI (by omega) (by decide)) ?_
        refine p_iast dX5_keepBeside_175 rfl (vp_in_nI (by omega) (by decide)) (by with_reducible first | exact wA_29 _ _ _ _ | exact wA_30 _ _ _ _ | exact wA_31 _ _ _ _ | exact wA_32 _ _ _ _ | exact wA_33 _ _ _ _ | exact wA_34 _ _ _ _ | exact wA_35 _ _ _ _ | exact wA_36 _ _ _ _ | exact wA_37 _ _ _ _ | exact wA_38 _ _ _ _ | exact wA_39 _ _ _ _ | exact wA_40 _ _ _ _ | exact wA_41 _ _ _ _ | exact wA_42 _ _ _ _ | exact wA_43 _ _ _ _ | exact wA_44 _ _ _ _ | exact wA_45 _ _ _ _ | exact wA_46 _ _ _ _ | exact wA_47 _ _ _ _) ?_
        refine g_iinc dX5_keepBeside_176 rfl (by decide) (by first | exact gi_1 _ | exact gi_p _) ?_
        refine g_goto (tgt := 138) dX5_keepBeside_179 (by decide) ?_
        refine ih (i + 1) _ (by omega) ?_
        rw [nI_clamp (n := i) (by omega)]
        exact hT.s2 (by decide) (by decide)
      · exact absurd rfl c146
set_option maxRecDepth 100000 in
set_option maxHeartbeats 400000 in
theorem kb5_0 (S : gS) {Q : gR → gW → Prop} (kk : ∀ T : gS, KB 44 46 42 33 45 36 S T 65536 800 → G MX5_keepBeside (0, 0) 275 [some (.ref 28), some (.int 0), some (.int (nI 100))] [] (wRf Γ τ T) 0 0 Q) : ∀ (m i : Nat) (T : gS), i + m = 100 → KB 44 46 42 33 45 36 S T 65536 800 → G MX5_keepBeside (0, 0) 184 [some (.ref 28), some (.int 0), some (.int (nI i))] [] (wRf Γ τ T) 0 0 Q := by
  intro m
  induction m with
  | zero =>
    intro i T hi hT
    obtain rfl : i = 100 := by omega
    refine g_iload_n dX5_keepBeside_184 rfl rfl ?_
    refine g_bipush (v := 100) dX5_keepBeside_185 (by decide) ?_
    refine g_icmp_ge (tgt := 275) dX5_keepBeside_187 (by decide) (fun c187 => ?_) (fun c187 => ?_)
    · exact kk T hT
    · exact absurd (nI_le (a := 100) (b := 100) (Nat.le_refl _) (by decide)) c187
  | succ m ih =>
    intro i T hi hT
    refine g_iload_n dX5_keepBeside_184 rfl rfl ?_
    refine g_bipush (v := 100) dX5_keepBeside_185 (by decide) ?_
    refine g_icmp_ge (tgt := 275) dX5_keepBeside_187 (by decide) (fun c187 => ?_) (fun c187 => ?_)
    · exact absurd c187 (nI_ge (b := 100) (by omega) (by decide))
    · refine g_iload_n dX5_keepBeside_190 rfl rfl ?_
      refine g_if_eq (tgt := 233) dX5_keepBeside_191 (by decide) (fun c191 => ?_) (fun c191 => ?_)
      · refine g_aload_n dX5_keepBeside_233 rfl rfl ?_
        refine g_get dX5_keepBeside_234 flX5_59 rfl rfl ?_
        refine g_iload_n dX5_keepBeside_237 rfl rfl ?_
        refine g_aload_n dX5_keepBeside_238 rfl rfl ?_
        refine g_get dX5_keepBeside_239 flX5_31 rfl rfl ?_
        refine g_iload_n dX5_keepBeside_242 rfl rfl ?_
        refine g_zald dX5_keepBeside_243 rfl (vp_in_nI (by omega) (by decide)) ?_
        refine p_zast dX5_keepBeside_244 rfl (vp_in_nI (by omega) (by decide)) (by with_reducible first | exact wA_29 _ _ _ _ | exact wA_30 _ _ _ _ | exact wA_31 _ _ _ _ | exact wA_32 _ _ _ _ | exact wA_33 _ _ _ _ | exact wA_34 _ _ _ _ | exact wA_35 _ _ _ _ | exact wA_36 _ _ _ _ | exact wA_37 _ _ _ _ | exact wA_38 _ _ _ _ | exact wA_39 _ _ _ _ | exact wA_40 _ _ _ _ | exact wA_41 _ _ _ _ | exact wA_42 _ _ _ _ | exact wA_43 _ _ _ _ | exact wA_44 _ _ _ _ | exact wA_45 _ _ _ _ | exact wA_46 _ _ _ _ | exact wA_47 _ _ _ _) ?_
        refine g_aload_n dX5_keepBeside_245 rfl rfl ?_
        refine g_get dX5_keepBeside_246 flX5_65 rfl rfl ?_
        refine g_iload_n dX5_keepBeside_249 rfl rfl ?_
        refine g_aload_n dX5_keepBeside_250 rfl rfl ?_
        refine g_get dX5_keepBeside_251 flX5_38 rfl rfl ?_
        refine g_iload_n dX5_keepBeside_254 rfl rfl ?_
        refine g_iald dX5_keepBeside_255 rfl (vp_in_nI (by omega) (by decide)) ?_
        refine p_iast dX5_keepBeside_256 rfl (vp_in_nI (by omega) (by decide)) (by with_reducible first | exact wA_29 _ _ _ _ | exact wA_30 _ _ _ _ | exact wA_31 _ _ _ _ | exact wA_32 _ _ _ _ | exact wA_33 _ _ _ _ | exact wA_34 _ _ _ _ | exact wA_35 _ _ _ _ | exact wA_36 _ _ _ _ | exact wA_37 _ _ _ _ | exact wA_38 _ _ _ _ | exact wA_39 _ _ _ _ | exact wA_40 _ _ _ _ | exact wA_41 _ _ _ _ | exact wA_42 _ _ _ _ | exact wA_43 _ _ _ _ | exact wA_44 _ _ _ _ | exact wA_45 _ _ _ _ | exact wA_46 _ _ _ _ | exact wA_47 _ _ _ _) ?_
        refine g_aload_n dX5_keepBeside_257 rfl rfl ?_
        refine g_get dX5_keepBeside_258 flX5_68 rfl rfl ?_
        refine g_iload_n dX5_keepBeside_261 rfl rfl ?_
        refine g_aload_n dX5_keepBeside_262 rfl rfl ?_
        refine g_get dX5_keepBeside_263 flX5_41 rfl rfl ?_
        refine g_iload_n dX5_keepBeside_266 rfl rfl ?_
        refine g_lald dX5_keepBeside_267 rfl (vp_in_nI (by omega) (by decide)) ?_
        refine p_last dX5_keepBeside_268 rfl (vp_in_nI (by omega) (by decide)) (by with_reducible first | exact wA_29 _ _ _ _ | exact wA_30 _ _ _ _ | exact wA_31 _ _ _ _ | exact wA_32 _ _ _ _ | exact wA_33 _ _ _ _ | exact wA_34 _ _ _ _ | exact wA_35 _ _ _ _ | exact wA_36 _ _ _ _ | exact wA_37 _ _ _ _ | exact wA_38 _ _ _ _ | exact wA_39 _ _ _ _ | exact wA_40 _ _ _ _ | exact wA_41 _ _ _ _ | exact wA_42 _ _ _ _ | exact wA_43 _ _ _ _ | exact wA_44 _ _ _ _ | exact wA_45 _ _ _ _ | exact wA_46 _ _ _ _ | exact wA_47 _ _ _ _) ?_
        refine g_iinc dX5_keepBeside_269 rfl (by decide) (by first | exact gi_1 _ | exact gi_p _) ?_
        refine g_goto (tgt := 184) dX5_keepBeside_272 (by decide) ?_
        exact ih (i + 1) _ (by omega) ((hT.o 44 (by decide) (by decide) (by decide) _).o 46 (by decide) (by decide) (by decide) _)
      · exact absurd rfl c191
set_option maxRecDepth 100000 in
set_option maxHeartbeats 400000 in
theorem n_kb0 (S : gS) : gCt MX5_keepBeside (0, 0) 0 0 [.ref 28, .int 0] (wRf Γ τ S) (g0 (wRf Γ τ) fun S' => KB 44 46 42 33 45 36 S S' 65536 800) := by
  refine gCt.of (ls := [some (.ref 28), some (.int 0), none]) 1 (by decide) rfl (Nat.le_of_ble_eq_true rfl) ?_
  refine g_iconst (v := 0) dX5_keepBeside_0 (by decide) ?_
  refine g_istore_n dX5_keepBeside_1 rfl (by decide) ?_
  refine kb1_0 S (fun T1 hT1 => ?_) 64 0 _ rfl ⟨rfl, fun _ _ _ _ _ => rfl, fun _ z => absurd z (Nat.not_lt_zero _), fun _ z => absurd z (Nat.not_lt_zero _)⟩
  refine g_iconst (v := 0) dX5_keepBeside_45 (by decide) ?_
  refine g_istore_n dX5_keepBeside_46 rfl (by decide) ?_
  refine kb2_0 S (fun T2 hT2 => ?_) 65536 0 _ rfl hT1
  refine g_iconst (v := 0) dX5_keepBeside_90 (by decide) ?_
  refine g_istore_n dX5_keepBeside_91 rfl (by decide) ?_
  refine kb3_0 S (fun T3 hT3 => ?_) 2560 0 _ rfl hT2
  refine g_iconst (v := 0) dX5_keepBeside_136 (by decide) ?_
  refine g_istore_n dX5_keepBeside_137 rfl (by decide) ?_
  refine kb4_0 S (fun T4 hT4 => ?_) 800 0 _ rfl hT3
  refine g_iconst (v := 0) dX5_keepBeside_182 (by decide) ?_
  refine g_istore_n dX5_keepBeside_183 rfl (by decide) ?_
  refine kb5_0 S (fun T5 hT5 => ?_) 100 0 _ rfl hT4
  refine g_vret dX5_keepBeside_275 rfl ⟨_, rfl, rfl, ?_⟩
  exact hT5
set_option maxRecDepth 100000 in
set_option maxHeartbeats 400000 in
theorem kb1_1 (S : gS) {Q : gR → gW → Prop} (kk : ∀ T : gS, KB 35 37 33 42 36 45 S T 0 0 → G MX5_keepBeside (0, 0) 45 [some (.ref 28), some (.int 1), some (.int (nI 64))] [] (wRf Γ τ T) 0 0 Q) : ∀ (m i : Nat) (T : gS), i + m = 64 → KB 35 37 33 42 36 45 S T 0 0 → G MX5_keepBeside (0, 0) 2 [some (.ref 28), some (.int 1), some (.int (nI i))] [] (wRf Γ τ T) 0 0 Q := by
  intro m
  induction m with
  | zero =>
    intro i T hi hT
    obtain rfl : i = 64 := by omega
    refine g_iload_n dX5_keepBeside_2 rfl rfl ?_
    refine g_bipush (v := 64) dX5_keepBeside_3 (by decide) ?_
    refine g_icmp_ge (tgt := 45) dX5_keepBeside_5 (by decide) (fun c5 => ?_) (fun c5 => ?_)
    · exact kk T hT
    · exact absurd (nI_le (a := 64) (b := 64) (Nat.le_refl _) (by decide)) c5
  | succ m ih =>
    intro i T hi hT
    refine g_iload_n dX5_keepBeside_2 rfl rfl ?_
    refine g_bipush (v := 64) dX5_keepBeside_3 (by decide) ?_
    refine g_icmp_ge (tgt := 45) dX5_keepBeside_5 (by decide) (fun c5 => ?_) (fun c5 => ?_)
    · exact absurd c5 (nI_ge (b := 64) (by omega) (by decide))
    · refine g_iload_n dX5_keepBeside_8 rfl rfl ?_
      refine g_if_eq (tgt := 27) dX5_keepBeside_9 (by decide) (fun c9 => ?_) (fun c9 => ?_)
      · exact absurd c9 (by decide)
      · refine g_aload_n dX5_keepBeside_12 rfl rfl ?_
        refine g_get dX5_keepBeside_13 flX5_20 rfl rfl ?_
        refine g_iload_n dX5_keepBeside_16 rfl rfl ?_
        refine g_aload_n dX5_keepBeside_17 rfl rfl ?_
        refine g_get dX5_keepBeside_18 flX5_50 rfl rfl ?_
        refine g_iload_n dX5_keepBeside_21 rfl rfl ?_
        refine g_lald dX5_keepBeside_22 rfl (vp_in_nI (by omega) (by decide)) ?_
        refine p_last dX5_keepBeside_23 rfl (vp_in_nI (by omega) (by decide)) (by with_reducible first | exact wA_29 _ _ _ _ | exact wA_30 _ _ _ _ | exact wA_31 _ _ _ _ | exact wA_32 _ _ _ _ | exact wA_33 _ _ _ _ | exact wA_34 _ _ _ _ | exact wA_35 _ _ _ _ | exact wA_36 _ _ _ _ | exact wA_37 _ _ _ _ | exact wA_38 _ _ _ _ | exact wA_39 _ _ _ _ | exact wA_40 _ _ _ _ | exact wA_41 _ _ _ _ | exact wA_42 _ _ _ _ | exact wA_43 _ _ _ _ | exact wA_44 _ _ _ _ | exact wA_45 _ _ _ _ | exact wA_46 _ _ _ _ | exact wA_47 _ _ _ _) ?_
        refine g_goto (tgt := 39) dX5_keepBeside_24 (by decide) ?_
        refine g_iinc dX5_keepBeside_39 rfl (by decide) (by first | exact gi_1 _ | exact gi_p _) ?_
        refine g_goto (tgt := 2) dX5_keepBeside_42 (by decide) ?_
        exact ih (i + 1) _ (by omega) hT
set_option maxRecDepth 100000 in
set_option maxHeartbeats 400000 in
theorem kb2_1 (S : gS) {Q : gR → gW → Prop} (kk : ∀ T : gS, KB 35 37 33 42 36 45 S T 65536 0 → G MX5_keepBeside (0, 0) 90 [some (.ref 28), some (.int 1), some (.int (nI 65536))] [] (wRf Γ τ T) 0 0 Q) : ∀ (m i : Nat) (T : gS), i + m = 65536 → KB 35 37 33 42 36 45 S T i 0 → G MX5_keepBeside (0, 0) 47 [some (.ref 28), some (.int 1), some (.int (nI i))] [] (wRf Γ τ T) 0 0 Q := by
  intro m
  induction m with
  | zero =>
    intro i T hi hT
    obtain rfl : i = 65536 := by omega
    refine g_iload_n dX5_keepBeside_47 rfl rfl ?_
    refine g_ldc dX5_keepBeside_48 coX5_24 ?_
    refine g_icmp_ge (tgt := 90) dX5_keepBeside_50 (by decide) (fun c50 => ?_) (fun c50 => ?_)
    · exact kk T hT
    · exact absurd (nI_le (a := 65536) (b := 65536) (Nat.le_refl _) (by decide)) c50
  | succ m ih =>
    intro i T hi hT
    refine g_iload_n dX5_keepBeside_47 rfl rfl ?_
    refine g_ldc dX5_keepBeside_48 coX5_24 ?_
    refine g_icmp_ge (tgt := 90) dX5_keepBeside_50 (by decide) (fun c50 => ?_) (fun c50 => ?_)
    · exact absurd c50 (nI_ge (b := 65536) (by omega) (by decide))
    · refine g_iload_n dX5_keepBeside_53 rfl rfl ?_
      refine g_if_eq (tgt := 72) dX5_keepBeside_54 (by decide) (fun c54 => ?_) (fun c54 => ?_)
      · exact absurd c54 (by decide)
      · refine g_aload_n dX5_keepBeside_57 rfl rfl ?_
        refine g_get dX5_keepBeside_58 flX5_25 rfl rfl ?_
        refine g_iload_n dX5_keepBeside_61 rfl rfl ?_
        refine g_aload_n dX5_keepBeside_62 rfl rfl ?_
        refine g_get dX5_keepBeside_63 flX5_53 rfl rfl ?_
        refine g_iload_n dX5_keepBeside_66 rfl rfl ?_
        refine g_iald dX5_keepBeside_67 rfl (vp_in_nI (by omega) (by decide)) ?_
        refine p_iast dX5_keepBeside_68 rfl (vp_in_nI (by omega) (by decide)) (by with_reducible first | exact wA_29 _ _ _ _ | exact wA_30 _ _ _ _ | exact wA_31 _ _ _ _ | exact wA_32 _ _ _ _ | exact wA_33 _ _ _ _ | exact wA_34 _ _ _ _ | exact wA_35 _ _ _ _ | exact wA_36 _ _ _ _ | exact wA_37 _ _ _ _ | exact wA_38 _ _ _ _ | exact wA_39 _ _ _ _ | exact wA_40 _ _ _ _ | exact wA_41 _ _ _ _ | exact wA_42 _ _ _ _ | exact wA_43 _ _ _ _ | exact wA_44 _ _ _ _ | exact wA_45 _ _ _ _ | exact wA_46 _ _ _ _ | exact wA_47 _ _ _ _) ?_
        refine g_goto (tgt := 84) dX5_keepBeside_69 (by decide) ?_
        refine g_iinc dX5_keepBeside_84 rfl (by decide) (by first | exact gi_1 _ | exact gi_p _) ?_
        refine g_goto (tgt := 47) dX5_keepBeside_87 (by decide) ?_
        refine ih (i + 1) _ (by omega) ?_
        rw [nI_clamp (n := i) (by omega)]
        exact hT.s1 (by decide) (by decide)
set_option maxRecDepth 100000 in
set_option maxHeartbeats 400000 in
theorem kb3_1 (S : gS) {Q : gR → gW → Prop} (kk : ∀ T : gS, KB 35 37 33 42 36 45 S T 65536 0 → G MX5_keepBeside (0, 0) 136 [some (.ref 28), some (.int 1), some (.int (nI 2560))] [] (wRf Γ τ T) 0 0 Q) : ∀ (m i : Nat) (T : gS), i + m = 2560 → KB 35 37 33 42 36 45 S T 65536 0 → G MX5_keepBeside (0, 0) 92 [some (.ref 28), some (.int 1), some (.int (nI i))] [] (wRf Γ τ T) 0 0 Q := by
  intro m
  induction m with
  | zero =>
    intro i T hi hT
    obtain rfl : i = 2560 := by omega
    refine g_iload_n dX5_keepBeside_92 rfl rfl ?_
    refine g_sipush (v := 2560) dX5_keepBeside_93 (by decide) ?_
    refine g_icmp_ge (tgt := 136) dX5_keepBeside_96 (by decide) (fun c96 => ?_) (fun c96 => ?_)
    · exact kk T hT
    · exact absurd (nI_le (a := 2560) (b := 2560) (Nat.le_refl _) (by decide)) c96
  | succ m ih =>
    intro i T hi hT
    refine g_iload_n dX5_keepBeside_92 rfl rfl ?_
    refine g_sipush (v := 2560) dX5_keepBeside_93 (by decide) ?_
    refine g_icmp_ge (tgt := 136) dX5_keepBeside_96 (by decide) (fun c96 => ?_) (fun c96 => ?_)
    · exact absurd c96 (nI_ge (b := 2560) (by omega) (by decide))
    · refine g_iload_n dX5_keepBeside_99 rfl rfl ?_
      refine g_if_eq (tgt := 118) dX5_keepBeside_100 (by decide) (fun c100 => ?_) (fun c100 => ?_)
      · exact absurd c100 (by decide)
      · refine g_aload_n dX5_keepBeside_103 rfl rfl ?_
        refine g_get dX5_keepBeside_104 flX5_28 rfl rfl ?_
        refine g_iload_n dX5_keepBeside_107 rfl rfl ?_
        refine g_aload_n dX5_keepBeside_108 rfl rfl ?_
        refine g_get dX5_keepBeside_109 flX5_56 rfl rfl ?_
        refine g_iload_n dX5_keepBeside_112 rfl rfl ?_
        refine g_lald dX5_keepBeside_113 rfl (vp_in_nI (by omega) (by decide)) ?_
        refine p_last dX5_keepBeside_114 rfl (vp_in_nI (by omega) (by decide)) (by with_reducible first | exact wA_29 _ _ _ _ | exact wA_30 _ _ _ _ | exact wA_31 _ _ _ _ | exact wA_32 _ _ _ _ | exact wA_33 _ _ _ _ | exact wA_34 _ _ _ _ | exact wA_35 _ _ _ _ | exact wA_36 _ _ _ _ | exact wA_37 _ _ _ _ | exact wA_38 _ _ _ _ | exact wA_39 _ _ _ _ | exact wA_40 _ _ _ _ | exact wA_41 _ _ _ _ | exact wA_42 _ _ _ _ | exact wA_43 _ _ _ _ | exact wA_44 _ _ _ _ | exact wA_45 _ _ _ _ | exact wA_46 _ _ _ _ | exact wA_47 _ _ _ _) ?_
        refine g_goto (tgt := 130) dX5_keepBeside_115 (by decide) ?_
        refine g_iinc dX5_keepBeside_130 rfl (by decide) (by first | exact gi_1 _ | exact gi_p _) ?_
        refine g_goto (tgt := 92) dX5_keepBeside_133 (by decide) ?_
        exact ih (i + 1) _ (by omega) hT
set_option maxRecDepth 100000 in
set_option maxHeartbeats 400000 in
theorem kb4_1 (S : gS) {Q : gR → gW → Prop} (kk : ∀ T : gS, KB 35 37 33 42 36 45 S T 65536 800 → G MX5_keepBeside (0, 0) 182 [some (.ref 28), some (.int 1), some (.int (nI 800))] [] (wRf Γ τ T) 0 0 Q) : ∀ (m i : Nat) (T : gS), i + m = 800 → KB 35 37 33 42 36 45 S T 65536 i → G MX5_keepBeside (0, 0) 138 [some (.ref 28), some (.int 1), some (.int (nI i))] [] (wRf Γ τ T) 0 0 Q := by
  intro m
  induction m with
  | zero =>
    intro i T hi hT
    obtain rfl : i = 800 := by omega
    refine g_iload_n dX5_keepBeside_138 rfl rfl ?_
    refine g_sipush (v := 800) dX5_keepBeside_139 (by decide) ?_
    refine g_icmp_ge (tgt := 182) dX5_keepBeside_142 (by decide) (fun c142 => ?_) (fun c142 => ?_)
    · exact kk T hT
    · exact absurd (nI_le (a := 800) (b := 800) (Nat.le_refl _) (by decide)) c142
  | succ m ih =>
    intro i T hi hT
    refine g_iload_n dX5_keepBeside_138 rfl rfl ?_
    refine g_sipush (v := 800) dX5_keepBeside_139 (by decide) ?_
    refine g_icmp_ge (tgt := 182) dX5_keepBeside_142 (by decide) (fun c142 => ?_) (fun c142 => ?_)
    · exact absurd c142 (nI_ge (b := 800) (by omega) (by decide))
    · refine g_iload_n dX5_keepBeside_145 rfl rfl ?_
      refine g_if_eq (tgt := 164) dX5_keepBeside_146 (by decide) (fun c146 => ?_) (fun c146 => ?_)
      · exact absurd c146 (by decide)
      · refine g_aload_n dX5_keepBeside_149 rfl rfl ?_
        refine g_get dX5_keepBeside_150 flX5_35 rfl rfl ?_
        refine g_iload_n dX5_keepBeside_153 rfl rfl ?_
        refine g_aload_n dX5_keepBeside_154 rfl rfl ?_
        refine g_get dX5_keepBeside_155 flX5_62 rfl rfl ?_
        refine g_iload_n dX5_keepBeside_158 rfl rfl ?_
        refine g_iald dX5_keepBeside_159 rfl (vp_in_nI (by omega) (by decide)) ?_
        refine p_iast dX5_keepBeside_160 rfl (vp_in_nI (by omega) (by decide)) (by with_reducible first | exact wA_29 _ _ _ _ | exact wA_30 _ _ _ _ | exact wA_31 _ _ _ _ | exact wA_32 _ _ _ _ | exact wA_33 _ _ _ _ | exact wA_34 _ _ _ _ | exact wA_35 _ _ _ _ | exact wA_36 _ _ _ _ | exact wA_37 _ _ _ _ | exact wA_38 _ _ _ _ | exact wA_39 _ _ _ _ | exact wA_40 _ _ _ _ | exact wA_41 _ _ _ _ | exact wA_42 _ _ _ _ | exact wA_43 _ _ _ _ | exact wA_44 _ _ _ _ | exact wA_45 _ _ _ _ | exact wA_46 _ _ _ _ | exact wA_47 _ _ _ _) ?_
        refine g_goto (tgt := 176) dX5_keepBeside_161 (by decide) ?_
        refine g_iinc dX5_keepBeside_176 rfl (by decide) (by first | exact gi_1 _ | exact gi_p _) ?_
        refine g_goto (tgt := 138) dX5_keepBeside_179 (by decide) ?_
        refine ih (i + 1) _ (by omega) ?_
        rw [nI_clamp (n := i) (by omega)]
        exact hT.s2 (by decide) (by decide)
set_option maxRecDepth 100000 in
set_option maxHeartbeats 400000 in
theorem kb5_1 (S : gS) {Q : gR → gW → Prop} (kk : ∀ T : gS, KB 35 37 33 42 36 45 S T 65536 800 → G MX5_keepBeside (0, 0) 275 [some (.ref 28), some (.int 1), some (.int (nI 100))] [] (wRf Γ τ T) 0 0 Q) : ∀ (m i : Nat) (T : gS), i + m = 100 → KB 35 37 33 42 36 45 S T 65536 800 → G MX5_keepBeside (0, 0) 184 [some (.ref 28), some (.int 1), some (.int (nI i))] [] (wRf Γ τ T) 0 0 Q := by
  intro m
  induction m with
  | zero =>
    intro i T hi hT
    obtain rfl : i = 100 := by omega
    refine g_iload_n dX5_keepBeside_184 rfl rfl ?_
    refine g_bipush (v := 100) dX5_keepBeside_185 (by decide) ?_
    refine g_icmp_ge (tgt := 275) dX5_keepBeside_187 (by decide) (fun c187 => ?_) (fun c187 => ?_)
    · exact kk T hT
    · exact absurd (nI_le (a := 100) (b := 100) (Nat.le_refl _) (by decide)) c187
  | succ m ih =>
    intro i T hi hT
    refine g_iload_n dX5_keepBeside_184 rfl rfl ?_
    refine g_bipush (v := 100) dX5_keepBeside_185 (by decide) ?_
    refine g_icmp_ge (tgt := 275) dX5_keepBeside_187 (by decide) (fun c187 => ?_) (fun c187 => ?_)
    · exact absurd c187 (nI_ge (b := 100) (by omega) (by decide))
    · refine g_iload_n dX5_keepBeside_190 rfl rfl ?_
      refine g_if_eq (tgt := 233) dX5_keepBeside_191 (by decide) (fun c191 => ?_) (fun c191 => ?_)
      · exact absurd c191 (by decide)
      · refine g_aload_n dX5_keepBeside_194 rfl rfl ?_
        refine g_get dX5_keepBeside_195 flX5_31 rfl rfl ?_
        refine g_iload_n dX5_keepBeside_198 rfl rfl ?_
        refine g_aload_n dX5_keepBeside_199 rfl rfl ?_
        refine g_get dX5_keepBeside_200 flX5_59 rfl rfl ?_
        refine g_iload_n dX5_keepBeside_203 rfl rfl ?_
        refine g_zald dX5_keepBeside_204 rfl (vp_in_nI (by omega) (by decide)) ?_
        refine p_zast dX5_keepBeside_205 rfl (vp_in_nI (by omega) (by decide)) (by with_reducible first | exact wA_29 _ _ _ _ | exact wA_30 _ _ _ _ | exact wA_31 _ _ _ _ | exact wA_32 _ _ _ _ | exact wA_33 _ _ _ _ | exact wA_34 _ _ _ _ | exact wA_35 _ _ _ _ | exact wA_36 _ _ _ _ | exact wA_37 _ _ _ _ | exact wA_38 _ _ _ _ | exact wA_39 _ _ _ _ | exact wA_40 _ _ _ _ | exact wA_41 _ _ _ _ | exact wA_42 _ _ _ _ | exact wA_43 _ _ _ _ | exact wA_44 _ _ _ _ | exact wA_45 _ _ _ _ | exact wA_46 _ _ _ _ | exact wA_47 _ _ _ _) ?_
        refine g_aload_n dX5_keepBeside_206 rfl rfl ?_
        refine g_get dX5_keepBeside_207 flX5_38 rfl rfl ?_
        refine g_iload_n dX5_keepBeside_210 rfl rfl ?_
        refine g_aload_n dX5_keepBeside_211 rfl rfl ?_
        refine g_get dX5_keepBeside_212 flX5_65 rfl rfl ?_
        refine g_iload_n dX5_keepBeside_215 rfl rfl ?_
        refine g_iald dX5_keepBeside_216 rfl (vp_in_nI (by omega) (by decide)) ?_
        refine p_iast dX5_keepBeside_217 rfl (vp_in_nI (by omega) (by decide)) (by with_reducible first | exact wA_29 _ _ _ _ | exact wA_30 _ _ _ _ | exact wA_31 _ _ _ _ | exact wA_32 _ _ _ _ | exact wA_33 _ _ _ _ | exact wA_34 _ _ _ _ | exact wA_35 _ _ _ _ | exact wA_36 _ _ _ _ | exact wA_37 _ _ _ _ | exact wA_38 _ _ _ _ | exact wA_39 _ _ _ _ | exact wA_40 _ _ _ _ | exact wA_41 _ _ _ _ | exact wA_42 _ _ _ _ | exact wA_43 _ _ _ _ | exact wA_44 _ _ _ _ | exact wA_45 _ _ _ _ | exact wA_46 _ _ _ _ | exact wA_47 _ _ _ _) ?_
        refine g_aload_n dX5_keepBeside_218 rfl rfl ?_
        refine g_get dX5_keepBeside_219 flX5_41 rfl rfl ?_
        refine g_iload_n dX5_keepBeside_222 rfl rfl ?_
        refine g_aload_n dX5_keepBeside_223 rfl rfl ?_
        refine g_get dX5_keepBeside_224 flX5_68 rfl rfl ?_
        refine g_iload_n dX5_keepBeside_227 rfl rfl ?_
        refine g_lald dX5_keepBeside_228 rfl (vp_in_nI (by omega) (by decide)) ?_
        refine p_last dX5_keepBeside_229 rfl (vp_in_nI (by omega) (by decide)) (by with_reducible first | exact wA_29 _ _ _ _ | exact wA_30 _ _ _ _ | exact wA_31 _ _ _ _ | exact wA_32 _ _ _ _ | exact wA_33 _ _ _ _ | exact wA_34 _ _ _ _ | exact wA_35 _ _ _ _ | exact wA_36 _ _ _ _ | exact wA_37 _ _ _ _ | exact wA_38 _ _ _ _ | exact wA_39 _ _ _ _ | exact wA_40 _ _ _ _ | exact wA_41 _ _ _ _ | exact wA_42 _ _ _ _ | exact wA_43 _ _ _ _ | exact wA_44 _ _ _ _ | exact wA_45 _ _ _ _ | exact wA_46 _ _ _ _ | exact wA_47 _ _ _ _) ?_
        refine g_goto (tgt := 269) dX5_keepBeside_230 (by decide) ?_
        refine g_iinc dX5_keepBeside_269 rfl (by decide) (by first | exact gi_1 _ | exact gi_p _) ?_
        refine g_goto (tgt := 184) dX5_keepBeside_272 (by decide) ?_
        exact ih (i + 1) _ (by omega) ((hT.o 35 (by decide) (by decide) (by decide) _).o 37 (by decide) (by decide) (by decide) _)
set_option maxRecDepth 100000 in
set_option maxHeartbeats 400000 in
theorem n_kb1 (S : gS) : gCt MX5_keepBeside (0, 0) 0 0 [.ref 28, .int 1] (wRf Γ τ S) (g0 (wRf Γ τ) fun S' => KB 35 37 33 42 36 45 S S' 65536 800) := by
  refine gCt.of (ls := [some (.ref 28), some (.int 1), none]) 1 (by decide) rfl (Nat.le_of_ble_eq_true rfl) ?_
  refine g_iconst (v := 0) dX5_keepBeside_0 (by decide) ?_
  refine g_istore_n dX5_keepBeside_1 rfl (by decide) ?_
  refine kb1_1 S (fun T1 hT1 => ?_) 64 0 _ rfl ⟨rfl, fun _ _ _ _ _ => rfl, fun _ z => absurd z (Nat.not_lt_zero _), fun _ z => absurd z (Nat.not_lt_zero _)⟩
  refine g_iconst (v := 0) dX5_keepBeside_45 (by decide) ?_
  refine g_istore_n dX5_keepBeside_46 rfl (by decide) ?_
  refine kb2_1 S (fun T2 hT2 => ?_) 65536 0 _ rfl hT1
  refine g_iconst (v := 0) dX5_keepBeside_90 (by decide) ?_
  refine g_istore_n dX5_keepBeside_91 rfl (by decide) ?_
  refine kb3_1 S (fun T3 hT3 => ?_) 2560 0 _ rfl hT2
  refine g_iconst (v := 0) dX5_keepBeside_136 (by decide) ?_
  refine g_istore_n dX5_keepBeside_137 rfl (by decide) ?_
  refine kb4_1 S (fun T4 hT4 => ?_) 800 0 _ rfl hT3
  refine g_iconst (v := 0) dX5_keepBeside_182 (by decide) ?_
  refine g_istore_n dX5_keepBeside_183 rfl (by decide) ?_
  refine kb5_1 S (fun T5 hT5 => ?_) 100 0 _ rfl hT4
  refine g_vret dX5_keepBeside_275 rfl ⟨_, rfl, rfl, ?_⟩
  exact hT5
theorem R0.kb {S T : gS} {w L V n c rm : Nat} (h : R0 S w L V n c rm) (k : KB 44 46 42 33 45 36 S T 65536 800) : R0 T w L V n c rm := by
  obtain ⟨k1, k2, -, -⟩ := k
  have e : ∀ x, x = 29 ∨ x = 30 ∨ x = 31 ∨ x = 33 ∨ x = 36 → T.2.1 x = S.2.1 x := fun x hx => k2 x (by omega) (by omega) (by omega) (by omega)
  unfold R0 PL SL PT
  rw [k1, e 29 (by decide), e 30 (by decide), e 31 (by decide), e 33 (by decide), e 36 (by decide)]
  exact h
/-- a log read once more, and all as it was -/
theorem R0.back {S1 S2 T : gS} {w L V n c rm L' V' n' c' : Nat} {x2 x3 : Int32} (h : R0 S1 w L V n c rm) (h2 : R0 S2 w L' V' n' c' rm) (k : KB 35 37 33 42 36 45 (mS (mS (mS (mS (mS (mS S2 28 9 (nI L)) 28 10 x2) 28 11 x3) 28 14 (nI c)) 28 16 (nI V)) 28 19 (nI n)) T 65536 800) (a1 : ∀ j, j < 65536 → S2.2.1 42 j = S1.2.1 33 j) (a2 : ∀ j, j < 800 → S2.2.1 45 j = S1.2.1 36 j) : R0 T w L V n c rm := by
  obtain ⟨-, hb, -, -, -, k7, k8⟩ := h
  obtain ⟨⟨r1, -, -, -, -, r6⟩, -, r3, r4, r5, -, -⟩ := h2
  obtain ⟨k1, k2, k3, k4⟩ := k
  refine ⟨⟨by rw [k1]; exact r1, by rw [k1]; rfl, by rw [k1]; rfl, by rw [k1]; rfl, by rw [k1]; rfl, by rw [k1]; exact r6⟩, hb, by rw [k1]; exact r3, ?_, fun i hi => ?_, fun j hj => ?_, fun i hi => ?_⟩
  · rw [k2 29 (by decide) (by decide) (by decide) (by decide)]; exact r4
  · rw [k2 30 (by decide) (by decide) (by decide) (by decide), k2 31 (by decide) (by decide) (by decide) (by decide)]; exact r5 i hi
  · rw [k3 j hj]
    show S2.2.1 42 j = -1 ∨ ∃ q : Nat, q < c ∧ S2.2.1 42 j = nI q
    rw [a1 j hj]; exact k7 j hj
  · have hV := hb.2.2.1
    obtain ⟨q, q1, q2, q3⟩ := k8 i hi
    refine ⟨q, q1, ?_, ?_⟩
    · rw [k4 i (by omega)]; exact (a2 i (by omega)).trans q2
    · rw [k3 q q1]
      show ¬ S2.2.1 42 q = -1
      rw [a1 q q1]; exact q3
theorem nI_nm1 {r : Nat} (h : r < 2 ^ 31) : ¬ nI r = -1 := fun z => absurd (nI_pos' h) (by rw [z]; decide)
set_option maxRecDepth 100000 in
set_option maxHeartbeats 400000 in
theorem ln_bax (S0 : gS) (x2 x3 x4 x5 x6 : Int32) (w rm len : Nat) {Q : gR → gW → Prop} (kk : ∀ (S : gS) (L V n c : Nat) (b : Int32), R0 S w L V n c rm → (∀ k, 39 ≤ k → S.2.1 k = S0.2.1 k) → G MX5_badAt (3, 71) 139 [some (.ref 28), some (.int (nI len)), some (.int x2), some (.int x3), some (.int x4), some (.int x5), some (.int x6), some (.int b)] [] (wRf Γ τ S) 0 0 Q) (L V n c : Nat) (S : gS) (b : Int32) (hb : ¬ b = -1) (h : R0 S w L V n c rm) (ha : ∀ k, 39 ≤ k → S.2.1 k = S0.2.1 k) : G MX5_badAt (3, 71) 70 [some (.ref 28), some (.int (nI len)), some (.int x2), some (.int x3), some (.int x4), some (.int x5), some (.int x6), some (.int b)] [] (wRf Γ τ S) 0 0 Q := by
  refine g_aload_n dX5_badAt_70 rfl rfl ?_
  refine g_get dX5_badAt_71 flX5_98 rfl rfl ?_
  refine g_iload_n dX5_badAt_74 rfl rfl ?_
  refine g_icmp_ge (tgt := 139) dX5_badAt_75 (by decide) (fun c75 => ?_) (fun c75 => ?_)
  · exact kk S L V n c b h ha
  · refine g_iload dX5_badAt_78 rfl ?_
    refine g_iconst (v := (-1)) dX5_badAt_80 (by decide) ?_
    refine g_icmp_ne (tgt := 139) dX5_badAt_81 (by decide) (fun c81 => ?_) (fun c81 => ?_)
    · exact kk S L V n c b h ha
    · exact absurd c81 hb
set_option maxRecDepth 100000 in
set_option maxHeartbeats 400000 in
theorem ln_bad (S0 : gS) (x2 x3 x4 x5 x6 : Int32) (w rm len : Nat) (hl : len ≤ 24000) {Q : gR → gW → Prop} (kk : ∀ (S : gS) (L V n c : Nat) (b : Int32), R0 S w L V n c rm → (∀ k, 39 ≤ k → S.2.1 k = S0.2.1 k) → G MX5_badAt (3, 71) 139 [some (.ref 28), some (.int (nI len)), some (.int x2), some (.int x3), some (.int x4), some (.int x5), some (.int x6), some (.int b)] [] (wRf Γ τ S) 0 0 Q) : ∀ (m L V n c r : Nat) (S : gS), len ≤ L + m → L ≤ len → r ≤ L → S.1 28 10 = nI r → R0 S w L V n c rm → (∀ k, 39 ≤ k → S.2.1 k = S0.2.1 k) → G MX5_badAt (3, 71) 70 [some (.ref 28), some (.int (nI len)), some (.int x2), some (.int x3), some (.int x4), some (.int x5), some (.int x6), some (.int (-1))] [] (wRf Γ τ S) 0 0 Q := by
  intro m
  induction m with
  | zero =>
    intro L V n c r S hm hLl hr e10 h ha
    refine g_aload_n dX5_badAt_70 rfl rfl ?_
    refine g_get dX5_badAt_71 flX5_98 rfl rfl ?_
    refine g_eqi (y := nI (L)) (h.1.2.1) ?_
    refine g_iload_n dX5_badAt_74 rfl rfl ?_
    refine g_icmp_ge (tgt := 139) dX5_badAt_75 (by decide) (fun c75 => ?_) (fun c75 => ?_)
    · exact kk S L V n c _ h ha
    · exact absurd (nI_le (by omega) (by omega)) c75
  | succ m ih =>
    intro L V n c r S hm hLl hr e10 h ha
    refine g_aload_n dX5_badAt_70 rfl rfl ?_
    refine g_get dX5_badAt_71 flX5_98 rfl rfl ?_
    refine g_eqi (y := nI (L)) (h.1.2.1) ?_
    refine g_iload_n dX5_badAt_74 rfl rfl ?_
    refine g_icmp_ge (tgt := 139) dX5_badAt_75 (by decide) (fun c75 => ?_) (fun c75 => ?_)
    · first | exact absurd rfl c81 | exact kk S L V n c _ h ha
    · refine g_iload dX5_badAt_78 rfl ?_
      refine g_iconst (v := (-1)) dX5_badAt_80 (by decide) ?_
      refine g_icmp_ne (tgt := 139) dX5_badAt_81 (by decide) (fun c81 => ?_) (fun c81 => ?_)
      · first | exact absurd rfl c81 | exact kk S L V n c _ h ha
      · have hlt : L < len := lt_of_nI (by omega) c75
        refine g_aload_n dX5_badAt_84 rfl rfl ?_
        refine g_bipush (v := 32) dX5_badAt_85 (by decide) ?_
        refine g_aload_n dX5_badAt_87 rfl rfl ?_
        refine g_get dX5_badAt_88 flX5_98 rfl rfl ?_
        refine g_iadd dX5_badAt_91 ?_
        refine g_eqi (y := nI (32 + L)) (by rw [h.1.2.1]; exact nI_add 32 L) ?_
        refine g_bipush (v := 32) dX5_badAt_92 (by decide) ?_
        refine g_iload_n dX5_badAt_94 rfl rfl ?_
        refine g_iadd dX5_badAt_95 ?_
        refine g_eqi (y := nI (32 + len)) (nI_add 32 len) ?_
        refine cV2N (fun _ _ => rfl) dX5_badAt_96 mlX5_193 imX5_isRight seX5_isRight rfl rfl (n_isRight _ w L V n c rm len h hl hLl) (by decide) (Nat.le_of_ble_eq_true rfl) (Nat.le_of_ble_eq_true rfl) (Nat.le_of_ble_eq_true rfl) ?_
        rintro _ _ ⟨⟨ir, rfl, ir01, hir⟩, rfl⟩
        refine g_if_ne (tgt := 111) dX5_badAt_99 (by decide) (fun c99 => ?_) (fun c99 => ?_)
        · obtain ⟨sz, hk⟩ := hir c99
          have hk1 := hk.1
          refine g_aload_n dX5_badAt_111 rfl rfl ?_
          refine g_bipush (v := 32) dX5_badAt_112 (by decide) ?_
          refine g_aload_n dX5_badAt_114 rfl rfl ?_
          refine g_get dX5_badAt_115 flX5_98 rfl rfl ?_
          refine g_iadd dX5_badAt_118 ?_
          refine g_eqi (y := nI (32 + L)) (by rw [h.1.2.1]; exact nI_add 32 L) ?_
          refine g_aload_n dX5_badAt_119 rfl rfl ?_
          refine g_get dX5_badAt_120 flX5_7 rfl rfl ?_
          refine g_bipush (v := 32) dX5_badAt_123 (by decide) ?_
          refine g_aload_n dX5_badAt_125 rfl rfl ?_
          refine g_get dX5_badAt_126 flX5_98 rfl rfl ?_
          refine g_iadd dX5_badAt_129 ?_
          refine g_eqi (y := nI (32 + L)) (by rw [h.1.2.1]; exact nI_add 32 L) ?_
          refine g_iconst (v := 3) dX5_badAt_130 (by decide) ?_
          refine g_iadd dX5_badAt_131 ?_
          refine g_eqi (y := nI (32 + L + 3)) (nI_add _ 3) ?_
          refine g_iald dX5_badAt_132 rfl (vp_in_nI (by omega) (by decide)) ?_
          refine g_eqi (y := nI (sz)) (by rw [nI_clamp (n := 32 + L + 3) (by omega)]; exact hk.2.1) ?_
          refine cV20 (fun _ _ => rfl) dX5_badAt_133 mlX5_130 imX5_take seX5_take rfl rfl (n_take _ w L V n c rm len sz h hl hk) (by decide) (Nat.le_of_ble_eq_true rfl) (Nat.le_of_ble_eq_true rfl) (Nat.le_of_ble_eq_true rfl) ?_
          rintro S2 ⟨⟨V2, n2, c2, hS2⟩, hop, hr10, hark⟩
          refine g_goto (tgt := 70) dX5_badAt_136 (by decide) ?_
          exact ih (L + 12 + sz) V2 n2 c2 (r + 1) S2 (by omega) hk1 (by omega) (by rw [hr10, e10, nI_1]) hS2 (fun k hk => (hark k hk).trans (ha k hk))
        · refine g_aload_n dX5_badAt_102 rfl rfl ?_
          refine g_get dX5_badAt_103 flX5_101 rfl rfl ?_
          refine g_eqi (y := nI (r)) (e10) ?_
          refine g_istore dX5_badAt_106 (by decide) ?_
          refine g_goto (tgt := 70) dX5_badAt_108 (by decide) ?_
          exact ln_bax S0 x2 x3 x4 x5 x6 w rm len kk L V n c S _ (nI_nm1 (r := r) (by omega)) h ha
set_option maxRecDepth 100000 in
set_option maxHeartbeats 400000 in
theorem n_badAt (S : gS) (t : Nat) (h : RI S t) : gCt MX5_badAt (3, 71) 0 0 [.ref 28] (wRf Γ τ S) (gN (wRf Γ τ) fun v S' => (∃ r : Int32, v = .int r) ∧ RI S' (t + 1)) := by
  refine gCt.of (ls := [some (.ref 28), none, none, none, none, none, none, none]) 7 (by decide) rfl (Nat.le_of_ble_eq_true rfl) ?_
  have h0 := h
  obtain ⟨w, L, V, n, c, rm, hC⟩ := h
  have hL := hC.1.2.1.2.1
  refine g_aload_n dX5_badAt_0 rfl rfl ?_
  refine g_aload_n dX5_badAt_1 rfl rfl ?_
  refine g_get dX5_badAt_2 flX5_94 rfl rfl ?_
  refine g_if_eq (tgt := 12) dX5_badAt_5 (by decide) (fun c5 => ?_) (fun c5 => ?_)
  · refine g_iconst (v := 1) dX5_badAt_12 (by decide) ?_
    refine p_put dX5_badAt_13 fpX5_75 rfl (Nat.le_of_ble_eq_true rfl) (fun _ => rfl) (fun _ => rfl) (by with_reducible first | exact wS_28_0 _ _ _ _) ?_
    refine g_aload_n dX5_badAt_16 rfl rfl ?_
    refine g_get dX5_badAt_17 flX5_75 rfl rfl ?_
    rw [mS_same]
    refine g_if_le (tgt := 25) dX5_badAt_20 (by decide) (fun c20 => ?_) (fun c20 => ?_)
    · exact absurd c20 (by decide)
    · refine g_iconst (v := 0) dX5_badAt_23 (by decide) ?_
      refine g_iret dX5_badAt_24 rfl ⟨_, _, rfl, rfl, ?_⟩
      exact ⟨⟨_, rfl⟩, h0.th _⟩
  · refine g_iconst (v := 0) dX5_badAt_8 (by decide) ?_
    refine g_goto (tgt := 13) dX5_badAt_9 (by decide) ?_
    refine p_put dX5_badAt_13 fpX5_75 rfl (Nat.le_of_ble_eq_true rfl) (fun _ => rfl) (fun _ => rfl) (by with_reducible first | exact wS_28_0 _ _ _ _) ?_
    refine g_aload_n dX5_badAt_16 rfl rfl ?_
    refine g_get dX5_badAt_17 flX5_75 rfl rfl ?_
    rw [mS_same]
    refine g_if_le (tgt := 25) dX5_badAt_20 (by decide) (fun c20 => ?_) (fun c20 => ?_)
    · refine g_aload_n dX5_badAt_25 rfl rfl ?_
      refine g_iconst (v := 0) dX5_badAt_26 (by decide) ?_
      refine cV10 (fun _ _ => rfl) dX5_badAt_27 mlX5_199 imX5_keepBeside seX5_keepBeside rfl rfl (n_kb0 _) (by decide) (Nat.le_of_ble_eq_true rfl) (Nat.le_of_ble_eq_true rfl) (Nat.le_of_ble_eq_true rfl) ?_
      rintro S1 hk0
      have hR1 : R0 S1 w L V n c rm := R0.kb (S := mS S 28 0 0) hC.1 hk0
      refine g_aload_n dX5_badAt_30 rfl rfl ?_
      refine g_get dX5_badAt_31 flX5_98 rfl rfl ?_
      refine g_eqi (y := nI (L)) (hR1.1.2.1) ?_
      refine g_istore_n dX5_badAt_34 rfl (by decide) ?_
      refine g_aload_n dX5_badAt_35 rfl rfl ?_
      refine g_get dX5_badAt_36 flX5_101 rfl rfl ?_
      refine g_istore_n dX5_badAt_39 rfl (by decide) ?_
      refine g_aload_n dX5_badAt_40 rfl rfl ?_
      refine g_get dX5_badAt_41 flX5_104 rfl rfl ?_
      refine g_istore_n dX5_badAt_44 rfl (by decide) ?_
      show GE gx0 MX5_badAt (3, 71) 45 [some (.ref 28), some (.int (nI L)), some (.int (S1.1 28 10)), some (.int (S1.1 28 11)), none, none, none, none] _ _ _ _ _
      refine g_aload_n dX5_badAt_45 rfl rfl ?_
      refine g_get dX5_badAt_46 flX5_107 rfl rfl ?_
      refine g_eqi (y := nI (c)) (hR1.1.2.2.2.2.1) ?_
      refine g_istore dX5_badAt_49 (by decide) ?_
      refine g_aload_n dX5_badAt_51 rfl rfl ?_
      refine g_get dX5_badAt_52 flX5_110 rfl rfl ?_
      refine g_eqi (y := nI (V)) (hR1.1.2.2.1) ?_
      refine g_istore dX5_badAt_55 (by decide) ?_
      show GE gx0 MX5_badAt (3, 71) 57 [some (.ref 28), some (.int (nI L)), some (.int (S1.1 28 10)), some (.int (S1.1 28 11)), some (.int (nI c)), some (.int (nI V)), none, none] _ _ _ _ _
      refine g_aload_n dX5_badAt_57 rfl rfl ?_
      refine g_get dX5_badAt_58 flX5_113 rfl rfl ?_
      refine g_eqi (y := nI (n)) (hR1.1.2.2.2.1) ?_
      refine g_istore dX5_badAt_61 (by decide) ?_
      refine g_aload_n dX5_badAt_63 rfl rfl ?_
      refine cV00 (fun _ _ => rfl) dX5_badAt_64 mlX5_82 imX5_forget seX5_forget rfl rfl (m_forget _) (by decide) (Nat.le_of_ble_eq_true rfl) (Nat.le_of_ble_eq_true rfl) (Nat.le_of_ble_eq_true rfl) ?_
      rintro _ rfl
      refine g_iconst (v := (-1)) dX5_badAt_67 (by decide) ?_
      refine g_istore dX5_badAt_68 (by decide) ?_
      show GE gx0 MX5_badAt (3, 71) 70 [some (.ref 28), some (.int (nI L)), some (.int (S1.1 28 10)), some (.int (S1.1 28 11)), some (.int (nI c)), some (.int (nI V)), some (.int (nI n)), some (.int (-1))] _ _ _ _ _
      refine ln_bad (mfor S1) _ _ _ _ _ w rm L hL (fun S2 L2 V2 n2 c2 b hR2 ha2 => ?_) L 0 0 0 0 0 _ (by omega) (by omega) (Nat.le_refl _) (show (msc S1).1 28 10 = 0 from rfl) hR1.fg (fun _ _ => rfl)
      refine g_aload_n dX5_badAt_139 rfl rfl ?_
      refine g_iload_n dX5_badAt_140 rfl rfl ?_
      refine p_put dX5_badAt_141 fpX5_98 rfl (Nat.le_of_ble_eq_true rfl) (fun _ => rfl) (fun _ => rfl) (by with_reducible first | exact wS_28_9 _ _ _ _) ?_
      refine g_aload_n dX5_badAt_144 rfl rfl ?_
      refine g_iload_n dX5_badAt_145 rfl rfl ?_
      refine p_put dX5_badAt_146 fpX5_101 rfl (Nat.le_of_ble_eq_true rfl) (fun _ => rfl) (fun _ => rfl) (by with_reducible first | exact wS_28_10 _ _ _ _) ?_
      refine g_aload_n dX5_badAt_149 rfl rfl ?_
      refine g_iload_n dX5_badAt_150 rfl rfl ?_
      refine p_put dX5_badAt_151 fpX5_104 rfl (Nat.le_of_ble_eq_true rfl) (fun _ => rfl) (fun _ => rfl) (by with_reducible first | exact wS_28_11 _ _ _ _) ?_
      refine g_aload_n dX5_badAt_154 rfl rfl ?_
      refine g_iload dX5_badAt_155 rfl ?_
      refine p_put dX5_badAt_157 fpX5_107 rfl (Nat.le_of_ble_eq_true rfl) (fun _ => rfl) (fun _ => rfl) (by with_reducible first | exact wS_28_14 _ _ _ _) ?_
      refine g_aload_n dX5_badAt_160 rfl rfl ?_
      refine g_iload dX5_badAt_161 rfl ?_
      refine p_put dX5_badAt_163 fpX5_110 rfl (Nat.le_of_ble_eq_true rfl) (fun _ => rfl) (fun _ => rfl) (by with_reducible first | exact wS_28_16 _ _ _ _) ?_
      refine g_aload_n dX5_badAt_166 rfl rfl ?_
      refine g_iload dX5_badAt_167 rfl ?_
      refine p_put dX5_badAt_169 fpX5_113 rfl (Nat.le_of_ble_eq_true rfl) (fun _ => rfl) (fun _ => rfl) (by with_reducible first | exact wS_28_19 _ _ _ _) ?_
      refine g_aload_n dX5_badAt_172 rfl rfl ?_
      refine g_iconst (v := 1) dX5_badAt_173 (by decide) ?_
      refine cV10 (fun _ _ => rfl) dX5_badAt_174 mlX5_199 imX5_keepBeside seX5_keepBeside rfl rfl (n_kb1 _) (by decide) (Nat.le_of_ble_eq_true rfl) (Nat.le_of_ble_eq_true rfl) (Nat.le_of_ble_eq_true rfl) ?_
      rintro S3 hk1
      refine g_iload dX5_badAt_177 rfl ?_
      refine g_iret dX5_badAt_179 rfl ⟨_, _, rfl, rfl, ?_⟩
      refine ⟨⟨_, rfl⟩, w, L, V, n, c, rm, hR1.back hR2 hk1 (fun j hj => ?_) (fun j hj => ?_), fun _ => by have := hC.2 (hC.1.2.2.1.resolve_left c5); omega⟩
      · rw [ha2 42 (by decide), mfor_a _ _ (by decide) (by decide), hk0.2.2.1 j hj, hk0.2.1 33 (by decide) (by decide) (by decide) (by decide)]
      · rw [ha2 45 (by decide), mfor_a _ _ (by decide) (by decide), hk0.2.2.2 j hj, hk0.2.1 36 (by decide) (by decide) (by decide) (by decide)]
    · exact absurd (by decide) c20
end
