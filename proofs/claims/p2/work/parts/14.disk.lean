section
variable {τ : gW}
/-- the disk's byte at x, as get tells it -/
def dget (S : gS) (x : Int32) : Int32 := if x < 0 then 0 else if x < Int32.ofNat 24032 then S.2.1 2 x.toNatClampNeg &&& 255 else 0
def dset (S : gS) (x v : Int32) : gS := if x < 0 then S else if Int32.ofNat 24032 ≤ x then S else mA S 2 (upd (S.2.1 2) x.toNatClampNeg v.toInt8.toInt32.toInt8.toInt32)
def dwr (S : gS) (v : Int32) : gS :=
  let S1 := if Int32.ofNat 32192 ≤ S.1 1 2 then S else mS (mA S 3 (upd (S.2.1 3) (S.1 1 2).toNatClampNeg (S.1 1 3 <<< ((8 : Int32) &&& 31) ||| dget S (S.1 1 3)))) 1 2 (S.1 1 2 + 1)
  let S2 := dset S1 (S1.1 1 3) v
  mS S2 1 3 (S2.1 1 3 + 1)
set_option maxRecDepth 100000 in
set_option maxHeartbeats 4000000 in
theorem c_get (S : gS) (x : Int32) : gCt MX1_get (0, 0) 0 0 [.ref 1, .int x] (wOf τ S) (gN (wOf τ) fun v S' => v = .int (dget S x) ∧ S = S') := by
  refine gCt.of (ls := [some (.ref 1), some (.int x)]) 0 (by decide) rfl (Nat.le_of_ble_eq_true rfl) ?_
  refine g_iload_n dX1_get_0 rfl rfl ?_
  refine g_if_lt (tgt := 13) dX1_get_1 (by decide) (fun c1 => ?_) (fun c1 => ?_)
  · refine g_iconst (v := 0) dX1_get_13 (by decide) ?_
    refine g_goto (tgt := 27) dX1_get_14 (by decide) ?_
    refine g_iret dX1_get_27 rfl ⟨_, _, rfl, rfl, ?_⟩
    exact ⟨by simp only [dget, *, if_true, if_false], rfl⟩
  · refine g_iload_n dX1_get_4 rfl rfl ?_
    refine g_aload_n dX1_get_5 rfl rfl ?_
    refine g_get dX1_get_6 flX1_9 rfl rfl ?_
    refine g_alen dX1_get_9 rfl (fun _ => rfl) ?_
    refine g_icmp_lt (tgt := 17) dX1_get_10 (by decide) (fun c10 => ?_) (fun c10 => ?_)
    · refine g_aload_n dX1_get_17 rfl rfl ?_
      refine g_get dX1_get_18 flX1_9 rfl rfl ?_
      refine g_iload_n dX1_get_21 rfl rfl ?_
      refine g_bald dX1_get_22 rfl (vin2 (by decide) c1 c10) ?_
      refine g_sipush (v := 255) dX1_get_23 (by decide) ?_
      refine g_iand dX1_get_26 ?_
      refine g_iret dX1_get_27 rfl ⟨_, _, rfl, rfl, ?_⟩
      exact ⟨by simp only [dget, *, if_true, if_false], rfl⟩
    · refine g_iconst (v := 0) dX1_get_13 (by decide) ?_
      refine g_goto (tgt := 27) dX1_get_14 (by decide) ?_
      refine g_iret dX1_get_27 rfl ⟨_, _, rfl, rfl, ?_⟩
      exact ⟨by simp only [dget, *, if_true, if_false], rfl⟩
set_option maxRecDepth 100000 in
set_option maxHeartbeats 4000000 in
theorem c_set (S : gS) (x v : Int32) : gCt MX1_set (0, 0) 0 0 [.ref 1, .int x, .int v] (wOf τ S) (g0 (wOf τ) fun S' => S' = dset S x v) := by
  refine gCt.of (ls := [some (.ref 1), some (.int x), some (.int v)]) 0 (by decide) rfl (Nat.le_of_ble_eq_true rfl) ?_
  refine g_iload_n dX1_set_0 rfl rfl ?_
  refine g_if_lt (tgt := 21) dX1_set_1 (by decide) (fun c1 => ?_) (fun c1 => ?_)
  · refine g_vret dX1_set_21 rfl ⟨_, rfl, rfl, ?_⟩
    simp only [dset, *, if_true, if_false]
  · refine g_iload_n dX1_set_4 rfl rfl ?_
    refine g_aload_n dX1_set_5 rfl rfl ?_
    refine g_get dX1_set_6 flX1_9 rfl rfl ?_
    refine g_alen dX1_set_9 rfl (fun _ => rfl) ?_
    refine g_icmp_ge (tgt := 21) dX1_set_10 (by decide) (fun c10 => ?_) (fun c10 => ?_)
    · refine g_vret dX1_set_21 rfl ⟨_, rfl, rfl, ?_⟩
      simp only [dset, *, if_true, if_false]
    · refine g_aload_n dX1_set_13 rfl rfl ?_
      refine g_get dX1_set_14 flX1_9 rfl rfl ?_
      refine g_iload_n dX1_set_17 rfl rfl ?_
      refine g_iload_n dX1_set_18 rfl rfl ?_
      refine g_i2b dX1_set_19 ?_
      refine p_bast dX1_set_20 rfl (vin (by decide) c1 c10) (by with_reducible first | exact wA_2 _ _ _ | exact wA_3 _ _ _) ?_
      refine g_vret dX1_set_21 rfl ⟨_, rfl, rfl, ?_⟩
      simp only [dset, *, if_true, if_false]
set_option maxRecDepth 100000 in
set_option maxHeartbeats 4000000 in
theorem c_forgetWritten (S : gS) : gCt MX1_forgetWritten (0, 0) 0 0 [.ref 1] (wOf τ S) (g0 (wOf τ) fun S' => S' = mS S 1 2 0) := by
  refine gCt.of (ls := [some (.ref 1)]) 0 (by decide) rfl (Nat.le_of_ble_eq_true rfl) ?_
  refine g_aload_n dX1_forgetWritten_0 rfl rfl ?_
  refine g_iconst (v := 0) dX1_forgetWritten_1 (by decide) ?_
  refine p_put dX1_forgetWritten_2 fpX1_25 rfl (Nat.le_of_ble_eq_true rfl) (fun _ => rfl) (fun _ => rfl) (by with_reducible first | exact wS_1_2 _ _ _) ?_
  refine g_vret dX1_forgetWritten_5 rfl ⟨_, rfl, rfl, ?_⟩
  rfl
set_option maxRecDepth 100000 in
set_option maxHeartbeats 4000000 in
theorem c_goTo (S : gS) (x : Int32) : gCt MX1_goTo (0, 0) 0 0 [.ref 1, .int x] (wOf τ S) (g0 (wOf τ) fun S' => S' = mS S 1 3 x) := by
  refine gCt.of (ls := [some (.ref 1), some (.int x)]) 0 (by decide) rfl (Nat.le_of_ble_eq_true rfl) ?_
  refine g_aload_n dX1_goTo_0 rfl rfl ?_
  refine g_iload_n dX1_goTo_1 rfl rfl ?_
  refine p_put dX1_goTo_2 fpX1_29 rfl (Nat.le_of_ble_eq_true rfl) (fun _ => rfl) (fun _ => rfl) (by with_reducible first | exact wS_1_3 _ _ _) ?_
  refine g_vret dX1_goTo_5 rfl ⟨_, rfl, rfl, ?_⟩
  rfl
set_option maxRecDepth 100000 in
set_option maxHeartbeats 4000000 in
theorem c_writeByte (S : gS) (v : Int32) (h0 : ¬ S.1 1 2 < 0) : gCt MX1_writeByte (1, 40) 0 0 [.ref 1, .int v] (wOf τ S) (g0 (wOf τ) fun S' => S' = dwr S v) := by
  refine gCt.of (ls := [some (.ref 1), some (.int v)]) 0 (by decide) rfl (Nat.le_of_ble_eq_true rfl) ?_
  refine g_aload_n dX1_writeByte_0 rfl rfl ?_
  refine g_get dX1_writeByte_1 flX1_25 rfl rfl ?_
  refine g_aload_n dX1_writeByte_4 rfl rfl ?_
  refine g_get dX1_writeByte_5 flX1_15 rfl rfl ?_
  refine g_alen dX1_writeByte_8 rfl (fun _ => rfl) ?_
  refine g_icmp_ge (tgt := 47) dX1_writeByte_9 (by decide) (fun c9 => ?_) (fun c9 => ?_)
  · refine g_aload_n dX1_writeByte_47 rfl rfl ?_
    refine g_aload_n dX1_writeByte_48 rfl rfl ?_
    refine g_get dX1_writeByte_49 flX1_29 rfl rfl ?_
    refine g_iload_n dX1_writeByte_52 rfl rfl ?_
    refine cV20 (fun _ _ => rfl) dX1_writeByte_53 mlX1_40 imX1_set seX1_set rfl rfl (c_set _ _ _) (by decide) (Nat.le_of_ble_eq_true rfl) (Nat.le_of_ble_eq_true rfl) (Nat.le_of_ble_eq_true rfl) ?_
    rintro _ rfl
    refine g_aload_n dX1_writeByte_56 rfl rfl ?_
    refine g_dup dX1_writeByte_57 rfl ?_
    refine g_get dX1_writeByte_58 flX1_29 rfl rfl ?_
    refine g_iconst (v := 1) dX1_writeByte_61 (by decide) ?_
    refine g_iadd dX1_writeByte_62 ?_
    refine p_put dX1_writeByte_63 fpX1_29 rfl (Nat.le_of_ble_eq_true rfl) (fun _ => rfl) (fun _ => rfl) (by with_reducible first | exact wS_1_3 _ _ _) ?_
    refine g_vret dX1_writeByte_66 rfl ⟨_, rfl, rfl, ?_⟩
    simp only [dwr, *, if_true, if_false]
  · refine g_aload_n dX1_writeByte_12 rfl rfl ?_
    refine g_get dX1_writeByte_13 flX1_15 rfl rfl ?_
    refine g_aload_n dX1_writeByte_16 rfl rfl ?_
    refine g_get dX1_writeByte_17 flX1_25 rfl rfl ?_
    refine g_aload_n dX1_writeByte_20 rfl rfl ?_
    refine g_get dX1_writeByte_21 flX1_29 rfl rfl ?_
    refine g_bipush (v := 8) dX1_writeByte_24 (by decide) ?_
    refine g_ishl dX1_writeByte_26 ?_
    refine g_aload_n dX1_writeByte_27 rfl rfl ?_
    refine g_aload_n dX1_writeByte_28 rfl rfl ?_
    refine g_get dX1_writeByte_29 flX1_29 rfl rfl ?_
    refine cV1N (fun _ _ => rfl) dX1_writeByte_32 mlX1_32 imX1_get seX1_get rfl rfl (c_get _ _) (by decide) (Nat.le_of_ble_eq_true rfl) (Nat.le_of_ble_eq_true rfl) (Nat.le_of_ble_eq_true rfl) ?_
    rintro _ _ ⟨rfl, rfl⟩
    refine g_ior dX1_writeByte_35 ?_
    refine p_iast dX1_writeByte_36 rfl (vin (by decide) h0 c9) (by with_reducible first | exact wA_2 _ _ _ | exact wA_3 _ _ _) ?_
    refine g_aload_n dX1_writeByte_37 rfl rfl ?_
    refine g_dup dX1_writeByte_38 rfl ?_
    refine g_get dX1_writeByte_39 flX1_25 rfl rfl ?_
    refine g_iconst (v := 1) dX1_writeByte_42 (by decide) ?_
    refine g_iadd dX1_writeByte_43 ?_
    refine p_put dX1_writeByte_44 fpX1_25 rfl (Nat.le_of_ble_eq_true rfl) (fun _ => rfl) (fun _ => rfl) (by with_reducible first | exact wS_1_2 _ _ _) ?_
    refine g_aload_n dX1_writeByte_47 rfl rfl ?_
    refine g_aload_n dX1_writeByte_48 rfl rfl ?_
    refine g_get dX1_writeByte_49 flX1_29 rfl rfl ?_
    refine g_iload_n dX1_writeByte_52 rfl rfl ?_
    refine cV20 (fun _ _ => rfl) dX1_writeByte_53 mlX1_40 imX1_set seX1_set rfl rfl (c_set _ _ _) (by decide) (Nat.le_of_ble_eq_true rfl) (Nat.le_of_ble_eq_true rfl) (Nat.le_of_ble_eq_true rfl) ?_
    rintro _ rfl
    refine g_aload_n dX1_writeByte_56 rfl rfl ?_
    refine g_dup dX1_writeByte_57 rfl ?_
    refine g_get dX1_writeByte_58 flX1_29 rfl rfl ?_
    refine g_iconst (v := 1) dX1_writeByte_61 (by decide) ?_
    refine g_iadd dX1_writeByte_62 ?_
    refine p_put dX1_writeByte_63 fpX1_29 rfl (Nat.le_of_ble_eq_true rfl) (fun _ => rfl) (fun _ => rfl) (by with_reducible first | exact wS_1_3 _ _ _) ?_
    refine g_vret dX1_writeByte_66 rfl ⟨_, rfl, rfl, ?_⟩
    simp only [dwr, *, if_true, if_false]
    rfl
end
