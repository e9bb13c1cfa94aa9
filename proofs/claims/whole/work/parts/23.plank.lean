def f_X4_weight (I : wI) (n : Nat) : Int32 := ((((((I n 2).toInt64) * ((I n 3).toInt64)) * ((I n 4).toInt64)) / 1000).toInt32)
set_option maxRecDepth 20000 in
theorem in_X4_weight_X4 : ∀ w ∈ u_ws RX4 TX4 6, w ∈ wsX4_weight := fun _ h => List.mem_cons_of_mem _ (List.mem_append_right _ h)
set_option maxHeartbeats 4000000 in
set_option maxRecDepth 100000 in
theorem c_X4_weight (l : Launch) (D : va_G) (y : Nat → ClassId) (b : Nat) (z : Nat → Nat) (G : wG) (I : wI) (J : wJ) (hL : w_full G) (n : Nat) (hn : n ∈ G.2.1) (hk : w_kd n = 5) : mI l yX4_weight wsX4_weight { frames := 0, cells := 0, slots := 0, locals := 0 } D y b z G I J [.ref (G.1 n)] (fun r u => r = f_X4_weight I n ∧ u = (G, I, J)) 0 0 := by
  refine w_enter (by decide) rfl (Nat.le_of_ble_eq_true rfl) rfl ?_
  intro p e s m below meth c ls X hr hlk hnm hw hst hl
  have hx := X.1.1
  have hb := X.1.2.1
  obtain ⟨po_c_X4_weight, epo⟩ : ∃ qpo9 : Int32 → wS → Prop, qpo9 = (fun r u => r = f_X4_weight I n ∧ u = (G, I, J)) := ⟨_, rfl⟩
  rw [← epo]
  refine lv_aload_n hx hb dX4_weight_0 rfl (lv_at hl 0 rfl) ?_
  refine w_get X hw 5 2 hn hk (by decide) k_X4 in_X4_weight_X4 (by decide) (by decide +kernel) rfl (v := .int (I n 2)) rfl dX4_weight_1 ?_
  refine lv_i2l hx hb dX4_weight_4 rfl ?_
  refine lv_aload_n hx hb dX4_weight_5 rfl (lv_at hl 0 rfl) ?_
  refine w_get X hw 5 3 hn hk (by decide) k_X4 in_X4_weight_X4 (by decide) (by decide +kernel) rfl (v := .int (I n 3)) rfl dX4_weight_6 ?_
  refine lv_i2l hx hb dX4_weight_9 rfl ?_
  refine lv_lmul hx hb dX4_weight_10 ?_
  refine lv_aload_n hx hb dX4_weight_11 rfl (lv_at hl 0 rfl) ?_
  refine w_get X hw 5 4 hn hk (by decide) k_X4 in_X4_weight_X4 (by decide) (by decide +kernel) rfl (v := .int (I n 4)) rfl dX4_weight_12 ?_
  refine lv_i2l hx hb dX4_weight_15 rfl ?_
  refine lv_lmul hx hb dX4_weight_16 ?_
  refine lv_ldc2 (v := 1000) hx hb X.1.2.2.2.1 (X.1.2.2.2.2 (.constantLong RX4 30 1000) (by decide +kernel)) dX4_weight_17 ?_
  refine lv_ldiv hx hb dX4_weight_20 (by decide) ?_
  refine lv_l2i hx hb dX4_weight_21 rfl ?_
  have hp_22 : po_c_X4_weight ((((((I n 2).toInt64) * ((I n 3).toInt64)) * ((I n 4).toInt64)) / 1000).toInt32) (G, I, J) := by
      rw [epo]
      refine ⟨Eq.symm ?_, rfl⟩
      rfl
  exact w_iret X hr hlk hw hp_22 (Nat.le_of_ble_eq_true rfl) (Nat.le_of_ble_eq_true rfl) dX4_weight_22
