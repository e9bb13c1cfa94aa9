set_option maxRecDepth 20000 in
theorem in_X1_told_X1 : ∀ w ∈ u_ws RX1 TX1 1, w ∈ wsX1_told := fun _ h => List.mem_cons_of_mem _ (List.mem_append_right _ h)
set_option maxHeartbeats 4000000 in
set_option maxRecDepth 100000 in
theorem c_X1_told (l : Launch) (D : va_G) (y : Nat → ClassId) (b : Nat) (z : Nat → Nat) (G : wG) (I : wI) (J : wJ) (hL : w_full G) (k : Int32) : mI l yX1_told wsX1_told { frames := 0, cells := 0, slots := 0, locals := 0 } D y b z G I J [.ref (G.1 3), .int k] (fun r u => r = p_told I k ∧ u = (G, I, J)) 0 0 := by
  refine w_enter (by decide) rfl (Nat.le_of_ble_eq_true rfl) rfl ?_
  intro p e s m below meth c ls X hr hlk hnm hw hst hl
  have hx := X.1.1
  have hb := X.1.2.1
  obtain ⟨po_c_X1_told, epo⟩ : ∃ qpo9 : Int32 → wS → Prop, qpo9 = (fun r u => r = p_told I k ∧ u = (G, I, J)) := ⟨_, rfl⟩
  rw [← epo]
  refine lv_iload_n hx hb dX1_told_0 rfl (lv_at hl 1 rfl) ?_
  refine lv_if_lt (tgt := 22) hx hb dX1_told_1 (by decide) (fun c_1 => ?_) (fun c_1 => ?_)
  · refine lv_iconst (v := -1) hx hb dX1_told_22 (by decide) ?_
    have hp_23 : po_c_X1_told (-1) (G, I, J) := by
        rw [epo]
        refine ⟨?_, rfl⟩
        first | exact (if_pos (by simp only [i_le, i_lt, i_eq, Int32.reduceToInt] at *; omega)).symm | exact (if_neg (by simp only [i_le, i_lt, i_eq, Int32.reduceToInt] at *; omega)).symm
    exact w_iret X hr hlk hw hp_23 (Nat.le_of_ble_eq_true rfl) (Nat.le_of_ble_eq_true rfl) dX1_told_23
  · refine lv_iload_n hx hb dX1_told_4 rfl (lv_at hl 1 rfl) ?_
    refine lv_aload_n hx hb dX1_told_5 rfl (lv_at hl 0 rfl) ?_
    refine w_get X hw 2 0 (hL 3 (by decide)) rfl (by decide) k_X1 in_X1_told_X1 (by decide) (by decide +kernel) rfl (v := .ref (G.1 4)) rfl dX1_told_6 ?_
    refine w_len X hw (hL 4 (by decide)) rfl (by decide) dX1_told_9 ?_
    refine lv_topi (fun n_9 en_9 => ?_)
    have en_9 : n_9 = 6 := by rw [en_9]; rfl
    subst en_9
    refine lv_icmp_ge (tgt := 22) hx hb dX1_told_10 (by decide) (fun c_10 => ?_) (fun c_10 => ?_)
    · refine lv_iconst (v := -1) hx hb dX1_told_22 (by decide) ?_
      have hp_23 : po_c_X1_told (-1) (G, I, J) := by
          rw [epo]
          refine ⟨?_, rfl⟩
          first | exact (if_pos (by simp only [i_le, i_lt, i_eq, Int32.reduceToInt] at *; omega)).symm | exact (if_neg (by simp only [i_le, i_lt, i_eq, Int32.reduceToInt] at *; omega)).symm
      exact w_iret X hr hlk hw hp_23 (Nat.le_of_ble_eq_true rfl) (Nat.le_of_ble_eq_true rfl) dX1_told_23
    · refine lv_aload_n hx hb dX1_told_13 rfl (lv_at hl 0 rfl) ?_
      refine w_get X hw 2 0 (hL 3 (by decide)) rfl (by decide) k_X1 in_X1_told_X1 (by decide) (by decide +kernel) rfl (v := .ref (G.1 4)) rfl dX1_told_14 ?_
      refine lv_iload_n hx hb dX1_told_17 rfl (lv_at hl 1 rfl) ?_
      have h_18 : vp_in k 6 := by rw [vp_in_iff]; simp only [i_le, i_lt, i_eq, Int32.reduceToInt] at *; omega
      refine w_ild X hw (hL 4 (by decide)) rfl h_18 dX1_told_18 ?_
      refine lv_goto (tgt := 23) hx hb dX1_told_19 (by decide) ?_
      have hp_23 : po_c_X1_told (I 4 k.toNatClampNeg) (G, I, J) := by
          rw [epo]
          refine ⟨?_, rfl⟩
          first | exact (if_pos (by simp only [i_le, i_lt, i_eq, Int32.reduceToInt] at *; omega)).symm | exact (if_neg (by simp only [i_le, i_lt, i_eq, Int32.reduceToInt] at *; omega)).symm
      exact w_iret X hr hlk hw hp_23 (Nat.le_of_ble_eq_true rfl) (Nat.le_of_ble_eq_true rfl) dX1_told_23
