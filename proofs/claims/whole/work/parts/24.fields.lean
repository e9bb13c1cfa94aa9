def f_X2_place (I : wI)  : Int32 := (I 5 3)
set_option maxRecDepth 20000 in
theorem in_X2_place_X2 : ∀ w ∈ u_ws RX2 TX2 4, w ∈ wsX2_place := fun _ h => List.mem_cons_of_mem _ (List.mem_append_right _ h)
set_option maxHeartbeats 4000000 in
set_option maxRecDepth 100000 in
theorem c_X2_place (l : Launch) (D : va_G) (y : Nat → ClassId) (b : Nat) (z : Nat → Nat) (G : wG) (I : wI) (J : wJ) (hL : w_full G)   : mI l yX2_place wsX2_place { frames := 0, cells := 0, slots := 0, locals := 0 } D y b z G I J [.ref (G.1 5)] (fun r u => r = f_X2_place I ∧ u = (G, I, J)) 0 0 := by
  refine w_enter (by decide) rfl (Nat.le_of_ble_eq_true rfl) rfl ?_
  intro p e s m below meth c ls X hr hlk hnm hw hst hl
  have hx := X.1.1
  have hb := X.1.2.1
  obtain ⟨po_c_X2_place, epo⟩ : ∃ qpo9 : Int32 → wS → Prop, qpo9 = (fun r u => r = f_X2_place I ∧ u = (G, I, J)) := ⟨_, rfl⟩
  rw [← epo]
  refine lv_aload_n hx hb dX2_place_0 rfl (lv_at hl 0 rfl) ?_
  refine w_get X hw 3 3 (hL 5 (by decide)) rfl (by decide) k_X2 in_X2_place_X2 (by decide) (by decide +kernel) rfl (v := .int (I 5 3)) rfl dX2_place_1 ?_
  have hp_4 : po_c_X2_place (I 5 3) (G, I, J) := by
      rw [epo]
      refine ⟨Eq.symm ?_, rfl⟩
      rfl
  exact w_iret X hr hlk hw hp_4 (Nat.le_of_ble_eq_true rfl) (Nat.le_of_ble_eq_true rfl) dX2_place_4
def f_X5_size (I : wI)  : Int32 := (I 16 5)
set_option maxRecDepth 20000 in
theorem in_X5_size_X5 : ∀ w ∈ u_ws RX5 TX5 8, w ∈ wsX5_size := fun _ h => List.mem_cons_of_mem _ (List.mem_append_right _ h)
set_option maxHeartbeats 4000000 in
set_option maxRecDepth 100000 in
theorem c_X5_size (l : Launch) (D : va_G) (y : Nat → ClassId) (b : Nat) (z : Nat → Nat) (G : wG) (I : wI) (J : wJ) (hL : w_full G)   : mI l yX5_size wsX5_size { frames := 0, cells := 0, slots := 0, locals := 0 } D y b z G I J [.ref (G.1 16)] (fun r u => r = f_X5_size I ∧ u = (G, I, J)) 0 0 := by
  refine w_enter (by decide) rfl (Nat.le_of_ble_eq_true rfl) rfl ?_
  intro p e s m below meth c ls X hr hlk hnm hw hst hl
  have hx := X.1.1
  have hb := X.1.2.1
  obtain ⟨po_c_X5_size, epo⟩ : ∃ qpo9 : Int32 → wS → Prop, qpo9 = (fun r u => r = f_X5_size I ∧ u = (G, I, J)) := ⟨_, rfl⟩
  rw [← epo]
  refine lv_aload_n hx hb dX5_size_0 rfl (lv_at hl 0 rfl) ?_
  refine w_get X hw 6 5 (hL 16 (by decide)) rfl (by decide) k_X5 in_X5_size_X5 (by decide) (by decide +kernel) rfl (v := .int (I 16 5)) rfl dX5_size_1 ?_
  have hp_4 : po_c_X5_size (I 16 5) (G, I, J) := by
      rw [epo]
      refine ⟨Eq.symm ?_, rfl⟩
      rfl
  exact w_iret X hr hlk hw hp_4 (Nat.le_of_ble_eq_true rfl) (Nat.le_of_ble_eq_true rfl) dX5_size_4
def f_X0_cells (I : wI)  : Int32 := (I 10 6)
set_option maxRecDepth 20000 in
theorem in_X0_cells_X0 : ∀ w ∈ u_ws RX0 TX0 8, w ∈ wsX0_cells := fun _ h => List.mem_cons_of_mem _ (List.mem_append_right _ h)
set_option maxHeartbeats 4000000 in
set_option maxRecDepth 100000 in
theorem c_X0_cells (l : Launch) (D : va_G) (y : Nat → ClassId) (b : Nat) (z : Nat → Nat) (G : wG) (I : wI) (J : wJ) (hL : w_full G)   : mI l yX0_cells wsX0_cells { frames := 0, cells := 0, slots := 0, locals := 0 } D y b z G I J [.ref (G.1 10)] (fun r u => r = f_X0_cells I ∧ u = (G, I, J)) 0 0 := by
  refine w_enter (by decide) rfl (Nat.le_of_ble_eq_true rfl) rfl ?_
  intro p e s m below meth c ls X hr hlk hnm hw hst hl
  have hx := X.1.1
  have hb := X.1.2.1
  obtain ⟨po_c_X0_cells, epo⟩ : ∃ qpo9 : Int32 → wS → Prop, qpo9 = (fun r u => r = f_X0_cells I ∧ u = (G, I, J)) := ⟨_, rfl⟩
  rw [← epo]
  refine lv_aload_n hx hb dX0_cells_0 rfl (lv_at hl 0 rfl) ?_
  refine w_get X hw 1 6 (hL 10 (by decide)) rfl (by decide) k_X0 in_X0_cells_X0 (by decide) (by decide +kernel) rfl (v := .int (I 10 6)) rfl dX0_cells_1 ?_
  have hp_4 : po_c_X0_cells (I 10 6) (G, I, J) := by
      rw [epo]
      refine ⟨Eq.symm ?_, rfl⟩
      rfl
  exact w_iret X hr hlk hw hp_4 (Nat.le_of_ble_eq_true rfl) (Nat.le_of_ble_eq_true rfl) dX0_cells_4
def f_X0_sorts (I : wI)  : Int32 := (I 10 5)
set_option maxRecDepth 20000 in
theorem in_X0_sorts_X0 : ∀ w ∈ u_ws RX0 TX0 8, w ∈ wsX0_sorts := fun _ h => List.mem_cons_of_mem _ (List.mem_append_right _ h)
set_option maxHeartbeats 4000000 in
set_option maxRecDepth 100000 in
theorem c_X0_sorts (l : Launch) (D : va_G) (y : Nat → ClassId) (b : Nat) (z : Nat → Nat) (G : wG) (I : wI) (J : wJ) (hL : w_full G)   : mI l yX0_sorts wsX0_sorts { frames := 0, cells := 0, slots := 0, locals := 0 } D y b z G I J [.ref (G.1 10)] (fun r u => r = f_X0_sorts I ∧ u = (G, I, J)) 0 0 := by
  refine w_enter (by decide) rfl (Nat.le_of_ble_eq_true rfl) rfl ?_
  intro p e s m below meth c ls X hr hlk hnm hw hst hl
  have hx := X.1.1
  have hb := X.1.2.1
  obtain ⟨po_c_X0_sorts, epo⟩ : ∃ qpo9 : Int32 → wS → Prop, qpo9 = (fun r u => r = f_X0_sorts I ∧ u = (G, I, J)) := ⟨_, rfl⟩
  rw [← epo]
  refine lv_aload_n hx hb dX0_sorts_0 rfl (lv_at hl 0 rfl) ?_
  refine w_get X hw 1 5 (hL 10 (by decide)) rfl (by decide) k_X0 in_X0_sorts_X0 (by decide) (by decide +kernel) rfl (v := .int (I 10 5)) rfl dX0_sorts_1 ?_
  have hp_4 : po_c_X0_sorts (I 10 5) (G, I, J) := by
      rw [epo]
      refine ⟨Eq.symm ?_, rfl⟩
      rfl
  exact w_iret X hr hlk hw hp_4 (Nat.le_of_ble_eq_true rfl) (Nat.le_of_ble_eq_true rfl) dX0_sorts_4
def f_X0_dropSorts (I : wI)  : Int32 × wI := ((I 10 5), (wU I 10 5 0))
theorem fr_f_X0_dropSorts (I : wI)  (q9 : Nat) (h10 : q9 ≠ 10) : (f_X0_dropSorts I).2 q9 = I q9 := by
  unfold f_X0_dropSorts
  repeat' split
  all_goals first | with_reducible rfl | (simp only [wU_ne _ _ _ h10])
set_option maxRecDepth 20000 in
theorem in_X0_dropSorts_X0 : ∀ w ∈ u_ws RX0 TX0 8, w ∈ wsX0_dropSorts := fun _ h => List.mem_cons_of_mem _ (List.mem_append_right _ h)
set_option maxHeartbeats 4000000 in
set_option maxRecDepth 100000 in
theorem c_X0_dropSorts (l : Launch) (D : va_G) (y : Nat → ClassId) (b : Nat) (z : Nat → Nat) (G : wG) (I : wI) (J : wJ) (hL : w_full G)   : mI l yX0_dropSorts wsX0_dropSorts { frames := 0, cells := 0, slots := 0, locals := 0 } D y b z G I J [.ref (G.1 10)] (fun r u => (r = (f_X0_dropSorts I).1 ∧ u.2.1 = (f_X0_dropSorts I).2) ∧ u.1 = G ∧ u.2.2 = J) 0 0 := by
  refine w_enter (by decide) rfl (Nat.le_of_ble_eq_true rfl) rfl ?_
  intro p e s m below meth c ls X hr hlk hnm hw hst hl
  have hx := X.1.1
  have hb := X.1.2.1
  obtain ⟨po_c_X0_dropSorts, epo⟩ : ∃ qpo9 : Int32 → wS → Prop, qpo9 = (fun r u => (r = (f_X0_dropSorts I).1 ∧ u.2.1 = (f_X0_dropSorts I).2) ∧ u.1 = G ∧ u.2.2 = J) := ⟨_, rfl⟩
  rw [← epo]
  refine lv_aload_n hx hb dX0_dropSorts_0 rfl (lv_at hl 0 rfl) ?_
  refine w_get X hw 1 5 (hL 10 (by decide)) rfl (by decide) k_X0 in_X0_dropSorts_X0 (by decide) (by decide +kernel) rfl (v := .int (I 10 5)) rfl dX0_dropSorts_1 ?_
  refine lv_topi (fun x_1 ex_1 => ?_)
  refine lv_istore_n (lv' := [(1, .int x_1), (0, .ref (G.1 10))]) hx hb dX0_dropSorts_4 rfl hl (by decide) rfl (fun ls hl => ?_)
  refine lv_aload_n hx hb dX0_dropSorts_5 rfl (lv_at hl 1 rfl) ?_
  refine lv_iconst (v := 0) hx hb dX0_dropSorts_6 (by decide) ?_
  refine w_put X hw 1 5 (hL 10 (by decide)) rfl (by decide) k_X0 in_X0_dropSorts_X0 (by decide) (by decide +kernel) rfl rfl (t := .int) (by decide +kernel) rfl rfl (fun _ => rfl) (fun _ => Nat.le_of_ble_eq_true rfl) dX0_dropSorts_7 (fun H locs hw => ?_)
  refine lv_iload_n hx hb dX0_dropSorts_10 rfl (lv_at hl 0 rfl) ?_
  have hp_11 : po_c_X0_dropSorts x_1 (G, (wU I 10 5 0), J) := by
      obtain rfl := ex_1.symm
      rw [epo]
      have ef : f_X0_dropSorts I = ((I 10 5), (wU I 10 5 0)) := rfl
      exact ⟨⟨by rw [ef], by rw [ef]⟩, rfl, rfl⟩
  exact w_iret X hr hlk hw hp_11 (Nat.le_of_ble_eq_true rfl) (Nat.le_of_ble_eq_true rfl) dX0_dropSorts_11
def f_X3_isSold (I : wI) (n : Nat) : Int32 := (if (I n 4) = (-1) then 0 else 1)
theorem f_X3_isSold_01 (I : wI) (n : Nat) : f_X3_isSold I n = 1 ∨ ¬ f_X3_isSold I n = 1 ∧ f_X3_isSold I n = 0 := by
  unfold f_X3_isSold
  repeat' split
  all_goals first | exact Or.inl rfl | exact Or.inr ⟨by decide, rfl⟩
set_option maxRecDepth 20000 in
theorem in_X3_isSold_X3 : ∀ w ∈ u_ws RX3 TX3 6, w ∈ wsX3_isSold := fun _ h => List.mem_cons_of_mem _ (List.mem_append_right _ h)
set_option maxHeartbeats 4000000 in
set_option maxRecDepth 100000 in
theorem c_X3_isSold (l : Launch) (D : va_G) (y : Nat → ClassId) (b : Nat) (z : Nat → Nat) (G : wG) (I : wI) (J : wJ) (hL : w_full G) (n : Nat) (hn : n ∈ G.2.1) (hk : w_kd n = 4) : mI l yX3_isSold wsX3_isSold { frames := 0, cells := 0, slots := 0, locals := 0 } D y b z G I J [.ref (G.1 n)] (fun r u => r = f_X3_isSold I n ∧ u = (G, I, J)) 0 0 := by
  refine w_enter (by decide) rfl (Nat.le_of_ble_eq_true rfl) rfl ?_
  intro p e s m below meth c ls X hr hlk hnm hw hst hl
  have hx := X.1.1
  have hb := X.1.2.1
  obtain ⟨po_c_X3_isSold, epo⟩ : ∃ qpo9 : Int32 → wS → Prop, qpo9 = (fun r u => r = f_X3_isSold I n ∧ u = (G, I, J)) := ⟨_, rfl⟩
  rw [← epo]
  refine lv_aload_n hx hb dX3_isSold_0 rfl (lv_at hl 0 rfl) ?_
  refine w_get X hw 4 4 hn hk (by decide) k_X3 in_X3_isSold_X3 (by decide) (by decide +kernel) rfl (v := .int (I n 4)) rfl dX3_isSold_1 ?_
  refine lv_iconst (v := -1) hx hb dX3_isSold_4 (by decide) ?_
  refine lv_icmp_eq (tgt := 12) hx hb dX3_isSold_5 (by decide) (fun c_5 => ?_) (fun c_5 => ?_)
  · refine lv_iconst (v := 0) hx hb dX3_isSold_12 (by decide) ?_
    have hp_13 : po_c_X3_isSold 0 (G, I, J) := by
        rw [epo]
        refine ⟨Eq.symm ?_, rfl⟩
        unfold f_X3_isSold; rw [if_pos c_5]
    exact w_zret X hr (by decide) hlk hw hp_13 (Nat.le_of_ble_eq_true rfl) (Nat.le_of_ble_eq_true rfl) dX3_isSold_13
  · refine lv_iconst (v := 1) hx hb dX3_isSold_8 (by decide) ?_
    refine lv_goto (tgt := 13) hx hb dX3_isSold_9 (by decide) ?_
    have hp_13 : po_c_X3_isSold 1 (G, I, J) := by
        rw [epo]
        refine ⟨Eq.symm ?_, rfl⟩
        unfold f_X3_isSold; rw [if_neg c_5]
    exact w_zret X hr (by decide) hlk hw hp_13 (Nat.le_of_ble_eq_true rfl) (Nat.le_of_ble_eq_true rfl) dX3_isSold_13
def f_X0_addSort (I : wI) (si : Int32) (wo : Int32) (fl : Int32) : Int32 × wI := (if (I 10 5) < 6 then (((I 10 5) + 1) - 1, (wU (wU (wU (wU I 11 (I 10 5).toNatClampNeg si) 12 (I 10 5).toNatClampNeg wo) 13 (I 10 5).toNatClampNeg fl) 10 5 ((I 10 5) + 1))) else ((-1), I))
theorem fr_f_X0_addSort (I : wI) (si : Int32) (wo : Int32) (fl : Int32) (q9 : Nat) (h10 : q9 ≠ 10) (h11 : q9 ≠ 11) (h12 : q9 ≠ 12) (h13 : q9 ≠ 13) : (f_X0_addSort I si wo fl).2 q9 = I q9 := by
  unfold f_X0_addSort
  repeat' split
  all_goals first | with_reducible rfl | (simp only [wU_ne _ _ _ h10, wU_ne _ _ _ h11, wU_ne _ _ _ h12, wU_ne _ _ _ h13])
set_option maxRecDepth 20000 in
theorem in_X0_addSort_X0 : ∀ w ∈ u_ws RX0 TX0 8, w ∈ wsX0_addSort := fun _ h => List.mem_cons_of_mem _ (List.mem_append_right _ h)
set_option maxHeartbeats 4000000 in
set_option maxRecDepth 100000 in
theorem c_X0_addSort (l : Launch) (D : va_G) (y : Nat → ClassId) (b : Nat) (z : Nat → Nat) (G : wG) (I : wI) (J : wJ) (hL : w_full G) (si : Int32) (wo : Int32) (fl : Int32) (h0 : 0 ≤ (I 10 5).toInt) : mI l yX0_addSort wsX0_addSort { frames := 0, cells := 0, slots := 0, locals := 0 } D y b z G I J [.ref (G.1 10), .int si, .int wo, .int fl] (fun r u => (r = (f_X0_addSort I si wo fl).1 ∧ u.2.1 = (f_X0_addSort I si wo fl).2) ∧ u.1 = G ∧ u.2.2 = J) 0 0 := by
  refine w_enter (by decide) rfl (Nat.le_of_ble_eq_true rfl) rfl ?_
  intro p e s m below meth c ls X hr hlk hnm hw hst hl
  have hx := X.1.1
  have hb := X.1.2.1
  obtain ⟨po_c_X0_addSort, epo⟩ : ∃ qpo9 : Int32 → wS → Prop, qpo9 = (fun r u => (r = (f_X0_addSort I si wo fl).1 ∧ u.2.1 = (f_X0_addSort I si wo fl).2) ∧ u.1 = G ∧ u.2.2 = J) := ⟨_, rfl⟩
  rw [← epo]
  refine lv_aload_n hx hb dX0_addSort_0 rfl (lv_at hl 0 rfl) ?_
  refine w_get X hw 1 5 (hL 10 (by decide)) rfl (by decide) k_X0 in_X0_addSort_X0 (by decide) (by decide +kernel) rfl (v := .int (I 10 5)) rfl dX0_addSort_1 ?_
  refine lv_bipush (v := 6) hx hb dX0_addSort_4 (by decide) ?_
  refine lv_icmp_lt (tgt := 11) hx hb dX0_addSort_6 (by decide) (fun c_6 => ?_) (fun c_6 => ?_)
  · refine lv_aload_n hx hb dX0_addSort_11 rfl (lv_at hl 0 rfl) ?_
    refine w_get X hw 1 0 (hL 10 (by decide)) rfl (by decide) k_X0 in_X0_addSort_X0 (by decide) (by decide +kernel) rfl (v := .ref (G.1 11)) rfl dX0_addSort_12 ?_
    refine lv_aload_n hx hb dX0_addSort_15 rfl (lv_at hl 0 rfl) ?_
    refine w_get X hw 1 5 (hL 10 (by decide)) rfl (by decide) k_X0 in_X0_addSort_X0 (by decide) (by decide +kernel) rfl (v := .int (I 10 5)) rfl dX0_addSort_16 ?_
    refine lv_iload_n hx hb dX0_addSort_19 rfl (lv_at hl 1 rfl) ?_
    have h_20 : vp_in (I 10 5) 6 := by rw [vp_in_iff]; simp only [i_le, i_lt, i_eq, Int32.reduceToInt] at *; omega
    refine w_ist X hw (hL 11 (by decide)) rfl h_20 dX0_addSort_20 (fun H locs hw => ?_)
    refine lv_aload_n hx hb dX0_addSort_21 rfl (lv_at hl 0 rfl) ?_
    refine w_get X hw 1 1 (hL 10 (by decide)) rfl (by decide) k_X0 in_X0_addSort_X0 (by decide) (by decide +kernel) rfl (v := .ref (G.1 12)) rfl dX0_addSort_22 ?_
    refine lv_aload_n hx hb dX0_addSort_25 rfl (lv_at hl 0 rfl) ?_
    refine w_get X hw 1 5 (hL 10 (by decide)) rfl (by decide) k_X0 in_X0_addSort_X0 (by decide) (by decide +kernel) rfl (v := .int (I 10 5)) rfl dX0_addSort_26 ?_
    refine lv_iload_n hx hb dX0_addSort_29 rfl (lv_at hl 2 rfl) ?_
    have h_30 : vp_in (I 10 5) 6 := by rw [vp_in_iff]; simp only [i_le, i_lt, i_eq, Int32.reduceToInt] at *; omega
    refine w_ist X hw (hL 12 (by decide)) rfl h_30 dX0_addSort_30 (fun H locs hw => ?_)
    refine lv_aload_n hx hb dX0_addSort_31 rfl (lv_at hl 0 rfl) ?_
    refine w_get X hw 1 2 (hL 10 (by decide)) rfl (by decide) k_X0 in_X0_addSort_X0 (by decide) (by decide +kernel) rfl (v := .ref (G.1 13)) rfl dX0_addSort_32 ?_
    refine lv_aload_n hx hb dX0_addSort_35 rfl (lv_at hl 0 rfl) ?_
    refine w_get X hw 1 5 (hL 10 (by decide)) rfl (by decide) k_X0 in_X0_addSort_X0 (by decide) (by decide +kernel) rfl (v := .int (I 10 5)) rfl dX0_addSort_36 ?_
    refine lv_iload_n hx hb dX0_addSort_39 rfl (lv_at hl 3 rfl) ?_
    have h_40 : vp_in (I 10 5) 6 := by rw [vp_in_iff]; simp only [i_le, i_lt, i_eq, Int32.reduceToInt] at *; omega
    refine w_ist X hw (hL 13 (by decide)) rfl h_40 dX0_addSort_40 (fun H locs hw => ?_)
    refine lv_aload_n hx hb dX0_addSort_41 rfl (lv_at hl 0 rfl) ?_
    refine lv_dup hx hb dX0_addSort_42 rfl ?_
    refine w_get X hw 1 5 (hL 10 (by decide)) rfl (by decide) k_X0 in_X0_addSort_X0 (by decide) (by decide +kernel) rfl (v := .int (I 10 5)) rfl dX0_addSort_43 ?_
    refine lv_iconst (v := 1) hx hb dX0_addSort_46 (by decide) ?_
    refine lv_iadd hx hb dX0_addSort_47 ?_
    refine lv_topi (fun x_1 ex_1 => ?_)
    refine w_put X hw 1 5 (hL 10 (by decide)) rfl (by decide) k_X0 in_X0_addSort_X0 (by decide) (by decide +kernel) rfl rfl (t := .int) (by decide +kernel) rfl rfl (fun _ => rfl) (fun _ => Nat.le_of_ble_eq_true rfl) dX0_addSort_48 (fun H locs hw => ?_)
    refine lv_aload_n hx hb dX0_addSort_51 rfl (lv_at hl 0 rfl) ?_
    refine w_get X hw 1 5 (hL 10 (by decide)) rfl (by decide) k_X0 in_X0_addSort_X0 (by decide) (by decide +kernel) rfl (v := .int x_1) rfl dX0_addSort_52 ?_
    refine lv_iconst (v := 1) hx hb dX0_addSort_55 (by decide) ?_
    refine lv_isub hx hb dX0_addSort_56 ?_
    have hp_57 : po_c_X0_addSort (x_1 - 1) (G, (wU (wU (wU (wU I 11 (I 10 5).toNatClampNeg si) 12 (I 10 5).toNatClampNeg wo) 13 (I 10 5).toNatClampNeg fl) 10 5 x_1), J) := by
        obtain rfl := ex_1.symm
        rw [epo]
        have ef : f_X0_addSort I si wo fl = (((I 10 5) + 1) - 1, (wU (wU (wU (wU I 11 (I 10 5).toNatClampNeg si) 12 (I 10 5).toNatClampNeg wo) 13 (I 10 5).toNatClampNeg fl) 10 5 ((I 10 5) + 1))) := by unfold f_X0_addSort; rw [if_pos c_6]
        exact ⟨⟨by rw [ef], by rw [ef]⟩, rfl, rfl⟩
    exact w_iret X hr hlk hw hp_57 (Nat.le_of_ble_eq_true rfl) (Nat.le_of_ble_eq_true rfl) dX0_addSort_57
  · refine lv_iconst (v := -1) hx hb dX0_addSort_9 (by decide) ?_
    have hp_10 : po_c_X0_addSort (-1) (G, I, J) := by
        rw [epo]
        have ef : f_X0_addSort I si wo fl = ((-1), I) := by unfold f_X0_addSort; rw [if_neg c_6]
        exact ⟨⟨by rw [ef], by rw [ef]⟩, rfl, rfl⟩
    exact w_iret X hr hlk hw hp_10 (Nat.le_of_ble_eq_true rfl) (Nat.le_of_ble_eq_true rfl) dX0_addSort_10
def f_X5_addStand (I : wI) (he : Int32) (ye : Int32) : Int32 × wI := (if (I 16 5) < 6 then (((I 16 5) + 1) - 1, (wU (wU (wU (wU I 17 (I 16 5).toNatClampNeg he) 18 (I 16 5).toNatClampNeg ye) 16 5 ((I 16 5) + 1)) 16 7 0)) else ((-1), I))
theorem fr_f_X5_addStand (I : wI) (he : Int32) (ye : Int32) (q9 : Nat) (h16 : q9 ≠ 16) (h17 : q9 ≠ 17) (h18 : q9 ≠ 18) : (f_X5_addStand I he ye).2 q9 = I q9 := by
  unfold f_X5_addStand
  repeat' split
  all_goals first | with_reducible rfl | (simp only [wU_ne _ _ _ h16, wU_ne _ _ _ h17, wU_ne _ _ _ h18])
set_option maxRecDepth 20000 in
theorem in_X5_addStand_X5 : ∀ w ∈ u_ws RX5 TX5 8, w ∈ wsX5_addStand := fun _ h => List.mem_cons_of_mem _ (List.mem_append_right _ h)
set_option maxHeartbeats 4000000 in
set_option maxRecDepth 100000 in
theorem c_X5_addStand (l : Launch) (D : va_G) (y : Nat → ClassId) (b : Nat) (z : Nat → Nat) (G : wG) (I : wI) (J : wJ) (hL : w_full G) (he : Int32) (ye : Int32) (h0 : 0 ≤ (I 16 5).toInt) : mI l yX5_addStand wsX5_addStand { frames := 0, cells := 0, slots := 0, locals := 0 } D y b z G I J [.ref (G.1 16), .int he, .int ye] (fun r u => (r = (f_X5_addStand I he ye).1 ∧ u.2.1 = (f_X5_addStand I he ye).2) ∧ u.1 = G ∧ u.2.2 = J) 0 0 := by
  refine w_enter (by decide) rfl (Nat.le_of_ble_eq_true rfl) rfl ?_
  intro p e s m below meth c ls X hr hlk hnm hw hst hl
  have hx := X.1.1
  have hb := X.1.2.1
  obtain ⟨po_c_X5_addStand, epo⟩ : ∃ qpo9 : Int32 → wS → Prop, qpo9 = (fun r u => (r = (f_X5_addStand I he ye).1 ∧ u.2.1 = (f_X5_addStand I he ye).2) ∧ u.1 = G ∧ u.2.2 = J) := ⟨_, rfl⟩
  rw [← epo]
  refine lv_aload_n hx hb dX5_addStand_0 rfl (lv_at hl 0 rfl) ?_
  refine w_get X hw 6 5 (hL 16 (by decide)) rfl (by decide) k_X5 in_X5_addStand_X5 (by decide) (by decide +kernel) rfl (v := .int (I 16 5)) rfl dX5_addStand_1 ?_
  refine lv_bipush (v := 6) hx hb dX5_addStand_4 (by decide) ?_
  refine lv_icmp_lt (tgt := 11) hx hb dX5_addStand_6 (by decide) (fun c_6 => ?_) (fun c_6 => ?_)
  · refine lv_aload_n hx hb dX5_addStand_11 rfl (lv_at hl 0 rfl) ?_
    refine w_get X hw 6 0 (hL 16 (by decide)) rfl (by decide) k_X5 in_X5_addStand_X5 (by decide) (by decide +kernel) rfl (v := .ref (G.1 17)) rfl dX5_addStand_12 ?_
    refine lv_aload_n hx hb dX5_addStand_15 rfl (lv_at hl 0 rfl) ?_
    refine w_get X hw 6 5 (hL 16 (by decide)) rfl (by decide) k_X5 in_X5_addStand_X5 (by decide) (by decide +kernel) rfl (v := .int (I 16 5)) rfl dX5_addStand_16 ?_
    refine lv_iload_n hx hb dX5_addStand_19 rfl (lv_at hl 1 rfl) ?_
    have h_20 : vp_in (I 16 5) 6 := by rw [vp_in_iff]; simp only [i_le, i_lt, i_eq, Int32.reduceToInt] at *; omega
    refine w_ist X hw (hL 17 (by decide)) rfl h_20 dX5_addStand_20 (fun H locs hw => ?_)
    refine lv_aload_n hx hb dX5_addStand_21 rfl (lv_at hl 0 rfl) ?_
    refine w_get X hw 6 1 (hL 16 (by decide)) rfl (by decide) k_X5 in_X5_addStand_X5 (by decide) (by decide +kernel) rfl (v := .ref (G.1 18)) rfl dX5_addStand_22 ?_
    refine lv_aload_n hx hb dX5_addStand_25 rfl (lv_at hl 0 rfl) ?_
    refine w_get X hw 6 5 (hL 16 (by decide)) rfl (by decide) k_X5 in_X5_addStand_X5 (by decide) (by decide +kernel) rfl (v := .int (I 16 5)) rfl dX5_addStand_26 ?_
    refine lv_iload_n hx hb dX5_addStand_29 rfl (lv_at hl 2 rfl) ?_
    have h_30 : vp_in (I 16 5) 6 := by rw [vp_in_iff]; simp only [i_le, i_lt, i_eq, Int32.reduceToInt] at *; omega
    refine w_ist X hw (hL 18 (by decide)) rfl h_30 dX5_addStand_30 (fun H locs hw => ?_)
    refine lv_aload_n hx hb dX5_addStand_31 rfl (lv_at hl 0 rfl) ?_
    refine lv_dup hx hb dX5_addStand_32 rfl ?_
    refine w_get X hw 6 5 (hL 16 (by decide)) rfl (by decide) k_X5 in_X5_addStand_X5 (by decide) (by decide +kernel) rfl (v := .int (I 16 5)) rfl dX5_addStand_33 ?_
    refine lv_iconst (v := 1) hx hb dX5_addStand_36 (by decide) ?_
    refine lv_iadd hx hb dX5_addStand_37 ?_
    refine lv_topi (fun x_1 ex_1 => ?_)
    refine w_put X hw 6 5 (hL 16 (by decide)) rfl (by decide) k_X5 in_X5_addStand_X5 (by decide) (by decide +kernel) rfl rfl (t := .int) (by decide +kernel) rfl rfl (fun _ => rfl) (fun _ => Nat.le_of_ble_eq_true rfl) dX5_addStand_38 (fun H locs hw => ?_)
    refine lv_aload_n hx hb dX5_addStand_41 rfl (lv_at hl 0 rfl) ?_
    refine lv_iconst (v := 0) hx hb dX5_addStand_42 (by decide) ?_
    refine w_put X hw 6 7 (hL 16 (by decide)) rfl (by decide) k_X5 in_X5_addStand_X5 (by decide) (by decide +kernel) rfl rfl (t := .boolean) (by decide +kernel) (by decide) (by decide) (fun _ => rfl) (fun _ => Nat.le_of_ble_eq_true rfl) dX5_addStand_43 (fun H locs hw => ?_)
    refine lv_aload_n hx hb dX5_addStand_46 rfl (lv_at hl 0 rfl) ?_
    refine w_get X hw 6 5 (hL 16 (by decide)) rfl (by decide) k_X5 in_X5_addStand_X5 (by decide) (by decide +kernel) rfl (v := .int x_1) rfl dX5_addStand_47 ?_
    refine lv_iconst (v := 1) hx hb dX5_addStand_50 (by decide) ?_
    refine lv_isub hx hb dX5_addStand_51 ?_
    have hp_52 : po_c_X5_addStand (x_1 - 1) (G, (wU (wU (wU (wU I 17 (I 16 5).toNatClampNeg he) 18 (I 16 5).toNatClampNeg ye) 16 5 x_1) 16 7 0), J) := by
        obtain rfl := ex_1.symm
        rw [epo]
        have ef : f_X5_addStand I he ye = (((I 16 5) + 1) - 1, (wU (wU (wU (wU I 17 (I 16 5).toNatClampNeg he) 18 (I 16 5).toNatClampNeg ye) 16 5 ((I 16 5) + 1)) 16 7 0)) := by unfold f_X5_addStand; rw [if_pos c_6]
        exact ⟨⟨by rw [ef], by rw [ef]⟩, rfl, rfl⟩
    exact w_iret X hr hlk hw hp_52 (Nat.le_of_ble_eq_true rfl) (Nat.le_of_ble_eq_true rfl) dX5_addStand_52
  · refine lv_iconst (v := -1) hx hb dX5_addStand_9 (by decide) ?_
    have hp_10 : po_c_X5_addStand (-1) (G, I, J) := by
        rw [epo]
        have ef : f_X5_addStand I he ye = ((-1), I) := by unfold f_X5_addStand; rw [if_neg c_6]
        exact ⟨⟨by rw [ef], by rw [ef]⟩, rfl, rfl⟩
    exact w_iret X hr hlk hw hp_10 (Nat.le_of_ble_eq_true rfl) (Nat.le_of_ble_eq_true rfl) dX5_addStand_10
def f_X0_greatestWorth (I : wI)  : Int32 := (I 14 (I 10 6).toNatClampNeg)
set_option maxRecDepth 20000 in
theorem in_X0_greatestWorth_X0 : ∀ w ∈ u_ws RX0 TX0 8, w ∈ wsX0_greatestWorth := fun _ h => List.mem_cons_of_mem _ (List.mem_append_right _ h)
set_option maxHeartbeats 4000000 in
set_option maxRecDepth 100000 in
theorem c_X0_greatestWorth (l : Launch) (D : va_G) (y : Nat → ClassId) (b : Nat) (z : Nat → Nat) (G : wG) (I : wI) (J : wJ) (hL : w_full G)  (h0 : 0 ≤ (I 10 6).toInt ∧ (I 10 6).toInt ≤ 60) : mI l yX0_greatestWorth wsX0_greatestWorth { frames := 0, cells := 0, slots := 0, locals := 0 } D y b z G I J [.ref (G.1 10)] (fun r u => r = f_X0_greatestWorth I ∧ u = (G, I, J)) 0 0 := by
  refine w_enter (by decide) rfl (Nat.le_of_ble_eq_true rfl) rfl ?_
  intro p e s m below meth c ls X hr hlk hnm hw hst hl
  have hx := X.1.1
  have hb := X.1.2.1
  obtain ⟨po_c_X0_greatestWorth, epo⟩ : ∃ qpo9 : Int32 → wS → Prop, qpo9 = (fun r u => r = f_X0_greatestWorth I ∧ u = (G, I, J)) := ⟨_, rfl⟩
  rw [← epo]
  refine lv_aload_n hx hb dX0_greatestWorth_0 rfl (lv_at hl 0 rfl) ?_
  refine w_get X hw 1 3 (hL 10 (by decide)) rfl (by decide) k_X0 in_X0_greatestWorth_X0 (by decide) (by decide +kernel) rfl (v := .ref (G.1 14)) rfl dX0_greatestWorth_1 ?_
  refine lv_aload_n hx hb dX0_greatestWorth_4 rfl (lv_at hl 0 rfl) ?_
  refine w_get X hw 1 6 (hL 10 (by decide)) rfl (by decide) k_X0 in_X0_greatestWorth_X0 (by decide) (by decide +kernel) rfl (v := .int (I 10 6)) rfl dX0_greatestWorth_5 ?_
  have h_8 : vp_in (I 10 6) 61 := by rw [vp_in_iff]; simp only [i_le, i_lt, i_eq, Int32.reduceToInt] at *; omega
  refine w_ild X hw (hL 14 (by decide)) rfl h_8 dX0_greatestWorth_8 ?_
  have hp_9 : po_c_X0_greatestWorth (I 14 (I 10 6).toNatClampNeg) (G, I, J) := by
      rw [epo]
      refine ⟨Eq.symm ?_, rfl⟩
      rfl
  exact w_iret X hr hlk hw hp_9 (Nat.le_of_ble_eq_true rfl) (Nat.le_of_ble_eq_true rfl) dX0_greatestWorth_9
def f_X0_fewestStoppers (I : wI)  : Int32 := (I 15 (I 10 6).toNatClampNeg)
set_option maxRecDepth 20000 in
theorem in_X0_fewestStoppers_X0 : ∀ w ∈ u_ws RX0 TX0 8, w ∈ wsX0_fewestStoppers := fun _ h => List.mem_cons_of_mem _ (List.mem_append_right _ h)
set_option maxHeartbeats 4000000 in
set_option maxRecDepth 100000 in
theorem c_X0_fewestStoppers (l : Launch) (D : va_G) (y : Nat → ClassId) (b : Nat) (z : Nat → Nat) (G : wG) (I : wI) (J : wJ) (hL : w_full G)  (h0 : 0 ≤ (I 10 6).toInt ∧ (I 10 6).toInt ≤ 60) : mI l yX0_fewestStoppers wsX0_fewestStoppers { frames := 0, cells := 0, slots := 0, locals := 0 } D y b z G I J [.ref (G.1 10)] (fun r u => r = f_X0_fewestStoppers I ∧ u = (G, I, J)) 0 0 := by
  refine w_enter (by decide) rfl (Nat.le_of_ble_eq_true rfl) rfl ?_
  intro p e s m below meth c ls X hr hlk hnm hw hst hl
  have hx := X.1.1
  have hb := X.1.2.1
  obtain ⟨po_c_X0_fewestStoppers, epo⟩ : ∃ qpo9 : Int32 → wS → Prop, qpo9 = (fun r u => r = f_X0_fewestStoppers I ∧ u = (G, I, J)) := ⟨_, rfl⟩
  rw [← epo]
  refine lv_aload_n hx hb dX0_fewestStoppers_0 rfl (lv_at hl 0 rfl) ?_
  refine w_get X hw 1 4 (hL 10 (by decide)) rfl (by decide) k_X0 in_X0_fewestStoppers_X0 (by decide) (by decide +kernel) rfl (v := .ref (G.1 15)) rfl dX0_fewestStoppers_1 ?_
  refine lv_aload_n hx hb dX0_fewestStoppers_4 rfl (lv_at hl 0 rfl) ?_
  refine w_get X hw 1 6 (hL 10 (by decide)) rfl (by decide) k_X0 in_X0_fewestStoppers_X0 (by decide) (by decide +kernel) rfl (v := .int (I 10 6)) rfl dX0_fewestStoppers_5 ?_
  have h_8 : vp_in (I 10 6) 61 := by rw [vp_in_iff]; simp only [i_le, i_lt, i_eq, Int32.reduceToInt] at *; omega
  refine w_ild X hw (hL 15 (by decide)) rfl h_8 dX0_fewestStoppers_8 ?_
  have hp_9 : po_c_X0_fewestStoppers (I 15 (I 10 6).toNatClampNeg) (G, I, J) := by
      rw [epo]
      refine ⟨Eq.symm ?_, rfl⟩
      rfl
  exact w_iret X hr hlk hw hp_9 (Nat.le_of_ble_eq_true rfl) (Nat.le_of_ble_eq_true rfl) dX0_fewestStoppers_9
