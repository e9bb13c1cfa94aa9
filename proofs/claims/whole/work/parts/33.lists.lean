def f_Jx4a65c_size_8abf5 (I : wI) (li : Nat) : Int32 := (I li 2)
set_option maxRecDepth 20000 in
theorem in_Jx4a65c_size_8abf5_Jx4a65c : ∀ w ∈ u_ws RJx4a65c TJx4a65c 3, w ∈ wsJx4a65c_size_8abf5 := fun _ h => List.mem_cons_of_mem _ (List.mem_append_right _ h)
set_option maxHeartbeats 4000000 in
set_option maxRecDepth 100000 in
theorem c_Jx4a65c_size_8abf5 (l : Launch) (D : va_G) (y : Nat → ClassId) (b : Nat) (z : Nat → Nat) (G : wG) (I : wI) (J : wJ) (hL : w_full G) (li : Nat) (hn : li ∈ G.2.1) (hk : w_kd li = 0) : mI l yJx4a65c_size_8abf5 wsJx4a65c_size_8abf5 { frames := 0, cells := 0, slots := 0, locals := 0 } D y b z G I J [.ref (G.1 li)] (fun r u => r = f_Jx4a65c_size_8abf5 I li ∧ u = (G, I, J)) 0 0 := by
  refine w_enter (by decide) rfl (Nat.le_of_ble_eq_true rfl) rfl ?_
  intro p e s m below meth c ls X hr hlk hnm hw hst hl
  have hx := X.1.1
  have hb := X.1.2.1
  obtain ⟨po_c_Jx4a65c_size_8abf5, epo⟩ : ∃ qpo9 : Int32 → wS → Prop, qpo9 = (fun r u => r = f_Jx4a65c_size_8abf5 I li ∧ u = (G, I, J)) := ⟨_, rfl⟩
  rw [← epo]
  refine lv_aload_n hx hb dJx4a65c_size_8abf5_0 rfl (lv_at hl 0 rfl) ?_
  refine w_get X hw 0 2 hn hk (by decide) k_Jx4a65c in_Jx4a65c_size_8abf5_Jx4a65c (by decide) (by decide +kernel) rfl (v := .int (I li 2)) rfl dJx4a65c_size_8abf5_1 ?_
  have hp_4 : po_c_Jx4a65c_size_8abf5 (I li 2) (G, I, J) := by
      rw [epo]
      refine ⟨Eq.symm ?_, rfl⟩
      rfl
  exact w_iret X hr hlk hw hp_4 (Nat.le_of_ble_eq_true rfl) (Nat.le_of_ble_eq_true rfl) dJx4a65c_size_8abf5_4
set_option maxHeartbeats 4000000 in
set_option maxRecDepth 100000 in
theorem c_J3_null (l : Launch) (D : va_G) (y : Nat → ClassId) (b : Nat) (z : Nat → Nat) (G : wG) (I : wI) (J : wJ) (hL : w_full G) (i n2 : Int32) (h0 : ¬ i < 0) (h1 : i < n2) : mI l yJ3_checkIndex_8e157 wsJ3_checkIndex_8e157 { frames := 0, cells := 0, slots := 0, locals := 0 } D y b z G I J [.int i, .int n2, .null] (fun r u => r = i ∧ u = (G, I, J)) 0 0 := by
  refine w_enter (by decide) rfl (Nat.le_of_ble_eq_true rfl) rfl ?_
  intro p e s m below meth c ls X hr hlk hnm hw hst hl
  have hx := X.1.1
  have hb := X.1.2.1
  obtain ⟨po_c_J3_null, epo⟩ : ∃ qpo9 : Int32 → wS → Prop, qpo9 = (fun r u => r = i ∧ u = (G, I, J)) := ⟨_, rfl⟩
  rw [← epo]
  refine lv_iload_n hx hb dJ3_checkIndex_8e157_0 rfl (lv_at hl 0 rfl) ?_
  refine lv_if_lt (tgt := 9) hx hb dJ3_checkIndex_8e157_1 (by decide) (fun c_1 => ?_) (fun c_1 => ?_)
  · exact absurd c_1 h0
  · refine lv_iload_n hx hb dJ3_checkIndex_8e157_4 rfl (lv_at hl 0 rfl) ?_
    refine lv_iload_n hx hb dJ3_checkIndex_8e157_5 rfl (lv_at hl 1 rfl) ?_
    refine lv_icmp_lt (tgt := 16) hx hb dJ3_checkIndex_8e157_6 (by decide) (fun c_6 => ?_) (fun c_6 => ?_)
    · refine lv_iload_n hx hb dJ3_checkIndex_8e157_16 rfl (lv_at hl 0 rfl) ?_
      have hp_17 : po_c_J3_null i (G, I, J) := by rw [epo]; exact ⟨rfl, rfl⟩
      exact w_iret X hr hlk hw hp_17 (Nat.le_of_ble_eq_true rfl) (Nat.le_of_ble_eq_true rfl) dJ3_checkIndex_8e157_17
    · exact absurd h1 c_6
set_option maxHeartbeats 4000000 in
set_option maxRecDepth 100000 in
theorem c_J15_checkIndex (l : Launch) (D : va_G) (y : Nat → ClassId) (b : Nat) (z : Nat → Nat) (G : wG) (I : wI) (J : wJ) (hL : w_full G) (i n2 : Int32) (h0 : ¬ i < 0) (h1 : i < n2) : mI l yJ15_checkIndex_7cf53 wsJ15_checkIndex_7cf53 { frames := 1, cells := 0, slots := 0, locals := 22 } D y b z G I J [.int i, .int n2] (fun r u => r = i ∧ u = (G, I, J)) 0 0 := by
  refine w_enter (by decide) rfl (Nat.le_of_ble_eq_true rfl) rfl ?_
  intro p e s m below meth c ls X hr hlk hnm hw hst hl
  have hx := X.1.1
  have hb := X.1.2.1
  obtain ⟨po_c_J15_checkIndex, epo⟩ : ∃ qpo9 : Int32 → wS → Prop, qpo9 = (fun r u => r = i ∧ u = (G, I, J)) := ⟨_, rfl⟩
  rw [← epo]
  refine lv_iload_n hx hb dJ15_checkIndex_7cf53_0 rfl (lv_at hl 0 rfl) ?_
  refine lv_iload_n hx hb dJ15_checkIndex_7cf53_1 rfl (lv_at hl 1 rfl) ?_
  refine lv_null hx hb dJ15_checkIndex_7cf53_2 ?_
  refine w_callSi (As := [.int i, .int n2, .null]) (rest := []) X hw hst hl (c_J3_null l D y b z G I J hL i n2 h0 h1) (va_cwS 3 X.1.2.2.2.2 gJ15_checkIndex_7cf53_J3_checkIndex_8e157 rfl rfl rfl (by decide +kernel) ⟨Nat.le_of_ble_eq_true rfl, Nat.le_of_ble_eq_true rfl⟩) rfl rfl (Nat.le_of_ble_eq_true rfl) dJ15_checkIndex_7cf53_3 ⟨Nat.le_of_ble_eq_true rfl, Nat.le_of_ble_eq_true rfl⟩ (fun r_3_1 u H locs hp_3 hw => ?_)
  obtain ⟨hp_3, rfl⟩ := hp_3
  dsimp only at hw
  have hp_6 : po_c_J15_checkIndex r_3_1 (G, I, J) := by rw [epo]; exact ⟨hp_3, rfl⟩
  exact w_iret X hr hlk hw hp_6 (Nat.le_of_ble_eq_true rfl) (Nat.le_of_ble_eq_true rfl) dJ15_checkIndex_7cf53_6
set_option maxRecDepth 20000 in
theorem in_Jx4a65c_elementData_915e3_Jx4a65c : ∀ w ∈ u_ws RJx4a65c TJx4a65c 3, w ∈ wsJx4a65c_elementData_915e3 := fun _ h => List.mem_cons_of_mem _ (List.mem_append_right _ h)
set_option maxHeartbeats 4000000 in
set_option maxRecDepth 100000 in
theorem c_AL_elementData (l : Launch) (D : va_G) (y : Nat → ClassId) (b : Nat) (z : Nat → Nat) (G : wG) (I : wI) (J : wJ) (hL : w_full G) (li el : Nat) (i : Int32) (hn : li ∈ G.2.1) (hk : w_kd li = 0) (hn1 : li + 83 ∈ G.2.1) (hk1 : w_kd (li + 83) = 14) (hin : vp_in i (G.2.2.2 (li + 83))) (hel : G.2.2.1 (li + 83) i.toNatClampNeg = some el) : mR l yJx4a65c_elementData_915e3 wsJx4a65c_elementData_915e3 { frames := 0, cells := 0, slots := 0, locals := 0 } D y b z G I J [.ref (G.1 li), .int i] (fun u => u.1 = G.1 el ∧ u.2 = (G, I, J)) 0 0 := by
  refine w_enter (by decide) rfl (Nat.le_of_ble_eq_true rfl) rfl ?_
  intro p e s m below meth c ls X hr hlk hnm hw hst hl
  have hx := X.1.1
  have hb := X.1.2.1
  obtain ⟨po_c_AL_elementData, epo⟩ : ∃ qpo9 : Nat × wS → Prop, qpo9 = (fun u => u.1 = G.1 el ∧ u.2 = (G, I, J)) := ⟨_, rfl⟩
  rw [← epo]
  refine lv_aload_n hx hb dJx4a65c_elementData_915e3_0 rfl (lv_at hl 0 rfl) ?_
  refine w_get X hw 0 1 hn hk (by decide) k_Jx4a65c in_Jx4a65c_elementData_915e3_Jx4a65c (by decide) (by decide +kernel) rfl (v := .ref (G.1 (li + 83))) rfl dJx4a65c_elementData_915e3_1 ?_
  refine lv_iload_n hx hb dJx4a65c_elementData_915e3_4 rfl (lv_at hl 1 rfl) ?_
  refine w_ald X hw hn1 hk1 hin hel dJx4a65c_elementData_915e3_5 ?_
  have hp_6 : po_c_AL_elementData (G.1 el, G, I, J) := by rw [epo]; exact ⟨rfl, rfl⟩
  exact w_aret X hr (Or.inl ⟨_, rfl⟩) hlk hw hp_6 (Nat.le_of_ble_eq_true rfl) (Nat.le_of_ble_eq_true rfl) dJx4a65c_elementData_915e3_6
set_option maxRecDepth 20000 in
theorem in_Jx4a65c_get_915e3_Jx4a65c : ∀ w ∈ u_ws RJx4a65c TJx4a65c 3, w ∈ wsJx4a65c_get_915e3 := fun _ h => List.mem_cons_of_mem _ (List.mem_append_right _ h)
set_option maxHeartbeats 4000000 in
set_option maxRecDepth 100000 in
theorem c_AL_get (l : Launch) (D : va_G) (y : Nat → ClassId) (b : Nat) (z : Nat → Nat) (G : wG) (I : wI) (J : wJ) (hL : w_full G) (li el : Nat) (i : Int32) (h0 : ¬ i < 0) (h1 : i < I li 2) (hn : li ∈ G.2.1) (hk : w_kd li = 0) (hn1 : li + 83 ∈ G.2.1) (hk1 : w_kd (li + 83) = 14) (hin : vp_in i (G.2.2.2 (li + 83))) (hel : G.2.2.1 (li + 83) i.toNatClampNeg = some el) : mR l yJx4a65c_get_915e3 wsJx4a65c_get_915e3 { frames := 2, cells := 0, slots := 0, locals := 43 } D y b z G I J [.ref (G.1 li), .int i] (fun u => u.1 = G.1 el ∧ u.2 = (G, I, J)) 0 0 := by
  refine w_enter (by decide) rfl (Nat.le_of_ble_eq_true rfl) rfl ?_
  intro p e s m below meth c ls X hr hlk hnm hw hst hl
  have hx := X.1.1
  have hb := X.1.2.1
  obtain ⟨po_c_AL_get, epo⟩ : ∃ qpo9 : Nat × wS → Prop, qpo9 = (fun u => u.1 = G.1 el ∧ u.2 = (G, I, J)) := ⟨_, rfl⟩
  rw [← epo]
  refine lv_iload_n hx hb dJx4a65c_get_915e3_0 rfl (lv_at hl 1 rfl) ?_
  refine lv_aload_n hx hb dJx4a65c_get_915e3_1 rfl (lv_at hl 0 rfl) ?_
  refine w_get X hw 0 2 hn hk (by decide) k_Jx4a65c in_Jx4a65c_get_915e3_Jx4a65c (by decide) (by decide +kernel) rfl (v := .int (I li 2)) rfl dJx4a65c_get_915e3_2 ?_
  refine w_callSi (As := [.int i, .int (I li 2)]) (rest := []) X hw hst hl (c_J15_checkIndex l D y b z G I J hL i (I li 2) h0 h1) (va_cwS 2 X.1.2.2.2.2 gJx4a65c_get_915e3_J15_checkIndex_7cf53 rfl rfl rfl (by decide +kernel) ⟨Nat.le_of_ble_eq_true rfl, Nat.le_of_ble_eq_true rfl⟩) rfl rfl (Nat.le_of_ble_eq_true rfl) dJx4a65c_get_915e3_5 ⟨Nat.le_of_ble_eq_true rfl, Nat.le_of_ble_eq_true rfl⟩ (fun r_5_1 u H locs hp_5 hw => ?_)
  obtain ⟨hp_5, rfl⟩ := hp_5
  dsimp only at hw
  refine lv_pop hx hb dJx4a65c_get_915e3_8 rfl ?_
  refine lv_aload_n hx hb dJx4a65c_get_915e3_9 rfl (lv_at hl 0 rfl) ?_
  refine lv_iload_n hx hb dJx4a65c_get_915e3_10 rfl (lv_at hl 1 rfl) ?_
  refine w_callVr (As := [.int i]) (rest := []) X hw hst hl (c_AL_elementData l D y b z G I J hL li el i hn hk hn1 hk1 hin hel) (cwV 1 X.1.2.2.2.2 gJx4a65c_get_915e3_Jx4a65c_elementData_915e3 rfl rfl rfl (by decide +kernel) ⟨Nat.le_of_ble_eq_true rfl, Nat.le_of_ble_eq_true rfl⟩) (w_recv X hw hn hk (by decide) k_Jx4a65c) rfl rfl (Nat.le_of_ble_eq_true rfl) dJx4a65c_get_915e3_11 ⟨Nat.le_of_ble_eq_true rfl, Nat.le_of_ble_eq_true rfl⟩ (fun u H locs hp_11 hw => ?_)
  obtain ⟨ra_11, u⟩ := u
  obtain ⟨hp_11, rfl⟩ := hp_11
  dsimp only at hw
  have hp_14 : po_c_AL_get (ra_11, G, I, J) := by rw [epo]; exact ⟨hp_11, rfl⟩
  exact w_aret X hr (Or.inl ⟨_, rfl⟩) hlk hw hp_14 (Nat.le_of_ble_eq_true rfl) (Nat.le_of_ble_eq_true rfl) dJx4a65c_get_915e3_14
