def f_X9_thrown (I : wI)  : Int32 := (I 22 0)
set_option maxRecDepth 20000 in
theorem in_X9_thrown_X9 : ∀ w ∈ u_ws RX9 TX9 42, w ∈ wsX9_thrown := fun _ h => List.mem_cons_of_mem _ (List.mem_append_right _ h)
set_option maxHeartbeats 4000000 in
set_option maxRecDepth 100000 in
theorem c_X9_thrown (l : Launch) (D : va_G) (y : Nat → ClassId) (b : Nat) (z : Nat → Nat) (G : wG) (I : wI) (J : wJ) (hL : w_full G)   : mI l yX9_thrown wsX9_thrown { frames := 0, cells := 0, slots := 0, locals := 0 } D y b z G I J [.ref (G.1 22)] (fun r u => r = f_X9_thrown I ∧ u = (G, I, J)) 0 0 := by
  refine w_enter (by decide) rfl (Nat.le_of_ble_eq_true rfl) rfl ?_
  intro p e s m below meth c ls X hr hlk hnm hw hst hl
  have hx := X.1.1
  have hb := X.1.2.1
  obtain ⟨po_c_X9_thrown, epo⟩ : ∃ qpo9 : Int32 → wS → Prop, qpo9 = (fun r u => r = f_X9_thrown I ∧ u = (G, I, J)) := ⟨_, rfl⟩
  rw [← epo]
  refine lv_aload_n hx hb dX9_thrown_0 rfl (lv_at hl 0 rfl) ?_
  refine w_get X hw 10 0 (hL 22 (by decide)) rfl (by decide) k_X9 in_X9_thrown_X9 (by decide) (by decide +kernel) rfl (v := .int (I 22 0)) rfl dX9_thrown_1 ?_
  have hp_4 : po_c_X9_thrown (I 22 0) (G, I, J) := by
      rw [epo]
      refine ⟨Eq.symm ?_, rfl⟩
      rfl
  exact w_iret X hr hlk hw hp_4 (Nat.le_of_ble_eq_true rfl) (Nat.le_of_ble_eq_true rfl) dX9_thrown_4
set_option maxHeartbeats 4000000 in
set_option maxRecDepth 100000 in
theorem c_X9_throwsIf0 (l : Launch) (D : va_G) (y : Nat → ClassId) (b : Nat) (z : Nat → Nat) (G : wG) (I : wI) (J : wJ) (hL : w_full G) (k : Int32) : mI l yX9_throwsIf wsX9_throwsIf { frames := 0, cells := 0, slots := 0, locals := 0 } D y b z G I J [.ref (G.1 22), .int 0, .int k] (fun r u => r = 0 ∧ u = (G, I, J)) 0 0 := by
  refine w_enter (by decide) rfl (Nat.le_of_ble_eq_true rfl) rfl ?_
  intro p e s m below meth c ls X hr hlk hnm hw hst hl
  have hx := X.1.1
  have hb := X.1.2.1
  obtain ⟨po_c_X9_throwsIf0, epo⟩ : ∃ qpo9 : Int32 → wS → Prop, qpo9 = (fun r u => r = 0 ∧ u = (G, I, J)) := ⟨_, rfl⟩
  rw [← epo]
  refine lv_iload_n hx hb dX9_throwsIf_0 rfl (lv_at hl 1 rfl) ?_
  refine lv_if_eq (tgt := 9) hx hb dX9_throwsIf_1 (by decide) (fun c_1 => ?_) (fun c_1 => ?_)
  · refine lv_iload_n hx hb dX9_throwsIf_9 rfl (lv_at hl 1 rfl) ?_
    have hp_10 : po_c_X9_throwsIf0 0 (G, I, J) := by rw [epo]; exact ⟨rfl, rfl⟩
    exact w_zret X hr (by decide) hlk hw hp_10 (Nat.le_of_ble_eq_true rfl) (Nat.le_of_ble_eq_true rfl) dX9_throwsIf_10
  · exact absurd (by decide) c_1
set_option maxRecDepth 20000 in
theorem in_X9_throwsIf_X9 : ∀ w ∈ u_ws RX9 TX9 42, w ∈ wsX9_throwsIf := fun _ h => List.mem_cons_of_mem _ (List.mem_append_right _ h)
set_option maxHeartbeats 4000000 in
set_option maxRecDepth 100000 in
theorem c_X9_throwsIf1 (l : Launch) (D : va_G) (y : Nat → ClassId) (b : Nat) (z : Nat → Nat) (G : wG) (I : wI) (J : wJ) (hL : w_full G) (k : Int32) : mI l yX9_throwsIf wsX9_throwsIf { frames := 0, cells := 0, slots := 0, locals := 0 } D y b z G I J [.ref (G.1 22), .int 1, .int k] (fun r u => (r = 1 ∧ u.2.1 = wU I 22 0 k) ∧ u.1 = G ∧ u.2.2 = J) 0 0 := by
  refine w_enter (by decide) rfl (Nat.le_of_ble_eq_true rfl) rfl ?_
  intro p e s m below meth c ls X hr hlk hnm hw hst hl
  have hx := X.1.1
  have hb := X.1.2.1
  obtain ⟨po_c_X9_throwsIf1, epo⟩ : ∃ qpo9 : Int32 → wS → Prop, qpo9 = (fun r u => (r = 1 ∧ u.2.1 = wU I 22 0 k) ∧ u.1 = G ∧ u.2.2 = J) := ⟨_, rfl⟩
  rw [← epo]
  refine lv_iload_n hx hb dX9_throwsIf_0 rfl (lv_at hl 1 rfl) ?_
  refine lv_if_eq (tgt := 9) hx hb dX9_throwsIf_1 (by decide) (fun c_1 => ?_) (fun c_1 => ?_)
  · exact absurd c_1 (by decide)
  · refine lv_aload_n hx hb dX9_throwsIf_4 rfl (lv_at hl 0 rfl) ?_
    refine lv_iload_n hx hb dX9_throwsIf_5 rfl (lv_at hl 2 rfl) ?_
    refine w_put X hw 10 0 (hL 22 (by decide)) rfl (by decide) k_X9 in_X9_throwsIf_X9 (by decide) (by decide +kernel) rfl rfl (t := .int) (by decide +kernel) rfl rfl (fun _ => rfl) (fun _ => Nat.le_of_ble_eq_true rfl) dX9_throwsIf_6 (fun H locs hw => ?_)
    refine lv_iload_n hx hb dX9_throwsIf_9 rfl (lv_at hl 1 rfl) ?_
    have hp_10 : po_c_X9_throwsIf1 1 (G, (wU I 22 0 k), J) := by rw [epo]; exact ⟨⟨rfl, rfl⟩, rfl, rfl⟩
    exact w_zret X hr (by decide) hlk hw hp_10 (Nat.le_of_ble_eq_true rfl) (Nat.le_of_ble_eq_true rfl) dX9_throwsIf_10
def f_X9_in (I : wI) (v : Int32) (lo : Int32) (hi : Int32) : Int32 := (if v < lo then 0 else (if hi < v then 0 else 1))
theorem f_X9_in_01 (I : wI) (v : Int32) (lo : Int32) (hi : Int32) : f_X9_in I v lo hi = 1 ∨ ¬ f_X9_in I v lo hi = 1 ∧ f_X9_in I v lo hi = 0 := by
  unfold f_X9_in
  repeat' split
  all_goals first | exact Or.inl rfl | exact Or.inr ⟨by decide, rfl⟩
set_option maxHeartbeats 4000000 in
set_option maxRecDepth 100000 in
theorem c_X9_in (l : Launch) (D : va_G) (y : Nat → ClassId) (b : Nat) (z : Nat → Nat) (G : wG) (I : wI) (J : wJ) (hL : w_full G) (v : Int32) (lo : Int32) (hi : Int32)  : mI l yX9_in wsX9_in { frames := 0, cells := 0, slots := 0, locals := 0 } D y b z G I J [.int v, .int lo, .int hi] (fun r u => r = f_X9_in I v lo hi ∧ u = (G, I, J)) 0 0 := by
  refine w_enter (by decide) rfl (Nat.le_of_ble_eq_true rfl) rfl ?_
  intro p e s m below meth c ls X hr hlk hnm hw hst hl
  have hx := X.1.1
  have hb := X.1.2.1
  obtain ⟨po_c_X9_in, epo⟩ : ∃ qpo9 : Int32 → wS → Prop, qpo9 = (fun r u => r = f_X9_in I v lo hi ∧ u = (G, I, J)) := ⟨_, rfl⟩
  rw [← epo]
  refine lv_iload_n hx hb dX9_in_0 rfl (lv_at hl 0 rfl) ?_
  refine lv_iload_n hx hb dX9_in_1 rfl (lv_at hl 1 rfl) ?_
  refine lv_icmp_lt (tgt := 14) hx hb dX9_in_2 (by decide) (fun c_2 => ?_) (fun c_2 => ?_)
  · refine lv_iconst (v := 0) hx hb dX9_in_14 (by decide) ?_
    have hp_15 : po_c_X9_in 0 (G, I, J) := by
        rw [epo]
        refine ⟨Eq.symm ?_, rfl⟩
        unfold f_X9_in; rw [if_pos c_2]
    exact w_zret X hr (by decide) hlk hw hp_15 (Nat.le_of_ble_eq_true rfl) (Nat.le_of_ble_eq_true rfl) dX9_in_15
  · refine lv_iload_n hx hb dX9_in_5 rfl (lv_at hl 0 rfl) ?_
    refine lv_iload_n hx hb dX9_in_6 rfl (lv_at hl 2 rfl) ?_
    refine lv_icmp_gt (tgt := 14) hx hb dX9_in_7 (by decide) (fun c_7 => ?_) (fun c_7 => ?_)
    · refine lv_iconst (v := 0) hx hb dX9_in_14 (by decide) ?_
      have hp_15 : po_c_X9_in 0 (G, I, J) := by
          rw [epo]
          refine ⟨Eq.symm ?_, rfl⟩
          unfold f_X9_in; rw [if_neg c_2, if_pos c_7]
      exact w_zret X hr (by decide) hlk hw hp_15 (Nat.le_of_ble_eq_true rfl) (Nat.le_of_ble_eq_true rfl) dX9_in_15
    · refine lv_iconst (v := 1) hx hb dX9_in_10 (by decide) ?_
      refine lv_goto (tgt := 15) hx hb dX9_in_11 (by decide) ?_
      have hp_15 : po_c_X9_in 1 (G, I, J) := by
          rw [epo]
          refine ⟨Eq.symm ?_, rfl⟩
          unfold f_X9_in; rw [if_neg c_2, if_neg c_7]
      exact w_zret X hr (by decide) hlk hw hp_15 (Nat.le_of_ble_eq_true rfl) (Nat.le_of_ble_eq_true rfl) dX9_in_15
def f_X9_noTree (I : wI) (v : Int32) : Int32 := (if f_X9_in I v 0 ((I 22 12) - 1) = 1 then 0 else 1)
theorem f_X9_noTree_01 (I : wI) (v : Int32) : f_X9_noTree I v = 1 ∨ ¬ f_X9_noTree I v = 1 ∧ f_X9_noTree I v = 0 := by
  unfold f_X9_noTree
  repeat' split
  all_goals first | exact Or.inl rfl | exact Or.inr ⟨by decide, rfl⟩
set_option maxRecDepth 20000 in
theorem in_X9_noTree_X9 : ∀ w ∈ u_ws RX9 TX9 42, w ∈ wsX9_noTree := fun _ h => List.mem_cons_of_mem _ (List.mem_append_right _ h)
set_option maxHeartbeats 4000000 in
set_option maxRecDepth 100000 in
theorem c_X9_noTree (l : Launch) (D : va_G) (y : Nat → ClassId) (b : Nat) (z : Nat → Nat) (G : wG) (I : wI) (J : wJ) (hL : w_full G) (v : Int32)  : mI l yX9_noTree wsX9_noTree { frames := 1, cells := 0, slots := 0, locals := 22 } D y b z G I J [.ref (G.1 22), .int v] (fun r u => r = f_X9_noTree I v ∧ u = (G, I, J)) 0 0 := by
  refine w_enter (by decide) rfl (Nat.le_of_ble_eq_true rfl) rfl ?_
  intro p e s m below meth c ls X hr hlk hnm hw hst hl
  have hx := X.1.1
  have hb := X.1.2.1
  obtain ⟨po_c_X9_noTree, epo⟩ : ∃ qpo9 : Int32 → wS → Prop, qpo9 = (fun r u => r = f_X9_noTree I v ∧ u = (G, I, J)) := ⟨_, rfl⟩
  rw [← epo]
  refine lv_iload_n hx hb dX9_noTree_0 rfl (lv_at hl 1 rfl) ?_
  refine lv_iconst (v := 0) hx hb dX9_noTree_1 (by decide) ?_
  refine lv_aload_n hx hb dX9_noTree_2 rfl (lv_at hl 0 rfl) ?_
  refine w_get X hw 10 12 (hL 22 (by decide)) rfl (by decide) k_X9 in_X9_noTree_X9 (by decide) (by decide +kernel) rfl (v := .int (I 22 12)) rfl dX9_noTree_3 ?_
  refine lv_iconst (v := 1) hx hb dX9_noTree_6 (by decide) ?_
  refine lv_isub hx hb dX9_noTree_7 ?_
  refine w_callSi (As := [.int v, .int 0, .int ((I 22 12) - 1)]) (rest := []) X hw hst hl (c_X9_in l D y b z G I J hL v 0 ((I 22 12) - 1)) (va_cwS 3 X.1.2.2.2.2 gX9_noTree_X9_in rfl rfl rfl (by decide +kernel) ⟨Nat.le_of_ble_eq_true rfl, Nat.le_of_ble_eq_true rfl⟩) rfl rfl (Nat.le_of_ble_eq_true rfl) dX9_noTree_8 ⟨Nat.le_of_ble_eq_true rfl, Nat.le_of_ble_eq_true rfl⟩ (fun r_8_1 u H locs hp_8 hw => ?_)
  obtain ⟨hp_8, rfl⟩ := hp_8
  dsimp only at hw
  rcases f_X9_in_01  I v 0 ((I 22 12) - 1) with q_8 | ⟨q_8, q0_8⟩
  · rw [q_8] at hp_8
    subst r_8_1
    refine lv_if_ne (tgt := 18) hx hb dX9_noTree_11 (by decide) (fun c_11 => ?_) (fun c_11 => ?_)
    · refine lv_iconst (v := 0) hx hb dX9_noTree_18 (by decide) ?_
      have hp_19 : po_c_X9_noTree 0 (G, I, J) := by
          rw [epo]
          refine ⟨Eq.symm ?_, rfl⟩
          unfold f_X9_noTree; rw [if_pos q_8]
      exact w_zret X hr (by decide) hlk hw hp_19 (Nat.le_of_ble_eq_true rfl) (Nat.le_of_ble_eq_true rfl) dX9_noTree_19
    · exact absurd c_11 (by decide)
  · rw [q0_8] at hp_8
    subst r_8_1
    refine lv_if_ne (tgt := 18) hx hb dX9_noTree_11 (by decide) (fun c_11 => ?_) (fun c_11 => ?_)
    · exact absurd (by decide) c_11
    · refine lv_iconst (v := 1) hx hb dX9_noTree_14 (by decide) ?_
      refine lv_goto (tgt := 19) hx hb dX9_noTree_15 (by decide) ?_
      have hp_19 : po_c_X9_noTree 1 (G, I, J) := by
          rw [epo]
          refine ⟨Eq.symm ?_, rfl⟩
          unfold f_X9_noTree; rw [if_neg q_8]
      exact w_zret X hr (by decide) hlk hw hp_19 (Nat.le_of_ble_eq_true rfl) (Nat.le_of_ble_eq_true rfl) dX9_noTree_19
def f_X9_noLot (I : wI) (v : Int32) : Int32 := (if f_X9_in I v 0 ((I 22 21) - 1) = 1 then 0 else 1)
theorem f_X9_noLot_01 (I : wI) (v : Int32) : f_X9_noLot I v = 1 ∨ ¬ f_X9_noLot I v = 1 ∧ f_X9_noLot I v = 0 := by
  unfold f_X9_noLot
  repeat' split
  all_goals first | exact Or.inl rfl | exact Or.inr ⟨by decide, rfl⟩
set_option maxRecDepth 20000 in
theorem in_X9_noLot_X9 : ∀ w ∈ u_ws RX9 TX9 42, w ∈ wsX9_noLot := fun _ h => List.mem_cons_of_mem _ (List.mem_append_right _ h)
set_option maxHeartbeats 4000000 in
set_option maxRecDepth 100000 in
theorem c_X9_noLot (l : Launch) (D : va_G) (y : Nat → ClassId) (b : Nat) (z : Nat → Nat) (G : wG) (I : wI) (J : wJ) (hL : w_full G) (v : Int32)  : mI l yX9_noLot wsX9_noLot { frames := 1, cells := 0, slots := 0, locals := 22 } D y b z G I J [.ref (G.1 22), .int v] (fun r u => r = f_X9_noLot I v ∧ u = (G, I, J)) 0 0 := by
  refine w_enter (by decide) rfl (Nat.le_of_ble_eq_true rfl) rfl ?_
  intro p e s m below meth c ls X hr hlk hnm hw hst hl
  have hx := X.1.1
  have hb := X.1.2.1
  obtain ⟨po_c_X9_noLot, epo⟩ : ∃ qpo9 : Int32 → wS → Prop, qpo9 = (fun r u => r = f_X9_noLot I v ∧ u = (G, I, J)) := ⟨_, rfl⟩
  rw [← epo]
  refine lv_iload_n hx hb dX9_noLot_0 rfl (lv_at hl 1 rfl) ?_
  refine lv_iconst (v := 0) hx hb dX9_noLot_1 (by decide) ?_
  refine lv_aload_n hx hb dX9_noLot_2 rfl (lv_at hl 0 rfl) ?_
  refine w_get X hw 10 21 (hL 22 (by decide)) rfl (by decide) k_X9 in_X9_noLot_X9 (by decide) (by decide +kernel) rfl (v := .int (I 22 21)) rfl dX9_noLot_3 ?_
  refine lv_iconst (v := 1) hx hb dX9_noLot_6 (by decide) ?_
  refine lv_isub hx hb dX9_noLot_7 ?_
  refine w_callSi (As := [.int v, .int 0, .int ((I 22 21) - 1)]) (rest := []) X hw hst hl (c_X9_in l D y b z G I J hL v 0 ((I 22 21) - 1)) (va_cwS 3 X.1.2.2.2.2 gX9_noLot_X9_in rfl rfl rfl (by decide +kernel) ⟨Nat.le_of_ble_eq_true rfl, Nat.le_of_ble_eq_true rfl⟩) rfl rfl (Nat.le_of_ble_eq_true rfl) dX9_noLot_8 ⟨Nat.le_of_ble_eq_true rfl, Nat.le_of_ble_eq_true rfl⟩ (fun r_8_1 u H locs hp_8 hw => ?_)
  obtain ⟨hp_8, rfl⟩ := hp_8
  dsimp only at hw
  rcases f_X9_in_01  I v 0 ((I 22 21) - 1) with q_8 | ⟨q_8, q0_8⟩
  · rw [q_8] at hp_8
    subst r_8_1
    refine lv_if_ne (tgt := 18) hx hb dX9_noLot_11 (by decide) (fun c_11 => ?_) (fun c_11 => ?_)
    · refine lv_iconst (v := 0) hx hb dX9_noLot_18 (by decide) ?_
      have hp_19 : po_c_X9_noLot 0 (G, I, J) := by
          rw [epo]
          refine ⟨Eq.symm ?_, rfl⟩
          unfold f_X9_noLot; rw [if_pos q_8]
      exact w_zret X hr (by decide) hlk hw hp_19 (Nat.le_of_ble_eq_true rfl) (Nat.le_of_ble_eq_true rfl) dX9_noLot_19
    · exact absurd c_11 (by decide)
  · rw [q0_8] at hp_8
    subst r_8_1
    refine lv_if_ne (tgt := 18) hx hb dX9_noLot_11 (by decide) (fun c_11 => ?_) (fun c_11 => ?_)
    · exact absurd (by decide) c_11
    · refine lv_iconst (v := 1) hx hb dX9_noLot_14 (by decide) ?_
      refine lv_goto (tgt := 19) hx hb dX9_noLot_15 (by decide) ?_
      have hp_19 : po_c_X9_noLot 1 (G, I, J) := by
          rw [epo]
          refine ⟨Eq.symm ?_, rfl⟩
          unfold f_X9_noLot; rw [if_neg q_8]
      exact w_zret X hr (by decide) hlk hw hp_19 (Nat.le_of_ble_eq_true rfl) (Nat.le_of_ble_eq_true rfl) dX9_noLot_19
def f_X9_noPlank (I : wI) (v : Int32) : Int32 := (if f_X9_in I v 0 ((I 22 16) - 1) = 1 then 0 else 1)
theorem f_X9_noPlank_01 (I : wI) (v : Int32) : f_X9_noPlank I v = 1 ∨ ¬ f_X9_noPlank I v = 1 ∧ f_X9_noPlank I v = 0 := by
  unfold f_X9_noPlank
  repeat' split
  all_goals first | exact Or.inl rfl | exact Or.inr ⟨by decide, rfl⟩
set_option maxRecDepth 20000 in
theorem in_X9_noPlank_X9 : ∀ w ∈ u_ws RX9 TX9 42, w ∈ wsX9_noPlank := fun _ h => List.mem_cons_of_mem _ (List.mem_append_right _ h)
set_option maxHeartbeats 4000000 in
set_option maxRecDepth 100000 in
theorem c_X9_noPlank (l : Launch) (D : va_G) (y : Nat → ClassId) (b : Nat) (z : Nat → Nat) (G : wG) (I : wI) (J : wJ) (hL : w_full G) (v : Int32)  : mI l yX9_noPlank wsX9_noPlank { frames := 1, cells := 0, slots := 0, locals := 22 } D y b z G I J [.ref (G.1 22), .int v] (fun r u => r = f_X9_noPlank I v ∧ u = (G, I, J)) 0 0 := by
  refine w_enter (by decide) rfl (Nat.le_of_ble_eq_true rfl) rfl ?_
  intro p e s m below meth c ls X hr hlk hnm hw hst hl
  have hx := X.1.1
  have hb := X.1.2.1
  obtain ⟨po_c_X9_noPlank, epo⟩ : ∃ qpo9 : Int32 → wS → Prop, qpo9 = (fun r u => r = f_X9_noPlank I v ∧ u = (G, I, J)) := ⟨_, rfl⟩
  rw [← epo]
  refine lv_iload_n hx hb dX9_noPlank_0 rfl (lv_at hl 1 rfl) ?_
  refine lv_iconst (v := 0) hx hb dX9_noPlank_1 (by decide) ?_
  refine lv_aload_n hx hb dX9_noPlank_2 rfl (lv_at hl 0 rfl) ?_
  refine w_get X hw 10 16 (hL 22 (by decide)) rfl (by decide) k_X9 in_X9_noPlank_X9 (by decide) (by decide +kernel) rfl (v := .int (I 22 16)) rfl dX9_noPlank_3 ?_
  refine lv_iconst (v := 1) hx hb dX9_noPlank_6 (by decide) ?_
  refine lv_isub hx hb dX9_noPlank_7 ?_
  refine w_callSi (As := [.int v, .int 0, .int ((I 22 16) - 1)]) (rest := []) X hw hst hl (c_X9_in l D y b z G I J hL v 0 ((I 22 16) - 1)) (va_cwS 3 X.1.2.2.2.2 gX9_noPlank_X9_in rfl rfl rfl (by decide +kernel) ⟨Nat.le_of_ble_eq_true rfl, Nat.le_of_ble_eq_true rfl⟩) rfl rfl (Nat.le_of_ble_eq_true rfl) dX9_noPlank_8 ⟨Nat.le_of_ble_eq_true rfl, Nat.le_of_ble_eq_true rfl⟩ (fun r_8_1 u H locs hp_8 hw => ?_)
  obtain ⟨hp_8, rfl⟩ := hp_8
  dsimp only at hw
  rcases f_X9_in_01  I v 0 ((I 22 16) - 1) with q_8 | ⟨q_8, q0_8⟩
  · rw [q_8] at hp_8
    subst r_8_1
    refine lv_if_ne (tgt := 18) hx hb dX9_noPlank_11 (by decide) (fun c_11 => ?_) (fun c_11 => ?_)
    · refine lv_iconst (v := 0) hx hb dX9_noPlank_18 (by decide) ?_
      have hp_19 : po_c_X9_noPlank 0 (G, I, J) := by
          rw [epo]
          refine ⟨Eq.symm ?_, rfl⟩
          unfold f_X9_noPlank; rw [if_pos q_8]
      exact w_zret X hr (by decide) hlk hw hp_19 (Nat.le_of_ble_eq_true rfl) (Nat.le_of_ble_eq_true rfl) dX9_noPlank_19
    · exact absurd c_11 (by decide)
  · rw [q0_8] at hp_8
    subst r_8_1
    refine lv_if_ne (tgt := 18) hx hb dX9_noPlank_11 (by decide) (fun c_11 => ?_) (fun c_11 => ?_)
    · exact absurd (by decide) c_11
    · refine lv_iconst (v := 1) hx hb dX9_noPlank_14 (by decide) ?_
      refine lv_goto (tgt := 19) hx hb dX9_noPlank_15 (by decide) ?_
      have hp_19 : po_c_X9_noPlank 1 (G, I, J) := by
          rw [epo]
          refine ⟨Eq.symm ?_, rfl⟩
          unfold f_X9_noPlank; rw [if_neg q_8]
      exact w_zret X hr (by decide) hlk hw hp_19 (Nat.le_of_ble_eq_true rfl) (Nat.le_of_ble_eq_true rfl) dX9_noPlank_19
