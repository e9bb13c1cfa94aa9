theorem z_cut (I : wI) (n : Int32) : narrow .boolean (.int (f_X6_cutTo I n).1) = .int (f_X6_cutTo I n).1 := by
  unfold f_X6_cutTo
  repeat' split
  all_goals first | exact z_0 | exact z_1
def f_X8_end (I : wI) (n : Int32) : Int32 × wI := (((f_X6_cutTo I n).1), ((f_X6_cutTo I n).2))
theorem fr_f_X8_end (I : wI) (n : Int32) (q9 : Nat) (h1 : q9 ≠ 1) : (f_X8_end I n).2 q9 = I q9 := by
  unfold f_X8_end
  repeat' split
  all_goals first | with_reducible rfl | (simp only [wU_ne _ _ _ h1, fr_f_X6_cutTo _ _ _ h1])
set_option maxRecDepth 20000 in
theorem in_X8_end_X8 : ∀ w ∈ u_ws RX8 TX8 10, w ∈ wsX8_end := fun _ h => List.mem_cons_of_mem _ (List.mem_append_left _ (List.mem_append_right _ h))
set_option maxHeartbeats 4000000 in
set_option maxRecDepth 100000 in
theorem c_X8_end (l : Launch) (D : va_G) (y : Nat → ClassId) (b : Nat) (z : Nat → Nat) (G : wG) (I : wI) (J : wJ) (hL : w_full G) (n : Int32)  : mI l yX8_end wsX8_end { frames := 1, cells := 0, slots := 0, locals := 21 } D y b z G I J [.ref (G.1 0), .int n] (fun r u => (r = (f_X8_end I n).1 ∧ u.2.1 = (f_X8_end I n).2) ∧ u.1 = G ∧ u.2.2 = J) 0 0 := by
  refine w_enter (by decide) rfl (Nat.le_of_ble_eq_true rfl) rfl ?_
  intro p e s m below meth c ls X hr hlk hnm hw hst hl
  have hx := X.1.1
  have hb := X.1.2.1
  obtain ⟨po_c_X8_end, epo⟩ : ∃ qpo9 : Int32 → wS → Prop, qpo9 = (fun r u => (r = (f_X8_end I n).1 ∧ u.2.1 = (f_X8_end I n).2) ∧ u.1 = G ∧ u.2.2 = J) := ⟨_, rfl⟩
  rw [← epo]
  refine lv_aload_n hx hb dX8_end_0 rfl (lv_at hl 0 rfl) ?_
  refine w_get X hw 9 0 (hL 0 (by decide)) rfl (by decide) k_X8 in_X8_end_X8 (by decide) (by decide +kernel) rfl (v := .ref (G.1 1)) rfl dX8_end_1 ?_
  refine lv_iload_n hx hb dX8_end_4 rfl (lv_at hl 1 rfl) ?_
  refine w_callVi (As := [.int n]) (rest := []) X hw hst hl (c_X6_cutTo l D y b z G I J hL n) (cwV 1 X.1.2.2.2.2 gX8_end_X6_cutTo rfl rfl rfl (by decide +kernel) ⟨Nat.le_of_ble_eq_true rfl, Nat.le_of_ble_eq_true rfl⟩) (w_recv X hw (hL 1 (by decide)) rfl (by decide) k_X6) rfl rfl (Nat.le_of_ble_eq_true rfl) dX8_end_5 ⟨Nat.le_of_ble_eq_true rfl, Nat.le_of_ble_eq_true rfl⟩ (fun r_5_1 u H locs hp_5 hw => ?_)
  obtain ⟨G_5_1, I_5_1, J_5_1⟩ := u
  dsimp only at hw hp_5
  obtain ⟨⟨hp_5, hI_5_1⟩, eG_5, eJ_5⟩ := hp_5
  subst G_5_1 J_5_1
  have hp_8 : po_c_X8_end r_5_1 (G, I_5_1, J) := by
      obtain rfl := hI_5_1.symm
      obtain rfl := hp_5.symm
      rw [epo]
      have ef : f_X8_end I n = (((f_X6_cutTo I n).1), ((f_X6_cutTo I n).2)) := rfl
      exact ⟨⟨by rw [ef], by rw [ef]⟩, rfl, rfl⟩
  exact w_zret X hr (by rw [hp_5]; exact z_cut I n) hlk hw hp_8 (Nat.le_of_ble_eq_true rfl) (Nat.le_of_ble_eq_true rfl) dX8_end_8
def f_X8_fault (I : wI)  : Int32 := (I 0 9)
set_option maxRecDepth 20000 in
theorem in_X8_fault_X8 : ∀ w ∈ u_ws RX8 TX8 10, w ∈ wsX8_fault := fun _ h => List.mem_cons_of_mem _ (List.mem_append_right _ h)
set_option maxHeartbeats 4000000 in
set_option maxRecDepth 100000 in
theorem c_X8_fault (l : Launch) (D : va_G) (y : Nat → ClassId) (b : Nat) (z : Nat → Nat) (G : wG) (I : wI) (J : wJ) (hL : w_full G)   : mI l yX8_fault wsX8_fault { frames := 0, cells := 0, slots := 0, locals := 0 } D y b z G I J [.ref (G.1 0)] (fun r u => r = f_X8_fault I ∧ u = (G, I, J)) 0 0 := by
  refine w_enter (by decide) rfl (Nat.le_of_ble_eq_true rfl) rfl ?_
  intro p e s m below meth c ls X hr hlk hnm hw hst hl
  have hx := X.1.1
  have hb := X.1.2.1
  obtain ⟨po_c_X8_fault, epo⟩ : ∃ qpo9 : Int32 → wS → Prop, qpo9 = (fun r u => r = f_X8_fault I ∧ u = (G, I, J)) := ⟨_, rfl⟩
  rw [← epo]
  refine lv_aload_n hx hb dX8_fault_0 rfl (lv_at hl 0 rfl) ?_
  refine w_get X hw 9 9 (hL 0 (by decide)) rfl (by decide) k_X8 in_X8_fault_X8 (by decide) (by decide +kernel) rfl (v := .int (I 0 9)) rfl dX8_fault_1 ?_
  have hp_4 : po_c_X8_fault (I 0 9) (G, I, J) := by
      rw [epo]
      refine ⟨Eq.symm ?_, rfl⟩
      rfl
  exact w_iret X hr hlk hw hp_4 (Nat.le_of_ble_eq_true rfl) (Nat.le_of_ble_eq_true rfl) dX8_fault_4
def f_X8_unsort (I : wI)  : Int32 × wI := (((f_X0_dropSorts I).1), ((f_X0_dropSorts I).2))
theorem fr_f_X8_unsort (I : wI)  (q9 : Nat) (h10 : q9 ≠ 10) : (f_X8_unsort I).2 q9 = I q9 := by
  unfold f_X8_unsort
  repeat' split
  all_goals first | with_reducible rfl | (simp only [wU_ne _ _ _ h10, fr_f_X0_dropSorts _ _ h10])
set_option maxRecDepth 20000 in
theorem in_X8_unsort_X8 : ∀ w ∈ u_ws RX8 TX8 10, w ∈ wsX8_unsort := fun _ h => List.mem_cons_of_mem _ (List.mem_append_left _ (List.mem_append_right _ h))
set_option maxHeartbeats 4000000 in
set_option maxRecDepth 100000 in
theorem c_X8_unsort (l : Launch) (D : va_G) (y : Nat → ClassId) (b : Nat) (z : Nat → Nat) (G : wG) (I : wI) (J : wJ) (hL : w_full G)   : mI l yX8_unsort wsX8_unsort { frames := 1, cells := 0, slots := 0, locals := 21 } D y b z G I J [.ref (G.1 0)] (fun r u => (r = (f_X8_unsort I).1 ∧ u.2.1 = (f_X8_unsort I).2) ∧ u.1 = G ∧ u.2.2 = J) 0 0 := by
  refine w_enter (by decide) rfl (Nat.le_of_ble_eq_true rfl) rfl ?_
  intro p e s m below meth c ls X hr hlk hnm hw hst hl
  have hx := X.1.1
  have hb := X.1.2.1
  obtain ⟨po_c_X8_unsort, epo⟩ : ∃ qpo9 : Int32 → wS → Prop, qpo9 = (fun r u => (r = (f_X8_unsort I).1 ∧ u.2.1 = (f_X8_unsort I).2) ∧ u.1 = G ∧ u.2.2 = J) := ⟨_, rfl⟩
  rw [← epo]
  refine lv_aload_n hx hb dX8_unsort_0 rfl (lv_at hl 0 rfl) ?_
  refine w_get X hw 9 6 (hL 0 (by decide)) rfl (by decide) k_X8 in_X8_unsort_X8 (by decide) (by decide +kernel) rfl (v := .ref (G.1 10)) rfl dX8_unsort_1 ?_
  refine w_callVi (As := []) (rest := []) X hw hst hl (c_X0_dropSorts l D y b z G I J hL ) (cwV 0 X.1.2.2.2.2 gX8_unsort_X0_dropSorts rfl rfl rfl (by decide +kernel) ⟨Nat.le_of_ble_eq_true rfl, Nat.le_of_ble_eq_true rfl⟩) (w_recv X hw (hL 10 (by decide)) rfl (by decide) k_X0) rfl rfl (Nat.le_of_ble_eq_true rfl) dX8_unsort_4 ⟨Nat.le_of_ble_eq_true rfl, Nat.le_of_ble_eq_true rfl⟩ (fun r_4_1 u H locs hp_4 hw => ?_)
  obtain ⟨G_4_1, I_4_1, J_4_1⟩ := u
  dsimp only at hw hp_4
  obtain ⟨⟨hp_4, hI_4_1⟩, eG_4, eJ_4⟩ := hp_4
  subst G_4_1 J_4_1
  have hp_7 : po_c_X8_unsort r_4_1 (G, I_4_1, J) := by
      obtain rfl := hI_4_1.symm
      obtain rfl := hp_4.symm
      rw [epo]
      have ef : f_X8_unsort I = (((f_X0_dropSorts I).1), ((f_X0_dropSorts I).2)) := rfl
      exact ⟨⟨by rw [ef], by rw [ef]⟩, rfl, rfl⟩
  exact w_iret X hr hlk hw hp_7 (Nat.le_of_ble_eq_true rfl) (Nat.le_of_ble_eq_true rfl) dX8_unsort_7
def f_X8_punch (I : wI) (J : wJ) (mny : Int32) : Int32 × wI := (if mny = 0 then ((f_X0_greatestWorth (f_X0_layStoppers I J)), (f_X0_layStoppers I J)) else ((f_X0_fewestStoppers (f_X0_layStoppers I J)), (f_X0_layStoppers I J)))
theorem fr_f_X8_punch (I : wI) (J : wJ) (mny : Int32) (q9 : Nat) (h14 : q9 ≠ 14) (h15 : q9 ≠ 15) : (f_X8_punch I J mny).2 q9 = I q9 := by
  unfold f_X8_punch
  repeat' split
  all_goals first | with_reducible rfl | (simp only [wU_ne _ _ _ h14, wU_ne _ _ _ h15, fr_f_X0_layStoppers _ _ _ h14 h15])
set_option maxRecDepth 20000 in
theorem in_X8_punch_X8 : ∀ w ∈ u_ws RX8 TX8 10, w ∈ wsX8_punch := fun _ h => List.mem_cons_of_mem _ (List.mem_append_left _ (List.mem_append_right _ h))
set_option maxHeartbeats 4000000 in
set_option maxRecDepth 100000 in
theorem c_X8_punch (l : Launch) (D : va_G) (y : Nat → ClassId) (b : Nat) (z : Nat → Nat) (G : wG) (I : wI) (J : wJ) (hL : w_full G) (mny : Int32) (hZ : ∀ j : Nat, j < 6 → 0 ≤ (I 11 j).toInt ∧ (I 11 j).toInt ≤ 12) (hC : 0 ≤ (I 10 6).toInt ∧ (I 10 6).toInt ≤ 60) : mI l yX8_punch wsX8_punch { frames := 4, cells := 0, slots := 0, locals := 90 } D y b z G I J [.ref (G.1 0), .int mny] (fun r u => (r = (f_X8_punch I J mny).1 ∧ u.2.1 = (f_X8_punch I J mny).2) ∧ u.1 = G ∧ u.2.2 = J) 0 0 := by
  refine w_enter (by decide) rfl (Nat.le_of_ble_eq_true rfl) rfl ?_
  intro p e s m below meth c ls X hr hlk hnm hw hst hl
  have hx := X.1.1
  have hb := X.1.2.1
  obtain ⟨po_c_X8_punch, epo⟩ : ∃ qpo9 : Int32 → wS → Prop, qpo9 = (fun r u => (r = (f_X8_punch I J mny).1 ∧ u.2.1 = (f_X8_punch I J mny).2) ∧ u.1 = G ∧ u.2.2 = J) := ⟨_, rfl⟩
  rw [← epo]
  refine lv_aload_n hx hb dX8_punch_0 rfl (lv_at hl 0 rfl) ?_
  refine w_get X hw 9 6 (hL 0 (by decide)) rfl (by decide) k_X8 in_X8_punch_X8 (by decide) (by decide +kernel) rfl (v := .ref (G.1 10)) rfl dX8_punch_1 ?_
  refine w_callVv (As := []) (rest := []) X hw hst hl (c_X0_layStoppers l D y b z G I J hL hZ) (cwV 0 X.1.2.2.2.2 gX8_punch_X0_layStoppers rfl rfl rfl (by decide +kernel) ⟨Nat.le_of_ble_eq_true rfl, Nat.le_of_ble_eq_true rfl⟩) (w_recv X hw (hL 10 (by decide)) rfl (by decide) k_X0) rfl rfl (Nat.le_of_ble_eq_true rfl) dX8_punch_4 ⟨Nat.le_of_ble_eq_true rfl, Nat.le_of_ble_eq_true rfl⟩ (fun u H locs hp_4 hw => ?_)
  obtain ⟨G_4_1, I_4_1, J_4_1⟩ := u
  dsimp only at hw hp_4
  obtain ⟨hI_4_1, eG_4, eJ_4⟩ := hp_4
  subst G_4_1 J_4_1
  refine lv_iload_n hx hb dX8_punch_7 rfl (lv_at hl 1 rfl) ?_
  refine lv_if_eq (tgt := 21) hx hb dX8_punch_8 (by decide) (fun c_8 => ?_) (fun c_8 => ?_)
  · refine lv_aload_n hx hb dX8_punch_21 rfl (lv_at hl 0 rfl) ?_
    refine w_get X hw 9 6 (hL 0 (by decide)) rfl (by decide) k_X8 in_X8_punch_X8 (by decide) (by decide +kernel) rfl (v := .ref (G.1 10)) rfl dX8_punch_22 ?_
    refine w_callVi (As := []) (rest := []) X hw hst hl (c_X0_greatestWorth l D y b z G I_4_1 J hL (by rw [hI_4_1, fr_f_X0_layStoppers I J 10 (by decide) (by decide)]; exact hC)) (cwV 0 X.1.2.2.2.2 gX8_punch_X0_greatestWorth rfl rfl rfl (by decide +kernel) ⟨Nat.le_of_ble_eq_true rfl, Nat.le_of_ble_eq_true rfl⟩) (w_recv X hw (hL 10 (by decide)) rfl (by decide) k_X0) rfl rfl (Nat.le_of_ble_eq_true rfl) dX8_punch_25 ⟨Nat.le_of_ble_eq_true rfl, Nat.le_of_ble_eq_true rfl⟩ (fun r_25_2 u H locs hp_25 hw => ?_)
    obtain ⟨hp_25, rfl⟩ := hp_25
    dsimp only at hw
    have hp_28 : po_c_X8_punch r_25_2 (G, I_4_1, J) := by
        obtain rfl := hI_4_1.symm
        obtain rfl := hp_25.symm
        rw [epo]
        have ef : f_X8_punch I J mny = ((f_X0_greatestWorth (f_X0_layStoppers I J)), (f_X0_layStoppers I J)) := by unfold f_X8_punch; rw [if_pos c_8]
        exact ⟨⟨by rw [ef], by rw [ef]⟩, rfl, rfl⟩
    exact w_iret X hr hlk hw hp_28 (Nat.le_of_ble_eq_true rfl) (Nat.le_of_ble_eq_true rfl) dX8_punch_28
  · refine lv_aload_n hx hb dX8_punch_11 rfl (lv_at hl 0 rfl) ?_
    refine w_get X hw 9 6 (hL 0 (by decide)) rfl (by decide) k_X8 in_X8_punch_X8 (by decide) (by decide +kernel) rfl (v := .ref (G.1 10)) rfl dX8_punch_12 ?_
    refine w_callVi (As := []) (rest := []) X hw hst hl (c_X0_fewestStoppers l D y b z G I_4_1 J hL (by rw [hI_4_1, fr_f_X0_layStoppers I J 10 (by decide) (by decide)]; exact hC)) (cwV 0 X.1.2.2.2.2 gX8_punch_X0_fewestStoppers rfl rfl rfl (by decide +kernel) ⟨Nat.le_of_ble_eq_true rfl, Nat.le_of_ble_eq_true rfl⟩) (w_recv X hw (hL 10 (by decide)) rfl (by decide) k_X0) rfl rfl (Nat.le_of_ble_eq_true rfl) dX8_punch_15 ⟨Nat.le_of_ble_eq_true rfl, Nat.le_of_ble_eq_true rfl⟩ (fun r_15_3 u H locs hp_15 hw => ?_)
    obtain ⟨hp_15, rfl⟩ := hp_15
    dsimp only at hw
    refine lv_goto (tgt := 28) hx hb dX8_punch_18 (by decide) ?_
    have hp_28 : po_c_X8_punch r_15_3 (G, I_4_1, J) := by
        obtain rfl := hI_4_1.symm
        obtain rfl := hp_15.symm
        rw [epo]
        have ef : f_X8_punch I J mny = ((f_X0_fewestStoppers (f_X0_layStoppers I J)), (f_X0_layStoppers I J)) := by unfold f_X8_punch; rw [if_neg c_8]
        exact ⟨⟨by rw [ef], by rw [ef]⟩, rfl, rfl⟩
    exact w_iret X hr hlk hw hp_28 (Nat.le_of_ble_eq_true rfl) (Nat.le_of_ble_eq_true rfl) dX8_punch_28
def f_X8_even (I : wI)  : Int32 × wI := (((f_X5_leastBurden I).1), ((f_X5_leastBurden I).2))
theorem fr_f_X8_even (I : wI)  (q9 : Nat) (h16 : q9 ≠ 16) (h19 : q9 ≠ 19) (h20 : q9 ≠ 20) (h21 : q9 ≠ 21) : (f_X8_even I).2 q9 = I q9 := by
  unfold f_X8_even
  repeat' split
  all_goals first | with_reducible rfl | (simp only [wU_ne _ _ _ h16, wU_ne _ _ _ h19, wU_ne _ _ _ h20, wU_ne _ _ _ h21, fr_f_X5_leastBurden _ _ h16 h19 h20 h21])
set_option maxRecDepth 20000 in
theorem in_X8_even_X8 : ∀ w ∈ u_ws RX8 TX8 10, w ∈ wsX8_even := fun _ h => List.mem_cons_of_mem _ (List.mem_append_left _ (List.mem_append_right _ h))
set_option maxHeartbeats 4000000 in
set_option maxRecDepth 100000 in
theorem c_X8_even (l : Launch) (D : va_G) (y : Nat → ClassId) (b : Nat) (z : Nat → Nat) (G : wG) (I : wI) (J : wJ) (hL : w_full G)  (hS : 0 ≤ (I 16 5).toInt ∧ (I 16 5).toInt ≤ 6) : mI l yX8_even wsX8_even { frames := 17, cells := 0, slots := 0, locals := 399 } D y b z G I J [.ref (G.1 0)] (fun r u => (r = (f_X8_even I).1 ∧ u.2.1 = (f_X8_even I).2) ∧ u.1 = G ∧ u.2.2 = J) 0 0 := by
  refine w_enter (by decide) rfl (Nat.le_of_ble_eq_true rfl) rfl ?_
  intro p e s m below meth c ls X hr hlk hnm hw hst hl
  have hx := X.1.1
  have hb := X.1.2.1
  obtain ⟨po_c_X8_even, epo⟩ : ∃ qpo9 : Int32 → wS → Prop, qpo9 = (fun r u => (r = (f_X8_even I).1 ∧ u.2.1 = (f_X8_even I).2) ∧ u.1 = G ∧ u.2.2 = J) := ⟨_, rfl⟩
  rw [← epo]
  refine lv_aload_n hx hb dX8_even_0 rfl (lv_at hl 0 rfl) ?_
  refine w_get X hw 9 7 (hL 0 (by decide)) rfl (by decide) k_X8 in_X8_even_X8 (by decide) (by decide +kernel) rfl (v := .ref (G.1 16)) rfl dX8_even_1 ?_
  refine w_callVi (As := []) (rest := []) X hw hst hl (c_X5_leastBurden l D y b z G I J hL  hS) (cwV 0 X.1.2.2.2.2 gX8_even_X5_leastBurden rfl rfl rfl (by decide +kernel) ⟨Nat.le_of_ble_eq_true rfl, Nat.le_of_ble_eq_true rfl⟩) (w_recv X hw (hL 16 (by decide)) rfl (by decide) k_X5) rfl rfl (Nat.le_of_ble_eq_true rfl) dX8_even_4 ⟨Nat.le_of_ble_eq_true rfl, Nat.le_of_ble_eq_true rfl⟩ (fun r_4_1 u H locs hp_4 hw => ?_)
  obtain ⟨G_4_1, I_4_1, J_4_1⟩ := u
  dsimp only at hw hp_4
  obtain ⟨⟨hp_4, hI_4_1⟩, eG_4, eJ_4⟩ := hp_4
  subst G_4_1 J_4_1
  have hp_7 : po_c_X8_even r_4_1 (G, I_4_1, J) := by
      obtain rfl := hI_4_1.symm
      obtain rfl := hp_4.symm
      rw [epo]
      have ef : f_X8_even I = (((f_X5_leastBurden I).1), ((f_X5_leastBurden I).2)) := rfl
      exact ⟨⟨by rw [ef], by rw [ef]⟩, rfl, rfl⟩
  exact w_iret X hr hlk hw hp_7 (Nat.le_of_ble_eq_true rfl) (Nat.le_of_ble_eq_true rfl) dX8_even_7
