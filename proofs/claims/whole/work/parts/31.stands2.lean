theorem fyq_X5_tryYear {g : wI → Int32 → wI} {q : Nat} (h19 : q ≠ 19) (h20 : q ≠ 20) (hgf : ∀ (I : wI) (k : Int32), g I k q = I q) (I : wI) (s2 k bu : Int32) : f_X5_tryYear g I s2 k bu q = I q := by
  unfold f_X5_tryYear
  repeat' split
  all_goals first | rfl | simp only [wU_ne _ _ _ h19, wU_ne _ _ _ h20, hgf]
theorem fr_f_X5_tryFrom : ∀ (d : Nat) (I : wI) (s2 bu : Int32) (q : Nat) (h16 : q ≠ 16) (h19 : q ≠ 19) (h20 : q ≠ 20) (h21 : q ≠ 21), f_X5_tryFrom d I s2 bu q = I q := by
  intro d
  induction d with
  | zero => intros; rfl
  | succ d ih =>
    intro I s2 bu q h16 h19 h20 h21
    rw [f_X5_tryFrom]
    split
    · exact fr_f_X5_keepTried I bu q h16 h21
    · split
      · exact fn_X5_tryFrom (fun I k => fyq_X5_tryYear h19 h20 (fun I gr => ih I _ gr q h16 h19 h20 h21) I _ k _) 10 I 0 s2 bu
      · exact fr_f_X5_keepTried I bu q h16 h21
theorem tf_0 {st : Int32} (hS : 0 ≤ st.toInt ∧ st.toInt ≤ 6) : 0 ≤ (0 : Int32).toInt ∧ (0 : Int32).toInt ≤ st.toInt ∧ st.toInt ≤ 6 ∧ (st.toInt - (0 : Int32).toInt).toNat < 7 := by
  simp only [Int32.reduceToInt]; omega
def f_X5_search (I : wI)  : wI := (if (I 16 7) = 0 then (wU (f_X5_tryFrom 7 (wU I 16 6 2147483647) 0 (f_X5_greatestYield (wU I 16 6 2147483647))) 16 7 1) else I)
theorem fr_f_X5_search (I : wI)  (q9 : Nat) (h16 : q9 ≠ 16) (h19 : q9 ≠ 19) (h20 : q9 ≠ 20) (h21 : q9 ≠ 21) : (f_X5_search I) q9 = I q9 := by
  unfold f_X5_search
  repeat' split
  all_goals first | with_reducible rfl | (simp only [wU_ne _ _ _ h16, wU_ne _ _ _ h19, wU_ne _ _ _ h20, wU_ne _ _ _ h21, fr_f_X5_tryFrom _ _ _ _ _ h16 h19 h20 h21])
set_option maxRecDepth 20000 in
theorem in_X5_search_X5 : ∀ w ∈ u_ws RX5 TX5 8, w ∈ wsX5_search := fun _ h => List.mem_cons_of_mem _ (List.mem_append_right _ h)
set_option maxHeartbeats 4000000 in
set_option maxRecDepth 100000 in
theorem c_X5_search (l : Launch) (D : va_G) (y : Nat → ClassId) (b : Nat) (z : Nat → Nat) (G : wG) (I : wI) (J : wJ) (hL : w_full G)  (hS : 0 ≤ (I 16 5).toInt ∧ (I 16 5).toInt ≤ 6) : mV l yX5_search wsX5_search { frames := 15, cells := 0, slots := 0, locals := 359 } D y b z G I J [.ref (G.1 16)] (fun u => u.2.1 = f_X5_search I ∧ u.1 = G ∧ u.2.2 = J) 0 0 := by
  refine w_enter (by decide) rfl (Nat.le_of_ble_eq_true rfl) rfl ?_
  intro p e s m below meth c ls X hr hlk hnm hw hst hl
  have hx := X.1.1
  have hb := X.1.2.1
  obtain ⟨po_c_X5_search, epo⟩ : ∃ qpo9 : wS → Prop, qpo9 = (fun u => u.2.1 = f_X5_search I ∧ u.1 = G ∧ u.2.2 = J) := ⟨_, rfl⟩
  rw [← epo]
  refine lv_aload_n hx hb dX5_search_0 rfl (lv_at hl 0 rfl) ?_
  refine w_get X hw 6 7 (hL 16 (by decide)) rfl (by decide) k_X5 in_X5_search_X5 (by decide) (by decide +kernel) rfl (v := .int (I 16 7)) rfl dX5_search_1 ?_
  refine lv_if_eq (tgt := 8) hx hb dX5_search_4 (by decide) (fun c_4 => ?_) (fun c_4 => ?_)
  · refine lv_aload_n hx hb dX5_search_8 rfl (lv_at hl 0 rfl) ?_
    refine lv_ldc (v := 2147483647) hx hb X.1.2.2.2.1 (X.1.2.2.2.2 (.constant RX5 43 2147483647) (by decide +kernel)) dX5_search_9 ?_
    refine w_put X hw 6 6 (hL 16 (by decide)) rfl (by decide) k_X5 in_X5_search_X5 (by decide) (by decide +kernel) rfl rfl (t := .int) (by decide +kernel) rfl rfl (fun _ => rfl) (fun _ => Nat.le_of_ble_eq_true rfl) dX5_search_11 (fun H locs hw => ?_)
    refine lv_aload_n hx hb dX5_search_14 rfl (lv_at hl 0 rfl) ?_
    refine lv_iconst (v := 0) hx hb dX5_search_15 (by decide) ?_
    refine lv_aload_n hx hb dX5_search_16 rfl (lv_at hl 0 rfl) ?_
    refine w_callVi (As := []) (rest := [.int 0, .ref (G.1 16)]) X hw hst hl (c_X5_greatestYield l D y b z G (wU I 16 6 2147483647) J hL hS) (cwV 0 X.1.2.2.2.2 gX5_search_X5_greatestYield rfl rfl rfl (by decide +kernel) ⟨Nat.le_of_ble_eq_true rfl, Nat.le_of_ble_eq_true rfl⟩) (w_recv X hw (hL 16 (by decide)) rfl (by decide) k_X5) rfl rfl (Nat.le_of_ble_eq_true rfl) dX5_search_17 ⟨Nat.le_of_ble_eq_true rfl, Nat.le_of_ble_eq_true rfl⟩ (fun r_17_1 u H locs hp_17 hw => ?_)
    obtain ⟨hp_17, rfl⟩ := hp_17
    dsimp only at hw
    refine w_callVv (As := [.int 0, .int r_17_1]) (rest := []) X hw hst hl (c_X5_tryFrom l D y b z G J hL 7 (wU I 16 6 2147483647) 0 r_17_1 (tf_0 hS)) (cwV 2 X.1.2.2.2.2 gX5_search_X5_tryFrom rfl rfl rfl (by decide +kernel) ⟨Nat.le_of_ble_eq_true rfl, Nat.le_of_ble_eq_true rfl⟩) (w_recv X hw (hL 16 (by decide)) rfl (by decide) k_X5) rfl rfl (Nat.le_of_ble_eq_true rfl) dX5_search_20 ⟨Nat.le_of_ble_eq_true rfl, Nat.le_of_ble_eq_true rfl⟩ (fun u H locs hp_20 hw => ?_)
    obtain ⟨G_20_2, I_20_2, J_20_2⟩ := u
    dsimp only at hw hp_20
    obtain ⟨hI_20_2, eG_20, eJ_20⟩ := hp_20
    subst G_20_2 J_20_2
    refine lv_aload_n hx hb dX5_search_23 rfl (lv_at hl 0 rfl) ?_
    refine lv_iconst (v := 1) hx hb dX5_search_24 (by decide) ?_
    refine w_put X hw 6 7 (hL 16 (by decide)) rfl (by decide) k_X5 in_X5_search_X5 (by decide) (by decide +kernel) rfl rfl (t := .boolean) (by decide +kernel) (by decide) (by decide) (fun _ => rfl) (fun _ => Nat.le_of_ble_eq_true rfl) dX5_search_25 (fun H locs hw => ?_)
    have hp_28 : po_c_X5_search (G, (wU I_20_2 16 7 1), J) := by
        obtain rfl := hp_17.symm
        obtain rfl := hI_20_2.symm
        rw [epo]
        refine ⟨Eq.symm ?_, rfl, rfl⟩
        unfold f_X5_search; rw [if_pos c_4]
    exact w_vret X hr hlk hw hp_28 (Nat.le_of_ble_eq_true rfl) (Nat.le_of_ble_eq_true rfl) dX5_search_28
  · have hp_7 : po_c_X5_search (G, I, J) := by
        rw [epo]
        refine ⟨Eq.symm ?_, rfl, rfl⟩
        unfold f_X5_search; rw [if_neg c_4]
    exact w_vret X hr hlk hw hp_7 (Nat.le_of_ble_eq_true rfl) (Nat.le_of_ble_eq_true rfl) dX5_search_7
def f_X5_leastBurden (I : wI)  : Int32 × wI := ((f_X5_search I) 16 6, (f_X5_search I))
theorem fr_f_X5_leastBurden (I : wI)  (q9 : Nat) (h16 : q9 ≠ 16) (h19 : q9 ≠ 19) (h20 : q9 ≠ 20) (h21 : q9 ≠ 21) : (f_X5_leastBurden I).2 q9 = I q9 := by
  unfold f_X5_leastBurden
  repeat' split
  all_goals first | with_reducible rfl | (simp only [wU_ne _ _ _ h16, wU_ne _ _ _ h19, wU_ne _ _ _ h20, wU_ne _ _ _ h21, fr_f_X5_search _ _ h16 h19 h20 h21])
set_option maxRecDepth 20000 in
theorem in_X5_leastBurden_X5 : ∀ w ∈ u_ws RX5 TX5 8, w ∈ wsX5_leastBurden := fun _ h => List.mem_cons_of_mem _ (List.mem_append_right _ h)
set_option maxHeartbeats 4000000 in
set_option maxRecDepth 100000 in
theorem c_X5_leastBurden (l : Launch) (D : va_G) (y : Nat → ClassId) (b : Nat) (z : Nat → Nat) (G : wG) (I : wI) (J : wJ) (hL : w_full G)  (hS : 0 ≤ (I 16 5).toInt ∧ (I 16 5).toInt ≤ 6) : mI l yX5_leastBurden wsX5_leastBurden { frames := 16, cells := 0, slots := 0, locals := 379 } D y b z G I J [.ref (G.1 16)] (fun r u => (r = (f_X5_leastBurden I).1 ∧ u.2.1 = (f_X5_leastBurden I).2) ∧ u.1 = G ∧ u.2.2 = J) 0 0 := by
  refine w_enter (by decide) rfl (Nat.le_of_ble_eq_true rfl) rfl ?_
  intro p e s m below meth c ls X hr hlk hnm hw hst hl
  have hx := X.1.1
  have hb := X.1.2.1
  obtain ⟨po_c_X5_leastBurden, epo⟩ : ∃ qpo9 : Int32 → wS → Prop, qpo9 = (fun r u => (r = (f_X5_leastBurden I).1 ∧ u.2.1 = (f_X5_leastBurden I).2) ∧ u.1 = G ∧ u.2.2 = J) := ⟨_, rfl⟩
  rw [← epo]
  refine lv_aload_n hx hb dX5_leastBurden_0 rfl (lv_at hl 0 rfl) ?_
  refine w_callVv (As := []) (rest := []) X hw hst hl (c_X5_search l D y b z G I J hL  hS) (cwV 0 X.1.2.2.2.2 gX5_leastBurden_X5_search rfl rfl rfl (by decide +kernel) ⟨Nat.le_of_ble_eq_true rfl, Nat.le_of_ble_eq_true rfl⟩) (w_recv X hw (hL 16 (by decide)) rfl (by decide) k_X5) rfl rfl (Nat.le_of_ble_eq_true rfl) dX5_leastBurden_1 ⟨Nat.le_of_ble_eq_true rfl, Nat.le_of_ble_eq_true rfl⟩ (fun u H locs hp_1 hw => ?_)
  obtain ⟨G_1_1, I_1_1, J_1_1⟩ := u
  dsimp only at hw hp_1
  obtain ⟨hI_1_1, eG_1, eJ_1⟩ := hp_1
  subst G_1_1 J_1_1
  refine lv_aload_n hx hb dX5_leastBurden_4 rfl (lv_at hl 0 rfl) ?_
  refine w_get X hw 6 6 (hL 16 (by decide)) rfl (by decide) k_X5 in_X5_leastBurden_X5 (by decide) (by decide +kernel) rfl (v := .int (I_1_1 16 6)) rfl dX5_leastBurden_5 ?_
  have hp_8 : po_c_X5_leastBurden (I_1_1 16 6) (G, I_1_1, J) := by
      obtain rfl := hI_1_1.symm
      rw [epo]
      have ef : f_X5_leastBurden I = ((f_X5_search I) 16 6, (f_X5_search I)) := rfl
      exact ⟨⟨by rw [ef], by rw [ef]⟩, rfl, rfl⟩
  exact w_iret X hr hlk hw hp_8 (Nat.le_of_ble_eq_true rfl) (Nat.le_of_ble_eq_true rfl) dX5_leastBurden_8
def f_X5_yearOf (I : wI) (k : Int32) : Int32 × wI := (if k < 0 then ((-1), (f_X5_search I)) else (if 6 ≤ k then ((-1), (f_X5_search I)) else ((f_X5_search I) 21 k.toNatClampNeg, (f_X5_search I))))
theorem fr_f_X5_yearOf (I : wI) (k : Int32) (q9 : Nat) (h16 : q9 ≠ 16) (h19 : q9 ≠ 19) (h20 : q9 ≠ 20) (h21 : q9 ≠ 21) : (f_X5_yearOf I k).2 q9 = I q9 := by
  unfold f_X5_yearOf
  repeat' split
  all_goals first | with_reducible rfl | (simp only [wU_ne _ _ _ h16, wU_ne _ _ _ h19, wU_ne _ _ _ h20, wU_ne _ _ _ h21, fr_f_X5_search _ _ h16 h19 h20 h21])
set_option maxRecDepth 20000 in
theorem in_X5_yearOf_X5 : ∀ w ∈ u_ws RX5 TX5 8, w ∈ wsX5_yearOf := fun _ h => List.mem_cons_of_mem _ (List.mem_append_right _ h)
set_option maxHeartbeats 4000000 in
set_option maxRecDepth 100000 in
theorem c_X5_yearOf (l : Launch) (D : va_G) (y : Nat → ClassId) (b : Nat) (z : Nat → Nat) (G : wG) (I : wI) (J : wJ) (hL : w_full G) (k : Int32) (hS : 0 ≤ (I 16 5).toInt ∧ (I 16 5).toInt ≤ 6) : mI l yX5_yearOf wsX5_yearOf { frames := 16, cells := 0, slots := 0, locals := 379 } D y b z G I J [.ref (G.1 16), .int k] (fun r u => (r = (f_X5_yearOf I k).1 ∧ u.2.1 = (f_X5_yearOf I k).2) ∧ u.1 = G ∧ u.2.2 = J) 0 0 := by
  refine w_enter (by decide) rfl (Nat.le_of_ble_eq_true rfl) rfl ?_
  intro p e s m below meth c ls X hr hlk hnm hw hst hl
  have hx := X.1.1
  have hb := X.1.2.1
  obtain ⟨po_c_X5_yearOf, epo⟩ : ∃ qpo9 : Int32 → wS → Prop, qpo9 = (fun r u => (r = (f_X5_yearOf I k).1 ∧ u.2.1 = (f_X5_yearOf I k).2) ∧ u.1 = G ∧ u.2.2 = J) := ⟨_, rfl⟩
  rw [← epo]
  refine lv_aload_n hx hb dX5_yearOf_0 rfl (lv_at hl 0 rfl) ?_
  refine w_callVv (As := []) (rest := []) X hw hst hl (c_X5_search l D y b z G I J hL  hS) (cwV 0 X.1.2.2.2.2 gX5_yearOf_X5_search rfl rfl rfl (by decide +kernel) ⟨Nat.le_of_ble_eq_true rfl, Nat.le_of_ble_eq_true rfl⟩) (w_recv X hw (hL 16 (by decide)) rfl (by decide) k_X5) rfl rfl (Nat.le_of_ble_eq_true rfl) dX5_yearOf_1 ⟨Nat.le_of_ble_eq_true rfl, Nat.le_of_ble_eq_true rfl⟩ (fun u H locs hp_1 hw => ?_)
  obtain ⟨G_1_1, I_1_1, J_1_1⟩ := u
  dsimp only at hw hp_1
  obtain ⟨hI_1_1, eG_1, eJ_1⟩ := hp_1
  subst G_1_1 J_1_1
  refine lv_iload_n hx hb dX5_yearOf_4 rfl (lv_at hl 1 rfl) ?_
  refine lv_if_lt (tgt := 26) hx hb dX5_yearOf_5 (by decide) (fun c_5 => ?_) (fun c_5 => ?_)
  · refine lv_iconst (v := -1) hx hb dX5_yearOf_26 (by decide) ?_
    have hp_27 : po_c_X5_yearOf (-1) (G, I_1_1, J) := by
        obtain rfl := hI_1_1.symm
        rw [epo]
        have ef : f_X5_yearOf I k = ((-1), (f_X5_search I)) := by unfold f_X5_yearOf; rw [if_pos c_5]
        exact ⟨⟨by rw [ef], by rw [ef]⟩, rfl, rfl⟩
    exact w_iret X hr hlk hw hp_27 (Nat.le_of_ble_eq_true rfl) (Nat.le_of_ble_eq_true rfl) dX5_yearOf_27
  · refine lv_iload_n hx hb dX5_yearOf_8 rfl (lv_at hl 1 rfl) ?_
    refine lv_aload_n hx hb dX5_yearOf_9 rfl (lv_at hl 0 rfl) ?_
    refine w_get X hw 6 4 (hL 16 (by decide)) rfl (by decide) k_X5 in_X5_yearOf_X5 (by decide) (by decide +kernel) rfl (v := .ref (G.1 21)) rfl dX5_yearOf_10 ?_
    refine w_len X hw (hL 21 (by decide)) rfl (by decide) dX5_yearOf_13 ?_
    refine lv_topi (fun n_13 en_13 => ?_)
    have en_13 : n_13 = 6 := by rw [en_13]; rfl
    subst en_13
    refine lv_icmp_ge (tgt := 26) hx hb dX5_yearOf_14 (by decide) (fun c_14 => ?_) (fun c_14 => ?_)
    · refine lv_iconst (v := -1) hx hb dX5_yearOf_26 (by decide) ?_
      have hp_27 : po_c_X5_yearOf (-1) (G, I_1_1, J) := by
          obtain rfl := hI_1_1.symm
          rw [epo]
          have ef : f_X5_yearOf I k = ((-1), (f_X5_search I)) := by unfold f_X5_yearOf; rw [if_neg c_5, if_pos c_14]
          exact ⟨⟨by rw [ef], by rw [ef]⟩, rfl, rfl⟩
      exact w_iret X hr hlk hw hp_27 (Nat.le_of_ble_eq_true rfl) (Nat.le_of_ble_eq_true rfl) dX5_yearOf_27
    · refine lv_aload_n hx hb dX5_yearOf_17 rfl (lv_at hl 0 rfl) ?_
      refine w_get X hw 6 4 (hL 16 (by decide)) rfl (by decide) k_X5 in_X5_yearOf_X5 (by decide) (by decide +kernel) rfl (v := .ref (G.1 21)) rfl dX5_yearOf_18 ?_
      refine lv_iload_n hx hb dX5_yearOf_21 rfl (lv_at hl 1 rfl) ?_
      have h_22 : vp_in k 6 := ix_k6 c_5 c_14
      refine w_ild X hw (hL 21 (by decide)) rfl h_22 dX5_yearOf_22 ?_
      refine lv_goto (tgt := 27) hx hb dX5_yearOf_23 (by decide) ?_
      have hp_27 : po_c_X5_yearOf (I_1_1 21 k.toNatClampNeg) (G, I_1_1, J) := by
          obtain rfl := hI_1_1.symm
          rw [epo]
          have ef : f_X5_yearOf I k = ((f_X5_search I) 21 k.toNatClampNeg, (f_X5_search I)) := by unfold f_X5_yearOf; rw [if_neg c_5, if_neg c_14]
          exact ⟨⟨by rw [ef], by rw [ef]⟩, rfl, rfl⟩
      exact w_iret X hr hlk hw hp_27 (Nat.le_of_ble_eq_true rfl) (Nat.le_of_ble_eq_true rfl) dX5_yearOf_27
