def f_X7_wasStripped (I : wI) (n : Nat) : Int32 := (if (I n 2) = (-1) then 0 else 1)
theorem f_X7_wasStripped_01 (I : wI) (n : Nat) : f_X7_wasStripped I n = 1 ∨ ¬ f_X7_wasStripped I n = 1 ∧ f_X7_wasStripped I n = 0 := by
  unfold f_X7_wasStripped
  repeat' split
  all_goals first | exact Or.inl rfl | exact Or.inr ⟨by decide, rfl⟩
set_option maxRecDepth 20000 in
theorem in_X7_wasStripped_X7 : ∀ w ∈ u_ws RX7 TX7 10, w ∈ wsX7_wasStripped := fun _ h => List.mem_cons_of_mem _ (List.mem_append_right _ h)
set_option maxHeartbeats 4000000 in
set_option maxRecDepth 100000 in
theorem c_X7_wasStripped (l : Launch) (D : va_G) (y : Nat → ClassId) (b : Nat) (z : Nat → Nat) (G : wG) (I : wI) (J : wJ) (hL : w_full G) (n : Nat) (hn : n ∈ G.2.1) (hk : w_kd n = 8) : mI l yX7_wasStripped wsX7_wasStripped { frames := 0, cells := 0, slots := 0, locals := 0 } D y b z G I J [.ref (G.1 n)] (fun r u => r = f_X7_wasStripped I n ∧ u = (G, I, J)) 0 0 := by
  refine w_enter (by decide) rfl (Nat.le_of_ble_eq_true rfl) rfl ?_
  intro p e s m below meth c ls X hr hlk hnm hw hst hl
  have hx := X.1.1
  have hb := X.1.2.1
  obtain ⟨po_c_X7_wasStripped, epo⟩ : ∃ qpo9 : Int32 → wS → Prop, qpo9 = (fun r u => r = f_X7_wasStripped I n ∧ u = (G, I, J)) := ⟨_, rfl⟩
  rw [← epo]
  refine lv_aload_n hx hb dX7_wasStripped_0 rfl (lv_at hl 0 rfl) ?_
  refine w_get X hw 8 2 hn hk (by decide) k_X7 in_X7_wasStripped_X7 (by decide) (by decide +kernel) rfl (v := .int (I n 2)) rfl dX7_wasStripped_1 ?_
  refine lv_iconst (v := -1) hx hb dX7_wasStripped_4 (by decide) ?_
  refine lv_icmp_eq (tgt := 12) hx hb dX7_wasStripped_5 (by decide) (fun c_5 => ?_) (fun c_5 => ?_)
  · refine lv_iconst (v := 0) hx hb dX7_wasStripped_12 (by decide) ?_
    have hp_13 : po_c_X7_wasStripped 0 (G, I, J) := by
        rw [epo]
        refine ⟨Eq.symm ?_, rfl⟩
        unfold f_X7_wasStripped; rw [if_pos c_5]
    exact w_zret X hr (by decide) hlk hw hp_13 (Nat.le_of_ble_eq_true rfl) (Nat.le_of_ble_eq_true rfl) dX7_wasStripped_13
  · refine lv_iconst (v := 1) hx hb dX7_wasStripped_8 (by decide) ?_
    refine lv_goto (tgt := 13) hx hb dX7_wasStripped_9 (by decide) ?_
    have hp_13 : po_c_X7_wasStripped 1 (G, I, J) := by
        rw [epo]
        refine ⟨Eq.symm ?_, rfl⟩
        unfold f_X7_wasStripped; rw [if_neg c_5]
    exact w_zret X hr (by decide) hlk hw hp_13 (Nat.le_of_ble_eq_true rfl) (Nat.le_of_ble_eq_true rfl) dX7_wasStripped_13
def f_X7_bare (I : wI) (n : Nat) (year : Int32) (h : Int32) : wI := (wU (wU (wU (wU I n 1 0) n 2 year) n 3 h) n 5 0)
set_option maxRecDepth 20000 in
theorem in_X7_bare_X7 : ∀ w ∈ u_ws RX7 TX7 10, w ∈ wsX7_bare := fun _ h => List.mem_cons_of_mem _ (List.mem_append_right _ h)
set_option maxHeartbeats 4000000 in
set_option maxRecDepth 100000 in
theorem c_X7_bare (l : Launch) (D : va_G) (y : Nat → ClassId) (b : Nat) (z : Nat → Nat) (G : wG) (I : wI) (J : wJ) (hL : w_full G) (n : Nat) (year : Int32) (h : Int32) (hn : n ∈ G.2.1) (hk : w_kd n = 8) : mV l yX7_bare wsX7_bare { frames := 0, cells := 0, slots := 0, locals := 0 } D y b z G I J [.ref (G.1 n), .int year, .int h] (fun u => u.2.1 = f_X7_bare I n year h ∧ u.1 = G ∧ u.2.2 = J) 0 0 := by
  refine w_enter (by decide) rfl (Nat.le_of_ble_eq_true rfl) rfl ?_
  intro p e s m below meth c ls X hr hlk hnm hw hst hl
  have hx := X.1.1
  have hb := X.1.2.1
  obtain ⟨po_c_X7_bare, epo⟩ : ∃ qpo9 : wS → Prop, qpo9 = (fun u => u.2.1 = f_X7_bare I n year h ∧ u.1 = G ∧ u.2.2 = J) := ⟨_, rfl⟩
  rw [← epo]
  refine lv_aload_n hx hb dX7_bare_0 rfl (lv_at hl 0 rfl) ?_
  refine lv_iconst (v := 0) hx hb dX7_bare_1 (by decide) ?_
  refine w_put X hw 8 1 hn hk (by decide) k_X7 in_X7_bare_X7 (by decide) (by decide +kernel) rfl rfl (t := .int) (by decide +kernel) rfl rfl (fun _ => rfl) (fun _ => Nat.le_of_ble_eq_true rfl) dX7_bare_2 (fun H locs hw => ?_)
  refine lv_aload_n hx hb dX7_bare_5 rfl (lv_at hl 0 rfl) ?_
  refine lv_iload_n hx hb dX7_bare_6 rfl (lv_at hl 1 rfl) ?_
  refine w_put X hw 8 2 hn hk (by decide) k_X7 in_X7_bare_X7 (by decide) (by decide +kernel) rfl rfl (t := .int) (by decide +kernel) rfl rfl (fun _ => rfl) (fun _ => Nat.le_of_ble_eq_true rfl) dX7_bare_7 (fun H locs hw => ?_)
  refine lv_aload_n hx hb dX7_bare_10 rfl (lv_at hl 0 rfl) ?_
  refine lv_iload_n hx hb dX7_bare_11 rfl (lv_at hl 2 rfl) ?_
  refine w_put X hw 8 3 hn hk (by decide) k_X7 in_X7_bare_X7 (by decide) (by decide +kernel) rfl rfl (t := .int) (by decide +kernel) rfl rfl (fun _ => rfl) (fun _ => Nat.le_of_ble_eq_true rfl) dX7_bare_12 (fun H locs hw => ?_)
  refine lv_aload_n hx hb dX7_bare_15 rfl (lv_at hl 0 rfl) ?_
  refine lv_iconst (v := 0) hx hb dX7_bare_16 (by decide) ?_
  refine w_put X hw 8 5 hn hk (by decide) k_X7 in_X7_bare_X7 (by decide) (by decide +kernel) rfl rfl (t := .boolean) (by decide +kernel) (by decide) (by decide) (fun _ => rfl) (fun _ => Nat.le_of_ble_eq_true rfl) dX7_bare_17 (fun H locs hw => ?_)
  have hp_20 : po_c_X7_bare (G, (wU (wU (wU (wU I n 1 0) n 2 year) n 3 h) n 5 0), J) := by
      rw [epo]
      refine ⟨Eq.symm ?_, rfl, rfl⟩
      rfl
  exact w_vret X hr hlk hw hp_20 (Nat.le_of_ble_eq_true rfl) (Nat.le_of_ble_eq_true rfl) dX7_bare_20
def f_X7_loseBarkToPlank (I : wI) (n : Nat) (year : Int32) (h : Int32) : wI := (f_X7_bare (wU I n 7 ((I n 7) + (I n 1))) n year h)
set_option maxRecDepth 20000 in
theorem in_X7_loseBarkToPlank_X7 : ∀ w ∈ u_ws RX7 TX7 10, w ∈ wsX7_loseBarkToPlank := fun _ h => List.mem_cons_of_mem _ (List.mem_append_right _ h)
set_option maxHeartbeats 4000000 in
set_option maxRecDepth 100000 in
theorem c_X7_loseBarkToPlank (l : Launch) (D : va_G) (y : Nat → ClassId) (b : Nat) (z : Nat → Nat) (G : wG) (I : wI) (J : wJ) (hL : w_full G) (n : Nat) (year : Int32) (h : Int32) (hn : n ∈ G.2.1) (hk : w_kd n = 8) : mV l yX7_loseBarkToPlank wsX7_loseBarkToPlank { frames := 1, cells := 0, slots := 0, locals := 22 } D y b z G I J [.ref (G.1 n), .int year, .int h] (fun u => u.2.1 = f_X7_loseBarkToPlank I n year h ∧ u.1 = G ∧ u.2.2 = J) 0 0 := by
  refine w_enter (by decide) rfl (Nat.le_of_ble_eq_true rfl) rfl ?_
  intro p e s m below meth c ls X hr hlk hnm hw hst hl
  have hx := X.1.1
  have hb := X.1.2.1
  obtain ⟨po_c_X7_loseBarkToPlank, epo⟩ : ∃ qpo9 : wS → Prop, qpo9 = (fun u => u.2.1 = f_X7_loseBarkToPlank I n year h ∧ u.1 = G ∧ u.2.2 = J) := ⟨_, rfl⟩
  rw [← epo]
  refine lv_aload_n hx hb dX7_loseBarkToPlank_0 rfl (lv_at hl 0 rfl) ?_
  refine lv_dup hx hb dX7_loseBarkToPlank_1 rfl ?_
  refine w_get X hw 8 7 hn hk (by decide) k_X7 in_X7_loseBarkToPlank_X7 (by decide) (by decide +kernel) rfl (v := .int (I n 7)) rfl dX7_loseBarkToPlank_2 ?_
  refine lv_aload_n hx hb dX7_loseBarkToPlank_5 rfl (lv_at hl 0 rfl) ?_
  refine w_get X hw 8 1 hn hk (by decide) k_X7 in_X7_loseBarkToPlank_X7 (by decide) (by decide +kernel) rfl (v := .int (I n 1)) rfl dX7_loseBarkToPlank_6 ?_
  refine lv_iadd hx hb dX7_loseBarkToPlank_9 ?_
  refine lv_topi (fun x_1 ex_1 => ?_)
  refine w_put X hw 8 7 hn hk (by decide) k_X7 in_X7_loseBarkToPlank_X7 (by decide) (by decide +kernel) rfl rfl (t := .int) (by decide +kernel) rfl rfl (fun _ => rfl) (fun _ => Nat.le_of_ble_eq_true rfl) dX7_loseBarkToPlank_10 (fun H locs hw => ?_)
  refine lv_aload_n hx hb dX7_loseBarkToPlank_13 rfl (lv_at hl 0 rfl) ?_
  refine lv_iload_n hx hb dX7_loseBarkToPlank_14 rfl (lv_at hl 1 rfl) ?_
  refine lv_iload_n hx hb dX7_loseBarkToPlank_15 rfl (lv_at hl 2 rfl) ?_
  refine w_callVv (As := [.int year, .int h]) (rest := []) X hw hst hl (c_X7_bare l D y b z G (wU I n 7 x_1) J hL n year h hn hk) (cwV 2 X.1.2.2.2.2 gX7_loseBarkToPlank_X7_bare rfl rfl rfl (by decide +kernel) ⟨Nat.le_of_ble_eq_true rfl, Nat.le_of_ble_eq_true rfl⟩) (w_recv X hw hn hk (by decide) k_X7) rfl rfl (Nat.le_of_ble_eq_true rfl) dX7_loseBarkToPlank_16 ⟨Nat.le_of_ble_eq_true rfl, Nat.le_of_ble_eq_true rfl⟩ (fun u H locs hp_16 hw => ?_)
  obtain ⟨G_16_2, I_16_2, J_16_2⟩ := u
  dsimp only at hw hp_16
  obtain ⟨hI_16_2, eG_16, eJ_16⟩ := hp_16
  subst G_16_2 J_16_2
  have hp_19 : po_c_X7_loseBarkToPlank (G, I_16_2, J) := by
      obtain rfl := ex_1.symm
      obtain rfl := hI_16_2.symm
      rw [epo]
      refine ⟨Eq.symm ?_, rfl, rfl⟩
      rfl
  exact w_vret X hr hlk hw hp_19 (Nat.le_of_ble_eq_true rfl) (Nat.le_of_ble_eq_true rfl) dX7_loseBarkToPlank_19
def f_X7_loseBarkToFire (I : wI) (n : Nat) (year : Int32) : Int32 × wI := ((I n 1), (f_X7_bare (wU I n 8 ((I n 8) + (I n 1))) n year 0))
set_option maxRecDepth 20000 in
theorem in_X7_loseBarkToFire_X7 : ∀ w ∈ u_ws RX7 TX7 10, w ∈ wsX7_loseBarkToFire := fun _ h => List.mem_cons_of_mem _ (List.mem_append_right _ h)
set_option maxHeartbeats 4000000 in
set_option maxRecDepth 100000 in
theorem c_X7_loseBarkToFire (l : Launch) (D : va_G) (y : Nat → ClassId) (b : Nat) (z : Nat → Nat) (G : wG) (I : wI) (J : wJ) (hL : w_full G) (n : Nat) (year : Int32) (hn : n ∈ G.2.1) (hk : w_kd n = 8) : mI l yX7_loseBarkToFire wsX7_loseBarkToFire { frames := 1, cells := 0, slots := 0, locals := 22 } D y b z G I J [.ref (G.1 n), .int year] (fun r u => (r = (f_X7_loseBarkToFire I n year).1 ∧ u.2.1 = (f_X7_loseBarkToFire I n year).2) ∧ u.1 = G ∧ u.2.2 = J) 0 0 := by
  refine w_enter (by decide) rfl (Nat.le_of_ble_eq_true rfl) rfl ?_
  intro p e s m below meth c ls X hr hlk hnm hw hst hl
  have hx := X.1.1
  have hb := X.1.2.1
  obtain ⟨po_c_X7_loseBarkToFire, epo⟩ : ∃ qpo9 : Int32 → wS → Prop, qpo9 = (fun r u => (r = (f_X7_loseBarkToFire I n year).1 ∧ u.2.1 = (f_X7_loseBarkToFire I n year).2) ∧ u.1 = G ∧ u.2.2 = J) := ⟨_, rfl⟩
  rw [← epo]
  refine lv_aload_n hx hb dX7_loseBarkToFire_0 rfl (lv_at hl 0 rfl) ?_
  refine w_get X hw 8 1 hn hk (by decide) k_X7 in_X7_loseBarkToFire_X7 (by decide) (by decide +kernel) rfl (v := .int (I n 1)) rfl dX7_loseBarkToFire_1 ?_
  refine lv_topi (fun x_1 ex_1 => ?_)
  refine lv_istore_n (lv' := [(2, .int x_1), (0, .ref (G.1 n)), (1, .int year)]) hx hb dX7_loseBarkToFire_4 rfl hl (by decide) rfl (fun ls hl => ?_)
  refine lv_aload_n hx hb dX7_loseBarkToFire_5 rfl (lv_at hl 1 rfl) ?_
  refine lv_dup hx hb dX7_loseBarkToFire_6 rfl ?_
  refine w_get X hw 8 8 hn hk (by decide) k_X7 in_X7_loseBarkToFire_X7 (by decide) (by decide +kernel) rfl (v := .int (I n 8)) rfl dX7_loseBarkToFire_7 ?_
  refine lv_iload_n hx hb dX7_loseBarkToFire_10 rfl (lv_at hl 0 rfl) ?_
  refine lv_iadd hx hb dX7_loseBarkToFire_11 ?_
  refine lv_topi (fun x_2 ex_2 => ?_)
  refine w_put X hw 8 8 hn hk (by decide) k_X7 in_X7_loseBarkToFire_X7 (by decide) (by decide +kernel) rfl rfl (t := .int) (by decide +kernel) rfl rfl (fun _ => rfl) (fun _ => Nat.le_of_ble_eq_true rfl) dX7_loseBarkToFire_12 (fun H locs hw => ?_)
  refine lv_aload_n hx hb dX7_loseBarkToFire_15 rfl (lv_at hl 1 rfl) ?_
  refine lv_iload_n hx hb dX7_loseBarkToFire_16 rfl (lv_at hl 2 rfl) ?_
  refine lv_iconst (v := 0) hx hb dX7_loseBarkToFire_17 (by decide) ?_
  refine w_callVv (As := [.int year, .int 0]) (rest := []) X hw hst hl (c_X7_bare l D y b z G (wU I n 8 x_2) J hL n year 0 hn hk) (cwV 2 X.1.2.2.2.2 gX7_loseBarkToFire_X7_bare rfl rfl rfl (by decide +kernel) ⟨Nat.le_of_ble_eq_true rfl, Nat.le_of_ble_eq_true rfl⟩) (w_recv X hw hn hk (by decide) k_X7) rfl rfl (Nat.le_of_ble_eq_true rfl) dX7_loseBarkToFire_18 ⟨Nat.le_of_ble_eq_true rfl, Nat.le_of_ble_eq_true rfl⟩ (fun u H locs hp_18 hw => ?_)
  obtain ⟨G_18_3, I_18_3, J_18_3⟩ := u
  dsimp only at hw hp_18
  obtain ⟨hI_18_3, eG_18, eJ_18⟩ := hp_18
  subst G_18_3 J_18_3
  refine lv_iload_n hx hb dX7_loseBarkToFire_21 rfl (lv_at hl 0 rfl) ?_
  have hp_22 : po_c_X7_loseBarkToFire x_1 (G, I_18_3, J) := by
      obtain rfl := ex_1.symm
      obtain rfl := ex_2.symm
      obtain rfl := hI_18_3.symm
      rw [epo]
      have ef : f_X7_loseBarkToFire I n year = ((I n 1), (f_X7_bare (wU I n 8 ((I n 8) + (I n 1))) n year 0)) := rfl
      exact ⟨⟨by rw [ef], by rw [ef]⟩, rfl, rfl⟩
  exact w_iret X hr hlk hw hp_22 (Nat.le_of_ble_eq_true rfl) (Nat.le_of_ble_eq_true rfl) dX7_loseBarkToFire_22
def f_X7_grow (I : wI) (n : Nat) (year : Int32) (rain : Int32) : wI := (if f_X7_wasStripped (wU I n 0 (if (((I n 0) + 1) + (rain / 100)) < (600 : Int32) then (((I n 0) + 1) + (rain / 100)) else (600 : Int32))) n = 1 then (if ((wU (wU (wU I n 0 (if (((I n 0) + 1) + (rain / 100)) < (600 : Int32) then (((I n 0) + 1) + (rain / 100)) else (600 : Int32))) n 6 (((wU I n 0 (if (((I n 0) + 1) + (rain / 100)) < (600 : Int32) then (((I n 0) + 1) + (rain / 100)) else (600 : Int32))) n 6) + (((if (10 : Int32) < ((40 : Int32) - ((2 : Int32) * (year - ((wU I n 0 (if (((I n 0) + 1) + (rain / 100)) < (600 : Int32) then (((I n 0) + 1) + (rain / 100)) else (600 : Int32))) n 2)))) then ((40 : Int32) - ((2 : Int32) * (year - ((wU I n 0 (if (((I n 0) + 1) + (rain / 100)) < (600 : Int32) then (((I n 0) + 1) + (rain / 100)) else (600 : Int32))) n 2)))) else (10 : Int32)) * ((50 : Int32) + rain)) / 100))) n 1 (((wU (wU I n 0 (if (((I n 0) + 1) + (rain / 100)) < (600 : Int32) then (((I n 0) + 1) + (rain / 100)) else (600 : Int32))) n 6 (((wU I n 0 (if (((I n 0) + 1) + (rain / 100)) < (600 : Int32) then (((I n 0) + 1) + (rain / 100)) else (600 : Int32))) n 6) + (((if (10 : Int32) < ((40 : Int32) - ((2 : Int32) * (year - ((wU I n 0 (if (((I n 0) + 1) + (rain / 100)) < (600 : Int32) then (((I n 0) + 1) + (rain / 100)) else (600 : Int32))) n 2)))) then ((40 : Int32) - ((2 : Int32) * (year - ((wU I n 0 (if (((I n 0) + 1) + (rain / 100)) < (600 : Int32) then (((I n 0) + 1) + (rain / 100)) else (600 : Int32))) n 2)))) else (10 : Int32)) * ((50 : Int32) + rain)) / 100))) n 1) + (((if (10 : Int32) < ((40 : Int32) - ((2 : Int32) * (year - ((wU I n 0 (if (((I n 0) + 1) + (rain / 100)) < (600 : Int32) then (((I n 0) + 1) + (rain / 100)) else (600 : Int32))) n 2)))) then ((40 : Int32) - ((2 : Int32) * (year - ((wU I n 0 (if (((I n 0) + 1) + (rain / 100)) < (600 : Int32) then (((I n 0) + 1) + (rain / 100)) else (600 : Int32))) n 2)))) else (10 : Int32)) * ((50 : Int32) + rain)) / 100))) n 1) ≤ 3000 then (wU (wU (wU I n 0 (if (((I n 0) + 1) + (rain / 100)) < (600 : Int32) then (((I n 0) + 1) + (rain / 100)) else (600 : Int32))) n 6 (((wU I n 0 (if (((I n 0) + 1) + (rain / 100)) < (600 : Int32) then (((I n 0) + 1) + (rain / 100)) else (600 : Int32))) n 6) + (((if (10 : Int32) < ((40 : Int32) - ((2 : Int32) * (year - ((wU I n 0 (if (((I n 0) + 1) + (rain / 100)) < (600 : Int32) then (((I n 0) + 1) + (rain / 100)) else (600 : Int32))) n 2)))) then ((40 : Int32) - ((2 : Int32) * (year - ((wU I n 0 (if (((I n 0) + 1) + (rain / 100)) < (600 : Int32) then (((I n 0) + 1) + (rain / 100)) else (600 : Int32))) n 2)))) else (10 : Int32)) * ((50 : Int32) + rain)) / 100))) n 1 (((wU (wU I n 0 (if (((I n 0) + 1) + (rain / 100)) < (600 : Int32) then (((I n 0) + 1) + (rain / 100)) else (600 : Int32))) n 6 (((wU I n 0 (if (((I n 0) + 1) + (rain / 100)) < (600 : Int32) then (((I n 0) + 1) + (rain / 100)) else (600 : Int32))) n 6) + (((if (10 : Int32) < ((40 : Int32) - ((2 : Int32) * (year - ((wU I n 0 (if (((I n 0) + 1) + (rain / 100)) < (600 : Int32) then (((I n 0) + 1) + (rain / 100)) else (600 : Int32))) n 2)))) then ((40 : Int32) - ((2 : Int32) * (year - ((wU I n 0 (if (((I n 0) + 1) + (rain / 100)) < (600 : Int32) then (((I n 0) + 1) + (rain / 100)) else (600 : Int32))) n 2)))) else (10 : Int32)) * ((50 : Int32) + rain)) / 100))) n 1) + (((if (10 : Int32) < ((40 : Int32) - ((2 : Int32) * (year - ((wU I n 0 (if (((I n 0) + 1) + (rain / 100)) < (600 : Int32) then (((I n 0) + 1) + (rain / 100)) else (600 : Int32))) n 2)))) then ((40 : Int32) - ((2 : Int32) * (year - ((wU I n 0 (if (((I n 0) + 1) + (rain / 100)) < (600 : Int32) then (((I n 0) + 1) + (rain / 100)) else (600 : Int32))) n 2)))) else (10 : Int32)) * ((50 : Int32) + rain)) / 100))) else (wU (wU (wU (wU (wU I n 0 (if (((I n 0) + 1) + (rain / 100)) < (600 : Int32) then (((I n 0) + 1) + (rain / 100)) else (600 : Int32))) n 6 (((wU I n 0 (if (((I n 0) + 1) + (rain / 100)) < (600 : Int32) then (((I n 0) + 1) + (rain / 100)) else (600 : Int32))) n 6) + (((if (10 : Int32) < ((40 : Int32) - ((2 : Int32) * (year - ((wU I n 0 (if (((I n 0) + 1) + (rain / 100)) < (600 : Int32) then (((I n 0) + 1) + (rain / 100)) else (600 : Int32))) n 2)))) then ((40 : Int32) - ((2 : Int32) * (year - ((wU I n 0 (if (((I n 0) + 1) + (rain / 100)) < (600 : Int32) then (((I n 0) + 1) + (rain / 100)) else (600 : Int32))) n 2)))) else (10 : Int32)) * ((50 : Int32) + rain)) / 100))) n 1 (((wU (wU I n 0 (if (((I n 0) + 1) + (rain / 100)) < (600 : Int32) then (((I n 0) + 1) + (rain / 100)) else (600 : Int32))) n 6 (((wU I n 0 (if (((I n 0) + 1) + (rain / 100)) < (600 : Int32) then (((I n 0) + 1) + (rain / 100)) else (600 : Int32))) n 6) + (((if (10 : Int32) < ((40 : Int32) - ((2 : Int32) * (year - ((wU I n 0 (if (((I n 0) + 1) + (rain / 100)) < (600 : Int32) then (((I n 0) + 1) + (rain / 100)) else (600 : Int32))) n 2)))) then ((40 : Int32) - ((2 : Int32) * (year - ((wU I n 0 (if (((I n 0) + 1) + (rain / 100)) < (600 : Int32) then (((I n 0) + 1) + (rain / 100)) else (600 : Int32))) n 2)))) else (10 : Int32)) * ((50 : Int32) + rain)) / 100))) n 1) + (((if (10 : Int32) < ((40 : Int32) - ((2 : Int32) * (year - ((wU I n 0 (if (((I n 0) + 1) + (rain / 100)) < (600 : Int32) then (((I n 0) + 1) + (rain / 100)) else (600 : Int32))) n 2)))) then ((40 : Int32) - ((2 : Int32) * (year - ((wU I n 0 (if (((I n 0) + 1) + (rain / 100)) < (600 : Int32) then (((I n 0) + 1) + (rain / 100)) else (600 : Int32))) n 2)))) else (10 : Int32)) * ((50 : Int32) + rain)) / 100))) n 9 (((wU (wU (wU I n 0 (if (((I n 0) + 1) + (rain / 100)) < (600 : Int32) then (((I n 0) + 1) + (rain / 100)) else (600 : Int32))) n 6 (((wU I n 0 (if (((I n 0) + 1) + (rain / 100)) < (600 : Int32) then (((I n 0) + 1) + (rain / 100)) else (600 : Int32))) n 6) + (((if (10 : Int32) < ((40 : Int32) - ((2 : Int32) * (year - ((wU I n 0 (if (((I n 0) + 1) + (rain / 100)) < (600 : Int32) then (((I n 0) + 1) + (rain / 100)) else (600 : Int32))) n 2)))) then ((40 : Int32) - ((2 : Int32) * (year - ((wU I n 0 (if (((I n 0) + 1) + (rain / 100)) < (600 : Int32) then (((I n 0) + 1) + (rain / 100)) else (600 : Int32))) n 2)))) else (10 : Int32)) * ((50 : Int32) + rain)) / 100))) n 1 (((wU (wU I n 0 (if (((I n 0) + 1) + (rain / 100)) < (600 : Int32) then (((I n 0) + 1) + (rain / 100)) else (600 : Int32))) n 6 (((wU I n 0 (if (((I n 0) + 1) + (rain / 100)) < (600 : Int32) then (((I n 0) + 1) + (rain / 100)) else (600 : Int32))) n 6) + (((if (10 : Int32) < ((40 : Int32) - ((2 : Int32) * (year - ((wU I n 0 (if (((I n 0) + 1) + (rain / 100)) < (600 : Int32) then (((I n 0) + 1) + (rain / 100)) else (600 : Int32))) n 2)))) then ((40 : Int32) - ((2 : Int32) * (year - ((wU I n 0 (if (((I n 0) + 1) + (rain / 100)) < (600 : Int32) then (((I n 0) + 1) + (rain / 100)) else (600 : Int32))) n 2)))) else (10 : Int32)) * ((50 : Int32) + rain)) / 100))) n 1) + (((if (10 : Int32) < ((40 : Int32) - ((2 : Int32) * (year - ((wU I n 0 (if (((I n 0) + 1) + (rain / 100)) < (600 : Int32) then (((I n 0) + 1) + (rain / 100)) else (600 : Int32))) n 2)))) then ((40 : Int32) - ((2 : Int32) * (year - ((wU I n 0 (if (((I n 0) + 1) + (rain / 100)) < (600 : Int32) then (((I n 0) + 1) + (rain / 100)) else (600 : Int32))) n 2)))) else (10 : Int32)) * ((50 : Int32) + rain)) / 100))) n 9) + (((wU (wU (wU I n 0 (if (((I n 0) + 1) + (rain / 100)) < (600 : Int32) then (((I n 0) + 1) + (rain / 100)) else (600 : Int32))) n 6 (((wU I n 0 (if (((I n 0) + 1) + (rain / 100)) < (600 : Int32) then (((I n 0) + 1) + (rain / 100)) else (600 : Int32))) n 6) + (((if (10 : Int32) < ((40 : Int32) - ((2 : Int32) * (year - ((wU I n 0 (if (((I n 0) + 1) + (rain / 100)) < (600 : Int32) then (((I n 0) + 1) + (rain / 100)) else (600 : Int32))) n 2)))) then ((40 : Int32) - ((2 : Int32) * (year - ((wU I n 0 (if (((I n 0) + 1) + (rain / 100)) < (600 : Int32) then (((I n 0) + 1) + (rain / 100)) else (600 : Int32))) n 2)))) else (10 : Int32)) * ((50 : Int32) + rain)) / 100))) n 1 (((wU (wU I n 0 (if (((I n 0) + 1) + (rain / 100)) < (600 : Int32) then (((I n 0) + 1) + (rain / 100)) else (600 : Int32))) n 6 (((wU I n 0 (if (((I n 0) + 1) + (rain / 100)) < (600 : Int32) then (((I n 0) + 1) + (rain / 100)) else (600 : Int32))) n 6) + (((if (10 : Int32) < ((40 : Int32) - ((2 : Int32) * (year - ((wU I n 0 (if (((I n 0) + 1) + (rain / 100)) < (600 : Int32) then (((I n 0) + 1) + (rain / 100)) else (600 : Int32))) n 2)))) then ((40 : Int32) - ((2 : Int32) * (year - ((wU I n 0 (if (((I n 0) + 1) + (rain / 100)) < (600 : Int32) then (((I n 0) + 1) + (rain / 100)) else (600 : Int32))) n 2)))) else (10 : Int32)) * ((50 : Int32) + rain)) / 100))) n 1) + (((if (10 : Int32) < ((40 : Int32) - ((2 : Int32) * (year - ((wU I n 0 (if (((I n 0) + 1) + (rain / 100)) < (600 : Int32) then (((I n 0) + 1) + (rain / 100)) else (600 : Int32))) n 2)))) then ((40 : Int32) - ((2 : Int32) * (year - ((wU I n 0 (if (((I n 0) + 1) + (rain / 100)) < (600 : Int32) then (((I n 0) + 1) + (rain / 100)) else (600 : Int32))) n 2)))) else (10 : Int32)) * ((50 : Int32) + rain)) / 100))) n 1) - 3000))) n 1 3000)) else (if ((wU (wU (wU I n 0 (if (((I n 0) + 1) + (rain / 100)) < (600 : Int32) then (((I n 0) + 1) + (rain / 100)) else (600 : Int32))) n 6 (((wU I n 0 (if (((I n 0) + 1) + (rain / 100)) < (600 : Int32) then (((I n 0) + 1) + (rain / 100)) else (600 : Int32))) n 6) + (((if (10 : Int32) < ((40 : Int32) - ((2 : Int32) * 20)) then ((40 : Int32) - ((2 : Int32) * 20)) else (10 : Int32)) * ((50 : Int32) + rain)) / 100))) n 1 (((wU (wU I n 0 (if (((I n 0) + 1) + (rain / 100)) < (600 : Int32) then (((I n 0) + 1) + (rain / 100)) else (600 : Int32))) n 6 (((wU I n 0 (if (((I n 0) + 1) + (rain / 100)) < (600 : Int32) then (((I n 0) + 1) + (rain / 100)) else (600 : Int32))) n 6) + (((if (10 : Int32) < ((40 : Int32) - ((2 : Int32) * 20)) then ((40 : Int32) - ((2 : Int32) * 20)) else (10 : Int32)) * ((50 : Int32) + rain)) / 100))) n 1) + (((if (10 : Int32) < ((40 : Int32) - ((2 : Int32) * 20)) then ((40 : Int32) - ((2 : Int32) * 20)) else (10 : Int32)) * ((50 : Int32) + rain)) / 100))) n 1) ≤ 3000 then (wU (wU (wU I n 0 (if (((I n 0) + 1) + (rain / 100)) < (600 : Int32) then (((I n 0) + 1) + (rain / 100)) else (600 : Int32))) n 6 (((wU I n 0 (if (((I n 0) + 1) + (rain / 100)) < (600 : Int32) then (((I n 0) + 1) + (rain / 100)) else (600 : Int32))) n 6) + (((if (10 : Int32) < ((40 : Int32) - ((2 : Int32) * 20)) then ((40 : Int32) - ((2 : Int32) * 20)) else (10 : Int32)) * ((50 : Int32) + rain)) / 100))) n 1 (((wU (wU I n 0 (if (((I n 0) + 1) + (rain / 100)) < (600 : Int32) then (((I n 0) + 1) + (rain / 100)) else (600 : Int32))) n 6 (((wU I n 0 (if (((I n 0) + 1) + (rain / 100)) < (600 : Int32) then (((I n 0) + 1) + (rain / 100)) else (600 : Int32))) n 6) + (((if (10 : Int32) < ((40 : Int32) - ((2 : Int32) * 20)) then ((40 : Int32) - ((2 : Int32) * 20)) else (10 : Int32)) * ((50 : Int32) + rain)) / 100))) n 1) + (((if (10 : Int32) < ((40 : Int32) - ((2 : Int32) * 20)) then ((40 : Int32) - ((2 : Int32) * 20)) else (10 : Int32)) * ((50 : Int32) + rain)) / 100))) else (wU (wU (wU (wU (wU I n 0 (if (((I n 0) + 1) + (rain / 100)) < (600 : Int32) then (((I n 0) + 1) + (rain / 100)) else (600 : Int32))) n 6 (((wU I n 0 (if (((I n 0) + 1) + (rain / 100)) < (600 : Int32) then (((I n 0) + 1) + (rain / 100)) else (600 : Int32))) n 6) + (((if (10 : Int32) < ((40 : Int32) - ((2 : Int32) * 20)) then ((40 : Int32) - ((2 : Int32) * 20)) else (10 : Int32)) * ((50 : Int32) + rain)) / 100))) n 1 (((wU (wU I n 0 (if (((I n 0) + 1) + (rain / 100)) < (600 : Int32) then (((I n 0) + 1) + (rain / 100)) else (600 : Int32))) n 6 (((wU I n 0 (if (((I n 0) + 1) + (rain / 100)) < (600 : Int32) then (((I n 0) + 1) + (rain / 100)) else (600 : Int32))) n 6) + (((if (10 : Int32) < ((40 : Int32) - ((2 : Int32) * 20)) then ((40 : Int32) - ((2 : Int32) * 20)) else (10 : Int32)) * ((50 : Int32) + rain)) / 100))) n 1) + (((if (10 : Int32) < ((40 : Int32) - ((2 : Int32) * 20)) then ((40 : Int32) - ((2 : Int32) * 20)) else (10 : Int32)) * ((50 : Int32) + rain)) / 100))) n 9 (((wU (wU (wU I n 0 (if (((I n 0) + 1) + (rain / 100)) < (600 : Int32) then (((I n 0) + 1) + (rain / 100)) else (600 : Int32))) n 6 (((wU I n 0 (if (((I n 0) + 1) + (rain / 100)) < (600 : Int32) then (((I n 0) + 1) + (rain / 100)) else (600 : Int32))) n 6) + (((if (10 : Int32) < ((40 : Int32) - ((2 : Int32) * 20)) then ((40 : Int32) - ((2 : Int32) * 20)) else (10 : Int32)) * ((50 : Int32) + rain)) / 100))) n 1 (((wU (wU I n 0 (if (((I n 0) + 1) + (rain / 100)) < (600 : Int32) then (((I n 0) + 1) + (rain / 100)) else (600 : Int32))) n 6 (((wU I n 0 (if (((I n 0) + 1) + (rain / 100)) < (600 : Int32) then (((I n 0) + 1) + (rain / 100)) else (600 : Int32))) n 6) + (((if (10 : Int32) < ((40 : Int32) - ((2 : Int32) * 20)) then ((40 : Int32) - ((2 : Int32) * 20)) else (10 : Int32)) * ((50 : Int32) + rain)) / 100))) n 1) + (((if (10 : Int32) < ((40 : Int32) - ((2 : Int32) * 20)) then ((40 : Int32) - ((2 : Int32) * 20)) else (10 : Int32)) * ((50 : Int32) + rain)) / 100))) n 9) + (((wU (wU (wU I n 0 (if (((I n 0) + 1) + (rain / 100)) < (600 : Int32) then (((I n 0) + 1) + (rain / 100)) else (600 : Int32))) n 6 (((wU I n 0 (if (((I n 0) + 1) + (rain / 100)) < (600 : Int32) then (((I n 0) + 1) + (rain / 100)) else (600 : Int32))) n 6) + (((if (10 : Int32) < ((40 : Int32) - ((2 : Int32) * 20)) then ((40 : Int32) - ((2 : Int32) * 20)) else (10 : Int32)) * ((50 : Int32) + rain)) / 100))) n 1 (((wU (wU I n 0 (if (((I n 0) + 1) + (rain / 100)) < (600 : Int32) then (((I n 0) + 1) + (rain / 100)) else (600 : Int32))) n 6 (((wU I n 0 (if (((I n 0) + 1) + (rain / 100)) < (600 : Int32) then (((I n 0) + 1) + (rain / 100)) else (600 : Int32))) n 6) + (((if (10 : Int32) < ((40 : Int32) - ((2 : Int32) * 20)) then ((40 : Int32) - ((2 : Int32) * 20)) else (10 : Int32)) * ((50 : Int32) + rain)) / 100))) n 1) + (((if (10 : Int32) < ((40 : Int32) - ((2 : Int32) * 20)) then ((40 : Int32) - ((2 : Int32) * 20)) else (10 : Int32)) * ((50 : Int32) + rain)) / 100))) n 1) - 3000))) n 1 3000)))
set_option maxRecDepth 20000 in
theorem in_X7_grow_X7 : ∀ w ∈ u_ws RX7 TX7 10, w ∈ wsX7_grow := fun _ h => List.mem_cons_of_mem _ (List.mem_append_right _ h)
set_option maxHeartbeats 4000000 in
set_option maxRecDepth 100000 in
theorem c_X7_grow (l : Launch) (D : va_G) (y : Nat → ClassId) (b : Nat) (z : Nat → Nat) (G : wG) (I : wI) (J : wJ) (hL : w_full G) (n : Nat) (year : Int32) (rain : Int32) (hn : n ∈ G.2.1) (hk : w_kd n = 8) : mV l yX7_grow wsX7_grow { frames := 1, cells := 0, slots := 0, locals := 21 } D y b z G I J [.ref (G.1 n), .int year, .int rain] (fun u => u.2.1 = f_X7_grow I n year rain ∧ u.1 = G ∧ u.2.2 = J) 0 0 := by
  refine w_enter (by decide) rfl (Nat.le_of_ble_eq_true rfl) rfl ?_
  intro p e s m below meth c ls X hr hlk hnm hw hst hl
  have hx := X.1.1
  have hb := X.1.2.1
  obtain ⟨po_c_X7_grow, epo⟩ : ∃ qpo9 : wS → Prop, qpo9 = (fun u => u.2.1 = f_X7_grow I n year rain ∧ u.1 = G ∧ u.2.2 = J) := ⟨_, rfl⟩
  rw [← epo]
  refine lv_aload_n hx hb dX7_grow_0 rfl (lv_at hl 0 rfl) ?_
  refine lv_sipush (v := 600) hx hb dX7_grow_1 (by decide) ?_
  refine lv_aload_n hx hb dX7_grow_4 rfl (lv_at hl 0 rfl) ?_
  refine w_get X hw 8 0 hn hk (by decide) k_X7 in_X7_grow_X7 (by decide) (by decide +kernel) rfl (v := .int (I n 0)) rfl dX7_grow_5 ?_
  refine lv_iconst (v := 1) hx hb dX7_grow_8 (by decide) ?_
  refine lv_iadd hx hb dX7_grow_9 ?_
  refine lv_iload_n hx hb dX7_grow_10 rfl (lv_at hl 2 rfl) ?_
  refine lv_bipush (v := 100) hx hb dX7_grow_11 (by decide) ?_
  refine lv_idiv hx hb dX7_grow_13 (by decide) ?_
  refine lv_iadd hx hb dX7_grow_14 ?_
  refine va_mmin hx hb (by rw [X.1.2.2.1]; exact hl.1.symm) X.1.2.2.2.1 (X.1.2.2.2.2 (.methodLink RX7 43 Lib.Math.min.name) (by decide +kernel)) (X.1.2.2.2.2 (.static Lib.Math.min.name) (by decide +kernel)) (X.1.2.2.2.2 (.initialized "java/lang/Math") (by decide +kernel)) (X.1.2.2.2.2 (.code Lib.Math.min.name Lib.Math.min.code 2 (some .int)) (by decide +kernel)) (Nat.le_of_ble_eq_true rfl) (Nat.le_of_ble_eq_true rfl) (Nat.le_of_ble_eq_true rfl) (Nat.le_of_ble_eq_true rfl) dX7_grow_15 ?_
  refine lv_topi (fun x_1 ex_1 => ?_)
  refine w_put X hw 8 0 hn hk (by decide) k_X7 in_X7_grow_X7 (by decide) (by decide +kernel) rfl rfl (t := .int) (by decide +kernel) rfl rfl (fun _ => rfl) (fun _ => Nat.le_of_ble_eq_true rfl) dX7_grow_18 (fun H locs hw => ?_)
  refine lv_aload_n hx hb dX7_grow_21 rfl (lv_at hl 0 rfl) ?_
  refine w_callVi (As := []) (rest := []) X hw hst hl (c_X7_wasStripped l D y b z G (wU I n 0 x_1) J hL n  hn hk) (cwV 0 X.1.2.2.2.2 gX7_grow_X7_wasStripped rfl rfl rfl (by decide +kernel) ⟨Nat.le_of_ble_eq_true rfl, Nat.le_of_ble_eq_true rfl⟩) (w_recv X hw hn hk (by decide) k_X7) rfl rfl (Nat.le_of_ble_eq_true rfl) dX7_grow_22 ⟨Nat.le_of_ble_eq_true rfl, Nat.le_of_ble_eq_true rfl⟩ (fun r_22_2 u H locs hp_22 hw => ?_)
  obtain ⟨hp_22, rfl⟩ := hp_22
  dsimp only at hw
  rcases f_X7_wasStripped_01  (wU I n 0 x_1) n with q_22 | ⟨q_22, q0_22⟩
  · rw [q_22] at hp_22
    subst r_22_2
    refine lv_if_eq (tgt := 37) hx hb dX7_grow_25 (by decide) (fun c_25 => ?_) (fun c_25 => ?_)
    · exact absurd c_25 (by decide)
    · refine lv_iload_n hx hb dX7_grow_28 rfl (lv_at hl 1 rfl) ?_
      refine lv_aload_n hx hb dX7_grow_29 rfl (lv_at hl 0 rfl) ?_
      refine w_get X hw 8 2 hn hk (by decide) k_X7 in_X7_grow_X7 (by decide) (by decide +kernel) rfl (v := .int ((wU I n 0 x_1) n 2)) rfl dX7_grow_30 ?_
      refine lv_isub hx hb dX7_grow_33 ?_
      refine lv_goto (tgt := 39) hx hb dX7_grow_34 (by decide) ?_
      refine lv_topi (fun x_3 ex_3 => ?_)
      refine lv_istore_n (lv' := [(3, .int x_3), (0, .ref (G.1 n)), (1, .int year), (2, .int rain)]) hx hb dX7_grow_39 rfl hl (by decide) rfl (fun ls hl => ?_)
      refine lv_bipush (v := 10) hx hb dX7_grow_40 (by decide) ?_
      refine lv_bipush (v := 40) hx hb dX7_grow_42 (by decide) ?_
      refine lv_iconst (v := 2) hx hb dX7_grow_44 (by decide) ?_
      refine lv_iload_n hx hb dX7_grow_45 rfl (lv_at hl 0 rfl) ?_
      refine lv_imul hx hb dX7_grow_46 ?_
      refine lv_isub hx hb dX7_grow_47 ?_
      refine va_mmax hx hb (by rw [X.1.2.2.1]; exact hl.1.symm) X.1.2.2.2.1 (X.1.2.2.2.2 (.methodLink RX7 53 Lib.Math.max.name) (by decide +kernel)) (X.1.2.2.2.2 (.static Lib.Math.max.name) (by decide +kernel)) (X.1.2.2.2.2 (.initialized "java/lang/Math") (by decide +kernel)) (X.1.2.2.2.2 (.code Lib.Math.max.name Lib.Math.max.code 2 (some .int)) (by decide +kernel)) (Nat.le_of_ble_eq_true rfl) (Nat.le_of_ble_eq_true rfl) (Nat.le_of_ble_eq_true rfl) (Nat.le_of_ble_eq_true rfl) dX7_grow_48 ?_
      refine lv_bipush (v := 50) hx hb dX7_grow_51 (by decide) ?_
      refine lv_iload_n hx hb dX7_grow_53 rfl (lv_at hl 3 rfl) ?_
      refine lv_iadd hx hb dX7_grow_54 ?_
      refine lv_imul hx hb dX7_grow_55 ?_
      refine lv_bipush (v := 100) hx hb dX7_grow_56 (by decide) ?_
      refine lv_idiv hx hb dX7_grow_58 (by decide) ?_
      refine lv_topi (fun x_4 ex_4 => ?_)
      refine lv_istore (lv' := [(4, .int x_4), (3, .int x_3), (0, .ref (G.1 n)), (1, .int year), (2, .int rain)]) hx hb dX7_grow_59 hl (by decide) rfl (fun ls hl => ?_)
      refine lv_aload_n hx hb dX7_grow_61 rfl (lv_at hl 2 rfl) ?_
      refine lv_dup hx hb dX7_grow_62 rfl ?_
      refine w_get X hw 8 6 hn hk (by decide) k_X7 in_X7_grow_X7 (by decide) (by decide +kernel) rfl (v := .int ((wU I n 0 x_1) n 6)) rfl dX7_grow_63 ?_
      refine lv_iload hx hb dX7_grow_66 (lv_at hl 0 rfl) ?_
      refine lv_iadd hx hb dX7_grow_68 ?_
      refine lv_topi (fun x_5 ex_5 => ?_)
      refine w_put X hw 8 6 hn hk (by decide) k_X7 in_X7_grow_X7 (by decide) (by decide +kernel) rfl rfl (t := .int) (by decide +kernel) rfl rfl (fun _ => rfl) (fun _ => Nat.le_of_ble_eq_true rfl) dX7_grow_69 (fun H locs hw => ?_)
      refine lv_aload_n hx hb dX7_grow_72 rfl (lv_at hl 2 rfl) ?_
      refine lv_dup hx hb dX7_grow_73 rfl ?_
      refine w_get X hw 8 1 hn hk (by decide) k_X7 in_X7_grow_X7 (by decide) (by decide +kernel) rfl (v := .int ((wU (wU I n 0 x_1) n 6 x_5) n 1)) rfl dX7_grow_74 ?_
      refine lv_iload hx hb dX7_grow_77 (lv_at hl 0 rfl) ?_
      refine lv_iadd hx hb dX7_grow_79 ?_
      refine lv_topi (fun x_6 ex_6 => ?_)
      refine w_put X hw 8 1 hn hk (by decide) k_X7 in_X7_grow_X7 (by decide) (by decide +kernel) rfl rfl (t := .int) (by decide +kernel) rfl rfl (fun _ => rfl) (fun _ => Nat.le_of_ble_eq_true rfl) dX7_grow_80 (fun H locs hw => ?_)
      refine lv_aload_n hx hb dX7_grow_83 rfl (lv_at hl 2 rfl) ?_
      refine w_get X hw 8 1 hn hk (by decide) k_X7 in_X7_grow_X7 (by decide) (by decide +kernel) rfl (v := .int ((wU (wU (wU I n 0 x_1) n 6 x_5) n 1 x_6) n 1)) rfl dX7_grow_84 ?_
      refine lv_sipush (v := 3000) hx hb dX7_grow_87 (by decide) ?_
      refine lv_icmp_le (tgt := 117) hx hb dX7_grow_90 (by decide) (fun c_90 => ?_) (fun c_90 => ?_)
      · have hp_117 : po_c_X7_grow (G, (wU (wU (wU I n 0 x_1) n 6 x_5) n 1 x_6), J) := by
            obtain rfl := ex_1.symm
            obtain rfl := ex_3.symm
            obtain rfl := ex_4.symm
            obtain rfl := ex_5.symm
            obtain rfl := ex_6.symm
            rw [epo]
            refine ⟨Eq.symm ?_, rfl, rfl⟩
            unfold f_X7_grow; rw [if_pos q_22, if_pos c_90]
        exact w_vret X hr hlk hw hp_117 (Nat.le_of_ble_eq_true rfl) (Nat.le_of_ble_eq_true rfl) dX7_grow_117
      · refine lv_aload_n hx hb dX7_grow_93 rfl (lv_at hl 2 rfl) ?_
        refine lv_dup hx hb dX7_grow_94 rfl ?_
        refine w_get X hw 8 9 hn hk (by decide) k_X7 in_X7_grow_X7 (by decide) (by decide +kernel) rfl (v := .int ((wU (wU (wU I n 0 x_1) n 6 x_5) n 1 x_6) n 9)) rfl dX7_grow_95 ?_
        refine lv_aload_n hx hb dX7_grow_98 rfl (lv_at hl 2 rfl) ?_
        refine w_get X hw 8 1 hn hk (by decide) k_X7 in_X7_grow_X7 (by decide) (by decide +kernel) rfl (v := .int ((wU (wU (wU I n 0 x_1) n 6 x_5) n 1 x_6) n 1)) rfl dX7_grow_99 ?_
        refine lv_sipush (v := 3000) hx hb dX7_grow_102 (by decide) ?_
        refine lv_isub hx hb dX7_grow_105 ?_
        refine lv_iadd hx hb dX7_grow_106 ?_
        refine lv_topi (fun x_7 ex_7 => ?_)
        refine w_put X hw 8 9 hn hk (by decide) k_X7 in_X7_grow_X7 (by decide) (by decide +kernel) rfl rfl (t := .int) (by decide +kernel) rfl rfl (fun _ => rfl) (fun _ => Nat.le_of_ble_eq_true rfl) dX7_grow_107 (fun H locs hw => ?_)
        refine lv_aload_n hx hb dX7_grow_110 rfl (lv_at hl 2 rfl) ?_
        refine lv_sipush (v := 3000) hx hb dX7_grow_111 (by decide) ?_
        refine w_put X hw 8 1 hn hk (by decide) k_X7 in_X7_grow_X7 (by decide) (by decide +kernel) rfl rfl (t := .int) (by decide +kernel) rfl rfl (fun _ => rfl) (fun _ => Nat.le_of_ble_eq_true rfl) dX7_grow_114 (fun H locs hw => ?_)
        have hp_117 : po_c_X7_grow (G, (wU (wU (wU (wU (wU I n 0 x_1) n 6 x_5) n 1 x_6) n 9 x_7) n 1 3000), J) := by
            obtain rfl := ex_1.symm
            obtain rfl := ex_3.symm
            obtain rfl := ex_4.symm
            obtain rfl := ex_5.symm
            obtain rfl := ex_6.symm
            obtain rfl := ex_7.symm
            rw [epo]
            refine ⟨Eq.symm ?_, rfl, rfl⟩
            unfold f_X7_grow; rw [if_pos q_22, if_neg c_90]
        exact w_vret X hr hlk hw hp_117 (Nat.le_of_ble_eq_true rfl) (Nat.le_of_ble_eq_true rfl) dX7_grow_117
  · rw [q0_22] at hp_22
    subst r_22_2
    refine lv_if_eq (tgt := 37) hx hb dX7_grow_25 (by decide) (fun c_25 => ?_) (fun c_25 => ?_)
    · refine lv_bipush (v := 20) hx hb dX7_grow_37 (by decide) ?_
      refine lv_istore_n (lv' := [(3, .int 20), (0, .ref (G.1 n)), (1, .int year), (2, .int rain)]) hx hb dX7_grow_39 rfl hl (by decide) rfl (fun ls hl => ?_)
      refine lv_bipush (v := 10) hx hb dX7_grow_40 (by decide) ?_
      refine lv_bipush (v := 40) hx hb dX7_grow_42 (by decide) ?_
      refine lv_iconst (v := 2) hx hb dX7_grow_44 (by decide) ?_
      refine lv_iload_n hx hb dX7_grow_45 rfl (lv_at hl 0 rfl) ?_
      refine lv_imul hx hb dX7_grow_46 ?_
      refine lv_isub hx hb dX7_grow_47 ?_
      refine va_mmax hx hb (by rw [X.1.2.2.1]; exact hl.1.symm) X.1.2.2.2.1 (X.1.2.2.2.2 (.methodLink RX7 53 Lib.Math.max.name) (by decide +kernel)) (X.1.2.2.2.2 (.static Lib.Math.max.name) (by decide +kernel)) (X.1.2.2.2.2 (.initialized "java/lang/Math") (by decide +kernel)) (X.1.2.2.2.2 (.code Lib.Math.max.name Lib.Math.max.code 2 (some .int)) (by decide +kernel)) (Nat.le_of_ble_eq_true rfl) (Nat.le_of_ble_eq_true rfl) (Nat.le_of_ble_eq_true rfl) (Nat.le_of_ble_eq_true rfl) dX7_grow_48 ?_
      refine lv_bipush (v := 50) hx hb dX7_grow_51 (by decide) ?_
      refine lv_iload_n hx hb dX7_grow_53 rfl (lv_at hl 3 rfl) ?_
      refine lv_iadd hx hb dX7_grow_54 ?_
      refine lv_imul hx hb dX7_grow_55 ?_
      refine lv_bipush (v := 100) hx hb dX7_grow_56 (by decide) ?_
      refine lv_idiv hx hb dX7_grow_58 (by decide) ?_
      refine lv_topi (fun x_8 ex_8 => ?_)
      refine lv_istore (lv' := [(4, .int x_8), (3, .int 20), (0, .ref (G.1 n)), (1, .int year), (2, .int rain)]) hx hb dX7_grow_59 hl (by decide) rfl (fun ls hl => ?_)
      refine lv_aload_n hx hb dX7_grow_61 rfl (lv_at hl 2 rfl) ?_
      refine lv_dup hx hb dX7_grow_62 rfl ?_
      refine w_get X hw 8 6 hn hk (by decide) k_X7 in_X7_grow_X7 (by decide) (by decide +kernel) rfl (v := .int ((wU I n 0 x_1) n 6)) rfl dX7_grow_63 ?_
      refine lv_iload hx hb dX7_grow_66 (lv_at hl 0 rfl) ?_
      refine lv_iadd hx hb dX7_grow_68 ?_
      refine lv_topi (fun x_9 ex_9 => ?_)
      refine w_put X hw 8 6 hn hk (by decide) k_X7 in_X7_grow_X7 (by decide) (by decide +kernel) rfl rfl (t := .int) (by decide +kernel) rfl rfl (fun _ => rfl) (fun _ => Nat.le_of_ble_eq_true rfl) dX7_grow_69 (fun H locs hw => ?_)
      refine lv_aload_n hx hb dX7_grow_72 rfl (lv_at hl 2 rfl) ?_
      refine lv_dup hx hb dX7_grow_73 rfl ?_
      refine w_get X hw 8 1 hn hk (by decide) k_X7 in_X7_grow_X7 (by decide) (by decide +kernel) rfl (v := .int ((wU (wU I n 0 x_1) n 6 x_9) n 1)) rfl dX7_grow_74 ?_
      refine lv_iload hx hb dX7_grow_77 (lv_at hl 0 rfl) ?_
      refine lv_iadd hx hb dX7_grow_79 ?_
      refine lv_topi (fun x_10 ex_10 => ?_)
      refine w_put X hw 8 1 hn hk (by decide) k_X7 in_X7_grow_X7 (by decide) (by decide +kernel) rfl rfl (t := .int) (by decide +kernel) rfl rfl (fun _ => rfl) (fun _ => Nat.le_of_ble_eq_true rfl) dX7_grow_80 (fun H locs hw => ?_)
      refine lv_aload_n hx hb dX7_grow_83 rfl (lv_at hl 2 rfl) ?_
      refine w_get X hw 8 1 hn hk (by decide) k_X7 in_X7_grow_X7 (by decide) (by decide +kernel) rfl (v := .int ((wU (wU (wU I n 0 x_1) n 6 x_9) n 1 x_10) n 1)) rfl dX7_grow_84 ?_
      refine lv_sipush (v := 3000) hx hb dX7_grow_87 (by decide) ?_
      refine lv_icmp_le (tgt := 117) hx hb dX7_grow_90 (by decide) (fun c_90 => ?_) (fun c_90 => ?_)
      · have hp_117 : po_c_X7_grow (G, (wU (wU (wU I n 0 x_1) n 6 x_9) n 1 x_10), J) := by
            obtain rfl := ex_1.symm
            obtain rfl := ex_8.symm
            obtain rfl := ex_9.symm
            obtain rfl := ex_10.symm
            rw [epo]
            refine ⟨Eq.symm ?_, rfl, rfl⟩
            unfold f_X7_grow; rw [if_neg q_22, if_pos c_90]
        exact w_vret X hr hlk hw hp_117 (Nat.le_of_ble_eq_true rfl) (Nat.le_of_ble_eq_true rfl) dX7_grow_117
      · refine lv_aload_n hx hb dX7_grow_93 rfl (lv_at hl 2 rfl) ?_
        refine lv_dup hx hb dX7_grow_94 rfl ?_
        refine w_get X hw 8 9 hn hk (by decide) k_X7 in_X7_grow_X7 (by decide) (by decide +kernel) rfl (v := .int ((wU (wU (wU I n 0 x_1) n 6 x_9) n 1 x_10) n 9)) rfl dX7_grow_95 ?_
        refine lv_aload_n hx hb dX7_grow_98 rfl (lv_at hl 2 rfl) ?_
        refine w_get X hw 8 1 hn hk (by decide) k_X7 in_X7_grow_X7 (by decide) (by decide +kernel) rfl (v := .int ((wU (wU (wU I n 0 x_1) n 6 x_9) n 1 x_10) n 1)) rfl dX7_grow_99 ?_
        refine lv_sipush (v := 3000) hx hb dX7_grow_102 (by decide) ?_
        refine lv_isub hx hb dX7_grow_105 ?_
        refine lv_iadd hx hb dX7_grow_106 ?_
        refine lv_topi (fun x_11 ex_11 => ?_)
        refine w_put X hw 8 9 hn hk (by decide) k_X7 in_X7_grow_X7 (by decide) (by decide +kernel) rfl rfl (t := .int) (by decide +kernel) rfl rfl (fun _ => rfl) (fun _ => Nat.le_of_ble_eq_true rfl) dX7_grow_107 (fun H locs hw => ?_)
        refine lv_aload_n hx hb dX7_grow_110 rfl (lv_at hl 2 rfl) ?_
        refine lv_sipush (v := 3000) hx hb dX7_grow_111 (by decide) ?_
        refine w_put X hw 8 1 hn hk (by decide) k_X7 in_X7_grow_X7 (by decide) (by decide +kernel) rfl rfl (t := .int) (by decide +kernel) rfl rfl (fun _ => rfl) (fun _ => Nat.le_of_ble_eq_true rfl) dX7_grow_114 (fun H locs hw => ?_)
        have hp_117 : po_c_X7_grow (G, (wU (wU (wU (wU (wU I n 0 x_1) n 6 x_9) n 1 x_10) n 9 x_11) n 1 3000), J) := by
            obtain rfl := ex_1.symm
            obtain rfl := ex_8.symm
            obtain rfl := ex_9.symm
            obtain rfl := ex_10.symm
            obtain rfl := ex_11.symm
            rw [epo]
            refine ⟨Eq.symm ?_, rfl, rfl⟩
            unfold f_X7_grow; rw [if_neg q_22, if_neg c_90]
        exact w_vret X hr hlk hw hp_117 (Nat.le_of_ble_eq_true rfl) (Nat.le_of_ble_eq_true rfl) dX7_grow_117
    · exact absurd (by decide) c_25
