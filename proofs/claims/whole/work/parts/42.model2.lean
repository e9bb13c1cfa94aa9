def f_X9_tree (I : wI) (g : Int32) : Int32 × wI := (if f_X9_in (wU I 22 0 0) g 20 600 = 1 then (if (I 22 12) = 40 then (0, (wU (wU I 22 0 0) 22 0 2)) else (((I 22 12) + 1) - 1, (wU (wU (wU (wU (wU I 22 0 0) 32 (I 22 12).toNatClampNeg g) 34 (I 22 12).toNatClampNeg (-1)) 36 (I 22 12).toNatClampNeg (-1)) 22 12 ((I 22 12) + 1)))) else (0, (wU (wU I 22 0 0) 22 0 1)))
theorem fr_f_X9_tree (I : wI) (g : Int32) (q9 : Nat) (h22 : q9 ≠ 22) (h32 : q9 ≠ 32) (h34 : q9 ≠ 34) (h36 : q9 ≠ 36) : (f_X9_tree I g).2 q9 = I q9 := by
  unfold f_X9_tree
  repeat' split
  all_goals first | with_reducible rfl | (simp only [wU_ne _ _ _ h22, wU_ne _ _ _ h32, wU_ne _ _ _ h34, wU_ne _ _ _ h36])
set_option maxRecDepth 20000 in
theorem in_X9_tree_X9 : ∀ w ∈ u_ws RX9 TX9 42, w ∈ wsX9_tree := fun _ h => List.mem_cons_of_mem _ (List.mem_append_right _ h)
set_option maxHeartbeats 4000000 in
set_option maxRecDepth 100000 in
theorem c_X9_tree (l : Launch) (D : va_G) (y : Nat → ClassId) (b : Nat) (z : Nat → Nat) (G : wG) (I : wI) (J : wJ) (hL : w_full G) (g : Int32) (hT : 0 ≤ (I 22 12).toInt ∧ (I 22 12).toInt ≤ 40) : mI l yX9_tree wsX9_tree { frames := 1, cells := 0, slots := 0, locals := 22 } D y b z G I J [.ref (G.1 22), .int g] (fun r u => (r = (f_X9_tree I g).1 ∧ u.2.1 = (f_X9_tree I g).2) ∧ u.1 = G ∧ u.2.2 = J) 0 0 := by
  refine w_enter (by decide) rfl (Nat.le_of_ble_eq_true rfl) rfl ?_
  intro p e s m below meth c ls X hr hlk hnm hw hst hl
  have hx := X.1.1
  have hb := X.1.2.1
  obtain ⟨po_c_X9_tree, epo⟩ : ∃ qpo9 : Int32 → wS → Prop, qpo9 = (fun r u => (r = (f_X9_tree I g).1 ∧ u.2.1 = (f_X9_tree I g).2) ∧ u.1 = G ∧ u.2.2 = J) := ⟨_, rfl⟩
  rw [← epo]
  refine lv_aload_n hx hb dX9_tree_0 rfl (lv_at hl 0 rfl) ?_
  refine lv_iconst (v := 0) hx hb dX9_tree_1 (by decide) ?_
  refine w_put X hw 10 0 (hL 22 (by decide)) rfl (by decide) k_X9 in_X9_tree_X9 (by decide) (by decide +kernel) rfl rfl (t := .int) (by decide +kernel) rfl rfl (fun _ => rfl) (fun _ => Nat.le_of_ble_eq_true rfl) dX9_tree_2 (fun H locs hw => ?_)
  refine lv_aload_n hx hb dX9_tree_5 rfl (lv_at hl 0 rfl) ?_
  refine lv_iload_n hx hb dX9_tree_6 rfl (lv_at hl 1 rfl) ?_
  refine lv_bipush (v := 20) hx hb dX9_tree_7 (by decide) ?_
  refine lv_sipush (v := 600) hx hb dX9_tree_9 (by decide) ?_
  refine w_callSi (As := [.int g, .int 20, .int 600]) (rest := [.ref (G.1 22)]) X hw hst hl (c_X9_in l D y b z G (wU I 22 0 0) J hL g 20 600) (va_cwS 3 X.1.2.2.2.2 gX9_tree_X9_in rfl rfl rfl (by decide +kernel) ⟨Nat.le_of_ble_eq_true rfl, Nat.le_of_ble_eq_true rfl⟩) rfl rfl (Nat.le_of_ble_eq_true rfl) dX9_tree_12 ⟨Nat.le_of_ble_eq_true rfl, Nat.le_of_ble_eq_true rfl⟩ (fun r_12_1 u H locs hp_12 hw => ?_)
  obtain ⟨hp_12, rfl⟩ := hp_12
  dsimp only at hw
  rcases f_X9_in_01  (wU I 22 0 0) g 20 600 with q_12 | ⟨q_12, q0_12⟩
  · rw [q_12] at hp_12
    subst r_12_1
    refine lv_if_ne (tgt := 22) hx hb dX9_tree_15 (by decide) (fun c_15 => ?_) (fun c_15 => ?_)
    · refine lv_iconst (v := 0) hx hb dX9_tree_22 (by decide) ?_
      refine lv_iconst (v := 1) hx hb dX9_tree_23 (by decide) ?_
      refine w_callVi (As := [.int 0, .int 1]) (rest := []) X hw hst hl (c_X9_throwsIf0 l D y b z G (wU I 22 0 0) J hL 1) (cwV 2 X.1.2.2.2.2 gX9_tree_X9_throwsIf rfl rfl rfl (by decide +kernel) ⟨Nat.le_of_ble_eq_true rfl, Nat.le_of_ble_eq_true rfl⟩) (w_recv X hw (hL 22 (by decide)) rfl (by decide) k_X9) rfl rfl (Nat.le_of_ble_eq_true rfl) dX9_tree_24 ⟨Nat.le_of_ble_eq_true rfl, Nat.le_of_ble_eq_true rfl⟩ (fun r_24_2 u H locs hp_24 hw => ?_)
      obtain ⟨hp_24, rfl⟩ := hp_24
      dsimp only at hw
      subst r_24_2
      refine lv_if_ne (tgt := 52) hx hb dX9_tree_27 (by decide) (fun c_27 => ?_) (fun c_27 => ?_)
      · exact absurd (by decide) c_27
      · refine lv_aload_n hx hb dX9_tree_30 rfl (lv_at hl 0 rfl) ?_
        refine lv_aload_n hx hb dX9_tree_31 rfl (lv_at hl 0 rfl) ?_
        refine w_get X hw 10 12 (hL 22 (by decide)) rfl (by decide) k_X9 in_X9_tree_X9 (by decide) (by decide +kernel) rfl (v := .int (I 22 12)) rfl dX9_tree_32 ?_
        refine lv_bipush (v := 40) hx hb dX9_tree_35 (by decide) ?_
        refine lv_icmp_ne (tgt := 44) hx hb dX9_tree_37 (by decide) (fun c_37 => ?_) (fun c_37 => ?_)
        · refine lv_iconst (v := 0) hx hb dX9_tree_44 (by decide) ?_
          refine lv_iconst (v := 2) hx hb dX9_tree_45 (by decide) ?_
          refine w_callVi (As := [.int 0, .int 2]) (rest := []) X hw hst hl (c_X9_throwsIf0 l D y b z G (wU I 22 0 0) J hL 2) (cwV 2 X.1.2.2.2.2 gX9_tree_X9_throwsIf rfl rfl rfl (by decide +kernel) ⟨Nat.le_of_ble_eq_true rfl, Nat.le_of_ble_eq_true rfl⟩) (w_recv X hw (hL 22 (by decide)) rfl (by decide) k_X9) rfl rfl (Nat.le_of_ble_eq_true rfl) dX9_tree_46 ⟨Nat.le_of_ble_eq_true rfl, Nat.le_of_ble_eq_true rfl⟩ (fun r_46_3 u H locs hp_46 hw => ?_)
          obtain ⟨hp_46, rfl⟩ := hp_46
          dsimp only at hw
          subst r_46_3
          refine lv_if_eq (tgt := 54) hx hb dX9_tree_49 (by decide) (fun c_49 => ?_) (fun c_49 => ?_)
          · refine lv_aload_n hx hb dX9_tree_54 rfl (lv_at hl 0 rfl) ?_
            refine w_get X hw 10 2 (hL 22 (by decide)) rfl (by decide) k_X9 in_X9_tree_X9 (by decide) (by decide +kernel) rfl (v := .ref (G.1 32)) rfl dX9_tree_55 ?_
            refine lv_aload_n hx hb dX9_tree_58 rfl (lv_at hl 0 rfl) ?_
            refine w_get X hw 10 12 (hL 22 (by decide)) rfl (by decide) k_X9 in_X9_tree_X9 (by decide) (by decide +kernel) rfl (v := .int (I 22 12)) rfl dX9_tree_59 ?_
            refine lv_iload_n hx hb dX9_tree_62 rfl (lv_at hl 1 rfl) ?_
            have h_63 : vp_in (I 22 12) 40 := by rw [vp_in_iff]; simp only [i_eq, Int32.reduceToInt] at *; omega
            refine w_ist X hw (hL 32 (by decide)) rfl h_63 dX9_tree_63 (fun H locs hw => ?_)
            refine lv_aload_n hx hb dX9_tree_64 rfl (lv_at hl 0 rfl) ?_
            refine w_get X hw 10 4 (hL 22 (by decide)) rfl (by decide) k_X9 in_X9_tree_X9 (by decide) (by decide +kernel) rfl (v := .ref (G.1 34)) rfl dX9_tree_65 ?_
            refine lv_aload_n hx hb dX9_tree_68 rfl (lv_at hl 0 rfl) ?_
            refine w_get X hw 10 12 (hL 22 (by decide)) rfl (by decide) k_X9 in_X9_tree_X9 (by decide) (by decide +kernel) rfl (v := .int (I 22 12)) rfl dX9_tree_69 ?_
            refine lv_iconst (v := -1) hx hb dX9_tree_72 (by decide) ?_
            have h_73 : vp_in (I 22 12) 40 := by rw [vp_in_iff]; simp only [i_eq, Int32.reduceToInt] at *; omega
            refine w_ist X hw (hL 34 (by decide)) rfl h_73 dX9_tree_73 (fun H locs hw => ?_)
            refine lv_aload_n hx hb dX9_tree_74 rfl (lv_at hl 0 rfl) ?_
            refine w_get X hw 10 6 (hL 22 (by decide)) rfl (by decide) k_X9 in_X9_tree_X9 (by decide) (by decide +kernel) rfl (v := .ref (G.1 36)) rfl dX9_tree_75 ?_
            refine lv_aload_n hx hb dX9_tree_78 rfl (lv_at hl 0 rfl) ?_
            refine w_get X hw 10 12 (hL 22 (by decide)) rfl (by decide) k_X9 in_X9_tree_X9 (by decide) (by decide +kernel) rfl (v := .int (I 22 12)) rfl dX9_tree_79 ?_
            refine lv_iconst (v := -1) hx hb dX9_tree_82 (by decide) ?_
            have h_83 : vp_in (I 22 12) 40 := by rw [vp_in_iff]; simp only [i_eq, Int32.reduceToInt] at *; omega
            refine w_ist X hw (hL 36 (by decide)) rfl h_83 dX9_tree_83 (fun H locs hw => ?_)
            refine lv_aload_n hx hb dX9_tree_84 rfl (lv_at hl 0 rfl) ?_
            refine lv_dup hx hb dX9_tree_85 rfl ?_
            refine w_get X hw 10 12 (hL 22 (by decide)) rfl (by decide) k_X9 in_X9_tree_X9 (by decide) (by decide +kernel) rfl (v := .int (I 22 12)) rfl dX9_tree_86 ?_
            refine lv_iconst (v := 1) hx hb dX9_tree_89 (by decide) ?_
            refine lv_iadd hx hb dX9_tree_90 ?_
            refine lv_topi (fun x_4 ex_4 => ?_)
            refine w_put X hw 10 12 (hL 22 (by decide)) rfl (by decide) k_X9 in_X9_tree_X9 (by decide) (by decide +kernel) rfl rfl (t := .int) (by decide +kernel) rfl rfl (fun _ => rfl) (fun _ => Nat.le_of_ble_eq_true rfl) dX9_tree_91 (fun H locs hw => ?_)
            refine lv_aload_n hx hb dX9_tree_94 rfl (lv_at hl 0 rfl) ?_
            refine w_get X hw 10 12 (hL 22 (by decide)) rfl (by decide) k_X9 in_X9_tree_X9 (by decide) (by decide +kernel) rfl (v := .int x_4) rfl dX9_tree_95 ?_
            refine lv_iconst (v := 1) hx hb dX9_tree_98 (by decide) ?_
            refine lv_isub hx hb dX9_tree_99 ?_
            have hp_100 : po_c_X9_tree (x_4 - 1) (G, (wU (wU (wU (wU (wU I 22 0 0) 32 (I 22 12).toNatClampNeg g) 34 (I 22 12).toNatClampNeg (-1)) 36 (I 22 12).toNatClampNeg (-1)) 22 12 x_4), J) := by
                obtain rfl := ex_4.symm
                rw [epo]
                have ef : f_X9_tree I g = (((I 22 12) + 1) - 1, (wU (wU (wU (wU (wU I 22 0 0) 32 (I 22 12).toNatClampNeg g) 34 (I 22 12).toNatClampNeg (-1)) 36 (I 22 12).toNatClampNeg (-1)) 22 12 ((I 22 12) + 1))) := by unfold f_X9_tree; rw [if_pos q_12, if_neg c_37]
                exact ⟨⟨by rw [ef], by rw [ef]⟩, rfl, rfl⟩
            exact w_iret X hr hlk hw hp_100 (Nat.le_of_ble_eq_true rfl) (Nat.le_of_ble_eq_true rfl) dX9_tree_100
          · exact absurd (by decide) c_49
        · refine lv_iconst (v := 1) hx hb dX9_tree_40 (by decide) ?_
          refine lv_goto (tgt := 45) hx hb dX9_tree_41 (by decide) ?_
          refine lv_iconst (v := 2) hx hb dX9_tree_45 (by decide) ?_
          refine w_callVi (As := [.int 1, .int 2]) (rest := []) X hw hst hl (c_X9_throwsIf1 l D y b z G (wU I 22 0 0) J hL 2) (cwV 2 X.1.2.2.2.2 gX9_tree_X9_throwsIf rfl rfl rfl (by decide +kernel) ⟨Nat.le_of_ble_eq_true rfl, Nat.le_of_ble_eq_true rfl⟩) (w_recv X hw (hL 22 (by decide)) rfl (by decide) k_X9) rfl rfl (Nat.le_of_ble_eq_true rfl) dX9_tree_46 ⟨Nat.le_of_ble_eq_true rfl, Nat.le_of_ble_eq_true rfl⟩ (fun r_46_5 u H locs hp_46 hw => ?_)
          obtain ⟨G_46_5, I_46_5, J_46_5⟩ := u
          dsimp only at hw hp_46
          obtain ⟨⟨hp_46, hI_46_5⟩, eG_46, eJ_46⟩ := hp_46
          subst G_46_5 J_46_5
          subst r_46_5
          refine lv_if_eq (tgt := 54) hx hb dX9_tree_49 (by decide) (fun c_49 => ?_) (fun c_49 => ?_)
          · exact absurd c_49 (by decide)
          · refine lv_iconst (v := 0) hx hb dX9_tree_52 (by decide) ?_
            have hp_53 : po_c_X9_tree 0 (G, I_46_5, J) := by
                obtain rfl := hI_46_5.symm
                rw [epo]
                have ef : f_X9_tree I g = (0, (wU (wU I 22 0 0) 22 0 2)) := by unfold f_X9_tree; rw [if_pos q_12, if_pos c_37]
                exact ⟨⟨by rw [ef], by rw [ef]⟩, rfl, rfl⟩
            exact w_iret X hr hlk hw hp_53 (Nat.le_of_ble_eq_true rfl) (Nat.le_of_ble_eq_true rfl) dX9_tree_53
    · exact absurd c_15 (by decide)
  · rw [q0_12] at hp_12
    subst r_12_1
    refine lv_if_ne (tgt := 22) hx hb dX9_tree_15 (by decide) (fun c_15 => ?_) (fun c_15 => ?_)
    · exact absurd (by decide) c_15
    · refine lv_iconst (v := 1) hx hb dX9_tree_18 (by decide) ?_
      refine lv_goto (tgt := 23) hx hb dX9_tree_19 (by decide) ?_
      refine lv_iconst (v := 1) hx hb dX9_tree_23 (by decide) ?_
      refine w_callVi (As := [.int 1, .int 1]) (rest := []) X hw hst hl (c_X9_throwsIf1 l D y b z G (wU I 22 0 0) J hL 1) (cwV 2 X.1.2.2.2.2 gX9_tree_X9_throwsIf rfl rfl rfl (by decide +kernel) ⟨Nat.le_of_ble_eq_true rfl, Nat.le_of_ble_eq_true rfl⟩) (w_recv X hw (hL 22 (by decide)) rfl (by decide) k_X9) rfl rfl (Nat.le_of_ble_eq_true rfl) dX9_tree_24 ⟨Nat.le_of_ble_eq_true rfl, Nat.le_of_ble_eq_true rfl⟩ (fun r_24_6 u H locs hp_24 hw => ?_)
      obtain ⟨G_24_6, I_24_6, J_24_6⟩ := u
      dsimp only at hw hp_24
      obtain ⟨⟨hp_24, hI_24_6⟩, eG_24, eJ_24⟩ := hp_24
      subst G_24_6 J_24_6
      subst r_24_6
      refine lv_if_ne (tgt := 52) hx hb dX9_tree_27 (by decide) (fun c_27 => ?_) (fun c_27 => ?_)
      · refine lv_iconst (v := 0) hx hb dX9_tree_52 (by decide) ?_
        have hp_53 : po_c_X9_tree 0 (G, I_24_6, J) := by
            obtain rfl := hI_24_6.symm
            rw [epo]
            have ef : f_X9_tree I g = (0, (wU (wU I 22 0 0) 22 0 1)) := by unfold f_X9_tree; rw [if_neg q_12]
            exact ⟨⟨by rw [ef], by rw [ef]⟩, rfl, rfl⟩
        exact w_iret X hr hlk hw hp_53 (Nat.le_of_ble_eq_true rfl) (Nat.le_of_ble_eq_true rfl) dX9_tree_53
      · exact absurd c_27 (by decide)
def f_X9_mark (I : wI) (t : Int32) : Int32 × wI := (if f_X9_noTree (wU I 22 0 0) t = 1 then (0, (wU (wU I 22 0 0) 22 0 1)) else (if (I 37 t.toNatClampNeg) = 0 then (1, (wU (wU I 22 0 0) 37 t.toNatClampNeg (vp_nar .boolean 1))) else (0, (wU (wU I 22 0 0) 37 t.toNatClampNeg (vp_nar .boolean 1)))))
theorem fr_f_X9_mark (I : wI) (t : Int32) (q9 : Nat) (h22 : q9 ≠ 22) (h37 : q9 ≠ 37) : (f_X9_mark I t).2 q9 = I q9 := by
  unfold f_X9_mark
  repeat' split
  all_goals first | with_reducible rfl | (simp only [wU_ne _ _ _ h22, wU_ne _ _ _ h37])
set_option maxRecDepth 20000 in
theorem in_X9_mark_X9 : ∀ w ∈ u_ws RX9 TX9 42, w ∈ wsX9_mark := fun _ h => List.mem_cons_of_mem _ (List.mem_append_right _ h)
set_option maxHeartbeats 4000000 in
set_option maxRecDepth 100000 in
theorem c_X9_mark (l : Launch) (D : va_G) (y : Nat → ClassId) (b : Nat) (z : Nat → Nat) (G : wG) (I : wI) (J : wJ) (hL : w_full G) (t : Int32) (hT : 0 ≤ (I 22 12).toInt ∧ (I 22 12).toInt ≤ 40) : mI l yX9_mark wsX9_mark { frames := 2, cells := 0, slots := 0, locals := 43 } D y b z G I J [.ref (G.1 22), .int t] (fun r u => (r = (f_X9_mark I t).1 ∧ u.2.1 = (f_X9_mark I t).2) ∧ u.1 = G ∧ u.2.2 = J) 0 0 := by
  refine w_enter (by decide) rfl (Nat.le_of_ble_eq_true rfl) rfl ?_
  intro p e s m below meth c ls X hr hlk hnm hw hst hl
  have hx := X.1.1
  have hb := X.1.2.1
  obtain ⟨po_c_X9_mark, epo⟩ : ∃ qpo9 : Int32 → wS → Prop, qpo9 = (fun r u => (r = (f_X9_mark I t).1 ∧ u.2.1 = (f_X9_mark I t).2) ∧ u.1 = G ∧ u.2.2 = J) := ⟨_, rfl⟩
  rw [← epo]
  refine lv_aload_n hx hb dX9_mark_0 rfl (lv_at hl 0 rfl) ?_
  refine lv_iconst (v := 0) hx hb dX9_mark_1 (by decide) ?_
  refine w_put X hw 10 0 (hL 22 (by decide)) rfl (by decide) k_X9 in_X9_mark_X9 (by decide) (by decide +kernel) rfl rfl (t := .int) (by decide +kernel) rfl rfl (fun _ => rfl) (fun _ => Nat.le_of_ble_eq_true rfl) dX9_mark_2 (fun H locs hw => ?_)
  refine lv_aload_n hx hb dX9_mark_5 rfl (lv_at hl 0 rfl) ?_
  refine lv_aload_n hx hb dX9_mark_6 rfl (lv_at hl 0 rfl) ?_
  refine lv_iload_n hx hb dX9_mark_7 rfl (lv_at hl 1 rfl) ?_
  refine w_callVi (As := [.int t]) (rest := [.ref (G.1 22)]) X hw hst hl (c_X9_noTree l D y b z G (wU I 22 0 0) J hL t) (cwV 1 X.1.2.2.2.2 gX9_mark_X9_noTree rfl rfl rfl (by decide +kernel) ⟨Nat.le_of_ble_eq_true rfl, Nat.le_of_ble_eq_true rfl⟩) (w_recv X hw (hL 22 (by decide)) rfl (by decide) k_X9) rfl rfl (Nat.le_of_ble_eq_true rfl) dX9_mark_8 ⟨Nat.le_of_ble_eq_true rfl, Nat.le_of_ble_eq_true rfl⟩ (fun r_8_1 u H locs hp_8 hw => ?_)
  obtain ⟨hp_8, rfl⟩ := hp_8
  dsimp only at hw
  rcases f_X9_noTree_01  (wU I 22 0 0) t with q_8 | ⟨q_8, q0_8⟩
  · rw [q_8] at hp_8
    subst r_8_1
    refine lv_iconst (v := 1) hx hb dX9_mark_11 (by decide) ?_
    refine w_callVi (As := [.int 1, .int 1]) (rest := []) X hw hst hl (c_X9_throwsIf1 l D y b z G (wU I 22 0 0) J hL 1) (cwV 2 X.1.2.2.2.2 gX9_mark_X9_throwsIf rfl rfl rfl (by decide +kernel) ⟨Nat.le_of_ble_eq_true rfl, Nat.le_of_ble_eq_true rfl⟩) (w_recv X hw (hL 22 (by decide)) rfl (by decide) k_X9) rfl rfl (Nat.le_of_ble_eq_true rfl) dX9_mark_12 ⟨Nat.le_of_ble_eq_true rfl, Nat.le_of_ble_eq_true rfl⟩ (fun r_12_2 u H locs hp_12 hw => ?_)
    obtain ⟨G_12_2, I_12_2, J_12_2⟩ := u
    dsimp only at hw hp_12
    obtain ⟨⟨hp_12, hI_12_2⟩, eG_12, eJ_12⟩ := hp_12
    subst G_12_2 J_12_2
    subst r_12_2
    refine lv_if_eq (tgt := 20) hx hb dX9_mark_15 (by decide) (fun c_15 => ?_) (fun c_15 => ?_)
    · exact absurd c_15 (by decide)
    · refine lv_iconst (v := 0) hx hb dX9_mark_18 (by decide) ?_
      have hp_19 : po_c_X9_mark 0 (G, I_12_2, J) := by
          obtain rfl := hI_12_2.symm
          rw [epo]
          have ef : f_X9_mark I t = (0, (wU (wU I 22 0 0) 22 0 1)) := by unfold f_X9_mark; rw [if_pos q_8]
          exact ⟨⟨by rw [ef], by rw [ef]⟩, rfl, rfl⟩
      exact w_zret X hr (by decide) hlk hw hp_19 (Nat.le_of_ble_eq_true rfl) (Nat.le_of_ble_eq_true rfl) dX9_mark_19
  · rw [q0_8] at hp_8
    subst r_8_1
    refine lv_iconst (v := 1) hx hb dX9_mark_11 (by decide) ?_
    refine w_callVi (As := [.int 0, .int 1]) (rest := []) X hw hst hl (c_X9_throwsIf0 l D y b z G (wU I 22 0 0) J hL 1) (cwV 2 X.1.2.2.2.2 gX9_mark_X9_throwsIf rfl rfl rfl (by decide +kernel) ⟨Nat.le_of_ble_eq_true rfl, Nat.le_of_ble_eq_true rfl⟩) (w_recv X hw (hL 22 (by decide)) rfl (by decide) k_X9) rfl rfl (Nat.le_of_ble_eq_true rfl) dX9_mark_12 ⟨Nat.le_of_ble_eq_true rfl, Nat.le_of_ble_eq_true rfl⟩ (fun r_12_3 u H locs hp_12 hw => ?_)
    obtain ⟨hp_12, rfl⟩ := hp_12
    dsimp only at hw
    subst r_12_3
    refine lv_if_eq (tgt := 20) hx hb dX9_mark_15 (by decide) (fun c_15 => ?_) (fun c_15 => ?_)
    · refine lv_aload_n hx hb dX9_mark_20 rfl (lv_at hl 0 rfl) ?_
      refine w_get X hw 10 7 (hL 22 (by decide)) rfl (by decide) k_X9 in_X9_mark_X9 (by decide) (by decide +kernel) rfl (v := .ref (G.1 37)) rfl dX9_mark_21 ?_
      refine lv_iload_n hx hb dX9_mark_24 rfl (lv_at hl 1 rfl) ?_
      have h_25 : vp_in t 40 := ix_T hT q_8
      refine w_zld X hw (hL 37 (by decide)) rfl h_25 dX9_mark_25 ?_
      refine W.eq (g2 := F0 m 26 ls [.int (I 37 t.toNatClampNeg)]) rfl ?_
      refine lv_topi (fun x_4 ex_4 => ?_)
      refine lv_istore_n (lv' := [(2, .int x_4), (0, .ref (G.1 22)), (1, .int t)]) hx hb dX9_mark_26 rfl hl (by decide) rfl (fun ls hl => ?_)
      refine lv_aload_n hx hb dX9_mark_27 rfl (lv_at hl 1 rfl) ?_
      refine w_get X hw 10 7 (hL 22 (by decide)) rfl (by decide) k_X9 in_X9_mark_X9 (by decide) (by decide +kernel) rfl (v := .ref (G.1 37)) rfl dX9_mark_28 ?_
      refine lv_iload_n hx hb dX9_mark_31 rfl (lv_at hl 2 rfl) ?_
      refine lv_iconst (v := 1) hx hb dX9_mark_32 (by decide) ?_
      have h_33 : vp_in t 40 := ix_T hT q_8
      refine w_zst X hw (hL 37 (by decide)) rfl h_33 dX9_mark_33 (fun H locs hw => ?_)
      refine lv_iload_n hx hb dX9_mark_34 rfl (lv_at hl 0 rfl) ?_
      refine lv_if_ne (tgt := 42) hx hb dX9_mark_35 (by decide) (fun c_35 => ?_) (fun c_35 => ?_)
      · refine lv_iconst (v := 0) hx hb dX9_mark_42 (by decide) ?_
        have hp_43 : po_c_X9_mark 0 (G, (wU (wU I 22 0 0) 37 t.toNatClampNeg (vp_nar .boolean 1)), J) := by
            obtain rfl := ex_4.symm
            rw [epo]
            have ef : f_X9_mark I t = (0, (wU (wU I 22 0 0) 37 t.toNatClampNeg (vp_nar .boolean 1))) := by unfold f_X9_mark; rw [if_neg q_8, if_neg c_35]
            exact ⟨⟨by rw [ef], by rw [ef]⟩, rfl, rfl⟩
        exact w_zret X hr (by decide) hlk hw hp_43 (Nat.le_of_ble_eq_true rfl) (Nat.le_of_ble_eq_true rfl) dX9_mark_43
      · refine lv_iconst (v := 1) hx hb dX9_mark_38 (by decide) ?_
        refine lv_goto (tgt := 43) hx hb dX9_mark_39 (by decide) ?_
        have hp_43 : po_c_X9_mark 1 (G, (wU (wU I 22 0 0) 37 t.toNatClampNeg (vp_nar .boolean 1)), J) := by
            obtain rfl := ex_4.symm
            rw [epo]
            have ef : f_X9_mark I t = (1, (wU (wU I 22 0 0) 37 t.toNatClampNeg (vp_nar .boolean 1))) := by unfold f_X9_mark; rw [if_neg q_8, if_pos c_35]
            exact ⟨⟨by rw [ef], by rw [ef]⟩, rfl, rfl⟩
        exact w_zret X hr (by decide) hlk hw hp_43 (Nat.le_of_ble_eq_true rfl) (Nat.le_of_ble_eq_true rfl) dX9_mark_43
    · exact absurd (by decide) c_15
def f_X9_against (I : wI) (t : Int32) (h : Int32) : Int32 := (if (I 37 t.toNatClampNeg) = 0 then 1 else (if (I 36 t.toNatClampNeg) < (I 22 1) then (if (I 34 t.toNatClampNeg) < 0 then (if (I 43 1) ≤ (I 32 t.toNatClampNeg) then (if (I 43 5) ≤ (I 33 t.toNatClampNeg) then (if 0 ≤ (I 34 t.toNatClampNeg) then (if h ≤ (((I 32 t.toNatClampNeg) * (I 43 2)) / 100) then (if (I 22 16) = 200 then 7 else 0) else 6) else (if h ≤ (((I 32 t.toNatClampNeg) * (I 43 3)) / 100) then (if (I 22 16) = 200 then 7 else 0) else 6)) else 5) else 4) else (if (I 43 0) ≤ ((I 22 1) - (I 34 t.toNatClampNeg)) then (if (I 43 1) ≤ (I 32 t.toNatClampNeg) then (if (I 43 5) ≤ (I 33 t.toNatClampNeg) then (if 0 ≤ (I 34 t.toNatClampNeg) then (if h ≤ (((I 32 t.toNatClampNeg) * (I 43 2)) / 100) then (if (I 22 16) = 200 then 7 else 0) else 6) else (if h ≤ (((I 32 t.toNatClampNeg) * (I 43 3)) / 100) then (if (I 22 16) = 200 then 7 else 0) else 6)) else 5) else 4) else 3)) else 2))
set_option maxRecDepth 20000 in
theorem in_X9_against_X9 : ∀ w ∈ u_ws RX9 TX9 42, w ∈ wsX9_against := fun _ h => List.mem_cons_of_mem _ (List.mem_append_right _ h)
set_option maxHeartbeats 4000000 in
set_option maxRecDepth 100000 in
theorem c_X9_against (l : Launch) (D : va_G) (y : Nat → ClassId) (b : Nat) (z : Nat → Nat) (G : wG) (I : wI) (J : wJ) (hL : w_full G) (t : Int32) (h : Int32) (ht : 0 ≤ t.toInt ∧ t.toInt < 40) : mI l yX9_against wsX9_against { frames := 0, cells := 0, slots := 0, locals := 0 } D y b z G I J [.ref (G.1 22), .int t, .int h] (fun r u => r = f_X9_against I t h ∧ u = (G, I, J)) 0 0 := by
  refine w_enter (by decide) rfl (Nat.le_of_ble_eq_true rfl) rfl ?_
  intro p e s m below meth c ls X hr hlk hnm hw hst hl
  have hx := X.1.1
  have hb := X.1.2.1
  obtain ⟨po_c_X9_against, epo⟩ : ∃ qpo9 : Int32 → wS → Prop, qpo9 = (fun r u => r = f_X9_against I t h ∧ u = (G, I, J)) := ⟨_, rfl⟩
  rw [← epo]
  refine lv_aload_n hx hb dX9_against_0 rfl (lv_at hl 0 rfl) ?_
  refine w_get X hw 10 7 (hL 22 (by decide)) rfl (by decide) k_X9 in_X9_against_X9 (by decide) (by decide +kernel) rfl (v := .ref (G.1 37)) rfl dX9_against_1 ?_
  refine lv_iload_n hx hb dX9_against_4 rfl (lv_at hl 1 rfl) ?_
  have h_5 : vp_in t 40 := by rw [vp_in_iff]; exact ht
  refine w_zld X hw (hL 37 (by decide)) rfl h_5 dX9_against_5 ?_
  refine lv_if_ne (tgt := 11) hx hb dX9_against_6 (by decide) (fun c_6 => ?_) (fun c_6 => ?_)
  · refine lv_aload_n hx hb dX9_against_11 rfl (lv_at hl 0 rfl) ?_
    refine w_get X hw 10 1 (hL 22 (by decide)) rfl (by decide) k_X9 in_X9_against_X9 (by decide) (by decide +kernel) rfl (v := .int (I 22 1)) rfl dX9_against_12 ?_
    refine lv_aload_n hx hb dX9_against_15 rfl (lv_at hl 0 rfl) ?_
    refine w_get X hw 10 6 (hL 22 (by decide)) rfl (by decide) k_X9 in_X9_against_X9 (by decide) (by decide +kernel) rfl (v := .ref (G.1 36)) rfl dX9_against_16 ?_
    refine lv_iload_n hx hb dX9_against_19 rfl (lv_at hl 1 rfl) ?_
    have h_20 : vp_in t 40 := by rw [vp_in_iff]; exact ht
    refine w_ild X hw (hL 36 (by decide)) rfl h_20 dX9_against_20 ?_
    refine lv_icmp_gt (tgt := 26) hx hb dX9_against_21 (by decide) (fun c_21 => ?_) (fun c_21 => ?_)
    · refine lv_aload_n hx hb dX9_against_26 rfl (lv_at hl 0 rfl) ?_
      refine w_get X hw 10 4 (hL 22 (by decide)) rfl (by decide) k_X9 in_X9_against_X9 (by decide) (by decide +kernel) rfl (v := .ref (G.1 34)) rfl dX9_against_27 ?_
      refine lv_iload_n hx hb dX9_against_30 rfl (lv_at hl 1 rfl) ?_
      have h_31 : vp_in t 40 := by rw [vp_in_iff]; exact ht
      refine w_ild X hw (hL 34 (by decide)) rfl h_31 dX9_against_31 ?_
      refine lv_if_lt (tgt := 57) hx hb dX9_against_32 (by decide) (fun c_32 => ?_) (fun c_32 => ?_)
      · refine lv_aload_n hx hb dX9_against_57 rfl (lv_at hl 0 rfl) ?_
        refine w_get X hw 10 2 (hL 22 (by decide)) rfl (by decide) k_X9 in_X9_against_X9 (by decide) (by decide +kernel) rfl (v := .ref (G.1 32)) rfl dX9_against_58 ?_
        refine lv_iload_n hx hb dX9_against_61 rfl (lv_at hl 1 rfl) ?_
        have h_62 : vp_in t 40 := by rw [vp_in_iff]; exact ht
        refine w_ild X hw (hL 32 (by decide)) rfl h_62 dX9_against_62 ?_
        refine lv_aload_n hx hb dX9_against_63 rfl (lv_at hl 0 rfl) ?_
        refine w_get X hw 10 13 (hL 22 (by decide)) rfl (by decide) k_X9 in_X9_against_X9 (by decide) (by decide +kernel) rfl (v := .ref (G.1 43)) rfl dX9_against_64 ?_
        refine lv_iconst (v := 1) hx hb dX9_against_67 (by decide) ?_
        have h_68 : vp_in 1 6 := by unfold vp_in; decide
        refine w_ild X hw (hL 43 (by decide)) rfl h_68 dX9_against_68 ?_
        refine W.eq (g2 := F0 m 69 ls [.int (I 43 1), .int (I 32 t.toNatClampNeg)]) rfl ?_
        refine lv_icmp_ge (tgt := 74) hx hb dX9_against_69 (by decide) (fun c_69 => ?_) (fun c_69 => ?_)
        · refine lv_aload_n hx hb dX9_against_74 rfl (lv_at hl 0 rfl) ?_
          refine w_get X hw 10 3 (hL 22 (by decide)) rfl (by decide) k_X9 in_X9_against_X9 (by decide) (by decide +kernel) rfl (v := .ref (G.1 33)) rfl dX9_against_75 ?_
          refine lv_iload_n hx hb dX9_against_78 rfl (lv_at hl 1 rfl) ?_
          have h_79 : vp_in t 40 := by rw [vp_in_iff]; exact ht
          refine w_ild X hw (hL 33 (by decide)) rfl h_79 dX9_against_79 ?_
          refine lv_aload_n hx hb dX9_against_80 rfl (lv_at hl 0 rfl) ?_
          refine w_get X hw 10 13 (hL 22 (by decide)) rfl (by decide) k_X9 in_X9_against_X9 (by decide) (by decide +kernel) rfl (v := .ref (G.1 43)) rfl dX9_against_81 ?_
          refine lv_iconst (v := 5) hx hb dX9_against_84 (by decide) ?_
          have h_85 : vp_in 5 6 := by unfold vp_in; decide
          refine w_ild X hw (hL 43 (by decide)) rfl h_85 dX9_against_85 ?_
          refine W.eq (g2 := F0 m 86 ls [.int (I 43 5), .int (I 33 t.toNatClampNeg)]) rfl ?_
          refine lv_icmp_ge (tgt := 91) hx hb dX9_against_86 (by decide) (fun c_86 => ?_) (fun c_86 => ?_)
          · refine lv_iload_n hx hb dX9_against_91 rfl (lv_at hl 2 rfl) ?_
            refine lv_aload_n hx hb dX9_against_92 rfl (lv_at hl 0 rfl) ?_
            refine w_get X hw 10 2 (hL 22 (by decide)) rfl (by decide) k_X9 in_X9_against_X9 (by decide) (by decide +kernel) rfl (v := .ref (G.1 32)) rfl dX9_against_93 ?_
            refine lv_iload_n hx hb dX9_against_96 rfl (lv_at hl 1 rfl) ?_
            have h_97 : vp_in t 40 := by rw [vp_in_iff]; exact ht
            refine w_ild X hw (hL 32 (by decide)) rfl h_97 dX9_against_97 ?_
            refine lv_aload_n hx hb dX9_against_98 rfl (lv_at hl 0 rfl) ?_
            refine w_get X hw 10 4 (hL 22 (by decide)) rfl (by decide) k_X9 in_X9_against_X9 (by decide) (by decide +kernel) rfl (v := .ref (G.1 34)) rfl dX9_against_99 ?_
            refine lv_iload_n hx hb dX9_against_102 rfl (lv_at hl 1 rfl) ?_
            have h_103 : vp_in t 40 := by rw [vp_in_iff]; exact ht
            refine w_ild X hw (hL 34 (by decide)) rfl h_103 dX9_against_103 ?_
            refine lv_if_ge (tgt := 116) hx hb dX9_against_104 (by decide) (fun c_104 => ?_) (fun c_104 => ?_)
            · refine lv_aload_n hx hb dX9_against_116 rfl (lv_at hl 0 rfl) ?_
              refine w_get X hw 10 13 (hL 22 (by decide)) rfl (by decide) k_X9 in_X9_against_X9 (by decide) (by decide +kernel) rfl (v := .ref (G.1 43)) rfl dX9_against_117 ?_
              refine lv_iconst (v := 2) hx hb dX9_against_120 (by decide) ?_
              have h_121 : vp_in 2 6 := by unfold vp_in; decide
              refine w_ild X hw (hL 43 (by decide)) rfl h_121 dX9_against_121 ?_
              refine W.eq (g2 := F0 m 122 ls [.int (I 43 2), .int (I 32 t.toNatClampNeg), .int h]) rfl ?_
              refine lv_imul hx hb dX9_against_122 ?_
              refine lv_bipush (v := 100) hx hb dX9_against_123 (by decide) ?_
              refine lv_idiv hx hb dX9_against_125 (by decide) ?_
              refine lv_icmp_le (tgt := 132) hx hb dX9_against_126 (by decide) (fun c_126 => ?_) (fun c_126 => ?_)
              · refine lv_aload_n hx hb dX9_against_132 rfl (lv_at hl 0 rfl) ?_
                refine w_get X hw 10 16 (hL 22 (by decide)) rfl (by decide) k_X9 in_X9_against_X9 (by decide) (by decide +kernel) rfl (v := .int (I 22 16)) rfl dX9_against_133 ?_
                refine lv_sipush (v := 200) hx hb dX9_against_136 (by decide) ?_
                refine lv_icmp_ne (tgt := 147) hx hb dX9_against_139 (by decide) (fun c_139 => ?_) (fun c_139 => ?_)
                · refine lv_iconst (v := 0) hx hb dX9_against_147 (by decide) ?_
                  have hp_148 : po_c_X9_against 0 (G, I, J) := by
                      rw [epo]
                      refine ⟨Eq.symm ?_, rfl⟩
                      unfold f_X9_against; rw [if_neg c_6, if_pos c_21, if_pos c_32, if_pos c_69, if_pos c_86, if_pos c_104, if_pos c_126, if_neg c_139]
                  exact w_iret X hr hlk hw hp_148 (Nat.le_of_ble_eq_true rfl) (Nat.le_of_ble_eq_true rfl) dX9_against_148
                · refine lv_bipush (v := 7) hx hb dX9_against_142 (by decide) ?_
                  refine lv_goto (tgt := 148) hx hb dX9_against_144 (by decide) ?_
                  have hp_148 : po_c_X9_against 7 (G, I, J) := by
                      rw [epo]
                      refine ⟨Eq.symm ?_, rfl⟩
                      unfold f_X9_against; rw [if_neg c_6, if_pos c_21, if_pos c_32, if_pos c_69, if_pos c_86, if_pos c_104, if_pos c_126, if_pos c_139]
                  exact w_iret X hr hlk hw hp_148 (Nat.le_of_ble_eq_true rfl) (Nat.le_of_ble_eq_true rfl) dX9_against_148
              · refine lv_bipush (v := 6) hx hb dX9_against_129 (by decide) ?_
                have hp_131 : po_c_X9_against 6 (G, I, J) := by
                    rw [epo]
                    refine ⟨Eq.symm ?_, rfl⟩
                    unfold f_X9_against; rw [if_neg c_6, if_pos c_21, if_pos c_32, if_pos c_69, if_pos c_86, if_pos c_104, if_neg c_126]
                exact w_iret X hr hlk hw hp_131 (Nat.le_of_ble_eq_true rfl) (Nat.le_of_ble_eq_true rfl) dX9_against_131
            · refine lv_aload_n hx hb dX9_against_107 rfl (lv_at hl 0 rfl) ?_
              refine w_get X hw 10 13 (hL 22 (by decide)) rfl (by decide) k_X9 in_X9_against_X9 (by decide) (by decide +kernel) rfl (v := .ref (G.1 43)) rfl dX9_against_108 ?_
              refine lv_iconst (v := 3) hx hb dX9_against_111 (by decide) ?_
              have h_112 : vp_in 3 6 := by unfold vp_in; decide
              refine w_ild X hw (hL 43 (by decide)) rfl h_112 dX9_against_112 ?_
              refine W.eq (g2 := F0 m 113 ls [.int (I 43 3), .int (I 32 t.toNatClampNeg), .int h]) rfl ?_
              refine lv_goto (tgt := 122) hx hb dX9_against_113 (by decide) ?_
              refine lv_imul hx hb dX9_against_122 ?_
              refine lv_bipush (v := 100) hx hb dX9_against_123 (by decide) ?_
              refine lv_idiv hx hb dX9_against_125 (by decide) ?_
              refine lv_icmp_le (tgt := 132) hx hb dX9_against_126 (by decide) (fun c_126 => ?_) (fun c_126 => ?_)
              · refine lv_aload_n hx hb dX9_against_132 rfl (lv_at hl 0 rfl) ?_
                refine w_get X hw 10 16 (hL 22 (by decide)) rfl (by decide) k_X9 in_X9_against_X9 (by decide) (by decide +kernel) rfl (v := .int (I 22 16)) rfl dX9_against_133 ?_
                refine lv_sipush (v := 200) hx hb dX9_against_136 (by decide) ?_
                refine lv_icmp_ne (tgt := 147) hx hb dX9_against_139 (by decide) (fun c_139 => ?_) (fun c_139 => ?_)
                · refine lv_iconst (v := 0) hx hb dX9_against_147 (by decide) ?_
                  have hp_148 : po_c_X9_against 0 (G, I, J) := by
                      rw [epo]
                      refine ⟨Eq.symm ?_, rfl⟩
                      unfold f_X9_against; rw [if_neg c_6, if_pos c_21, if_pos c_32, if_pos c_69, if_pos c_86, if_neg c_104, if_pos c_126, if_neg c_139]
                  exact w_iret X hr hlk hw hp_148 (Nat.le_of_ble_eq_true rfl) (Nat.le_of_ble_eq_true rfl) dX9_against_148
                · refine lv_bipush (v := 7) hx hb dX9_against_142 (by decide) ?_
                  refine lv_goto (tgt := 148) hx hb dX9_against_144 (by decide) ?_
                  have hp_148 : po_c_X9_against 7 (G, I, J) := by
                      rw [epo]
                      refine ⟨Eq.symm ?_, rfl⟩
                      unfold f_X9_against; rw [if_neg c_6, if_pos c_21, if_pos c_32, if_pos c_69, if_pos c_86, if_neg c_104, if_pos c_126, if_pos c_139]
                  exact w_iret X hr hlk hw hp_148 (Nat.le_of_ble_eq_true rfl) (Nat.le_of_ble_eq_true rfl) dX9_against_148
              · refine lv_bipush (v := 6) hx hb dX9_against_129 (by decide) ?_
                have hp_131 : po_c_X9_against 6 (G, I, J) := by
                    rw [epo]
                    refine ⟨Eq.symm ?_, rfl⟩
                    unfold f_X9_against; rw [if_neg c_6, if_pos c_21, if_pos c_32, if_pos c_69, if_pos c_86, if_neg c_104, if_neg c_126]
                exact w_iret X hr hlk hw hp_131 (Nat.le_of_ble_eq_true rfl) (Nat.le_of_ble_eq_true rfl) dX9_against_131
          · refine lv_iconst (v := 5) hx hb dX9_against_89 (by decide) ?_
            have hp_90 : po_c_X9_against 5 (G, I, J) := by
                rw [epo]
                refine ⟨Eq.symm ?_, rfl⟩
                unfold f_X9_against; rw [if_neg c_6, if_pos c_21, if_pos c_32, if_pos c_69, if_neg c_86]
            exact w_iret X hr hlk hw hp_90 (Nat.le_of_ble_eq_true rfl) (Nat.le_of_ble_eq_true rfl) dX9_against_90
        · refine lv_iconst (v := 4) hx hb dX9_against_72 (by decide) ?_
          have hp_73 : po_c_X9_against 4 (G, I, J) := by
              rw [epo]
              refine ⟨Eq.symm ?_, rfl⟩
              unfold f_X9_against; rw [if_neg c_6, if_pos c_21, if_pos c_32, if_neg c_69]
          exact w_iret X hr hlk hw hp_73 (Nat.le_of_ble_eq_true rfl) (Nat.le_of_ble_eq_true rfl) dX9_against_73
      · refine lv_aload_n hx hb dX9_against_35 rfl (lv_at hl 0 rfl) ?_
        refine w_get X hw 10 1 (hL 22 (by decide)) rfl (by decide) k_X9 in_X9_against_X9 (by decide) (by decide +kernel) rfl (v := .int (I 22 1)) rfl dX9_against_36 ?_
        refine lv_aload_n hx hb dX9_against_39 rfl (lv_at hl 0 rfl) ?_
        refine w_get X hw 10 4 (hL 22 (by decide)) rfl (by decide) k_X9 in_X9_against_X9 (by decide) (by decide +kernel) rfl (v := .ref (G.1 34)) rfl dX9_against_40 ?_
        refine lv_iload_n hx hb dX9_against_43 rfl (lv_at hl 1 rfl) ?_
        have h_44 : vp_in t 40 := by rw [vp_in_iff]; exact ht
        refine w_ild X hw (hL 34 (by decide)) rfl h_44 dX9_against_44 ?_
        refine lv_isub hx hb dX9_against_45 ?_
        refine lv_aload_n hx hb dX9_against_46 rfl (lv_at hl 0 rfl) ?_
        refine w_get X hw 10 13 (hL 22 (by decide)) rfl (by decide) k_X9 in_X9_against_X9 (by decide) (by decide +kernel) rfl (v := .ref (G.1 43)) rfl dX9_against_47 ?_
        refine lv_iconst (v := 0) hx hb dX9_against_50 (by decide) ?_
        have h_51 : vp_in 0 6 := by unfold vp_in; decide
        refine w_ild X hw (hL 43 (by decide)) rfl h_51 dX9_against_51 ?_
        refine W.eq (g2 := F0 m 52 ls [.int (I 43 0), .int ((I 22 1) - (I 34 t.toNatClampNeg))]) rfl ?_
        refine lv_icmp_ge (tgt := 57) hx hb dX9_against_52 (by decide) (fun c_52 => ?_) (fun c_52 => ?_)
        · refine lv_aload_n hx hb dX9_against_57 rfl (lv_at hl 0 rfl) ?_
          refine w_get X hw 10 2 (hL 22 (by decide)) rfl (by decide) k_X9 in_X9_against_X9 (by decide) (by decide +kernel) rfl (v := .ref (G.1 32)) rfl dX9_against_58 ?_
          refine lv_iload_n hx hb dX9_against_61 rfl (lv_at hl 1 rfl) ?_
          have h_62 : vp_in t 40 := by rw [vp_in_iff]; exact ht
          refine w_ild X hw (hL 32 (by decide)) rfl h_62 dX9_against_62 ?_
          refine lv_aload_n hx hb dX9_against_63 rfl (lv_at hl 0 rfl) ?_
          refine w_get X hw 10 13 (hL 22 (by decide)) rfl (by decide) k_X9 in_X9_against_X9 (by decide) (by decide +kernel) rfl (v := .ref (G.1 43)) rfl dX9_against_64 ?_
          refine lv_iconst (v := 1) hx hb dX9_against_67 (by decide) ?_
          have h_68 : vp_in 1 6 := by unfold vp_in; decide
          refine w_ild X hw (hL 43 (by decide)) rfl h_68 dX9_against_68 ?_
          refine W.eq (g2 := F0 m 69 ls [.int (I 43 1), .int (I 32 t.toNatClampNeg)]) rfl ?_
          refine lv_icmp_ge (tgt := 74) hx hb dX9_against_69 (by decide) (fun c_69 => ?_) (fun c_69 => ?_)
          · refine lv_aload_n hx hb dX9_against_74 rfl (lv_at hl 0 rfl) ?_
            refine w_get X hw 10 3 (hL 22 (by decide)) rfl (by decide) k_X9 in_X9_against_X9 (by decide) (by decide +kernel) rfl (v := .ref (G.1 33)) rfl dX9_against_75 ?_
            refine lv_iload_n hx hb dX9_against_78 rfl (lv_at hl 1 rfl) ?_
            have h_79 : vp_in t 40 := by rw [vp_in_iff]; exact ht
            refine w_ild X hw (hL 33 (by decide)) rfl h_79 dX9_against_79 ?_
            refine lv_aload_n hx hb dX9_against_80 rfl (lv_at hl 0 rfl) ?_
            refine w_get X hw 10 13 (hL 22 (by decide)) rfl (by decide) k_X9 in_X9_against_X9 (by decide) (by decide +kernel) rfl (v := .ref (G.1 43)) rfl dX9_against_81 ?_
            refine lv_iconst (v := 5) hx hb dX9_against_84 (by decide) ?_
            have h_85 : vp_in 5 6 := by unfold vp_in; decide
            refine w_ild X hw (hL 43 (by decide)) rfl h_85 dX9_against_85 ?_
            refine W.eq (g2 := F0 m 86 ls [.int (I 43 5), .int (I 33 t.toNatClampNeg)]) rfl ?_
            refine lv_icmp_ge (tgt := 91) hx hb dX9_against_86 (by decide) (fun c_86 => ?_) (fun c_86 => ?_)
            · refine lv_iload_n hx hb dX9_against_91 rfl (lv_at hl 2 rfl) ?_
              refine lv_aload_n hx hb dX9_against_92 rfl (lv_at hl 0 rfl) ?_
              refine w_get X hw 10 2 (hL 22 (by decide)) rfl (by decide) k_X9 in_X9_against_X9 (by decide) (by decide +kernel) rfl (v := .ref (G.1 32)) rfl dX9_against_93 ?_
              refine lv_iload_n hx hb dX9_against_96 rfl (lv_at hl 1 rfl) ?_
              have h_97 : vp_in t 40 := by rw [vp_in_iff]; exact ht
              refine w_ild X hw (hL 32 (by decide)) rfl h_97 dX9_against_97 ?_
              refine lv_aload_n hx hb dX9_against_98 rfl (lv_at hl 0 rfl) ?_
              refine w_get X hw 10 4 (hL 22 (by decide)) rfl (by decide) k_X9 in_X9_against_X9 (by decide) (by decide +kernel) rfl (v := .ref (G.1 34)) rfl dX9_against_99 ?_
              refine lv_iload_n hx hb dX9_against_102 rfl (lv_at hl 1 rfl) ?_
              have h_103 : vp_in t 40 := by rw [vp_in_iff]; exact ht
              refine w_ild X hw (hL 34 (by decide)) rfl h_103 dX9_against_103 ?_
              refine lv_if_ge (tgt := 116) hx hb dX9_against_104 (by decide) (fun c_104 => ?_) (fun c_104 => ?_)
              · refine lv_aload_n hx hb dX9_against_116 rfl (lv_at hl 0 rfl) ?_
                refine w_get X hw 10 13 (hL 22 (by decide)) rfl (by decide) k_X9 in_X9_against_X9 (by decide) (by decide +kernel) rfl (v := .ref (G.1 43)) rfl dX9_against_117 ?_
                refine lv_iconst (v := 2) hx hb dX9_against_120 (by decide) ?_
                have h_121 : vp_in 2 6 := by unfold vp_in; decide
                refine w_ild X hw (hL 43 (by decide)) rfl h_121 dX9_against_121 ?_
                refine W.eq (g2 := F0 m 122 ls [.int (I 43 2), .int (I 32 t.toNatClampNeg), .int h]) rfl ?_
                refine lv_imul hx hb dX9_against_122 ?_
                refine lv_bipush (v := 100) hx hb dX9_against_123 (by decide) ?_
                refine lv_idiv hx hb dX9_against_125 (by decide) ?_
                refine lv_icmp_le (tgt := 132) hx hb dX9_against_126 (by decide) (fun c_126 => ?_) (fun c_126 => ?_)
                · refine lv_aload_n hx hb dX9_against_132 rfl (lv_at hl 0 rfl) ?_
                  refine w_get X hw 10 16 (hL 22 (by decide)) rfl (by decide) k_X9 in_X9_against_X9 (by decide) (by decide +kernel) rfl (v := .int (I 22 16)) rfl dX9_against_133 ?_
                  refine lv_sipush (v := 200) hx hb dX9_against_136 (by decide) ?_
                  refine lv_icmp_ne (tgt := 147) hx hb dX9_against_139 (by decide) (fun c_139 => ?_) (fun c_139 => ?_)
                  · refine lv_iconst (v := 0) hx hb dX9_against_147 (by decide) ?_
                    have hp_148 : po_c_X9_against 0 (G, I, J) := by
                        rw [epo]
                        refine ⟨Eq.symm ?_, rfl⟩
                        unfold f_X9_against; rw [if_neg c_6, if_pos c_21, if_neg c_32, if_pos c_52, if_pos c_69, if_pos c_86, if_pos c_104, if_pos c_126, if_neg c_139]
                    exact w_iret X hr hlk hw hp_148 (Nat.le_of_ble_eq_true rfl) (Nat.le_of_ble_eq_true rfl) dX9_against_148
                  · refine lv_bipush (v := 7) hx hb dX9_against_142 (by decide) ?_
                    refine lv_goto (tgt := 148) hx hb dX9_against_144 (by decide) ?_
                    have hp_148 : po_c_X9_against 7 (G, I, J) := by
                        rw [epo]
                        refine ⟨Eq.symm ?_, rfl⟩
                        unfold f_X9_against; rw [if_neg c_6, if_pos c_21, if_neg c_32, if_pos c_52, if_pos c_69, if_pos c_86, if_pos c_104, if_pos c_126, if_pos c_139]
                    exact w_iret X hr hlk hw hp_148 (Nat.le_of_ble_eq_true rfl) (Nat.le_of_ble_eq_true rfl) dX9_against_148
                · refine lv_bipush (v := 6) hx hb dX9_against_129 (by decide) ?_
                  have hp_131 : po_c_X9_against 6 (G, I, J) := by
                      rw [epo]
                      refine ⟨Eq.symm ?_, rfl⟩
                      unfold f_X9_against; rw [if_neg c_6, if_pos c_21, if_neg c_32, if_pos c_52, if_pos c_69, if_pos c_86, if_pos c_104, if_neg c_126]
                  exact w_iret X hr hlk hw hp_131 (Nat.le_of_ble_eq_true rfl) (Nat.le_of_ble_eq_true rfl) dX9_against_131
              · refine lv_aload_n hx hb dX9_against_107 rfl (lv_at hl 0 rfl) ?_
                refine w_get X hw 10 13 (hL 22 (by decide)) rfl (by decide) k_X9 in_X9_against_X9 (by decide) (by decide +kernel) rfl (v := .ref (G.1 43)) rfl dX9_against_108 ?_
                refine lv_iconst (v := 3) hx hb dX9_against_111 (by decide) ?_
                have h_112 : vp_in 3 6 := by unfold vp_in; decide
                refine w_ild X hw (hL 43 (by decide)) rfl h_112 dX9_against_112 ?_
                refine W.eq (g2 := F0 m 113 ls [.int (I 43 3), .int (I 32 t.toNatClampNeg), .int h]) rfl ?_
                refine lv_goto (tgt := 122) hx hb dX9_against_113 (by decide) ?_
                refine lv_imul hx hb dX9_against_122 ?_
                refine lv_bipush (v := 100) hx hb dX9_against_123 (by decide) ?_
                refine lv_idiv hx hb dX9_against_125 (by decide) ?_
                refine lv_icmp_le (tgt := 132) hx hb dX9_against_126 (by decide) (fun c_126 => ?_) (fun c_126 => ?_)
                · refine lv_aload_n hx hb dX9_against_132 rfl (lv_at hl 0 rfl) ?_
                  refine w_get X hw 10 16 (hL 22 (by decide)) rfl (by decide) k_X9 in_X9_against_X9 (by decide) (by decide +kernel) rfl (v := .int (I 22 16)) rfl dX9_against_133 ?_
                  refine lv_sipush (v := 200) hx hb dX9_against_136 (by decide) ?_
                  refine lv_icmp_ne (tgt := 147) hx hb dX9_against_139 (by decide) (fun c_139 => ?_) (fun c_139 => ?_)
                  · refine lv_iconst (v := 0) hx hb dX9_against_147 (by decide) ?_
                    have hp_148 : po_c_X9_against 0 (G, I, J) := by
                        rw [epo]
                        refine ⟨Eq.symm ?_, rfl⟩
                        unfold f_X9_against; rw [if_neg c_6, if_pos c_21, if_neg c_32, if_pos c_52, if_pos c_69, if_pos c_86, if_neg c_104, if_pos c_126, if_neg c_139]
                    exact w_iret X hr hlk hw hp_148 (Nat.le_of_ble_eq_true rfl) (Nat.le_of_ble_eq_true rfl) dX9_against_148
                  · refine lv_bipush (v := 7) hx hb dX9_against_142 (by decide) ?_
                    refine lv_goto (tgt := 148) hx hb dX9_against_144 (by decide) ?_
                    have hp_148 : po_c_X9_against 7 (G, I, J) := by
                        rw [epo]
                        refine ⟨Eq.symm ?_, rfl⟩
                        unfold f_X9_against; rw [if_neg c_6, if_pos c_21, if_neg c_32, if_pos c_52, if_pos c_69, if_pos c_86, if_neg c_104, if_pos c_126, if_pos c_139]
                    exact w_iret X hr hlk hw hp_148 (Nat.le_of_ble_eq_true rfl) (Nat.le_of_ble_eq_true rfl) dX9_against_148
                · refine lv_bipush (v := 6) hx hb dX9_against_129 (by decide) ?_
                  have hp_131 : po_c_X9_against 6 (G, I, J) := by
                      rw [epo]
                      refine ⟨Eq.symm ?_, rfl⟩
                      unfold f_X9_against; rw [if_neg c_6, if_pos c_21, if_neg c_32, if_pos c_52, if_pos c_69, if_pos c_86, if_neg c_104, if_neg c_126]
                  exact w_iret X hr hlk hw hp_131 (Nat.le_of_ble_eq_true rfl) (Nat.le_of_ble_eq_true rfl) dX9_against_131
            · refine lv_iconst (v := 5) hx hb dX9_against_89 (by decide) ?_
              have hp_90 : po_c_X9_against 5 (G, I, J) := by
                  rw [epo]
                  refine ⟨Eq.symm ?_, rfl⟩
                  unfold f_X9_against; rw [if_neg c_6, if_pos c_21, if_neg c_32, if_pos c_52, if_pos c_69, if_neg c_86]
              exact w_iret X hr hlk hw hp_90 (Nat.le_of_ble_eq_true rfl) (Nat.le_of_ble_eq_true rfl) dX9_against_90
          · refine lv_iconst (v := 4) hx hb dX9_against_72 (by decide) ?_
            have hp_73 : po_c_X9_against 4 (G, I, J) := by
                rw [epo]
                refine ⟨Eq.symm ?_, rfl⟩
                unfold f_X9_against; rw [if_neg c_6, if_pos c_21, if_neg c_32, if_pos c_52, if_neg c_69]
            exact w_iret X hr hlk hw hp_73 (Nat.le_of_ble_eq_true rfl) (Nat.le_of_ble_eq_true rfl) dX9_against_73
        · refine lv_iconst (v := 3) hx hb dX9_against_55 (by decide) ?_
          have hp_56 : po_c_X9_against 3 (G, I, J) := by
              rw [epo]
              refine ⟨Eq.symm ?_, rfl⟩
              unfold f_X9_against; rw [if_neg c_6, if_pos c_21, if_neg c_32, if_neg c_52]
          exact w_iret X hr hlk hw hp_56 (Nat.le_of_ble_eq_true rfl) (Nat.le_of_ble_eq_true rfl) dX9_against_56
    · refine lv_iconst (v := 2) hx hb dX9_against_24 (by decide) ?_
      have hp_25 : po_c_X9_against 2 (G, I, J) := by
          rw [epo]
          refine ⟨Eq.symm ?_, rfl⟩
          unfold f_X9_against; rw [if_neg c_6, if_neg c_21]
      exact w_iret X hr hlk hw hp_25 (Nat.le_of_ble_eq_true rfl) (Nat.le_of_ble_eq_true rfl) dX9_against_25
  · refine lv_iconst (v := 1) hx hb dX9_against_9 (by decide) ?_
    have hp_10 : po_c_X9_against 1 (G, I, J) := by
        rw [epo]
        refine ⟨Eq.symm ?_, rfl⟩
        unfold f_X9_against; rw [if_pos c_6]
    exact w_iret X hr hlk hw hp_10 (Nat.le_of_ble_eq_true rfl) (Nat.le_of_ble_eq_true rfl) dX9_against_10
def f_X9_wound (I : wI) (t : Int32) : Int32 × wI := (if f_X9_noTree (wU I 22 0 0) t = 1 then (0, (wU (wU I 22 0 0) 22 0 1)) else ((wU (wU I 22 0 0) 36 t.toNatClampNeg ((I 22 1) + (I 43 4))) 36 t.toNatClampNeg, (wU (wU I 22 0 0) 36 t.toNatClampNeg ((I 22 1) + (I 43 4)))))
theorem fr_f_X9_wound (I : wI) (t : Int32) (q9 : Nat) (h22 : q9 ≠ 22) (h36 : q9 ≠ 36) : (f_X9_wound I t).2 q9 = I q9 := by
  unfold f_X9_wound
  repeat' split
  all_goals first | with_reducible rfl | (simp only [wU_ne _ _ _ h22, wU_ne _ _ _ h36])
set_option maxRecDepth 20000 in
theorem in_X9_wound_X9 : ∀ w ∈ u_ws RX9 TX9 42, w ∈ wsX9_wound := fun _ h => List.mem_cons_of_mem _ (List.mem_append_right _ h)
set_option maxHeartbeats 4000000 in
set_option maxRecDepth 100000 in
theorem c_X9_wound (l : Launch) (D : va_G) (y : Nat → ClassId) (b : Nat) (z : Nat → Nat) (G : wG) (I : wI) (J : wJ) (hL : w_full G) (t : Int32) (hT : 0 ≤ (I 22 12).toInt ∧ (I 22 12).toInt ≤ 40) : mI l yX9_wound wsX9_wound { frames := 2, cells := 0, slots := 0, locals := 43 } D y b z G I J [.ref (G.1 22), .int t] (fun r u => (r = (f_X9_wound I t).1 ∧ u.2.1 = (f_X9_wound I t).2) ∧ u.1 = G ∧ u.2.2 = J) 0 0 := by
  refine w_enter (by decide) rfl (Nat.le_of_ble_eq_true rfl) rfl ?_
  intro p e s m below meth c ls X hr hlk hnm hw hst hl
  have hx := X.1.1
  have hb := X.1.2.1
  obtain ⟨po_c_X9_wound, epo⟩ : ∃ qpo9 : Int32 → wS → Prop, qpo9 = (fun r u => (r = (f_X9_wound I t).1 ∧ u.2.1 = (f_X9_wound I t).2) ∧ u.1 = G ∧ u.2.2 = J) := ⟨_, rfl⟩
  rw [← epo]
  refine lv_aload_n hx hb dX9_wound_0 rfl (lv_at hl 0 rfl) ?_
  refine lv_iconst (v := 0) hx hb dX9_wound_1 (by decide) ?_
  refine w_put X hw 10 0 (hL 22 (by decide)) rfl (by decide) k_X9 in_X9_wound_X9 (by decide) (by decide +kernel) rfl rfl (t := .int) (by decide +kernel) rfl rfl (fun _ => rfl) (fun _ => Nat.le_of_ble_eq_true rfl) dX9_wound_2 (fun H locs hw => ?_)
  refine lv_aload_n hx hb dX9_wound_5 rfl (lv_at hl 0 rfl) ?_
  refine lv_aload_n hx hb dX9_wound_6 rfl (lv_at hl 0 rfl) ?_
  refine lv_iload_n hx hb dX9_wound_7 rfl (lv_at hl 1 rfl) ?_
  refine w_callVi (As := [.int t]) (rest := [.ref (G.1 22)]) X hw hst hl (c_X9_noTree l D y b z G (wU I 22 0 0) J hL t) (cwV 1 X.1.2.2.2.2 gX9_wound_X9_noTree rfl rfl rfl (by decide +kernel) ⟨Nat.le_of_ble_eq_true rfl, Nat.le_of_ble_eq_true rfl⟩) (w_recv X hw (hL 22 (by decide)) rfl (by decide) k_X9) rfl rfl (Nat.le_of_ble_eq_true rfl) dX9_wound_8 ⟨Nat.le_of_ble_eq_true rfl, Nat.le_of_ble_eq_true rfl⟩ (fun r_8_1 u H locs hp_8 hw => ?_)
  obtain ⟨hp_8, rfl⟩ := hp_8
  dsimp only at hw
  rcases f_X9_noTree_01  (wU I 22 0 0) t with q_8 | ⟨q_8, q0_8⟩
  · rw [q_8] at hp_8
    subst r_8_1
    refine lv_iconst (v := 1) hx hb dX9_wound_11 (by decide) ?_
    refine w_callVi (As := [.int 1, .int 1]) (rest := []) X hw hst hl (c_X9_throwsIf1 l D y b z G (wU I 22 0 0) J hL 1) (cwV 2 X.1.2.2.2.2 gX9_wound_X9_throwsIf rfl rfl rfl (by decide +kernel) ⟨Nat.le_of_ble_eq_true rfl, Nat.le_of_ble_eq_true rfl⟩) (w_recv X hw (hL 22 (by decide)) rfl (by decide) k_X9) rfl rfl (Nat.le_of_ble_eq_true rfl) dX9_wound_12 ⟨Nat.le_of_ble_eq_true rfl, Nat.le_of_ble_eq_true rfl⟩ (fun r_12_2 u H locs hp_12 hw => ?_)
    obtain ⟨G_12_2, I_12_2, J_12_2⟩ := u
    dsimp only at hw hp_12
    obtain ⟨⟨hp_12, hI_12_2⟩, eG_12, eJ_12⟩ := hp_12
    subst G_12_2 J_12_2
    subst r_12_2
    refine lv_if_eq (tgt := 20) hx hb dX9_wound_15 (by decide) (fun c_15 => ?_) (fun c_15 => ?_)
    · exact absurd c_15 (by decide)
    · refine lv_iconst (v := 0) hx hb dX9_wound_18 (by decide) ?_
      have hp_19 : po_c_X9_wound 0 (G, I_12_2, J) := by
          obtain rfl := hI_12_2.symm
          rw [epo]
          have ef : f_X9_wound I t = (0, (wU (wU I 22 0 0) 22 0 1)) := by unfold f_X9_wound; rw [if_pos q_8]
          exact ⟨⟨by rw [ef], by rw [ef]⟩, rfl, rfl⟩
      exact w_iret X hr hlk hw hp_19 (Nat.le_of_ble_eq_true rfl) (Nat.le_of_ble_eq_true rfl) dX9_wound_19
  · rw [q0_8] at hp_8
    subst r_8_1
    refine lv_iconst (v := 1) hx hb dX9_wound_11 (by decide) ?_
    refine w_callVi (As := [.int 0, .int 1]) (rest := []) X hw hst hl (c_X9_throwsIf0 l D y b z G (wU I 22 0 0) J hL 1) (cwV 2 X.1.2.2.2.2 gX9_wound_X9_throwsIf rfl rfl rfl (by decide +kernel) ⟨Nat.le_of_ble_eq_true rfl, Nat.le_of_ble_eq_true rfl⟩) (w_recv X hw (hL 22 (by decide)) rfl (by decide) k_X9) rfl rfl (Nat.le_of_ble_eq_true rfl) dX9_wound_12 ⟨Nat.le_of_ble_eq_true rfl, Nat.le_of_ble_eq_true rfl⟩ (fun r_12_3 u H locs hp_12 hw => ?_)
    obtain ⟨hp_12, rfl⟩ := hp_12
    dsimp only at hw
    subst r_12_3
    refine lv_if_eq (tgt := 20) hx hb dX9_wound_15 (by decide) (fun c_15 => ?_) (fun c_15 => ?_)
    · refine lv_aload_n hx hb dX9_wound_20 rfl (lv_at hl 0 rfl) ?_
      refine w_get X hw 10 6 (hL 22 (by decide)) rfl (by decide) k_X9 in_X9_wound_X9 (by decide) (by decide +kernel) rfl (v := .ref (G.1 36)) rfl dX9_wound_21 ?_
      refine lv_iload_n hx hb dX9_wound_24 rfl (lv_at hl 1 rfl) ?_
      refine lv_aload_n hx hb dX9_wound_25 rfl (lv_at hl 0 rfl) ?_
      refine w_get X hw 10 1 (hL 22 (by decide)) rfl (by decide) k_X9 in_X9_wound_X9 (by decide) (by decide +kernel) rfl (v := .int (I 22 1)) rfl dX9_wound_26 ?_
      refine lv_aload_n hx hb dX9_wound_29 rfl (lv_at hl 0 rfl) ?_
      refine w_get X hw 10 13 (hL 22 (by decide)) rfl (by decide) k_X9 in_X9_wound_X9 (by decide) (by decide +kernel) rfl (v := .ref (G.1 43)) rfl dX9_wound_30 ?_
      refine lv_iconst (v := 4) hx hb dX9_wound_33 (by decide) ?_
      have h_34 : vp_in 4 6 := by unfold vp_in; decide
      refine w_ild X hw (hL 43 (by decide)) rfl h_34 dX9_wound_34 ?_
      refine W.eq (g2 := F0 m 35 ls [.int (I 43 4), .int (I 22 1), .int t, .ref (G.1 36)]) rfl ?_
      refine lv_iadd hx hb dX9_wound_35 ?_
      refine lv_topi (fun x_4 ex_4 => ?_)
      have h_36 : vp_in t 40 := ix_T hT q_8
      refine w_ist X hw (hL 36 (by decide)) rfl h_36 dX9_wound_36 (fun H locs hw => ?_)
      refine lv_aload_n hx hb dX9_wound_37 rfl (lv_at hl 0 rfl) ?_
      refine w_get X hw 10 6 (hL 22 (by decide)) rfl (by decide) k_X9 in_X9_wound_X9 (by decide) (by decide +kernel) rfl (v := .ref (G.1 36)) rfl dX9_wound_38 ?_
      refine lv_iload_n hx hb dX9_wound_41 rfl (lv_at hl 1 rfl) ?_
      have h_42 : vp_in t 40 := ix_T hT q_8
      refine w_ild X hw (hL 36 (by decide)) rfl h_42 dX9_wound_42 ?_
      have hp_43 : po_c_X9_wound ((wU (wU I 22 0 0) 36 t.toNatClampNeg x_4) 36 t.toNatClampNeg) (G, (wU (wU I 22 0 0) 36 t.toNatClampNeg x_4), J) := by
          obtain rfl := ex_4.symm
          rw [epo]
          have ef : f_X9_wound I t = ((wU (wU I 22 0 0) 36 t.toNatClampNeg ((I 22 1) + (I 43 4))) 36 t.toNatClampNeg, (wU (wU I 22 0 0) 36 t.toNatClampNeg ((I 22 1) + (I 43 4)))) := by unfold f_X9_wound; rw [if_neg q_8]
          exact ⟨⟨by rw [ef], by rw [ef]⟩, rfl, rfl⟩
      exact w_iret X hr hlk hw hp_43 (Nat.le_of_ble_eq_true rfl) (Nat.le_of_ble_eq_true rfl) dX9_wound_43
    · exact absurd (by decide) c_15
def f_X9_fire (I : wI) (t : Int32) : Int32 × wI := (if f_X9_noTree (wU I 22 0 0) t = 1 then (0, (wU (wU I 22 0 0) 22 0 1)) else ((I 33 t.toNatClampNeg), (wU (wU (wU (wU (wU (wU I 22 0 0) 40 t.toNatClampNeg ((I 40 t.toNatClampNeg) + (I 33 t.toNatClampNeg))) 33 t.toNatClampNeg 0) 34 t.toNatClampNeg (I 22 1)) 35 t.toNatClampNeg 0) 37 t.toNatClampNeg (vp_nar .boolean 0))))
theorem fr_f_X9_fire (I : wI) (t : Int32) (q9 : Nat) (h22 : q9 ≠ 22) (h33 : q9 ≠ 33) (h34 : q9 ≠ 34) (h35 : q9 ≠ 35) (h37 : q9 ≠ 37) (h40 : q9 ≠ 40) : (f_X9_fire I t).2 q9 = I q9 := by
  unfold f_X9_fire
  repeat' split
  all_goals first | with_reducible rfl | (simp only [wU_ne _ _ _ h22, wU_ne _ _ _ h33, wU_ne _ _ _ h34, wU_ne _ _ _ h35, wU_ne _ _ _ h37, wU_ne _ _ _ h40])
set_option maxRecDepth 20000 in
theorem in_X9_fire_X9 : ∀ w ∈ u_ws RX9 TX9 42, w ∈ wsX9_fire := fun _ h => List.mem_cons_of_mem _ (List.mem_append_right _ h)
set_option maxHeartbeats 4000000 in
set_option maxRecDepth 100000 in
theorem c_X9_fire (l : Launch) (D : va_G) (y : Nat → ClassId) (b : Nat) (z : Nat → Nat) (G : wG) (I : wI) (J : wJ) (hL : w_full G) (t : Int32) (hT : 0 ≤ (I 22 12).toInt ∧ (I 22 12).toInt ≤ 40) : mI l yX9_fire wsX9_fire { frames := 2, cells := 0, slots := 0, locals := 43 } D y b z G I J [.ref (G.1 22), .int t] (fun r u => (r = (f_X9_fire I t).1 ∧ u.2.1 = (f_X9_fire I t).2) ∧ u.1 = G ∧ u.2.2 = J) 0 0 := by
  refine w_enter (by decide) rfl (Nat.le_of_ble_eq_true rfl) rfl ?_
  intro p e s m below meth c ls X hr hlk hnm hw hst hl
  have hx := X.1.1
  have hb := X.1.2.1
  obtain ⟨po_c_X9_fire, epo⟩ : ∃ qpo9 : Int32 → wS → Prop, qpo9 = (fun r u => (r = (f_X9_fire I t).1 ∧ u.2.1 = (f_X9_fire I t).2) ∧ u.1 = G ∧ u.2.2 = J) := ⟨_, rfl⟩
  rw [← epo]
  refine lv_aload_n hx hb dX9_fire_0 rfl (lv_at hl 0 rfl) ?_
  refine lv_iconst (v := 0) hx hb dX9_fire_1 (by decide) ?_
  refine w_put X hw 10 0 (hL 22 (by decide)) rfl (by decide) k_X9 in_X9_fire_X9 (by decide) (by decide +kernel) rfl rfl (t := .int) (by decide +kernel) rfl rfl (fun _ => rfl) (fun _ => Nat.le_of_ble_eq_true rfl) dX9_fire_2 (fun H locs hw => ?_)
  refine lv_aload_n hx hb dX9_fire_5 rfl (lv_at hl 0 rfl) ?_
  refine lv_aload_n hx hb dX9_fire_6 rfl (lv_at hl 0 rfl) ?_
  refine lv_iload_n hx hb dX9_fire_7 rfl (lv_at hl 1 rfl) ?_
  refine w_callVi (As := [.int t]) (rest := [.ref (G.1 22)]) X hw hst hl (c_X9_noTree l D y b z G (wU I 22 0 0) J hL t) (cwV 1 X.1.2.2.2.2 gX9_fire_X9_noTree rfl rfl rfl (by decide +kernel) ⟨Nat.le_of_ble_eq_true rfl, Nat.le_of_ble_eq_true rfl⟩) (w_recv X hw (hL 22 (by decide)) rfl (by decide) k_X9) rfl rfl (Nat.le_of_ble_eq_true rfl) dX9_fire_8 ⟨Nat.le_of_ble_eq_true rfl, Nat.le_of_ble_eq_true rfl⟩ (fun r_8_1 u H locs hp_8 hw => ?_)
  obtain ⟨hp_8, rfl⟩ := hp_8
  dsimp only at hw
  rcases f_X9_noTree_01  (wU I 22 0 0) t with q_8 | ⟨q_8, q0_8⟩
  · rw [q_8] at hp_8
    subst r_8_1
    refine lv_iconst (v := 1) hx hb dX9_fire_11 (by decide) ?_
    refine w_callVi (As := [.int 1, .int 1]) (rest := []) X hw hst hl (c_X9_throwsIf1 l D y b z G (wU I 22 0 0) J hL 1) (cwV 2 X.1.2.2.2.2 gX9_fire_X9_throwsIf rfl rfl rfl (by decide +kernel) ⟨Nat.le_of_ble_eq_true rfl, Nat.le_of_ble_eq_true rfl⟩) (w_recv X hw (hL 22 (by decide)) rfl (by decide) k_X9) rfl rfl (Nat.le_of_ble_eq_true rfl) dX9_fire_12 ⟨Nat.le_of_ble_eq_true rfl, Nat.le_of_ble_eq_true rfl⟩ (fun r_12_2 u H locs hp_12 hw => ?_)
    obtain ⟨G_12_2, I_12_2, J_12_2⟩ := u
    dsimp only at hw hp_12
    obtain ⟨⟨hp_12, hI_12_2⟩, eG_12, eJ_12⟩ := hp_12
    subst G_12_2 J_12_2
    subst r_12_2
    refine lv_if_eq (tgt := 20) hx hb dX9_fire_15 (by decide) (fun c_15 => ?_) (fun c_15 => ?_)
    · exact absurd c_15 (by decide)
    · refine lv_iconst (v := 0) hx hb dX9_fire_18 (by decide) ?_
      have hp_19 : po_c_X9_fire 0 (G, I_12_2, J) := by
          obtain rfl := hI_12_2.symm
          rw [epo]
          have ef : f_X9_fire I t = (0, (wU (wU I 22 0 0) 22 0 1)) := by unfold f_X9_fire; rw [if_pos q_8]
          exact ⟨⟨by rw [ef], by rw [ef]⟩, rfl, rfl⟩
      exact w_iret X hr hlk hw hp_19 (Nat.le_of_ble_eq_true rfl) (Nat.le_of_ble_eq_true rfl) dX9_fire_19
  · rw [q0_8] at hp_8
    subst r_8_1
    refine lv_iconst (v := 1) hx hb dX9_fire_11 (by decide) ?_
    refine w_callVi (As := [.int 0, .int 1]) (rest := []) X hw hst hl (c_X9_throwsIf0 l D y b z G (wU I 22 0 0) J hL 1) (cwV 2 X.1.2.2.2.2 gX9_fire_X9_throwsIf rfl rfl rfl (by decide +kernel) ⟨Nat.le_of_ble_eq_true rfl, Nat.le_of_ble_eq_true rfl⟩) (w_recv X hw (hL 22 (by decide)) rfl (by decide) k_X9) rfl rfl (Nat.le_of_ble_eq_true rfl) dX9_fire_12 ⟨Nat.le_of_ble_eq_true rfl, Nat.le_of_ble_eq_true rfl⟩ (fun r_12_3 u H locs hp_12 hw => ?_)
    obtain ⟨hp_12, rfl⟩ := hp_12
    dsimp only at hw
    subst r_12_3
    refine lv_if_eq (tgt := 20) hx hb dX9_fire_15 (by decide) (fun c_15 => ?_) (fun c_15 => ?_)
    · refine lv_aload_n hx hb dX9_fire_20 rfl (lv_at hl 0 rfl) ?_
      refine w_get X hw 10 3 (hL 22 (by decide)) rfl (by decide) k_X9 in_X9_fire_X9 (by decide) (by decide +kernel) rfl (v := .ref (G.1 33)) rfl dX9_fire_21 ?_
      refine lv_iload_n hx hb dX9_fire_24 rfl (lv_at hl 1 rfl) ?_
      have h_25 : vp_in t 40 := ix_T hT q_8
      refine w_ild X hw (hL 33 (by decide)) rfl h_25 dX9_fire_25 ?_
      refine W.eq (g2 := F0 m 26 ls [.int (I 33 t.toNatClampNeg)]) rfl ?_
      refine lv_topi (fun x_4 ex_4 => ?_)
      refine lv_istore_n (lv' := [(2, .int x_4), (0, .ref (G.1 22)), (1, .int t)]) hx hb dX9_fire_26 rfl hl (by decide) rfl (fun ls hl => ?_)
      refine lv_aload_n hx hb dX9_fire_27 rfl (lv_at hl 1 rfl) ?_
      refine w_get X hw 10 10 (hL 22 (by decide)) rfl (by decide) k_X9 in_X9_fire_X9 (by decide) (by decide +kernel) rfl (v := .ref (G.1 40)) rfl dX9_fire_28 ?_
      refine lv_iload_n hx hb dX9_fire_31 rfl (lv_at hl 2 rfl) ?_
      refine lv_dup2_11 hx hb dX9_fire_32 rfl rfl ?_
      have h_33 : vp_in t 40 := ix_T hT q_8
      refine w_ild X hw (hL 40 (by decide)) rfl h_33 dX9_fire_33 ?_
      refine W.eq (g2 := F0 m 34 ls [.int (I 40 t.toNatClampNeg), .int t, .ref (G.1 40)]) rfl ?_
      refine lv_iload_n hx hb dX9_fire_34 rfl (lv_at hl 0 rfl) ?_
      refine lv_iadd hx hb dX9_fire_35 ?_
      refine lv_topi (fun x_5 ex_5 => ?_)
      have h_36 : vp_in t 40 := ix_T hT q_8
      refine w_ist X hw (hL 40 (by decide)) rfl h_36 dX9_fire_36 (fun H locs hw => ?_)
      refine lv_aload_n hx hb dX9_fire_37 rfl (lv_at hl 1 rfl) ?_
      refine w_get X hw 10 3 (hL 22 (by decide)) rfl (by decide) k_X9 in_X9_fire_X9 (by decide) (by decide +kernel) rfl (v := .ref (G.1 33)) rfl dX9_fire_38 ?_
      refine lv_iload_n hx hb dX9_fire_41 rfl (lv_at hl 2 rfl) ?_
      refine lv_iconst (v := 0) hx hb dX9_fire_42 (by decide) ?_
      have h_43 : vp_in t 40 := ix_T hT q_8
      refine w_ist X hw (hL 33 (by decide)) rfl h_43 dX9_fire_43 (fun H locs hw => ?_)
      refine lv_aload_n hx hb dX9_fire_44 rfl (lv_at hl 1 rfl) ?_
      refine w_get X hw 10 4 (hL 22 (by decide)) rfl (by decide) k_X9 in_X9_fire_X9 (by decide) (by decide +kernel) rfl (v := .ref (G.1 34)) rfl dX9_fire_45 ?_
      refine lv_iload_n hx hb dX9_fire_48 rfl (lv_at hl 2 rfl) ?_
      refine lv_aload_n hx hb dX9_fire_49 rfl (lv_at hl 1 rfl) ?_
      refine w_get X hw 10 1 (hL 22 (by decide)) rfl (by decide) k_X9 in_X9_fire_X9 (by decide) (by decide +kernel) rfl (v := .int (I 22 1)) rfl dX9_fire_50 ?_
      refine lv_topi (fun x_6 ex_6 => ?_)
      have h_53 : vp_in t 40 := ix_T hT q_8
      refine w_ist X hw (hL 34 (by decide)) rfl h_53 dX9_fire_53 (fun H locs hw => ?_)
      refine lv_aload_n hx hb dX9_fire_54 rfl (lv_at hl 1 rfl) ?_
      refine w_get X hw 10 5 (hL 22 (by decide)) rfl (by decide) k_X9 in_X9_fire_X9 (by decide) (by decide +kernel) rfl (v := .ref (G.1 35)) rfl dX9_fire_55 ?_
      refine lv_iload_n hx hb dX9_fire_58 rfl (lv_at hl 2 rfl) ?_
      refine lv_iconst (v := 0) hx hb dX9_fire_59 (by decide) ?_
      have h_60 : vp_in t 40 := ix_T hT q_8
      refine w_ist X hw (hL 35 (by decide)) rfl h_60 dX9_fire_60 (fun H locs hw => ?_)
      refine lv_aload_n hx hb dX9_fire_61 rfl (lv_at hl 1 rfl) ?_
      refine w_get X hw 10 7 (hL 22 (by decide)) rfl (by decide) k_X9 in_X9_fire_X9 (by decide) (by decide +kernel) rfl (v := .ref (G.1 37)) rfl dX9_fire_62 ?_
      refine lv_iload_n hx hb dX9_fire_65 rfl (lv_at hl 2 rfl) ?_
      refine lv_iconst (v := 0) hx hb dX9_fire_66 (by decide) ?_
      have h_67 : vp_in t 40 := ix_T hT q_8
      refine w_zst X hw (hL 37 (by decide)) rfl h_67 dX9_fire_67 (fun H locs hw => ?_)
      refine lv_iload_n hx hb dX9_fire_68 rfl (lv_at hl 0 rfl) ?_
      have hp_69 : po_c_X9_fire x_4 (G, (wU (wU (wU (wU (wU (wU I 22 0 0) 40 t.toNatClampNeg x_5) 33 t.toNatClampNeg 0) 34 t.toNatClampNeg x_6) 35 t.toNatClampNeg 0) 37 t.toNatClampNeg (vp_nar .boolean 0)), J) := by
          obtain rfl := ex_4.symm
          obtain rfl := ex_5.symm
          obtain rfl := ex_6.symm
          rw [epo]
          have ef : f_X9_fire I t = ((I 33 t.toNatClampNeg), (wU (wU (wU (wU (wU (wU I 22 0 0) 40 t.toNatClampNeg ((I 40 t.toNatClampNeg) + (I 33 t.toNatClampNeg))) 33 t.toNatClampNeg 0) 34 t.toNatClampNeg (I 22 1)) 35 t.toNatClampNeg 0) 37 t.toNatClampNeg (vp_nar .boolean 0))) := by unfold f_X9_fire; rw [if_neg q_8]
          exact ⟨⟨by rw [ef], by rw [ef]⟩, rfl, rfl⟩
      exact w_iret X hr hlk hw hp_69 (Nat.le_of_ble_eq_true rfl) (Nat.le_of_ble_eq_true rfl) dX9_fire_69
    · exact absurd (by decide) c_15
def f_X9_look (I : wI) (t : Int32) (w : Int32) : Int32 × wI := (if f_X9_noTree (wU I 22 0 0) t = 1 then (0, (wU (wU I 22 0 0) 22 0 1)) else (if w = 0 then (I 32 t.toNatClampNeg, (wU I 22 0 0)) else (if w = 1 then (I 33 t.toNatClampNeg, (wU I 22 0 0)) else (if w = 2 then (I 34 t.toNatClampNeg, (wU I 22 0 0)) else (if w = 3 then (I 35 t.toNatClampNeg, (wU I 22 0 0)) else (if w = 4 then (I 36 t.toNatClampNeg, (wU I 22 0 0)) else (if w = 5 then (if (I 37 t.toNatClampNeg) = 0 then (0, (wU I 22 0 0)) else (1, (wU I 22 0 0))) else (if w = 6 then (I 38 t.toNatClampNeg, (wU I 22 0 0)) else (if w = 7 then (I 39 t.toNatClampNeg, (wU I 22 0 0)) else (if w = 8 then (I 40 t.toNatClampNeg, (wU I 22 0 0)) else (if w = 9 then (I 41 t.toNatClampNeg, (wU I 22 0 0)) else (0, (wU (wU I 22 0 0) 22 0 2)))))))))))))
theorem fr_f_X9_look (I : wI) (t : Int32) (w : Int32) (q9 : Nat) (h22 : q9 ≠ 22) : (f_X9_look I t w).2 q9 = I q9 := by
  unfold f_X9_look
  repeat' split
  all_goals first | with_reducible rfl | (simp only [wU_ne _ _ _ h22])
set_option maxRecDepth 20000 in
theorem in_X9_look_X9 : ∀ w ∈ u_ws RX9 TX9 42, w ∈ wsX9_look := fun _ h => List.mem_cons_of_mem _ (List.mem_append_right _ h)
set_option maxHeartbeats 4000000 in
set_option maxRecDepth 100000 in
theorem c_X9_look (l : Launch) (D : va_G) (y : Nat → ClassId) (b : Nat) (z : Nat → Nat) (G : wG) (I : wI) (J : wJ) (hL : w_full G) (t : Int32) (w : Int32) (hT : 0 ≤ (I 22 12).toInt ∧ (I 22 12).toInt ≤ 40) : mI l yX9_look wsX9_look { frames := 2, cells := 0, slots := 0, locals := 43 } D y b z G I J [.ref (G.1 22), .int t, .int w] (fun r u => (r = (f_X9_look I t w).1 ∧ u.2.1 = (f_X9_look I t w).2) ∧ u.1 = G ∧ u.2.2 = J) 0 0 := by
  refine w_enter (by decide) rfl (Nat.le_of_ble_eq_true rfl) rfl ?_
  intro p e s m below meth c ls X hr hlk hnm hw hst hl
  have hx := X.1.1
  have hb := X.1.2.1
  obtain ⟨po_c_X9_look, epo⟩ : ∃ qpo9 : Int32 → wS → Prop, qpo9 = (fun r u => (r = (f_X9_look I t w).1 ∧ u.2.1 = (f_X9_look I t w).2) ∧ u.1 = G ∧ u.2.2 = J) := ⟨_, rfl⟩
  rw [← epo]
  refine lv_aload_n hx hb dX9_look_0 rfl (lv_at hl 0 rfl) ?_
  refine lv_iconst (v := 0) hx hb dX9_look_1 (by decide) ?_
  refine w_put X hw 10 0 (hL 22 (by decide)) rfl (by decide) k_X9 in_X9_look_X9 (by decide) (by decide +kernel) rfl rfl (t := .int) (by decide +kernel) rfl rfl (fun _ => rfl) (fun _ => Nat.le_of_ble_eq_true rfl) dX9_look_2 (fun H locs hw => ?_)
  refine lv_aload_n hx hb dX9_look_5 rfl (lv_at hl 0 rfl) ?_
  refine lv_aload_n hx hb dX9_look_6 rfl (lv_at hl 0 rfl) ?_
  refine lv_iload_n hx hb dX9_look_7 rfl (lv_at hl 1 rfl) ?_
  refine w_callVi (As := [.int t]) (rest := [.ref (G.1 22)]) X hw hst hl (c_X9_noTree l D y b z G (wU I 22 0 0) J hL t) (cwV 1 X.1.2.2.2.2 gX9_look_X9_noTree rfl rfl rfl (by decide +kernel) ⟨Nat.le_of_ble_eq_true rfl, Nat.le_of_ble_eq_true rfl⟩) (w_recv X hw (hL 22 (by decide)) rfl (by decide) k_X9) rfl rfl (Nat.le_of_ble_eq_true rfl) dX9_look_8 ⟨Nat.le_of_ble_eq_true rfl, Nat.le_of_ble_eq_true rfl⟩ (fun r_8_1 u H locs hp_8 hw => ?_)
  obtain ⟨hp_8, rfl⟩ := hp_8
  dsimp only at hw
  rcases f_X9_noTree_01  (wU I 22 0 0) t with q_8 | ⟨q_8, q0_8⟩
  · rw [q_8] at hp_8
    subst r_8_1
    refine lv_iconst (v := 1) hx hb dX9_look_11 (by decide) ?_
    refine w_callVi (As := [.int 1, .int 1]) (rest := []) X hw hst hl (c_X9_throwsIf1 l D y b z G (wU I 22 0 0) J hL 1) (cwV 2 X.1.2.2.2.2 gX9_look_X9_throwsIf rfl rfl rfl (by decide +kernel) ⟨Nat.le_of_ble_eq_true rfl, Nat.le_of_ble_eq_true rfl⟩) (w_recv X hw (hL 22 (by decide)) rfl (by decide) k_X9) rfl rfl (Nat.le_of_ble_eq_true rfl) dX9_look_12 ⟨Nat.le_of_ble_eq_true rfl, Nat.le_of_ble_eq_true rfl⟩ (fun r_12_2 u H locs hp_12 hw => ?_)
    obtain ⟨G_12_2, I_12_2, J_12_2⟩ := u
    dsimp only at hw hp_12
    obtain ⟨⟨hp_12, hI_12_2⟩, eG_12, eJ_12⟩ := hp_12
    subst G_12_2 J_12_2
    subst r_12_2
    refine lv_if_eq (tgt := 20) hx hb dX9_look_15 (by decide) (fun c_15 => ?_) (fun c_15 => ?_)
    · exact absurd c_15 (by decide)
    · refine lv_iconst (v := 0) hx hb dX9_look_18 (by decide) ?_
      have hp_19 : po_c_X9_look 0 (G, I_12_2, J) := by
          obtain rfl := hI_12_2.symm
          rw [epo]
          have ef : f_X9_look I t w = (0, (wU (wU I 22 0 0) 22 0 1)) := by unfold f_X9_look; rw [if_pos q_8]
          exact ⟨⟨by rw [ef], by rw [ef]⟩, rfl, rfl⟩
      exact w_iret X hr hlk hw hp_19 (Nat.le_of_ble_eq_true rfl) (Nat.le_of_ble_eq_true rfl) dX9_look_19
  · rw [q0_8] at hp_8
    subst r_8_1
    refine lv_iconst (v := 1) hx hb dX9_look_11 (by decide) ?_
    refine w_callVi (As := [.int 0, .int 1]) (rest := []) X hw hst hl (c_X9_throwsIf0 l D y b z G (wU I 22 0 0) J hL 1) (cwV 2 X.1.2.2.2.2 gX9_look_X9_throwsIf rfl rfl rfl (by decide +kernel) ⟨Nat.le_of_ble_eq_true rfl, Nat.le_of_ble_eq_true rfl⟩) (w_recv X hw (hL 22 (by decide)) rfl (by decide) k_X9) rfl rfl (Nat.le_of_ble_eq_true rfl) dX9_look_12 ⟨Nat.le_of_ble_eq_true rfl, Nat.le_of_ble_eq_true rfl⟩ (fun r_12_3 u H locs hp_12 hw => ?_)
    obtain ⟨hp_12, rfl⟩ := hp_12
    dsimp only at hw
    subst r_12_3
    refine lv_if_eq (tgt := 20) hx hb dX9_look_15 (by decide) (fun c_15 => ?_) (fun c_15 => ?_)
    · refine lv_iload_n hx hb dX9_look_20 rfl (lv_at hl 2 rfl) ?_
      by_cases s_21_0 : w = 0
      · refine lv_tableIn (tgt := 76) hx hb dX9_look_21 (by rw [s_21_0]; decide) (by rw [s_21_0]; decide) (by rw [s_21_0]; rfl) (by decide) ?_
        refine lv_aload_n hx hb dX9_look_76 rfl (lv_at hl 0 rfl) ?_
        refine w_get X hw 10 2 (hL 22 (by decide)) rfl (by decide) k_X9 in_X9_look_X9 (by decide) (by decide +kernel) rfl (v := .ref (G.1 32)) rfl dX9_look_77 ?_
        refine lv_iload_n hx hb dX9_look_80 rfl (lv_at hl 1 rfl) ?_
        have h_81 : vp_in t 40 := ix_T hT q_8
        refine w_ild X hw (hL 32 (by decide)) rfl h_81 dX9_look_81 ?_
        refine W.eq (g2 := F0 m 82 ls [.int (I 32 t.toNatClampNeg)]) rfl ?_
        have hp_82 : po_c_X9_look (I 32 t.toNatClampNeg) (G, (wU I 22 0 0), J) := by
            rw [epo]
            have ef : f_X9_look I t w = (I 32 t.toNatClampNeg, (wU I 22 0 0)) := by unfold f_X9_look; rw [if_neg q_8, if_pos s_21_0]
            exact ⟨⟨by rw [ef], by rw [ef]⟩, rfl, rfl⟩
        exact w_iret X hr hlk hw hp_82 (Nat.le_of_ble_eq_true rfl) (Nat.le_of_ble_eq_true rfl) dX9_look_82
      by_cases s_21_1 : w = 1
      · refine lv_tableIn (tgt := 83) hx hb dX9_look_21 (by rw [s_21_1]; decide) (by rw [s_21_1]; decide) (by rw [s_21_1]; rfl) (by decide) ?_
        refine lv_aload_n hx hb dX9_look_83 rfl (lv_at hl 0 rfl) ?_
        refine w_get X hw 10 3 (hL 22 (by decide)) rfl (by decide) k_X9 in_X9_look_X9 (by decide) (by decide +kernel) rfl (v := .ref (G.1 33)) rfl dX9_look_84 ?_
        refine lv_iload_n hx hb dX9_look_87 rfl (lv_at hl 1 rfl) ?_
        have h_88 : vp_in t 40 := ix_T hT q_8
        refine w_ild X hw (hL 33 (by decide)) rfl h_88 dX9_look_88 ?_
        refine W.eq (g2 := F0 m 89 ls [.int (I 33 t.toNatClampNeg)]) rfl ?_
        have hp_89 : po_c_X9_look (I 33 t.toNatClampNeg) (G, (wU I 22 0 0), J) := by
            rw [epo]
            have ef : f_X9_look I t w = (I 33 t.toNatClampNeg, (wU I 22 0 0)) := by unfold f_X9_look; rw [if_neg q_8, if_neg s_21_0, if_pos s_21_1]
            exact ⟨⟨by rw [ef], by rw [ef]⟩, rfl, rfl⟩
        exact w_iret X hr hlk hw hp_89 (Nat.le_of_ble_eq_true rfl) (Nat.le_of_ble_eq_true rfl) dX9_look_89
      by_cases s_21_2 : w = 2
      · refine lv_tableIn (tgt := 90) hx hb dX9_look_21 (by rw [s_21_2]; decide) (by rw [s_21_2]; decide) (by rw [s_21_2]; rfl) (by decide) ?_
        refine lv_aload_n hx hb dX9_look_90 rfl (lv_at hl 0 rfl) ?_
        refine w_get X hw 10 4 (hL 22 (by decide)) rfl (by decide) k_X9 in_X9_look_X9 (by decide) (by decide +kernel) rfl (v := .ref (G.1 34)) rfl dX9_look_91 ?_
        refine lv_iload_n hx hb dX9_look_94 rfl (lv_at hl 1 rfl) ?_
        have h_95 : vp_in t 40 := ix_T hT q_8
        refine w_ild X hw (hL 34 (by decide)) rfl h_95 dX9_look_95 ?_
        refine W.eq (g2 := F0 m 96 ls [.int (I 34 t.toNatClampNeg)]) rfl ?_
        have hp_96 : po_c_X9_look (I 34 t.toNatClampNeg) (G, (wU I 22 0 0), J) := by
            rw [epo]
            have ef : f_X9_look I t w = (I 34 t.toNatClampNeg, (wU I 22 0 0)) := by unfold f_X9_look; rw [if_neg q_8, if_neg s_21_0, if_neg s_21_1, if_pos s_21_2]
            exact ⟨⟨by rw [ef], by rw [ef]⟩, rfl, rfl⟩
        exact w_iret X hr hlk hw hp_96 (Nat.le_of_ble_eq_true rfl) (Nat.le_of_ble_eq_true rfl) dX9_look_96
      by_cases s_21_3 : w = 3
      · refine lv_tableIn (tgt := 97) hx hb dX9_look_21 (by rw [s_21_3]; decide) (by rw [s_21_3]; decide) (by rw [s_21_3]; rfl) (by decide) ?_
        refine lv_aload_n hx hb dX9_look_97 rfl (lv_at hl 0 rfl) ?_
        refine w_get X hw 10 5 (hL 22 (by decide)) rfl (by decide) k_X9 in_X9_look_X9 (by decide) (by decide +kernel) rfl (v := .ref (G.1 35)) rfl dX9_look_98 ?_
        refine lv_iload_n hx hb dX9_look_101 rfl (lv_at hl 1 rfl) ?_
        have h_102 : vp_in t 40 := ix_T hT q_8
        refine w_ild X hw (hL 35 (by decide)) rfl h_102 dX9_look_102 ?_
        refine W.eq (g2 := F0 m 103 ls [.int (I 35 t.toNatClampNeg)]) rfl ?_
        have hp_103 : po_c_X9_look (I 35 t.toNatClampNeg) (G, (wU I 22 0 0), J) := by
            rw [epo]
            have ef : f_X9_look I t w = (I 35 t.toNatClampNeg, (wU I 22 0 0)) := by unfold f_X9_look; rw [if_neg q_8, if_neg s_21_0, if_neg s_21_1, if_neg s_21_2, if_pos s_21_3]
            exact ⟨⟨by rw [ef], by rw [ef]⟩, rfl, rfl⟩
        exact w_iret X hr hlk hw hp_103 (Nat.le_of_ble_eq_true rfl) (Nat.le_of_ble_eq_true rfl) dX9_look_103
      by_cases s_21_4 : w = 4
      · refine lv_tableIn (tgt := 104) hx hb dX9_look_21 (by rw [s_21_4]; decide) (by rw [s_21_4]; decide) (by rw [s_21_4]; rfl) (by decide) ?_
        refine lv_aload_n hx hb dX9_look_104 rfl (lv_at hl 0 rfl) ?_
        refine w_get X hw 10 6 (hL 22 (by decide)) rfl (by decide) k_X9 in_X9_look_X9 (by decide) (by decide +kernel) rfl (v := .ref (G.1 36)) rfl dX9_look_105 ?_
        refine lv_iload_n hx hb dX9_look_108 rfl (lv_at hl 1 rfl) ?_
        have h_109 : vp_in t 40 := ix_T hT q_8
        refine w_ild X hw (hL 36 (by decide)) rfl h_109 dX9_look_109 ?_
        refine W.eq (g2 := F0 m 110 ls [.int (I 36 t.toNatClampNeg)]) rfl ?_
        have hp_110 : po_c_X9_look (I 36 t.toNatClampNeg) (G, (wU I 22 0 0), J) := by
            rw [epo]
            have ef : f_X9_look I t w = (I 36 t.toNatClampNeg, (wU I 22 0 0)) := by unfold f_X9_look; rw [if_neg q_8, if_neg s_21_0, if_neg s_21_1, if_neg s_21_2, if_neg s_21_3, if_pos s_21_4]
            exact ⟨⟨by rw [ef], by rw [ef]⟩, rfl, rfl⟩
        exact w_iret X hr hlk hw hp_110 (Nat.le_of_ble_eq_true rfl) (Nat.le_of_ble_eq_true rfl) dX9_look_110
      by_cases s_21_5 : w = 5
      · refine lv_tableIn (tgt := 111) hx hb dX9_look_21 (by rw [s_21_5]; decide) (by rw [s_21_5]; decide) (by rw [s_21_5]; rfl) (by decide) ?_
        refine lv_aload_n hx hb dX9_look_111 rfl (lv_at hl 0 rfl) ?_
        refine w_get X hw 10 7 (hL 22 (by decide)) rfl (by decide) k_X9 in_X9_look_X9 (by decide) (by decide +kernel) rfl (v := .ref (G.1 37)) rfl dX9_look_112 ?_
        refine lv_iload_n hx hb dX9_look_115 rfl (lv_at hl 1 rfl) ?_
        have h_116 : vp_in t 40 := ix_T hT q_8
        refine w_zld X hw (hL 37 (by decide)) rfl h_116 dX9_look_116 ?_
        refine W.eq (g2 := F0 m 117 ls [.int (I 37 t.toNatClampNeg)]) rfl ?_
        refine lv_if_eq (tgt := 124) hx hb dX9_look_117 (by decide) (fun c_117 => ?_) (fun c_117 => ?_)
        · refine lv_iconst (v := 0) hx hb dX9_look_124 (by decide) ?_
          have hp_125 : po_c_X9_look 0 (G, (wU I 22 0 0), J) := by
              rw [epo]
              have ef : f_X9_look I t w = (0, (wU I 22 0 0)) := by unfold f_X9_look; rw [if_neg q_8, if_neg s_21_0, if_neg s_21_1, if_neg s_21_2, if_neg s_21_3, if_neg s_21_4, if_pos s_21_5, if_pos c_117]
              exact ⟨⟨by rw [ef], by rw [ef]⟩, rfl, rfl⟩
          exact w_iret X hr hlk hw hp_125 (Nat.le_of_ble_eq_true rfl) (Nat.le_of_ble_eq_true rfl) dX9_look_125
        · refine lv_iconst (v := 1) hx hb dX9_look_120 (by decide) ?_
          refine lv_goto (tgt := 125) hx hb dX9_look_121 (by decide) ?_
          have hp_125 : po_c_X9_look 1 (G, (wU I 22 0 0), J) := by
              rw [epo]
              have ef : f_X9_look I t w = (1, (wU I 22 0 0)) := by unfold f_X9_look; rw [if_neg q_8, if_neg s_21_0, if_neg s_21_1, if_neg s_21_2, if_neg s_21_3, if_neg s_21_4, if_pos s_21_5, if_neg c_117]
              exact ⟨⟨by rw [ef], by rw [ef]⟩, rfl, rfl⟩
          exact w_iret X hr hlk hw hp_125 (Nat.le_of_ble_eq_true rfl) (Nat.le_of_ble_eq_true rfl) dX9_look_125
      by_cases s_21_6 : w = 6
      · refine lv_tableIn (tgt := 126) hx hb dX9_look_21 (by rw [s_21_6]; decide) (by rw [s_21_6]; decide) (by rw [s_21_6]; rfl) (by decide) ?_
        refine lv_aload_n hx hb dX9_look_126 rfl (lv_at hl 0 rfl) ?_
        refine w_get X hw 10 8 (hL 22 (by decide)) rfl (by decide) k_X9 in_X9_look_X9 (by decide) (by decide +kernel) rfl (v := .ref (G.1 38)) rfl dX9_look_127 ?_
        refine lv_iload_n hx hb dX9_look_130 rfl (lv_at hl 1 rfl) ?_
        have h_131 : vp_in t 40 := ix_T hT q_8
        refine w_ild X hw (hL 38 (by decide)) rfl h_131 dX9_look_131 ?_
        refine W.eq (g2 := F0 m 132 ls [.int (I 38 t.toNatClampNeg)]) rfl ?_
        have hp_132 : po_c_X9_look (I 38 t.toNatClampNeg) (G, (wU I 22 0 0), J) := by
            rw [epo]
            have ef : f_X9_look I t w = (I 38 t.toNatClampNeg, (wU I 22 0 0)) := by unfold f_X9_look; rw [if_neg q_8, if_neg s_21_0, if_neg s_21_1, if_neg s_21_2, if_neg s_21_3, if_neg s_21_4, if_neg s_21_5, if_pos s_21_6]
            exact ⟨⟨by rw [ef], by rw [ef]⟩, rfl, rfl⟩
        exact w_iret X hr hlk hw hp_132 (Nat.le_of_ble_eq_true rfl) (Nat.le_of_ble_eq_true rfl) dX9_look_132
      by_cases s_21_7 : w = 7
      · refine lv_tableIn (tgt := 133) hx hb dX9_look_21 (by rw [s_21_7]; decide) (by rw [s_21_7]; decide) (by rw [s_21_7]; rfl) (by decide) ?_
        refine lv_aload_n hx hb dX9_look_133 rfl (lv_at hl 0 rfl) ?_
        refine w_get X hw 10 9 (hL 22 (by decide)) rfl (by decide) k_X9 in_X9_look_X9 (by decide) (by decide +kernel) rfl (v := .ref (G.1 39)) rfl dX9_look_134 ?_
        refine lv_iload_n hx hb dX9_look_137 rfl (lv_at hl 1 rfl) ?_
        have h_138 : vp_in t 40 := ix_T hT q_8
        refine w_ild X hw (hL 39 (by decide)) rfl h_138 dX9_look_138 ?_
        refine W.eq (g2 := F0 m 139 ls [.int (I 39 t.toNatClampNeg)]) rfl ?_
        have hp_139 : po_c_X9_look (I 39 t.toNatClampNeg) (G, (wU I 22 0 0), J) := by
            rw [epo]
            have ef : f_X9_look I t w = (I 39 t.toNatClampNeg, (wU I 22 0 0)) := by unfold f_X9_look; rw [if_neg q_8, if_neg s_21_0, if_neg s_21_1, if_neg s_21_2, if_neg s_21_3, if_neg s_21_4, if_neg s_21_5, if_neg s_21_6, if_pos s_21_7]
            exact ⟨⟨by rw [ef], by rw [ef]⟩, rfl, rfl⟩
        exact w_iret X hr hlk hw hp_139 (Nat.le_of_ble_eq_true rfl) (Nat.le_of_ble_eq_true rfl) dX9_look_139
      by_cases s_21_8 : w = 8
      · refine lv_tableIn (tgt := 140) hx hb dX9_look_21 (by rw [s_21_8]; decide) (by rw [s_21_8]; decide) (by rw [s_21_8]; rfl) (by decide) ?_
        refine lv_aload_n hx hb dX9_look_140 rfl (lv_at hl 0 rfl) ?_
        refine w_get X hw 10 10 (hL 22 (by decide)) rfl (by decide) k_X9 in_X9_look_X9 (by decide) (by decide +kernel) rfl (v := .ref (G.1 40)) rfl dX9_look_141 ?_
        refine lv_iload_n hx hb dX9_look_144 rfl (lv_at hl 1 rfl) ?_
        have h_145 : vp_in t 40 := ix_T hT q_8
        refine w_ild X hw (hL 40 (by decide)) rfl h_145 dX9_look_145 ?_
        refine W.eq (g2 := F0 m 146 ls [.int (I 40 t.toNatClampNeg)]) rfl ?_
        have hp_146 : po_c_X9_look (I 40 t.toNatClampNeg) (G, (wU I 22 0 0), J) := by
            rw [epo]
            have ef : f_X9_look I t w = (I 40 t.toNatClampNeg, (wU I 22 0 0)) := by unfold f_X9_look; rw [if_neg q_8, if_neg s_21_0, if_neg s_21_1, if_neg s_21_2, if_neg s_21_3, if_neg s_21_4, if_neg s_21_5, if_neg s_21_6, if_neg s_21_7, if_pos s_21_8]
            exact ⟨⟨by rw [ef], by rw [ef]⟩, rfl, rfl⟩
        exact w_iret X hr hlk hw hp_146 (Nat.le_of_ble_eq_true rfl) (Nat.le_of_ble_eq_true rfl) dX9_look_146
      by_cases s_21_9 : w = 9
      · refine lv_tableIn (tgt := 147) hx hb dX9_look_21 (by rw [s_21_9]; decide) (by rw [s_21_9]; decide) (by rw [s_21_9]; rfl) (by decide) ?_
        refine lv_aload_n hx hb dX9_look_147 rfl (lv_at hl 0 rfl) ?_
        refine w_get X hw 10 11 (hL 22 (by decide)) rfl (by decide) k_X9 in_X9_look_X9 (by decide) (by decide +kernel) rfl (v := .ref (G.1 41)) rfl dX9_look_148 ?_
        refine lv_iload_n hx hb dX9_look_151 rfl (lv_at hl 1 rfl) ?_
        have h_152 : vp_in t 40 := ix_T hT q_8
        refine w_ild X hw (hL 41 (by decide)) rfl h_152 dX9_look_152 ?_
        refine W.eq (g2 := F0 m 153 ls [.int (I 41 t.toNatClampNeg)]) rfl ?_
        have hp_153 : po_c_X9_look (I 41 t.toNatClampNeg) (G, (wU I 22 0 0), J) := by
            rw [epo]
            have ef : f_X9_look I t w = (I 41 t.toNatClampNeg, (wU I 22 0 0)) := by unfold f_X9_look; rw [if_neg q_8, if_neg s_21_0, if_neg s_21_1, if_neg s_21_2, if_neg s_21_3, if_neg s_21_4, if_neg s_21_5, if_neg s_21_6, if_neg s_21_7, if_neg s_21_8, if_pos s_21_9]
            exact ⟨⟨by rw [ef], by rw [ef]⟩, rfl, rfl⟩
        exact w_iret X hr hlk hw hp_153 (Nat.le_of_ble_eq_true rfl) (Nat.le_of_ble_eq_true rfl) dX9_look_153
      refine lv_tableOut (tgt := 154) hx hb dX9_look_21 (sw_out w 0 9 (fun j h1 h2 => by
        rcases (show j = 0 ∨ j = 1 ∨ j = 2 ∨ j = 3 ∨ j = 4 ∨ j = 5 ∨ j = 6 ∨ j = 7 ∨ j = 8 ∨ j = 9 by omega) with rfl | rfl | rfl | rfl | rfl | rfl | rfl | rfl | rfl | rfl
        · exact lv_neT s_21_0 (by decide)
        · exact lv_neT s_21_1 (by decide)
        · exact lv_neT s_21_2 (by decide)
        · exact lv_neT s_21_3 (by decide)
        · exact lv_neT s_21_4 (by decide)
        · exact lv_neT s_21_5 (by decide)
        · exact lv_neT s_21_6 (by decide)
        · exact lv_neT s_21_7 (by decide)
        · exact lv_neT s_21_8 (by decide)
        · exact lv_neT s_21_9 (by decide))) (by decide) ?_
      refine lv_aload_n hx hb dX9_look_154 rfl (lv_at hl 0 rfl) ?_
      refine lv_iconst (v := 2) hx hb dX9_look_155 (by decide) ?_
      refine w_put X hw 10 0 (hL 22 (by decide)) rfl (by decide) k_X9 in_X9_look_X9 (by decide) (by decide +kernel) rfl rfl (t := .int) (by decide +kernel) rfl rfl (fun _ => rfl) (fun _ => Nat.le_of_ble_eq_true rfl) dX9_look_156 (fun H locs hw => ?_)
      refine lv_iconst (v := 0) hx hb dX9_look_159 (by decide) ?_
      have hp_160 : po_c_X9_look 0 (G, (wU (wU I 22 0 0) 22 0 2), J) := by
          rw [epo]
          have ef : f_X9_look I t w = (0, (wU (wU I 22 0 0) 22 0 2)) := by unfold f_X9_look; rw [if_neg q_8, if_neg s_21_0, if_neg s_21_1, if_neg s_21_2, if_neg s_21_3, if_neg s_21_4, if_neg s_21_5, if_neg s_21_6, if_neg s_21_7, if_neg s_21_8, if_neg s_21_9]
          exact ⟨⟨by rw [ef], by rw [ef]⟩, rfl, rfl⟩
      exact w_iret X hr hlk hw hp_160 (Nat.le_of_ble_eq_true rfl) (Nat.le_of_ble_eq_true rfl) dX9_look_160
    · exact absurd (by decide) c_15
def f_X9_end (I : wI) (n : Int32) : Int32 × wI := (if n < 0 then (0, (wU I 22 0 0)) else (if n ≤ (I 22 23) then (1, (wU (wU I 22 0 0) 22 23 n)) else (0, (wU I 22 0 0))))
theorem fr_f_X9_end (I : wI) (n : Int32) (q9 : Nat) (h22 : q9 ≠ 22) : (f_X9_end I n).2 q9 = I q9 := by
  unfold f_X9_end
  repeat' split
  all_goals first | with_reducible rfl | (simp only [wU_ne _ _ _ h22])
set_option maxRecDepth 20000 in
theorem in_X9_end_X9 : ∀ w ∈ u_ws RX9 TX9 42, w ∈ wsX9_end := fun _ h => List.mem_cons_of_mem _ (List.mem_append_right _ h)
set_option maxHeartbeats 4000000 in
set_option maxRecDepth 100000 in
theorem c_X9_end (l : Launch) (D : va_G) (y : Nat → ClassId) (b : Nat) (z : Nat → Nat) (G : wG) (I : wI) (J : wJ) (hL : w_full G) (n : Int32)  : mI l yX9_end wsX9_end { frames := 0, cells := 0, slots := 0, locals := 0 } D y b z G I J [.ref (G.1 22), .int n] (fun r u => (r = (f_X9_end I n).1 ∧ u.2.1 = (f_X9_end I n).2) ∧ u.1 = G ∧ u.2.2 = J) 0 0 := by
  refine w_enter (by decide) rfl (Nat.le_of_ble_eq_true rfl) rfl ?_
  intro p e s m below meth c ls X hr hlk hnm hw hst hl
  have hx := X.1.1
  have hb := X.1.2.1
  obtain ⟨po_c_X9_end, epo⟩ : ∃ qpo9 : Int32 → wS → Prop, qpo9 = (fun r u => (r = (f_X9_end I n).1 ∧ u.2.1 = (f_X9_end I n).2) ∧ u.1 = G ∧ u.2.2 = J) := ⟨_, rfl⟩
  rw [← epo]
  refine lv_aload_n hx hb dX9_end_0 rfl (lv_at hl 0 rfl) ?_
  refine lv_iconst (v := 0) hx hb dX9_end_1 (by decide) ?_
  refine w_put X hw 10 0 (hL 22 (by decide)) rfl (by decide) k_X9 in_X9_end_X9 (by decide) (by decide +kernel) rfl rfl (t := .int) (by decide +kernel) rfl rfl (fun _ => rfl) (fun _ => Nat.le_of_ble_eq_true rfl) dX9_end_2 (fun H locs hw => ?_)
  refine lv_iload_n hx hb dX9_end_5 rfl (lv_at hl 1 rfl) ?_
  refine lv_if_lt (tgt := 17) hx hb dX9_end_6 (by decide) (fun c_6 => ?_) (fun c_6 => ?_)
  · refine lv_iconst (v := 0) hx hb dX9_end_17 (by decide) ?_
    have hp_18 : po_c_X9_end 0 (G, (wU I 22 0 0), J) := by
        rw [epo]
        have ef : f_X9_end I n = (0, (wU I 22 0 0)) := by unfold f_X9_end; rw [if_pos c_6]
        exact ⟨⟨by rw [ef], by rw [ef]⟩, rfl, rfl⟩
    exact w_zret X hr (by decide) hlk hw hp_18 (Nat.le_of_ble_eq_true rfl) (Nat.le_of_ble_eq_true rfl) dX9_end_18
  · refine lv_iload_n hx hb dX9_end_9 rfl (lv_at hl 1 rfl) ?_
    refine lv_aload_n hx hb dX9_end_10 rfl (lv_at hl 0 rfl) ?_
    refine w_get X hw 10 23 (hL 22 (by decide)) rfl (by decide) k_X9 in_X9_end_X9 (by decide) (by decide +kernel) rfl (v := .int (I 22 23)) rfl dX9_end_11 ?_
    refine lv_icmp_le (tgt := 19) hx hb dX9_end_14 (by decide) (fun c_14 => ?_) (fun c_14 => ?_)
    · refine lv_aload_n hx hb dX9_end_19 rfl (lv_at hl 0 rfl) ?_
      refine lv_iload_n hx hb dX9_end_20 rfl (lv_at hl 1 rfl) ?_
      refine w_put X hw 10 23 (hL 22 (by decide)) rfl (by decide) k_X9 in_X9_end_X9 (by decide) (by decide +kernel) rfl rfl (t := .int) (by decide +kernel) rfl rfl (fun _ => rfl) (fun _ => Nat.le_of_ble_eq_true rfl) dX9_end_21 (fun H locs hw => ?_)
      refine lv_iconst (v := 1) hx hb dX9_end_24 (by decide) ?_
      have hp_25 : po_c_X9_end 1 (G, (wU (wU I 22 0 0) 22 23 n), J) := by
          rw [epo]
          have ef : f_X9_end I n = (1, (wU (wU I 22 0 0) 22 23 n)) := by unfold f_X9_end; rw [if_neg c_6, if_pos c_14]
          exact ⟨⟨by rw [ef], by rw [ef]⟩, rfl, rfl⟩
      exact w_zret X hr (by decide) hlk hw hp_25 (Nat.le_of_ble_eq_true rfl) (Nat.le_of_ble_eq_true rfl) dX9_end_25
    · refine lv_iconst (v := 0) hx hb dX9_end_17 (by decide) ?_
      have hp_18 : po_c_X9_end 0 (G, (wU I 22 0 0), J) := by
          rw [epo]
          have ef : f_X9_end I n = (0, (wU I 22 0 0)) := by unfold f_X9_end; rw [if_neg c_6, if_neg c_14]
          exact ⟨⟨by rw [ef], by rw [ef]⟩, rfl, rfl⟩
      exact w_zret X hr (by decide) hlk hw hp_18 (Nat.le_of_ble_eq_true rfl) (Nat.le_of_ble_eq_true rfl) dX9_end_18
def f_X9_fault (I : wI)  : Int32 × wI := (I 22 28, (wU I 22 0 0))
theorem fr_f_X9_fault (I : wI)  (q9 : Nat) (h22 : q9 ≠ 22) : (f_X9_fault I).2 q9 = I q9 := by
  unfold f_X9_fault
  repeat' split
  all_goals first | with_reducible rfl | (simp only [wU_ne _ _ _ h22])
set_option maxRecDepth 20000 in
theorem in_X9_fault_X9 : ∀ w ∈ u_ws RX9 TX9 42, w ∈ wsX9_fault := fun _ h => List.mem_cons_of_mem _ (List.mem_append_right _ h)
set_option maxHeartbeats 4000000 in
set_option maxRecDepth 100000 in
theorem c_X9_fault (l : Launch) (D : va_G) (y : Nat → ClassId) (b : Nat) (z : Nat → Nat) (G : wG) (I : wI) (J : wJ) (hL : w_full G)   : mI l yX9_fault wsX9_fault { frames := 0, cells := 0, slots := 0, locals := 0 } D y b z G I J [.ref (G.1 22)] (fun r u => (r = (f_X9_fault I).1 ∧ u.2.1 = (f_X9_fault I).2) ∧ u.1 = G ∧ u.2.2 = J) 0 0 := by
  refine w_enter (by decide) rfl (Nat.le_of_ble_eq_true rfl) rfl ?_
  intro p e s m below meth c ls X hr hlk hnm hw hst hl
  have hx := X.1.1
  have hb := X.1.2.1
  obtain ⟨po_c_X9_fault, epo⟩ : ∃ qpo9 : Int32 → wS → Prop, qpo9 = (fun r u => (r = (f_X9_fault I).1 ∧ u.2.1 = (f_X9_fault I).2) ∧ u.1 = G ∧ u.2.2 = J) := ⟨_, rfl⟩
  rw [← epo]
  refine lv_aload_n hx hb dX9_fault_0 rfl (lv_at hl 0 rfl) ?_
  refine lv_iconst (v := 0) hx hb dX9_fault_1 (by decide) ?_
  refine w_put X hw 10 0 (hL 22 (by decide)) rfl (by decide) k_X9 in_X9_fault_X9 (by decide) (by decide +kernel) rfl rfl (t := .int) (by decide +kernel) rfl rfl (fun _ => rfl) (fun _ => Nat.le_of_ble_eq_true rfl) dX9_fault_2 (fun H locs hw => ?_)
  refine lv_aload_n hx hb dX9_fault_5 rfl (lv_at hl 0 rfl) ?_
  refine w_get X hw 10 28 (hL 22 (by decide)) rfl (by decide) k_X9 in_X9_fault_X9 (by decide) (by decide +kernel) rfl (v := .int (I 22 28)) rfl dX9_fault_6 ?_
  have hp_9 : po_c_X9_fault (I 22 28) (G, (wU I 22 0 0), J) := by
      rw [epo]
      have ef : f_X9_fault I = (I 22 28, (wU I 22 0 0)) := rfl
      exact ⟨⟨by rw [ef], by rw [ef]⟩, rfl, rfl⟩
  exact w_iret X hr hlk hw hp_9 (Nat.le_of_ble_eq_true rfl) (Nat.le_of_ble_eq_true rfl) dX9_fault_9
def f_X9_unsort (I : wI)  : Int32 × wI := ((I 22 34), (wU (wU I 22 0 0) 22 34 0))
theorem fr_f_X9_unsort (I : wI)  (q9 : Nat) (h22 : q9 ≠ 22) : (f_X9_unsort I).2 q9 = I q9 := by
  unfold f_X9_unsort
  repeat' split
  all_goals first | with_reducible rfl | (simp only [wU_ne _ _ _ h22])
set_option maxRecDepth 20000 in
theorem in_X9_unsort_X9 : ∀ w ∈ u_ws RX9 TX9 42, w ∈ wsX9_unsort := fun _ h => List.mem_cons_of_mem _ (List.mem_append_right _ h)
set_option maxHeartbeats 4000000 in
set_option maxRecDepth 100000 in
theorem c_X9_unsort (l : Launch) (D : va_G) (y : Nat → ClassId) (b : Nat) (z : Nat → Nat) (G : wG) (I : wI) (J : wJ) (hL : w_full G)   : mI l yX9_unsort wsX9_unsort { frames := 0, cells := 0, slots := 0, locals := 0 } D y b z G I J [.ref (G.1 22)] (fun r u => (r = (f_X9_unsort I).1 ∧ u.2.1 = (f_X9_unsort I).2) ∧ u.1 = G ∧ u.2.2 = J) 0 0 := by
  refine w_enter (by decide) rfl (Nat.le_of_ble_eq_true rfl) rfl ?_
  intro p e s m below meth c ls X hr hlk hnm hw hst hl
  have hx := X.1.1
  have hb := X.1.2.1
  obtain ⟨po_c_X9_unsort, epo⟩ : ∃ qpo9 : Int32 → wS → Prop, qpo9 = (fun r u => (r = (f_X9_unsort I).1 ∧ u.2.1 = (f_X9_unsort I).2) ∧ u.1 = G ∧ u.2.2 = J) := ⟨_, rfl⟩
  rw [← epo]
  refine lv_aload_n hx hb dX9_unsort_0 rfl (lv_at hl 0 rfl) ?_
  refine lv_iconst (v := 0) hx hb dX9_unsort_1 (by decide) ?_
  refine w_put X hw 10 0 (hL 22 (by decide)) rfl (by decide) k_X9 in_X9_unsort_X9 (by decide) (by decide +kernel) rfl rfl (t := .int) (by decide +kernel) rfl rfl (fun _ => rfl) (fun _ => Nat.le_of_ble_eq_true rfl) dX9_unsort_2 (fun H locs hw => ?_)
  refine lv_aload_n hx hb dX9_unsort_5 rfl (lv_at hl 0 rfl) ?_
  refine w_get X hw 10 34 (hL 22 (by decide)) rfl (by decide) k_X9 in_X9_unsort_X9 (by decide) (by decide +kernel) rfl (v := .int (I 22 34)) rfl dX9_unsort_6 ?_
  refine lv_topi (fun x_1 ex_1 => ?_)
  refine lv_istore_n (lv' := [(1, .int x_1), (0, .ref (G.1 22))]) hx hb dX9_unsort_9 rfl hl (by decide) rfl (fun ls hl => ?_)
  refine lv_aload_n hx hb dX9_unsort_10 rfl (lv_at hl 1 rfl) ?_
  refine lv_iconst (v := 0) hx hb dX9_unsort_11 (by decide) ?_
  refine w_put X hw 10 34 (hL 22 (by decide)) rfl (by decide) k_X9 in_X9_unsort_X9 (by decide) (by decide +kernel) rfl rfl (t := .int) (by decide +kernel) rfl rfl (fun _ => rfl) (fun _ => Nat.le_of_ble_eq_true rfl) dX9_unsort_12 (fun H locs hw => ?_)
  refine lv_iload_n hx hb dX9_unsort_15 rfl (lv_at hl 0 rfl) ?_
  have hp_16 : po_c_X9_unsort x_1 (G, (wU (wU I 22 0 0) 22 34 0), J) := by
      obtain rfl := ex_1.symm
      rw [epo]
      have ef : f_X9_unsort I = ((I 22 34), (wU (wU I 22 0 0) 22 34 0)) := rfl
      exact ⟨⟨by rw [ef], by rw [ef]⟩, rfl, rfl⟩
  exact w_iret X hr hlk hw hp_16 (Nat.le_of_ble_eq_true rfl) (Nat.le_of_ble_eq_true rfl) dX9_unsort_16
