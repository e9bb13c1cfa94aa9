def f_X9_strip (I : wI) (t : Int32) (h : Int32) : Int32 × wI := (if f_X9_noTree (wU I 22 0 0) t = 1 then (0, (wU (wU I 22 0 0) 22 0 1)) else (if f_X9_in (wU I 22 0 0) h 1 3000 = 1 then (if (f_X9_against (wU I 22 0 0) t h) ≤ 0 then (((I 22 16) + 1) - 1, (wU (wU (wU (wU (wU (wU (wU (wU (wU (wU (wU (wU (wU I 22 0 0) 45 ((6 : Int32) * (I 22 16)).toNatClampNeg t) 45 (((6 : Int32) * (I 22 16)) + 1).toNatClampNeg (I 22 1)) 45 (((6 : Int32) * (I 22 16)) + 2).toNatClampNeg h) 45 (((6 : Int32) * (I 22 16)) + 3).toNatClampNeg (I 32 t.toNatClampNeg)) 45 (((6 : Int32) * (I 22 16)) + 4).toNatClampNeg (I 33 t.toNatClampNeg)) 45 (((6 : Int32) * (I 22 16)) + 5).toNatClampNeg (-1)) 22 16 ((I 22 16) + 1)) 39 t.toNatClampNeg ((I 39 t.toNatClampNeg) + (I 33 t.toNatClampNeg))) 33 t.toNatClampNeg 0) 34 t.toNatClampNeg (I 22 1)) 35 t.toNatClampNeg h) 37 t.toNatClampNeg (vp_nar .boolean 0))) else (-(f_X9_against (wU I 22 0 0) t h), (wU I 22 0 0))) else (0, (wU (wU I 22 0 0) 22 0 2))))
theorem fr_f_X9_strip (I : wI) (t : Int32) (h : Int32) (q9 : Nat) (h22 : q9 ≠ 22) (h33 : q9 ≠ 33) (h34 : q9 ≠ 34) (h35 : q9 ≠ 35) (h37 : q9 ≠ 37) (h39 : q9 ≠ 39) (h45 : q9 ≠ 45) : (f_X9_strip I t h).2 q9 = I q9 := by
  unfold f_X9_strip
  repeat' split
  all_goals first | with_reducible rfl | (simp only [wU_ne _ _ _ h22, wU_ne _ _ _ h33, wU_ne _ _ _ h34, wU_ne _ _ _ h35, wU_ne _ _ _ h37, wU_ne _ _ _ h39, wU_ne _ _ _ h45])
set_option maxRecDepth 20000 in
theorem in_X9_strip_X9 : ∀ w ∈ u_ws RX9 TX9 42, w ∈ wsX9_strip := fun _ h => List.mem_cons_of_mem _ (List.mem_append_right _ h)
set_option maxHeartbeats 4000000 in
set_option maxRecDepth 100000 in
theorem c_X9_strip (l : Launch) (D : va_G) (y : Nat → ClassId) (b : Nat) (z : Nat → Nat) (G : wG) (I : wI) (J : wJ) (hL : w_full G) (t : Int32) (h : Int32) (hT : 0 ≤ (I 22 12).toInt ∧ (I 22 12).toInt ≤ 40) (hP : 0 ≤ (I 22 16).toInt ∧ (I 22 16).toInt ≤ 200) : mI l yX9_strip wsX9_strip { frames := 2, cells := 0, slots := 0, locals := 43 } D y b z G I J [.ref (G.1 22), .int t, .int h] (fun r u => (r = (f_X9_strip I t h).1 ∧ u.2.1 = (f_X9_strip I t h).2) ∧ u.1 = G ∧ u.2.2 = J) 0 0 := by
  refine w_enter (by decide) rfl (Nat.le_of_ble_eq_true rfl) rfl ?_
  intro p e s m below meth c ls X hr hlk hnm hw hst hl
  have hx := X.1.1
  have hb := X.1.2.1
  obtain ⟨po_c_X9_strip, epo⟩ : ∃ qpo9 : Int32 → wS → Prop, qpo9 = (fun r u => (r = (f_X9_strip I t h).1 ∧ u.2.1 = (f_X9_strip I t h).2) ∧ u.1 = G ∧ u.2.2 = J) := ⟨_, rfl⟩
  rw [← epo]
  refine lv_aload_n hx hb dX9_strip_0 rfl (lv_at hl 0 rfl) ?_
  refine lv_iconst (v := 0) hx hb dX9_strip_1 (by decide) ?_
  refine w_put X hw 10 0 (hL 22 (by decide)) rfl (by decide) k_X9 in_X9_strip_X9 (by decide) (by decide +kernel) rfl rfl (t := .int) (by decide +kernel) rfl rfl (fun _ => rfl) (fun _ => Nat.le_of_ble_eq_true rfl) dX9_strip_2 (fun H locs hw => ?_)
  refine lv_aload_n hx hb dX9_strip_5 rfl (lv_at hl 0 rfl) ?_
  refine lv_aload_n hx hb dX9_strip_6 rfl (lv_at hl 0 rfl) ?_
  refine lv_iload_n hx hb dX9_strip_7 rfl (lv_at hl 1 rfl) ?_
  refine w_callVi (As := [.int t]) (rest := [.ref (G.1 22)]) X hw hst hl (c_X9_noTree l D y b z G (wU I 22 0 0) J hL t) (cwV 1 X.1.2.2.2.2 gX9_strip_X9_noTree rfl rfl rfl (by decide +kernel) ⟨Nat.le_of_ble_eq_true rfl, Nat.le_of_ble_eq_true rfl⟩) (w_recv X hw (hL 22 (by decide)) rfl (by decide) k_X9) rfl rfl (Nat.le_of_ble_eq_true rfl) dX9_strip_8 ⟨Nat.le_of_ble_eq_true rfl, Nat.le_of_ble_eq_true rfl⟩ (fun r_8_1 u H locs hp_8 hw => ?_)
  obtain ⟨hp_8, rfl⟩ := hp_8
  dsimp only at hw
  rcases f_X9_noTree_01  (wU I 22 0 0) t with q_8 | ⟨q_8, q0_8⟩
  · rw [q_8] at hp_8
    subst r_8_1
    refine lv_iconst (v := 1) hx hb dX9_strip_11 (by decide) ?_
    refine w_callVi (As := [.int 1, .int 1]) (rest := []) X hw hst hl (c_X9_throwsIf1 l D y b z G (wU I 22 0 0) J hL 1) (cwV 2 X.1.2.2.2.2 gX9_strip_X9_throwsIf rfl rfl rfl (by decide +kernel) ⟨Nat.le_of_ble_eq_true rfl, Nat.le_of_ble_eq_true rfl⟩) (w_recv X hw (hL 22 (by decide)) rfl (by decide) k_X9) rfl rfl (Nat.le_of_ble_eq_true rfl) dX9_strip_12 ⟨Nat.le_of_ble_eq_true rfl, Nat.le_of_ble_eq_true rfl⟩ (fun r_12_2 u H locs hp_12 hw => ?_)
    obtain ⟨G_12_2, I_12_2, J_12_2⟩ := u
    dsimp only at hw hp_12
    obtain ⟨⟨hp_12, hI_12_2⟩, eG_12, eJ_12⟩ := hp_12
    subst G_12_2 J_12_2
    subst r_12_2
    refine lv_if_ne (tgt := 42) hx hb dX9_strip_15 (by decide) (fun c_15 => ?_) (fun c_15 => ?_)
    · refine lv_iconst (v := 0) hx hb dX9_strip_42 (by decide) ?_
      have hp_43 : po_c_X9_strip 0 (G, I_12_2, J) := by
          obtain rfl := hI_12_2.symm
          rw [epo]
          have ef : f_X9_strip I t h = (0, (wU (wU I 22 0 0) 22 0 1)) := by unfold f_X9_strip; rw [if_pos q_8]
          exact ⟨⟨by rw [ef], by rw [ef]⟩, rfl, rfl⟩
      exact w_iret X hr hlk hw hp_43 (Nat.le_of_ble_eq_true rfl) (Nat.le_of_ble_eq_true rfl) dX9_strip_43
    · exact absurd c_15 (by decide)
  · rw [q0_8] at hp_8
    subst r_8_1
    refine lv_iconst (v := 1) hx hb dX9_strip_11 (by decide) ?_
    refine w_callVi (As := [.int 0, .int 1]) (rest := []) X hw hst hl (c_X9_throwsIf0 l D y b z G (wU I 22 0 0) J hL 1) (cwV 2 X.1.2.2.2.2 gX9_strip_X9_throwsIf rfl rfl rfl (by decide +kernel) ⟨Nat.le_of_ble_eq_true rfl, Nat.le_of_ble_eq_true rfl⟩) (w_recv X hw (hL 22 (by decide)) rfl (by decide) k_X9) rfl rfl (Nat.le_of_ble_eq_true rfl) dX9_strip_12 ⟨Nat.le_of_ble_eq_true rfl, Nat.le_of_ble_eq_true rfl⟩ (fun r_12_3 u H locs hp_12 hw => ?_)
    obtain ⟨hp_12, rfl⟩ := hp_12
    dsimp only at hw
    subst r_12_3
    refine lv_if_ne (tgt := 42) hx hb dX9_strip_15 (by decide) (fun c_15 => ?_) (fun c_15 => ?_)
    · exact absurd (by decide) c_15
    · refine lv_aload_n hx hb dX9_strip_18 rfl (lv_at hl 0 rfl) ?_
      refine lv_iload_n hx hb dX9_strip_19 rfl (lv_at hl 2 rfl) ?_
      refine lv_iconst (v := 1) hx hb dX9_strip_20 (by decide) ?_
      refine lv_sipush (v := 3000) hx hb dX9_strip_21 (by decide) ?_
      refine w_callSi (As := [.int h, .int 1, .int 3000]) (rest := [.ref (G.1 22)]) X hw hst hl (c_X9_in l D y b z G (wU I 22 0 0) J hL h 1 3000) (va_cwS 3 X.1.2.2.2.2 gX9_strip_X9_in rfl rfl rfl (by decide +kernel) ⟨Nat.le_of_ble_eq_true rfl, Nat.le_of_ble_eq_true rfl⟩) rfl rfl (Nat.le_of_ble_eq_true rfl) dX9_strip_24 ⟨Nat.le_of_ble_eq_true rfl, Nat.le_of_ble_eq_true rfl⟩ (fun r_24_4 u H locs hp_24 hw => ?_)
      obtain ⟨hp_24, rfl⟩ := hp_24
      dsimp only at hw
      rcases f_X9_in_01  (wU I 22 0 0) h 1 3000 with q_24 | ⟨q_24, q0_24⟩
      · rw [q_24] at hp_24
        subst r_24_4
        refine lv_if_ne (tgt := 34) hx hb dX9_strip_27 (by decide) (fun c_27 => ?_) (fun c_27 => ?_)
        · refine lv_iconst (v := 0) hx hb dX9_strip_34 (by decide) ?_
          refine lv_iconst (v := 2) hx hb dX9_strip_35 (by decide) ?_
          refine w_callVi (As := [.int 0, .int 2]) (rest := []) X hw hst hl (c_X9_throwsIf0 l D y b z G (wU I 22 0 0) J hL 2) (cwV 2 X.1.2.2.2.2 gX9_strip_X9_throwsIf rfl rfl rfl (by decide +kernel) ⟨Nat.le_of_ble_eq_true rfl, Nat.le_of_ble_eq_true rfl⟩) (w_recv X hw (hL 22 (by decide)) rfl (by decide) k_X9) rfl rfl (Nat.le_of_ble_eq_true rfl) dX9_strip_36 ⟨Nat.le_of_ble_eq_true rfl, Nat.le_of_ble_eq_true rfl⟩ (fun r_36_5 u H locs hp_36 hw => ?_)
          obtain ⟨hp_36, rfl⟩ := hp_36
          dsimp only at hw
          subst r_36_5
          refine lv_if_eq (tgt := 44) hx hb dX9_strip_39 (by decide) (fun c_39 => ?_) (fun c_39 => ?_)
          · refine lv_aload_n hx hb dX9_strip_44 rfl (lv_at hl 0 rfl) ?_
            refine lv_iload_n hx hb dX9_strip_45 rfl (lv_at hl 1 rfl) ?_
            refine lv_iload_n hx hb dX9_strip_46 rfl (lv_at hl 2 rfl) ?_
            refine w_callVi (As := [.int t, .int h]) (rest := []) X hw hst hl (c_X9_against l D y b z G (wU I 22 0 0) J hL t h (ix_T2 hT q_8)) (cwV 2 X.1.2.2.2.2 gX9_strip_X9_against rfl rfl rfl (by decide +kernel) ⟨Nat.le_of_ble_eq_true rfl, Nat.le_of_ble_eq_true rfl⟩) (w_recv X hw (hL 22 (by decide)) rfl (by decide) k_X9) rfl rfl (Nat.le_of_ble_eq_true rfl) dX9_strip_47 ⟨Nat.le_of_ble_eq_true rfl, Nat.le_of_ble_eq_true rfl⟩ (fun r_47_6 u H locs hp_47 hw => ?_)
            obtain ⟨hp_47, rfl⟩ := hp_47
            dsimp only at hw
            refine lv_istore_n (lv' := [(3, .int r_47_6), (0, .ref (G.1 22)), (1, .int t), (2, .int h)]) hx hb dX9_strip_50 rfl hl (by decide) rfl (fun ls hl => ?_)
            refine lv_iload_n hx hb dX9_strip_51 rfl (lv_at hl 0 rfl) ?_
            refine lv_if_le (tgt := 58) hx hb dX9_strip_52 (by decide) (fun c_52 => ?_) (fun c_52 => ?_)
            · have hpl : 0 ≤ (I 22 16).toInt ∧ (I 22 16).toInt < 200 := ⟨hP.1, ag_1 hP (ag_0 (I := wU I 22 0 0) (t := t) (h := h) (by rw [← hp_47]; exact c_52))⟩
              refine lv_bipush (v := 6) hx hb dX9_strip_58 (by decide) ?_
              refine lv_aload_n hx hb dX9_strip_60 rfl (lv_at hl 1 rfl) ?_
              refine w_get X hw 10 16 (hL 22 (by decide)) rfl (by decide) k_X9 in_X9_strip_X9 (by decide) (by decide +kernel) rfl (v := .int (I 22 16)) rfl dX9_strip_61 ?_
              refine lv_imul hx hb dX9_strip_64 ?_
              refine lv_topi (fun x_7 ex_7 => ?_)
              refine lv_istore (lv' := [(4, .int x_7), (3, .int r_47_6), (0, .ref (G.1 22)), (1, .int t), (2, .int h)]) hx hb dX9_strip_65 hl (by decide) rfl (fun ls hl => ?_)
              refine lv_aload_n hx hb dX9_strip_67 rfl (lv_at hl 2 rfl) ?_
              refine w_get X hw 10 15 (hL 22 (by decide)) rfl (by decide) k_X9 in_X9_strip_X9 (by decide) (by decide +kernel) rfl (v := .ref (G.1 45)) rfl dX9_strip_68 ?_
              refine lv_iload hx hb dX9_strip_71 (lv_at hl 0 rfl) ?_
              refine lv_iload_n hx hb dX9_strip_73 rfl (lv_at hl 3 rfl) ?_
              have h_74 : vp_in x_7 1200 := by rw [ex_7]; exact ix_60 hpl
              refine w_ist X hw (hL 45 (by decide)) rfl h_74 dX9_strip_74 (fun H locs hw => ?_)
              refine lv_aload_n hx hb dX9_strip_75 rfl (lv_at hl 2 rfl) ?_
              refine w_get X hw 10 15 (hL 22 (by decide)) rfl (by decide) k_X9 in_X9_strip_X9 (by decide) (by decide +kernel) rfl (v := .ref (G.1 45)) rfl dX9_strip_76 ?_
              refine lv_iload hx hb dX9_strip_79 (lv_at hl 0 rfl) ?_
              refine lv_iconst (v := 1) hx hb dX9_strip_81 (by decide) ?_
              refine lv_iadd hx hb dX9_strip_82 ?_
              refine lv_aload_n hx hb dX9_strip_83 rfl (lv_at hl 2 rfl) ?_
              refine w_get X hw 10 1 (hL 22 (by decide)) rfl (by decide) k_X9 in_X9_strip_X9 (by decide) (by decide +kernel) rfl (v := .int (I 22 1)) rfl dX9_strip_84 ?_
              refine lv_topi (fun x_8 ex_8 => ?_)
              have h_87 : vp_in (x_7 + 1) 1200 := by rw [ex_7]; exact ix_6 hpl ⟨by decide, by decide⟩
              refine w_ist X hw (hL 45 (by decide)) rfl h_87 dX9_strip_87 (fun H locs hw => ?_)
              refine lv_aload_n hx hb dX9_strip_88 rfl (lv_at hl 2 rfl) ?_
              refine w_get X hw 10 15 (hL 22 (by decide)) rfl (by decide) k_X9 in_X9_strip_X9 (by decide) (by decide +kernel) rfl (v := .ref (G.1 45)) rfl dX9_strip_89 ?_
              refine lv_iload hx hb dX9_strip_92 (lv_at hl 0 rfl) ?_
              refine lv_iconst (v := 2) hx hb dX9_strip_94 (by decide) ?_
              refine lv_iadd hx hb dX9_strip_95 ?_
              refine lv_iload_n hx hb dX9_strip_96 rfl (lv_at hl 4 rfl) ?_
              have h_97 : vp_in (x_7 + 2) 1200 := by rw [ex_7]; exact ix_6 hpl ⟨by decide, by decide⟩
              refine w_ist X hw (hL 45 (by decide)) rfl h_97 dX9_strip_97 (fun H locs hw => ?_)
              refine lv_aload_n hx hb dX9_strip_98 rfl (lv_at hl 2 rfl) ?_
              refine w_get X hw 10 15 (hL 22 (by decide)) rfl (by decide) k_X9 in_X9_strip_X9 (by decide) (by decide +kernel) rfl (v := .ref (G.1 45)) rfl dX9_strip_99 ?_
              refine lv_iload hx hb dX9_strip_102 (lv_at hl 0 rfl) ?_
              refine lv_iconst (v := 3) hx hb dX9_strip_104 (by decide) ?_
              refine lv_iadd hx hb dX9_strip_105 ?_
              refine lv_aload_n hx hb dX9_strip_106 rfl (lv_at hl 2 rfl) ?_
              refine w_get X hw 10 2 (hL 22 (by decide)) rfl (by decide) k_X9 in_X9_strip_X9 (by decide) (by decide +kernel) rfl (v := .ref (G.1 32)) rfl dX9_strip_107 ?_
              refine lv_iload_n hx hb dX9_strip_110 rfl (lv_at hl 3 rfl) ?_
              have h_111 : vp_in t 40 := ix_T hT q_8
              refine w_ild X hw (hL 32 (by decide)) rfl h_111 dX9_strip_111 ?_
              refine W.eq (g2 := F0 m 112 ls [.int (I 32 t.toNatClampNeg), .int (x_7 + 3), .ref (G.1 45)]) rfl ?_
              refine lv_topi (fun x_9 ex_9 => ?_)
              have h_112 : vp_in (x_7 + 3) 1200 := by rw [ex_7]; exact ix_6 hpl ⟨by decide, by decide⟩
              refine w_ist X hw (hL 45 (by decide)) rfl h_112 dX9_strip_112 (fun H locs hw => ?_)
              refine lv_aload_n hx hb dX9_strip_113 rfl (lv_at hl 2 rfl) ?_
              refine w_get X hw 10 15 (hL 22 (by decide)) rfl (by decide) k_X9 in_X9_strip_X9 (by decide) (by decide +kernel) rfl (v := .ref (G.1 45)) rfl dX9_strip_114 ?_
              refine lv_iload hx hb dX9_strip_117 (lv_at hl 0 rfl) ?_
              refine lv_iconst (v := 4) hx hb dX9_strip_119 (by decide) ?_
              refine lv_iadd hx hb dX9_strip_120 ?_
              refine lv_aload_n hx hb dX9_strip_121 rfl (lv_at hl 2 rfl) ?_
              refine w_get X hw 10 3 (hL 22 (by decide)) rfl (by decide) k_X9 in_X9_strip_X9 (by decide) (by decide +kernel) rfl (v := .ref (G.1 33)) rfl dX9_strip_122 ?_
              refine lv_iload_n hx hb dX9_strip_125 rfl (lv_at hl 3 rfl) ?_
              have h_126 : vp_in t 40 := ix_T hT q_8
              refine w_ild X hw (hL 33 (by decide)) rfl h_126 dX9_strip_126 ?_
              refine W.eq (g2 := F0 m 127 ls [.int (I 33 t.toNatClampNeg), .int (x_7 + 4), .ref (G.1 45)]) rfl ?_
              refine lv_topi (fun x_10 ex_10 => ?_)
              have h_127 : vp_in (x_7 + 4) 1200 := by rw [ex_7]; exact ix_6 hpl ⟨by decide, by decide⟩
              refine w_ist X hw (hL 45 (by decide)) rfl h_127 dX9_strip_127 (fun H locs hw => ?_)
              refine lv_aload_n hx hb dX9_strip_128 rfl (lv_at hl 2 rfl) ?_
              refine w_get X hw 10 15 (hL 22 (by decide)) rfl (by decide) k_X9 in_X9_strip_X9 (by decide) (by decide +kernel) rfl (v := .ref (G.1 45)) rfl dX9_strip_129 ?_
              refine lv_iload hx hb dX9_strip_132 (lv_at hl 0 rfl) ?_
              refine lv_iconst (v := 5) hx hb dX9_strip_134 (by decide) ?_
              refine lv_iadd hx hb dX9_strip_135 ?_
              refine lv_iconst (v := -1) hx hb dX9_strip_136 (by decide) ?_
              have h_137 : vp_in (x_7 + 5) 1200 := by rw [ex_7]; exact ix_6 hpl ⟨by decide, by decide⟩
              refine w_ist X hw (hL 45 (by decide)) rfl h_137 dX9_strip_137 (fun H locs hw => ?_)
              refine lv_aload_n hx hb dX9_strip_138 rfl (lv_at hl 2 rfl) ?_
              refine lv_dup hx hb dX9_strip_139 rfl ?_
              refine w_get X hw 10 16 (hL 22 (by decide)) rfl (by decide) k_X9 in_X9_strip_X9 (by decide) (by decide +kernel) rfl (v := .int (I 22 16)) rfl dX9_strip_140 ?_
              refine lv_iconst (v := 1) hx hb dX9_strip_143 (by decide) ?_
              refine lv_iadd hx hb dX9_strip_144 ?_
              refine lv_topi (fun x_11 ex_11 => ?_)
              refine w_put X hw 10 16 (hL 22 (by decide)) rfl (by decide) k_X9 in_X9_strip_X9 (by decide) (by decide +kernel) rfl rfl (t := .int) (by decide +kernel) rfl rfl (fun _ => rfl) (fun _ => Nat.le_of_ble_eq_true rfl) dX9_strip_145 (fun H locs hw => ?_)
              refine lv_aload_n hx hb dX9_strip_148 rfl (lv_at hl 2 rfl) ?_
              refine w_get X hw 10 9 (hL 22 (by decide)) rfl (by decide) k_X9 in_X9_strip_X9 (by decide) (by decide +kernel) rfl (v := .ref (G.1 39)) rfl dX9_strip_149 ?_
              refine lv_iload_n hx hb dX9_strip_152 rfl (lv_at hl 3 rfl) ?_
              refine lv_dup2_11 hx hb dX9_strip_153 rfl rfl ?_
              have h_154 : vp_in t 40 := ix_T hT q_8
              refine w_ild X hw (hL 39 (by decide)) rfl h_154 dX9_strip_154 ?_
              refine W.eq (g2 := F0 m 155 ls [.int (I 39 t.toNatClampNeg), .int t, .ref (G.1 39)]) rfl ?_
              refine lv_aload_n hx hb dX9_strip_155 rfl (lv_at hl 2 rfl) ?_
              refine w_get X hw 10 3 (hL 22 (by decide)) rfl (by decide) k_X9 in_X9_strip_X9 (by decide) (by decide +kernel) rfl (v := .ref (G.1 33)) rfl dX9_strip_156 ?_
              refine lv_iload_n hx hb dX9_strip_159 rfl (lv_at hl 3 rfl) ?_
              have h_160 : vp_in t 40 := ix_T hT q_8
              refine w_ild X hw (hL 33 (by decide)) rfl h_160 dX9_strip_160 ?_
              refine W.eq (g2 := F0 m 161 ls [.int (I 33 t.toNatClampNeg), .int (I 39 t.toNatClampNeg), .int t, .ref (G.1 39)]) rfl ?_
              refine lv_iadd hx hb dX9_strip_161 ?_
              refine lv_topi (fun x_12 ex_12 => ?_)
              have h_162 : vp_in t 40 := ix_T hT q_8
              refine w_ist X hw (hL 39 (by decide)) rfl h_162 dX9_strip_162 (fun H locs hw => ?_)
              refine lv_aload_n hx hb dX9_strip_163 rfl (lv_at hl 2 rfl) ?_
              refine w_get X hw 10 3 (hL 22 (by decide)) rfl (by decide) k_X9 in_X9_strip_X9 (by decide) (by decide +kernel) rfl (v := .ref (G.1 33)) rfl dX9_strip_164 ?_
              refine lv_iload_n hx hb dX9_strip_167 rfl (lv_at hl 3 rfl) ?_
              refine lv_iconst (v := 0) hx hb dX9_strip_168 (by decide) ?_
              have h_169 : vp_in t 40 := ix_T hT q_8
              refine w_ist X hw (hL 33 (by decide)) rfl h_169 dX9_strip_169 (fun H locs hw => ?_)
              refine lv_aload_n hx hb dX9_strip_170 rfl (lv_at hl 2 rfl) ?_
              refine w_get X hw 10 4 (hL 22 (by decide)) rfl (by decide) k_X9 in_X9_strip_X9 (by decide) (by decide +kernel) rfl (v := .ref (G.1 34)) rfl dX9_strip_171 ?_
              refine lv_iload_n hx hb dX9_strip_174 rfl (lv_at hl 3 rfl) ?_
              refine lv_aload_n hx hb dX9_strip_175 rfl (lv_at hl 2 rfl) ?_
              refine w_get X hw 10 1 (hL 22 (by decide)) rfl (by decide) k_X9 in_X9_strip_X9 (by decide) (by decide +kernel) rfl (v := .int (I 22 1)) rfl dX9_strip_176 ?_
              refine lv_topi (fun x_13 ex_13 => ?_)
              have h_179 : vp_in t 40 := ix_T hT q_8
              refine w_ist X hw (hL 34 (by decide)) rfl h_179 dX9_strip_179 (fun H locs hw => ?_)
              refine lv_aload_n hx hb dX9_strip_180 rfl (lv_at hl 2 rfl) ?_
              refine w_get X hw 10 5 (hL 22 (by decide)) rfl (by decide) k_X9 in_X9_strip_X9 (by decide) (by decide +kernel) rfl (v := .ref (G.1 35)) rfl dX9_strip_181 ?_
              refine lv_iload_n hx hb dX9_strip_184 rfl (lv_at hl 3 rfl) ?_
              refine lv_iload_n hx hb dX9_strip_185 rfl (lv_at hl 4 rfl) ?_
              have h_186 : vp_in t 40 := ix_T hT q_8
              refine w_ist X hw (hL 35 (by decide)) rfl h_186 dX9_strip_186 (fun H locs hw => ?_)
              refine lv_aload_n hx hb dX9_strip_187 rfl (lv_at hl 2 rfl) ?_
              refine w_get X hw 10 7 (hL 22 (by decide)) rfl (by decide) k_X9 in_X9_strip_X9 (by decide) (by decide +kernel) rfl (v := .ref (G.1 37)) rfl dX9_strip_188 ?_
              refine lv_iload_n hx hb dX9_strip_191 rfl (lv_at hl 3 rfl) ?_
              refine lv_iconst (v := 0) hx hb dX9_strip_192 (by decide) ?_
              have h_193 : vp_in t 40 := ix_T hT q_8
              refine w_zst X hw (hL 37 (by decide)) rfl h_193 dX9_strip_193 (fun H locs hw => ?_)
              refine lv_aload_n hx hb dX9_strip_194 rfl (lv_at hl 2 rfl) ?_
              refine w_get X hw 10 16 (hL 22 (by decide)) rfl (by decide) k_X9 in_X9_strip_X9 (by decide) (by decide +kernel) rfl (v := .int x_11) rfl dX9_strip_195 ?_
              refine lv_iconst (v := 1) hx hb dX9_strip_198 (by decide) ?_
              refine lv_isub hx hb dX9_strip_199 ?_
              have hp_200 : po_c_X9_strip (x_11 - 1) (G, (wU (wU (wU (wU (wU (wU (wU (wU (wU (wU (wU (wU (wU I 22 0 0) 45 x_7.toNatClampNeg t) 45 (x_7 + 1).toNatClampNeg x_8) 45 (x_7 + 2).toNatClampNeg h) 45 (x_7 + 3).toNatClampNeg x_9) 45 (x_7 + 4).toNatClampNeg x_10) 45 (x_7 + 5).toNatClampNeg (-1)) 22 16 x_11) 39 t.toNatClampNeg x_12) 33 t.toNatClampNeg 0) 34 t.toNatClampNeg x_13) 35 t.toNatClampNeg h) 37 t.toNatClampNeg (vp_nar .boolean 0)), J) := by
                  obtain rfl := hp_47.symm
                  obtain rfl := ex_7.symm
                  obtain rfl := ex_8.symm
                  obtain rfl := ex_9.symm
                  obtain rfl := ex_10.symm
                  obtain rfl := ex_11.symm
                  obtain rfl := ex_12.symm
                  obtain rfl := ex_13.symm
                  rw [epo]
                  have ef : f_X9_strip I t h = (((I 22 16) + 1) - 1, (wU (wU (wU (wU (wU (wU (wU (wU (wU (wU (wU (wU (wU I 22 0 0) 45 ((6 : Int32) * (I 22 16)).toNatClampNeg t) 45 (((6 : Int32) * (I 22 16)) + 1).toNatClampNeg (I 22 1)) 45 (((6 : Int32) * (I 22 16)) + 2).toNatClampNeg h) 45 (((6 : Int32) * (I 22 16)) + 3).toNatClampNeg (I 32 t.toNatClampNeg)) 45 (((6 : Int32) * (I 22 16)) + 4).toNatClampNeg (I 33 t.toNatClampNeg)) 45 (((6 : Int32) * (I 22 16)) + 5).toNatClampNeg (-1)) 22 16 ((I 22 16) + 1)) 39 t.toNatClampNeg ((I 39 t.toNatClampNeg) + (I 33 t.toNatClampNeg))) 33 t.toNatClampNeg 0) 34 t.toNatClampNeg (I 22 1)) 35 t.toNatClampNeg h) 37 t.toNatClampNeg (vp_nar .boolean 0))) := by unfold f_X9_strip; rw [if_neg q_8, if_pos q_24, if_pos c_52]
                  exact ⟨⟨by rw [ef], by rw [ef]⟩, rfl, rfl⟩
              exact w_iret X hr hlk hw hp_200 (Nat.le_of_ble_eq_true rfl) (Nat.le_of_ble_eq_true rfl) dX9_strip_200
            · refine lv_iload_n hx hb dX9_strip_55 rfl (lv_at hl 0 rfl) ?_
              refine lv_ineg hx hb dX9_strip_56 ?_
              have hp_57 : po_c_X9_strip (-r_47_6) (G, (wU I 22 0 0), J) := by
                  obtain rfl := hp_47.symm
                  rw [epo]
                  have ef : f_X9_strip I t h = (-(f_X9_against (wU I 22 0 0) t h), (wU I 22 0 0)) := by unfold f_X9_strip; rw [if_neg q_8, if_pos q_24, if_neg c_52]
                  exact ⟨⟨by rw [ef], by rw [ef]⟩, rfl, rfl⟩
              exact w_iret X hr hlk hw hp_57 (Nat.le_of_ble_eq_true rfl) (Nat.le_of_ble_eq_true rfl) dX9_strip_57
          · exact absurd (by decide) c_39
        · exact absurd c_27 (by decide)
      · rw [q0_24] at hp_24
        subst r_24_4
        refine lv_if_ne (tgt := 34) hx hb dX9_strip_27 (by decide) (fun c_27 => ?_) (fun c_27 => ?_)
        · exact absurd (by decide) c_27
        · refine lv_iconst (v := 1) hx hb dX9_strip_30 (by decide) ?_
          refine lv_goto (tgt := 35) hx hb dX9_strip_31 (by decide) ?_
          refine lv_iconst (v := 2) hx hb dX9_strip_35 (by decide) ?_
          refine w_callVi (As := [.int 1, .int 2]) (rest := []) X hw hst hl (c_X9_throwsIf1 l D y b z G (wU I 22 0 0) J hL 2) (cwV 2 X.1.2.2.2.2 gX9_strip_X9_throwsIf rfl rfl rfl (by decide +kernel) ⟨Nat.le_of_ble_eq_true rfl, Nat.le_of_ble_eq_true rfl⟩) (w_recv X hw (hL 22 (by decide)) rfl (by decide) k_X9) rfl rfl (Nat.le_of_ble_eq_true rfl) dX9_strip_36 ⟨Nat.le_of_ble_eq_true rfl, Nat.le_of_ble_eq_true rfl⟩ (fun r_36_14 u H locs hp_36 hw => ?_)
          obtain ⟨G_36_14, I_36_14, J_36_14⟩ := u
          dsimp only at hw hp_36
          obtain ⟨⟨hp_36, hI_36_14⟩, eG_36, eJ_36⟩ := hp_36
          subst G_36_14 J_36_14
          subst r_36_14
          refine lv_if_eq (tgt := 44) hx hb dX9_strip_39 (by decide) (fun c_39 => ?_) (fun c_39 => ?_)
          · exact absurd c_39 (by decide)
          · refine lv_iconst (v := 0) hx hb dX9_strip_42 (by decide) ?_
            have hp_43 : po_c_X9_strip 0 (G, I_36_14, J) := by
                obtain rfl := hI_36_14.symm
                rw [epo]
                have ef : f_X9_strip I t h = (0, (wU (wU I 22 0 0) 22 0 2)) := by unfold f_X9_strip; rw [if_neg q_8, if_neg q_24]
                exact ⟨⟨by rw [ef], by rw [ef]⟩, rfl, rfl⟩
            exact w_iret X hr hlk hw hp_43 (Nat.le_of_ble_eq_true rfl) (Nat.le_of_ble_eq_true rfl) dX9_strip_43
def f_X9_says (I : wI) (k : Int32) : Int32 × wI := (if f_X9_in (wU I 22 0 0) k 0 5 = 1 then (I 43 k.toNatClampNeg, (wU I 22 0 0)) else (0, (wU (wU I 22 0 0) 22 0 1)))
theorem fr_f_X9_says (I : wI) (k : Int32) (q9 : Nat) (h22 : q9 ≠ 22) : (f_X9_says I k).2 q9 = I q9 := by
  unfold f_X9_says
  repeat' split
  all_goals first | with_reducible rfl | (simp only [wU_ne _ _ _ h22])
set_option maxRecDepth 20000 in
theorem in_X9_says_X9 : ∀ w ∈ u_ws RX9 TX9 42, w ∈ wsX9_says := fun _ h => List.mem_cons_of_mem _ (List.mem_append_right _ h)
set_option maxHeartbeats 4000000 in
set_option maxRecDepth 100000 in
theorem c_X9_says (l : Launch) (D : va_G) (y : Nat → ClassId) (b : Nat) (z : Nat → Nat) (G : wG) (I : wI) (J : wJ) (hL : w_full G) (k : Int32)  : mI l yX9_says wsX9_says { frames := 1, cells := 0, slots := 0, locals := 22 } D y b z G I J [.ref (G.1 22), .int k] (fun r u => (r = (f_X9_says I k).1 ∧ u.2.1 = (f_X9_says I k).2) ∧ u.1 = G ∧ u.2.2 = J) 0 0 := by
  refine w_enter (by decide) rfl (Nat.le_of_ble_eq_true rfl) rfl ?_
  intro p e s m below meth c ls X hr hlk hnm hw hst hl
  have hx := X.1.1
  have hb := X.1.2.1
  obtain ⟨po_c_X9_says, epo⟩ : ∃ qpo9 : Int32 → wS → Prop, qpo9 = (fun r u => (r = (f_X9_says I k).1 ∧ u.2.1 = (f_X9_says I k).2) ∧ u.1 = G ∧ u.2.2 = J) := ⟨_, rfl⟩
  rw [← epo]
  refine lv_aload_n hx hb dX9_says_0 rfl (lv_at hl 0 rfl) ?_
  refine lv_iconst (v := 0) hx hb dX9_says_1 (by decide) ?_
  refine w_put X hw 10 0 (hL 22 (by decide)) rfl (by decide) k_X9 in_X9_says_X9 (by decide) (by decide +kernel) rfl rfl (t := .int) (by decide +kernel) rfl rfl (fun _ => rfl) (fun _ => Nat.le_of_ble_eq_true rfl) dX9_says_2 (fun H locs hw => ?_)
  refine lv_aload_n hx hb dX9_says_5 rfl (lv_at hl 0 rfl) ?_
  refine lv_iload_n hx hb dX9_says_6 rfl (lv_at hl 1 rfl) ?_
  refine lv_iconst (v := 0) hx hb dX9_says_7 (by decide) ?_
  refine lv_iconst (v := 5) hx hb dX9_says_8 (by decide) ?_
  refine w_callSi (As := [.int k, .int 0, .int 5]) (rest := [.ref (G.1 22)]) X hw hst hl (c_X9_in l D y b z G (wU I 22 0 0) J hL k 0 5) (va_cwS 3 X.1.2.2.2.2 gX9_says_X9_in rfl rfl rfl (by decide +kernel) ⟨Nat.le_of_ble_eq_true rfl, Nat.le_of_ble_eq_true rfl⟩) rfl rfl (Nat.le_of_ble_eq_true rfl) dX9_says_9 ⟨Nat.le_of_ble_eq_true rfl, Nat.le_of_ble_eq_true rfl⟩ (fun r_9_1 u H locs hp_9 hw => ?_)
  obtain ⟨hp_9, rfl⟩ := hp_9
  dsimp only at hw
  rcases f_X9_in_01  (wU I 22 0 0) k 0 5 with q_9 | ⟨q_9, q0_9⟩
  · rw [q_9] at hp_9
    subst r_9_1
    refine lv_if_ne (tgt := 19) hx hb dX9_says_12 (by decide) (fun c_12 => ?_) (fun c_12 => ?_)
    · refine lv_iconst (v := 0) hx hb dX9_says_19 (by decide) ?_
      refine lv_iconst (v := 1) hx hb dX9_says_20 (by decide) ?_
      refine w_callVi (As := [.int 0, .int 1]) (rest := []) X hw hst hl (c_X9_throwsIf0 l D y b z G (wU I 22 0 0) J hL 1) (cwV 2 X.1.2.2.2.2 gX9_says_X9_throwsIf rfl rfl rfl (by decide +kernel) ⟨Nat.le_of_ble_eq_true rfl, Nat.le_of_ble_eq_true rfl⟩) (w_recv X hw (hL 22 (by decide)) rfl (by decide) k_X9) rfl rfl (Nat.le_of_ble_eq_true rfl) dX9_says_21 ⟨Nat.le_of_ble_eq_true rfl, Nat.le_of_ble_eq_true rfl⟩ (fun r_21_2 u H locs hp_21 hw => ?_)
      obtain ⟨hp_21, rfl⟩ := hp_21
      dsimp only at hw
      subst r_21_2
      refine lv_if_eq (tgt := 31) hx hb dX9_says_24 (by decide) (fun c_24 => ?_) (fun c_24 => ?_)
      · refine lv_aload_n hx hb dX9_says_31 rfl (lv_at hl 0 rfl) ?_
        refine w_get X hw 10 13 (hL 22 (by decide)) rfl (by decide) k_X9 in_X9_says_X9 (by decide) (by decide +kernel) rfl (v := .ref (G.1 43)) rfl dX9_says_32 ?_
        refine lv_iload_n hx hb dX9_says_35 rfl (lv_at hl 1 rfl) ?_
        have h_36 : vp_in k 6 := by have h9 := ix_i q_9; rw [vp_in_iff]; simp only [Int32.reduceToInt] at h9; omega
        refine w_ild X hw (hL 43 (by decide)) rfl h_36 dX9_says_36 ?_
        refine W.eq (g2 := F0 m 37 ls [.int (I 43 k.toNatClampNeg)]) rfl ?_
        have hp_37 : po_c_X9_says (I 43 k.toNatClampNeg) (G, (wU I 22 0 0), J) := by
            rw [epo]
            have ef : f_X9_says I k = (I 43 k.toNatClampNeg, (wU I 22 0 0)) := by unfold f_X9_says; rw [if_pos q_9]
            exact ⟨⟨by rw [ef], by rw [ef]⟩, rfl, rfl⟩
        exact w_iret X hr hlk hw hp_37 (Nat.le_of_ble_eq_true rfl) (Nat.le_of_ble_eq_true rfl) dX9_says_37
      · exact absurd (by decide) c_24
    · exact absurd c_12 (by decide)
  · rw [q0_9] at hp_9
    subst r_9_1
    refine lv_if_ne (tgt := 19) hx hb dX9_says_12 (by decide) (fun c_12 => ?_) (fun c_12 => ?_)
    · exact absurd (by decide) c_12
    · refine lv_iconst (v := 1) hx hb dX9_says_15 (by decide) ?_
      refine lv_goto (tgt := 20) hx hb dX9_says_16 (by decide) ?_
      refine lv_iconst (v := 1) hx hb dX9_says_20 (by decide) ?_
      refine w_callVi (As := [.int 1, .int 1]) (rest := []) X hw hst hl (c_X9_throwsIf1 l D y b z G (wU I 22 0 0) J hL 1) (cwV 2 X.1.2.2.2.2 gX9_says_X9_throwsIf rfl rfl rfl (by decide +kernel) ⟨Nat.le_of_ble_eq_true rfl, Nat.le_of_ble_eq_true rfl⟩) (w_recv X hw (hL 22 (by decide)) rfl (by decide) k_X9) rfl rfl (Nat.le_of_ble_eq_true rfl) dX9_says_21 ⟨Nat.le_of_ble_eq_true rfl, Nat.le_of_ble_eq_true rfl⟩ (fun r_21_3 u H locs hp_21 hw => ?_)
      obtain ⟨G_21_3, I_21_3, J_21_3⟩ := u
      dsimp only at hw hp_21
      obtain ⟨⟨hp_21, hI_21_3⟩, eG_21, eJ_21⟩ := hp_21
      subst G_21_3 J_21_3
      subst r_21_3
      refine lv_if_eq (tgt := 31) hx hb dX9_says_24 (by decide) (fun c_24 => ?_) (fun c_24 => ?_)
      · exact absurd c_24 (by decide)
      · refine lv_iconst (v := 0) hx hb dX9_says_27 (by decide) ?_
        refine lv_goto (tgt := 37) hx hb dX9_says_28 (by decide) ?_
        have hp_37 : po_c_X9_says 0 (G, I_21_3, J) := by
            obtain rfl := hI_21_3.symm
            rw [epo]
            have ef : f_X9_says I k = (0, (wU (wU I 22 0 0) 22 0 1)) := by unfold f_X9_says; rw [if_neg q_9]
            exact ⟨⟨by rw [ef], by rw [ef]⟩, rfl, rfl⟩
        exact w_iret X hr hlk hw hp_37 (Nat.le_of_ble_eq_true rfl) (Nat.le_of_ble_eq_true rfl) dX9_says_37
def f_X9_plank (I : wI) (q : Int32) (k : Int32) : Int32 × wI := (if f_X9_noPlank (wU I 22 0 0) q = 1 then (0, (wU (wU I 22 0 0) 22 0 1)) else (if f_X9_in (wU I 22 0 0) k 0 5 = 1 then (I 45 (((6 : Int32) * q) + k).toNatClampNeg, (wU I 22 0 0)) else (0, (wU (wU I 22 0 0) 22 0 2))))
theorem fr_f_X9_plank (I : wI) (q : Int32) (k : Int32) (q9 : Nat) (h22 : q9 ≠ 22) : (f_X9_plank I q k).2 q9 = I q9 := by
  unfold f_X9_plank
  repeat' split
  all_goals first | with_reducible rfl | (simp only [wU_ne _ _ _ h22])
set_option maxRecDepth 20000 in
theorem in_X9_plank_X9 : ∀ w ∈ u_ws RX9 TX9 42, w ∈ wsX9_plank := fun _ h => List.mem_cons_of_mem _ (List.mem_append_right _ h)
set_option maxHeartbeats 4000000 in
set_option maxRecDepth 100000 in
theorem c_X9_plank (l : Launch) (D : va_G) (y : Nat → ClassId) (b : Nat) (z : Nat → Nat) (G : wG) (I : wI) (J : wJ) (hL : w_full G) (q : Int32) (k : Int32) (hP : 0 ≤ (I 22 16).toInt ∧ (I 22 16).toInt ≤ 200) : mI l yX9_plank wsX9_plank { frames := 2, cells := 0, slots := 0, locals := 43 } D y b z G I J [.ref (G.1 22), .int q, .int k] (fun r u => (r = (f_X9_plank I q k).1 ∧ u.2.1 = (f_X9_plank I q k).2) ∧ u.1 = G ∧ u.2.2 = J) 0 0 := by
  refine w_enter (by decide) rfl (Nat.le_of_ble_eq_true rfl) rfl ?_
  intro p e s m below meth c ls X hr hlk hnm hw hst hl
  have hx := X.1.1
  have hb := X.1.2.1
  obtain ⟨po_c_X9_plank, epo⟩ : ∃ qpo9 : Int32 → wS → Prop, qpo9 = (fun r u => (r = (f_X9_plank I q k).1 ∧ u.2.1 = (f_X9_plank I q k).2) ∧ u.1 = G ∧ u.2.2 = J) := ⟨_, rfl⟩
  rw [← epo]
  refine lv_aload_n hx hb dX9_plank_0 rfl (lv_at hl 0 rfl) ?_
  refine lv_iconst (v := 0) hx hb dX9_plank_1 (by decide) ?_
  refine w_put X hw 10 0 (hL 22 (by decide)) rfl (by decide) k_X9 in_X9_plank_X9 (by decide) (by decide +kernel) rfl rfl (t := .int) (by decide +kernel) rfl rfl (fun _ => rfl) (fun _ => Nat.le_of_ble_eq_true rfl) dX9_plank_2 (fun H locs hw => ?_)
  refine lv_aload_n hx hb dX9_plank_5 rfl (lv_at hl 0 rfl) ?_
  refine lv_aload_n hx hb dX9_plank_6 rfl (lv_at hl 0 rfl) ?_
  refine lv_iload_n hx hb dX9_plank_7 rfl (lv_at hl 1 rfl) ?_
  refine w_callVi (As := [.int q]) (rest := [.ref (G.1 22)]) X hw hst hl (c_X9_noPlank l D y b z G (wU I 22 0 0) J hL q) (cwV 1 X.1.2.2.2.2 gX9_plank_X9_noPlank rfl rfl rfl (by decide +kernel) ⟨Nat.le_of_ble_eq_true rfl, Nat.le_of_ble_eq_true rfl⟩) (w_recv X hw (hL 22 (by decide)) rfl (by decide) k_X9) rfl rfl (Nat.le_of_ble_eq_true rfl) dX9_plank_8 ⟨Nat.le_of_ble_eq_true rfl, Nat.le_of_ble_eq_true rfl⟩ (fun r_8_1 u H locs hp_8 hw => ?_)
  obtain ⟨hp_8, rfl⟩ := hp_8
  dsimp only at hw
  rcases f_X9_noPlank_01  (wU I 22 0 0) q with q_8 | ⟨q_8, q0_8⟩
  · rw [q_8] at hp_8
    subst r_8_1
    refine lv_iconst (v := 1) hx hb dX9_plank_11 (by decide) ?_
    refine w_callVi (As := [.int 1, .int 1]) (rest := []) X hw hst hl (c_X9_throwsIf1 l D y b z G (wU I 22 0 0) J hL 1) (cwV 2 X.1.2.2.2.2 gX9_plank_X9_throwsIf rfl rfl rfl (by decide +kernel) ⟨Nat.le_of_ble_eq_true rfl, Nat.le_of_ble_eq_true rfl⟩) (w_recv X hw (hL 22 (by decide)) rfl (by decide) k_X9) rfl rfl (Nat.le_of_ble_eq_true rfl) dX9_plank_12 ⟨Nat.le_of_ble_eq_true rfl, Nat.le_of_ble_eq_true rfl⟩ (fun r_12_2 u H locs hp_12 hw => ?_)
    obtain ⟨G_12_2, I_12_2, J_12_2⟩ := u
    dsimp only at hw hp_12
    obtain ⟨⟨hp_12, hI_12_2⟩, eG_12, eJ_12⟩ := hp_12
    subst G_12_2 J_12_2
    subst r_12_2
    refine lv_if_ne (tgt := 40) hx hb dX9_plank_15 (by decide) (fun c_15 => ?_) (fun c_15 => ?_)
    · refine lv_iconst (v := 0) hx hb dX9_plank_40 (by decide) ?_
      refine lv_goto (tgt := 55) hx hb dX9_plank_41 (by decide) ?_
      have hp_55 : po_c_X9_plank 0 (G, I_12_2, J) := by
          obtain rfl := hI_12_2.symm
          rw [epo]
          have ef : f_X9_plank I q k = (0, (wU (wU I 22 0 0) 22 0 1)) := by unfold f_X9_plank; rw [if_pos q_8]
          exact ⟨⟨by rw [ef], by rw [ef]⟩, rfl, rfl⟩
      exact w_iret X hr hlk hw hp_55 (Nat.le_of_ble_eq_true rfl) (Nat.le_of_ble_eq_true rfl) dX9_plank_55
    · exact absurd c_15 (by decide)
  · rw [q0_8] at hp_8
    subst r_8_1
    refine lv_iconst (v := 1) hx hb dX9_plank_11 (by decide) ?_
    refine w_callVi (As := [.int 0, .int 1]) (rest := []) X hw hst hl (c_X9_throwsIf0 l D y b z G (wU I 22 0 0) J hL 1) (cwV 2 X.1.2.2.2.2 gX9_plank_X9_throwsIf rfl rfl rfl (by decide +kernel) ⟨Nat.le_of_ble_eq_true rfl, Nat.le_of_ble_eq_true rfl⟩) (w_recv X hw (hL 22 (by decide)) rfl (by decide) k_X9) rfl rfl (Nat.le_of_ble_eq_true rfl) dX9_plank_12 ⟨Nat.le_of_ble_eq_true rfl, Nat.le_of_ble_eq_true rfl⟩ (fun r_12_3 u H locs hp_12 hw => ?_)
    obtain ⟨hp_12, rfl⟩ := hp_12
    dsimp only at hw
    subst r_12_3
    refine lv_if_ne (tgt := 40) hx hb dX9_plank_15 (by decide) (fun c_15 => ?_) (fun c_15 => ?_)
    · exact absurd (by decide) c_15
    · refine lv_aload_n hx hb dX9_plank_18 rfl (lv_at hl 0 rfl) ?_
      refine lv_iload_n hx hb dX9_plank_19 rfl (lv_at hl 2 rfl) ?_
      refine lv_iconst (v := 0) hx hb dX9_plank_20 (by decide) ?_
      refine lv_iconst (v := 5) hx hb dX9_plank_21 (by decide) ?_
      refine w_callSi (As := [.int k, .int 0, .int 5]) (rest := [.ref (G.1 22)]) X hw hst hl (c_X9_in l D y b z G (wU I 22 0 0) J hL k 0 5) (va_cwS 3 X.1.2.2.2.2 gX9_plank_X9_in rfl rfl rfl (by decide +kernel) ⟨Nat.le_of_ble_eq_true rfl, Nat.le_of_ble_eq_true rfl⟩) rfl rfl (Nat.le_of_ble_eq_true rfl) dX9_plank_22 ⟨Nat.le_of_ble_eq_true rfl, Nat.le_of_ble_eq_true rfl⟩ (fun r_22_4 u H locs hp_22 hw => ?_)
      obtain ⟨hp_22, rfl⟩ := hp_22
      dsimp only at hw
      rcases f_X9_in_01  (wU I 22 0 0) k 0 5 with q_22 | ⟨q_22, q0_22⟩
      · rw [q_22] at hp_22
        subst r_22_4
        refine lv_if_ne (tgt := 32) hx hb dX9_plank_25 (by decide) (fun c_25 => ?_) (fun c_25 => ?_)
        · refine lv_iconst (v := 0) hx hb dX9_plank_32 (by decide) ?_
          refine lv_iconst (v := 2) hx hb dX9_plank_33 (by decide) ?_
          refine w_callVi (As := [.int 0, .int 2]) (rest := []) X hw hst hl (c_X9_throwsIf0 l D y b z G (wU I 22 0 0) J hL 2) (cwV 2 X.1.2.2.2.2 gX9_plank_X9_throwsIf rfl rfl rfl (by decide +kernel) ⟨Nat.le_of_ble_eq_true rfl, Nat.le_of_ble_eq_true rfl⟩) (w_recv X hw (hL 22 (by decide)) rfl (by decide) k_X9) rfl rfl (Nat.le_of_ble_eq_true rfl) dX9_plank_34 ⟨Nat.le_of_ble_eq_true rfl, Nat.le_of_ble_eq_true rfl⟩ (fun r_34_5 u H locs hp_34 hw => ?_)
          obtain ⟨hp_34, rfl⟩ := hp_34
          dsimp only at hw
          subst r_34_5
          refine lv_if_eq (tgt := 44) hx hb dX9_plank_37 (by decide) (fun c_37 => ?_) (fun c_37 => ?_)
          · refine lv_aload_n hx hb dX9_plank_44 rfl (lv_at hl 0 rfl) ?_
            refine w_get X hw 10 15 (hL 22 (by decide)) rfl (by decide) k_X9 in_X9_plank_X9 (by decide) (by decide +kernel) rfl (v := .ref (G.1 45)) rfl dX9_plank_45 ?_
            refine lv_bipush (v := 6) hx hb dX9_plank_48 (by decide) ?_
            refine lv_iload_n hx hb dX9_plank_50 rfl (lv_at hl 1 rfl) ?_
            refine lv_imul hx hb dX9_plank_51 ?_
            refine lv_iload_n hx hb dX9_plank_52 rfl (lv_at hl 2 rfl) ?_
            refine lv_iadd hx hb dX9_plank_53 ?_
            have h_54 : vp_in (((6 : Int32) * q) + k) 1200 := by have h9 := ix_i q_22; simp only [Int32.reduceToInt] at h9; have h8 := ix_P hP q_8; exact ix_6 ⟨h8.1, by omega⟩ ⟨by omega, by omega⟩
            refine w_ild X hw (hL 45 (by decide)) rfl h_54 dX9_plank_54 ?_
            refine W.eq (g2 := F0 m 55 ls [.int (I 45 (((6 : Int32) * q) + k).toNatClampNeg)]) rfl ?_
            have hp_55 : po_c_X9_plank (I 45 (((6 : Int32) * q) + k).toNatClampNeg) (G, (wU I 22 0 0), J) := by
                rw [epo]
                have ef : f_X9_plank I q k = (I 45 (((6 : Int32) * q) + k).toNatClampNeg, (wU I 22 0 0)) := by unfold f_X9_plank; rw [if_neg q_8, if_pos q_22]
                exact ⟨⟨by rw [ef], by rw [ef]⟩, rfl, rfl⟩
            exact w_iret X hr hlk hw hp_55 (Nat.le_of_ble_eq_true rfl) (Nat.le_of_ble_eq_true rfl) dX9_plank_55
          · exact absurd (by decide) c_37
        · exact absurd c_25 (by decide)
      · rw [q0_22] at hp_22
        subst r_22_4
        refine lv_if_ne (tgt := 32) hx hb dX9_plank_25 (by decide) (fun c_25 => ?_) (fun c_25 => ?_)
        · exact absurd (by decide) c_25
        · refine lv_iconst (v := 1) hx hb dX9_plank_28 (by decide) ?_
          refine lv_goto (tgt := 33) hx hb dX9_plank_29 (by decide) ?_
          refine lv_iconst (v := 2) hx hb dX9_plank_33 (by decide) ?_
          refine w_callVi (As := [.int 1, .int 2]) (rest := []) X hw hst hl (c_X9_throwsIf1 l D y b z G (wU I 22 0 0) J hL 2) (cwV 2 X.1.2.2.2.2 gX9_plank_X9_throwsIf rfl rfl rfl (by decide +kernel) ⟨Nat.le_of_ble_eq_true rfl, Nat.le_of_ble_eq_true rfl⟩) (w_recv X hw (hL 22 (by decide)) rfl (by decide) k_X9) rfl rfl (Nat.le_of_ble_eq_true rfl) dX9_plank_34 ⟨Nat.le_of_ble_eq_true rfl, Nat.le_of_ble_eq_true rfl⟩ (fun r_34_6 u H locs hp_34 hw => ?_)
          obtain ⟨G_34_6, I_34_6, J_34_6⟩ := u
          dsimp only at hw hp_34
          obtain ⟨⟨hp_34, hI_34_6⟩, eG_34, eJ_34⟩ := hp_34
          subst G_34_6 J_34_6
          subst r_34_6
          refine lv_if_eq (tgt := 44) hx hb dX9_plank_37 (by decide) (fun c_37 => ?_) (fun c_37 => ?_)
          · exact absurd c_37 (by decide)
          · refine lv_iconst (v := 0) hx hb dX9_plank_40 (by decide) ?_
            refine lv_goto (tgt := 55) hx hb dX9_plank_41 (by decide) ?_
            have hp_55 : po_c_X9_plank 0 (G, I_34_6, J) := by
                obtain rfl := hI_34_6.symm
                rw [epo]
                have ef : f_X9_plank I q k = (0, (wU (wU I 22 0 0) 22 0 2)) := by unfold f_X9_plank; rw [if_neg q_8, if_neg q_22]
                exact ⟨⟨by rw [ef], by rw [ef]⟩, rfl, rfl⟩
            exact w_iret X hr hlk hw hp_55 (Nat.le_of_ble_eq_true rfl) (Nat.le_of_ble_eq_true rfl) dX9_plank_55
def f_X9_put (I : wI) (lo : Int32) (q : Int32) : Int32 × wI := (if f_X9_noLot (wU I 22 0 0) lo = 1 then (0, (wU (wU I 22 0 0) 22 0 1)) else (if f_X9_noPlank (wU I 22 0 0) q = 1 then (0, (wU (wU I 22 0 0) 22 0 1)) else (if 0 ≤ (I 45 (((6 : Int32) * q) + 5).toNatClampNeg) then (0, (wU I 22 0 0)) else (if (I 49 lo.toNatClampNeg) < 0 then (1, (wU (wU I 22 0 0) 45 (((6 : Int32) * q) + 5).toNatClampNeg lo)) else (0, (wU I 22 0 0))))))
theorem fr_f_X9_put (I : wI) (lo : Int32) (q : Int32) (q9 : Nat) (h22 : q9 ≠ 22) (h45 : q9 ≠ 45) : (f_X9_put I lo q).2 q9 = I q9 := by
  unfold f_X9_put
  repeat' split
  all_goals first | with_reducible rfl | (simp only [wU_ne _ _ _ h22, wU_ne _ _ _ h45])
set_option maxRecDepth 20000 in
theorem in_X9_put_X9 : ∀ w ∈ u_ws RX9 TX9 42, w ∈ wsX9_put := fun _ h => List.mem_cons_of_mem _ (List.mem_append_right _ h)
set_option maxHeartbeats 4000000 in
set_option maxRecDepth 100000 in
theorem c_X9_put (l : Launch) (D : va_G) (y : Nat → ClassId) (b : Nat) (z : Nat → Nat) (G : wG) (I : wI) (J : wJ) (hL : w_full G) (lo : Int32) (q : Int32) (hN : 0 ≤ (I 22 21).toInt ∧ (I 22 21).toInt ≤ 40) (hP : 0 ≤ (I 22 16).toInt ∧ (I 22 16).toInt ≤ 200) : mI l yX9_put wsX9_put { frames := 2, cells := 0, slots := 0, locals := 43 } D y b z G I J [.ref (G.1 22), .int lo, .int q] (fun r u => (r = (f_X9_put I lo q).1 ∧ u.2.1 = (f_X9_put I lo q).2) ∧ u.1 = G ∧ u.2.2 = J) 0 0 := by
  refine w_enter (by decide) rfl (Nat.le_of_ble_eq_true rfl) rfl ?_
  intro p e s m below meth c ls X hr hlk hnm hw hst hl
  have hx := X.1.1
  have hb := X.1.2.1
  obtain ⟨po_c_X9_put, epo⟩ : ∃ qpo9 : Int32 → wS → Prop, qpo9 = (fun r u => (r = (f_X9_put I lo q).1 ∧ u.2.1 = (f_X9_put I lo q).2) ∧ u.1 = G ∧ u.2.2 = J) := ⟨_, rfl⟩
  rw [← epo]
  refine lv_aload_n hx hb dX9_put_0 rfl (lv_at hl 0 rfl) ?_
  refine lv_iconst (v := 0) hx hb dX9_put_1 (by decide) ?_
  refine w_put X hw 10 0 (hL 22 (by decide)) rfl (by decide) k_X9 in_X9_put_X9 (by decide) (by decide +kernel) rfl rfl (t := .int) (by decide +kernel) rfl rfl (fun _ => rfl) (fun _ => Nat.le_of_ble_eq_true rfl) dX9_put_2 (fun H locs hw => ?_)
  refine lv_aload_n hx hb dX9_put_5 rfl (lv_at hl 0 rfl) ?_
  refine lv_aload_n hx hb dX9_put_6 rfl (lv_at hl 0 rfl) ?_
  refine lv_iload_n hx hb dX9_put_7 rfl (lv_at hl 1 rfl) ?_
  refine w_callVi (As := [.int lo]) (rest := [.ref (G.1 22)]) X hw hst hl (c_X9_noLot l D y b z G (wU I 22 0 0) J hL lo) (cwV 1 X.1.2.2.2.2 gX9_put_X9_noLot rfl rfl rfl (by decide +kernel) ⟨Nat.le_of_ble_eq_true rfl, Nat.le_of_ble_eq_true rfl⟩) (w_recv X hw (hL 22 (by decide)) rfl (by decide) k_X9) rfl rfl (Nat.le_of_ble_eq_true rfl) dX9_put_8 ⟨Nat.le_of_ble_eq_true rfl, Nat.le_of_ble_eq_true rfl⟩ (fun r_8_1 u H locs hp_8 hw => ?_)
  obtain ⟨hp_8, rfl⟩ := hp_8
  dsimp only at hw
  rcases f_X9_noLot_01  (wU I 22 0 0) lo with q_8 | ⟨q_8, q0_8⟩
  · rw [q_8] at hp_8
    subst r_8_1
    refine lv_if_ne (tgt := 22) hx hb dX9_put_11 (by decide) (fun c_11 => ?_) (fun c_11 => ?_)
    · refine lv_iconst (v := 1) hx hb dX9_put_22 (by decide) ?_
      refine lv_goto (tgt := 27) hx hb dX9_put_23 (by decide) ?_
      refine lv_iconst (v := 1) hx hb dX9_put_27 (by decide) ?_
      refine w_callVi (As := [.int 1, .int 1]) (rest := []) X hw hst hl (c_X9_throwsIf1 l D y b z G (wU I 22 0 0) J hL 1) (cwV 2 X.1.2.2.2.2 gX9_put_X9_throwsIf rfl rfl rfl (by decide +kernel) ⟨Nat.le_of_ble_eq_true rfl, Nat.le_of_ble_eq_true rfl⟩) (w_recv X hw (hL 22 (by decide)) rfl (by decide) k_X9) rfl rfl (Nat.le_of_ble_eq_true rfl) dX9_put_28 ⟨Nat.le_of_ble_eq_true rfl, Nat.le_of_ble_eq_true rfl⟩ (fun r_28_2 u H locs hp_28 hw => ?_)
      obtain ⟨G_28_2, I_28_2, J_28_2⟩ := u
      dsimp only at hw hp_28
      obtain ⟨⟨hp_28, hI_28_2⟩, eG_28, eJ_28⟩ := hp_28
      subst G_28_2 J_28_2
      subst r_28_2
      refine lv_if_ne (tgt := 57) hx hb dX9_put_31 (by decide) (fun c_31 => ?_) (fun c_31 => ?_)
      · refine lv_iconst (v := 0) hx hb dX9_put_57 (by decide) ?_
        have hp_58 : po_c_X9_put 0 (G, I_28_2, J) := by
            obtain rfl := hI_28_2.symm
            rw [epo]
            have ef : f_X9_put I lo q = (0, (wU (wU I 22 0 0) 22 0 1)) := by unfold f_X9_put; rw [if_pos q_8]
            exact ⟨⟨by rw [ef], by rw [ef]⟩, rfl, rfl⟩
        exact w_zret X hr (by decide) hlk hw hp_58 (Nat.le_of_ble_eq_true rfl) (Nat.le_of_ble_eq_true rfl) dX9_put_58
      · exact absurd c_31 (by decide)
    · exact absurd c_11 (by decide)
  · rw [q0_8] at hp_8
    subst r_8_1
    refine lv_if_ne (tgt := 22) hx hb dX9_put_11 (by decide) (fun c_11 => ?_) (fun c_11 => ?_)
    · exact absurd (by decide) c_11
    · refine lv_aload_n hx hb dX9_put_14 rfl (lv_at hl 0 rfl) ?_
      refine lv_iload_n hx hb dX9_put_15 rfl (lv_at hl 2 rfl) ?_
      refine w_callVi (As := [.int q]) (rest := [.ref (G.1 22)]) X hw hst hl (c_X9_noPlank l D y b z G (wU I 22 0 0) J hL q) (cwV 1 X.1.2.2.2.2 gX9_put_X9_noPlank rfl rfl rfl (by decide +kernel) ⟨Nat.le_of_ble_eq_true rfl, Nat.le_of_ble_eq_true rfl⟩) (w_recv X hw (hL 22 (by decide)) rfl (by decide) k_X9) rfl rfl (Nat.le_of_ble_eq_true rfl) dX9_put_16 ⟨Nat.le_of_ble_eq_true rfl, Nat.le_of_ble_eq_true rfl⟩ (fun r_16_3 u H locs hp_16 hw => ?_)
      obtain ⟨hp_16, rfl⟩ := hp_16
      dsimp only at hw
      rcases f_X9_noPlank_01  (wU I 22 0 0) q with q_16 | ⟨q_16, q0_16⟩
      · rw [q_16] at hp_16
        subst r_16_3
        refine lv_if_eq (tgt := 26) hx hb dX9_put_19 (by decide) (fun c_19 => ?_) (fun c_19 => ?_)
        · exact absurd c_19 (by decide)
        · refine lv_iconst (v := 1) hx hb dX9_put_22 (by decide) ?_
          refine lv_goto (tgt := 27) hx hb dX9_put_23 (by decide) ?_
          refine lv_iconst (v := 1) hx hb dX9_put_27 (by decide) ?_
          refine w_callVi (As := [.int 1, .int 1]) (rest := []) X hw hst hl (c_X9_throwsIf1 l D y b z G (wU I 22 0 0) J hL 1) (cwV 2 X.1.2.2.2.2 gX9_put_X9_throwsIf rfl rfl rfl (by decide +kernel) ⟨Nat.le_of_ble_eq_true rfl, Nat.le_of_ble_eq_true rfl⟩) (w_recv X hw (hL 22 (by decide)) rfl (by decide) k_X9) rfl rfl (Nat.le_of_ble_eq_true rfl) dX9_put_28 ⟨Nat.le_of_ble_eq_true rfl, Nat.le_of_ble_eq_true rfl⟩ (fun r_28_4 u H locs hp_28 hw => ?_)
          obtain ⟨G_28_4, I_28_4, J_28_4⟩ := u
          dsimp only at hw hp_28
          obtain ⟨⟨hp_28, hI_28_4⟩, eG_28, eJ_28⟩ := hp_28
          subst G_28_4 J_28_4
          subst r_28_4
          refine lv_if_ne (tgt := 57) hx hb dX9_put_31 (by decide) (fun c_31 => ?_) (fun c_31 => ?_)
          · refine lv_iconst (v := 0) hx hb dX9_put_57 (by decide) ?_
            have hp_58 : po_c_X9_put 0 (G, I_28_4, J) := by
                obtain rfl := hI_28_4.symm
                rw [epo]
                have ef : f_X9_put I lo q = (0, (wU (wU I 22 0 0) 22 0 1)) := by unfold f_X9_put; rw [if_neg q_8, if_pos q_16]
                exact ⟨⟨by rw [ef], by rw [ef]⟩, rfl, rfl⟩
            exact w_zret X hr (by decide) hlk hw hp_58 (Nat.le_of_ble_eq_true rfl) (Nat.le_of_ble_eq_true rfl) dX9_put_58
          · exact absurd c_31 (by decide)
      · rw [q0_16] at hp_16
        subst r_16_3
        refine lv_if_eq (tgt := 26) hx hb dX9_put_19 (by decide) (fun c_19 => ?_) (fun c_19 => ?_)
        · refine lv_iconst (v := 0) hx hb dX9_put_26 (by decide) ?_
          refine lv_iconst (v := 1) hx hb dX9_put_27 (by decide) ?_
          refine w_callVi (As := [.int 0, .int 1]) (rest := []) X hw hst hl (c_X9_throwsIf0 l D y b z G (wU I 22 0 0) J hL 1) (cwV 2 X.1.2.2.2.2 gX9_put_X9_throwsIf rfl rfl rfl (by decide +kernel) ⟨Nat.le_of_ble_eq_true rfl, Nat.le_of_ble_eq_true rfl⟩) (w_recv X hw (hL 22 (by decide)) rfl (by decide) k_X9) rfl rfl (Nat.le_of_ble_eq_true rfl) dX9_put_28 ⟨Nat.le_of_ble_eq_true rfl, Nat.le_of_ble_eq_true rfl⟩ (fun r_28_5 u H locs hp_28 hw => ?_)
          obtain ⟨hp_28, rfl⟩ := hp_28
          dsimp only at hw
          subst r_28_5
          refine lv_if_ne (tgt := 57) hx hb dX9_put_31 (by decide) (fun c_31 => ?_) (fun c_31 => ?_)
          · exact absurd (by decide) c_31
          · refine lv_aload_n hx hb dX9_put_34 rfl (lv_at hl 0 rfl) ?_
            refine w_get X hw 10 15 (hL 22 (by decide)) rfl (by decide) k_X9 in_X9_put_X9 (by decide) (by decide +kernel) rfl (v := .ref (G.1 45)) rfl dX9_put_35 ?_
            refine lv_bipush (v := 6) hx hb dX9_put_38 (by decide) ?_
            refine lv_iload_n hx hb dX9_put_40 rfl (lv_at hl 2 rfl) ?_
            refine lv_imul hx hb dX9_put_41 ?_
            refine lv_iconst (v := 5) hx hb dX9_put_42 (by decide) ?_
            refine lv_iadd hx hb dX9_put_43 ?_
            have h_44 : vp_in (((6 : Int32) * q) + 5) 1200 := by have h8 := ix_P hP q_16; exact ix_6 ⟨h8.1, by omega⟩ ⟨by decide, by decide⟩
            refine w_ild X hw (hL 45 (by decide)) rfl h_44 dX9_put_44 ?_
            refine W.eq (g2 := F0 m 45 ls [.int (I 45 (((6 : Int32) * q) + 5).toNatClampNeg)]) rfl ?_
            refine lv_if_ge (tgt := 57) hx hb dX9_put_45 (by decide) (fun c_45 => ?_) (fun c_45 => ?_)
            · refine lv_iconst (v := 0) hx hb dX9_put_57 (by decide) ?_
              have hp_58 : po_c_X9_put 0 (G, (wU I 22 0 0), J) := by
                  rw [epo]
                  have ef : f_X9_put I lo q = (0, (wU I 22 0 0)) := by unfold f_X9_put; rw [if_neg q_8, if_neg q_16, if_pos c_45]
                  exact ⟨⟨by rw [ef], by rw [ef]⟩, rfl, rfl⟩
              exact w_zret X hr (by decide) hlk hw hp_58 (Nat.le_of_ble_eq_true rfl) (Nat.le_of_ble_eq_true rfl) dX9_put_58
            · refine lv_aload_n hx hb dX9_put_48 rfl (lv_at hl 0 rfl) ?_
              refine w_get X hw 10 19 (hL 22 (by decide)) rfl (by decide) k_X9 in_X9_put_X9 (by decide) (by decide +kernel) rfl (v := .ref (G.1 49)) rfl dX9_put_49 ?_
              refine lv_iload_n hx hb dX9_put_52 rfl (lv_at hl 1 rfl) ?_
              have h_53 : vp_in lo 40 := by have h8 := ix_L hN q_8; rw [vp_in_iff]; omega
              refine w_ild X hw (hL 49 (by decide)) rfl h_53 dX9_put_53 ?_
              refine W.eq (g2 := F0 m 54 ls [.int (I 49 lo.toNatClampNeg)]) rfl ?_
              refine lv_if_lt (tgt := 59) hx hb dX9_put_54 (by decide) (fun c_54 => ?_) (fun c_54 => ?_)
              · refine lv_aload_n hx hb dX9_put_59 rfl (lv_at hl 0 rfl) ?_
                refine w_get X hw 10 15 (hL 22 (by decide)) rfl (by decide) k_X9 in_X9_put_X9 (by decide) (by decide +kernel) rfl (v := .ref (G.1 45)) rfl dX9_put_60 ?_
                refine lv_bipush (v := 6) hx hb dX9_put_63 (by decide) ?_
                refine lv_iload_n hx hb dX9_put_65 rfl (lv_at hl 2 rfl) ?_
                refine lv_imul hx hb dX9_put_66 ?_
                refine lv_iconst (v := 5) hx hb dX9_put_67 (by decide) ?_
                refine lv_iadd hx hb dX9_put_68 ?_
                refine lv_iload_n hx hb dX9_put_69 rfl (lv_at hl 1 rfl) ?_
                have h_70 : vp_in (((6 : Int32) * q) + 5) 1200 := by have h8 := ix_P hP q_16; exact ix_6 ⟨h8.1, by omega⟩ ⟨by decide, by decide⟩
                refine w_ist X hw (hL 45 (by decide)) rfl h_70 dX9_put_70 (fun H locs hw => ?_)
                refine lv_iconst (v := 1) hx hb dX9_put_71 (by decide) ?_
                have hp_72 : po_c_X9_put 1 (G, (wU (wU I 22 0 0) 45 (((6 : Int32) * q) + 5).toNatClampNeg lo), J) := by
                    rw [epo]
                    have ef : f_X9_put I lo q = (1, (wU (wU I 22 0 0) 45 (((6 : Int32) * q) + 5).toNatClampNeg lo)) := by unfold f_X9_put; rw [if_neg q_8, if_neg q_16, if_neg c_45, if_pos c_54]
                    exact ⟨⟨by rw [ef], by rw [ef]⟩, rfl, rfl⟩
                exact w_zret X hr (by decide) hlk hw hp_72 (Nat.le_of_ble_eq_true rfl) (Nat.le_of_ble_eq_true rfl) dX9_put_72
              · refine lv_iconst (v := 0) hx hb dX9_put_57 (by decide) ?_
                have hp_58 : po_c_X9_put 0 (G, (wU I 22 0 0), J) := by
                    rw [epo]
                    have ef : f_X9_put I lo q = (0, (wU I 22 0 0)) := by unfold f_X9_put; rw [if_neg q_8, if_neg q_16, if_neg c_45, if_neg c_54]
                    exact ⟨⟨by rw [ef], by rw [ef]⟩, rfl, rfl⟩
                exact w_zret X hr (by decide) hlk hw hp_58 (Nat.le_of_ble_eq_true rfl) (Nat.le_of_ble_eq_true rfl) dX9_put_58
        · exact absurd (by decide) c_19
def f_X9_bid (I : wI) (lo : Int32) (bd : Int32) (mo : Int32) : Int32 × wI := (if f_X9_noLot (wU I 22 0 0) lo = 1 then (0, (wU (wU I 22 0 0) 22 0 1)) else (if f_X9_in (wU I 22 0 0) bd 0 7 = 1 then (if f_X9_in (wU I 22 0 0) mo 0 1000000 = 1 then (if mo < (I 47 lo.toNatClampNeg) then (0, (wU I 22 0 0)) else (if (I 49 lo.toNatClampNeg) < 0 then (1, (wU (wU I 22 0 0) 48 (((8 : Int32) * lo) + bd).toNatClampNeg mo)) else (0, (wU I 22 0 0)))) else (0, (wU (wU I 22 0 0) 22 0 2))) else (0, (wU (wU I 22 0 0) 22 0 2))))
theorem fr_f_X9_bid (I : wI) (lo : Int32) (bd : Int32) (mo : Int32) (q9 : Nat) (h22 : q9 ≠ 22) (h48 : q9 ≠ 48) : (f_X9_bid I lo bd mo).2 q9 = I q9 := by
  unfold f_X9_bid
  repeat' split
  all_goals first | with_reducible rfl | (simp only [wU_ne _ _ _ h22, wU_ne _ _ _ h48])
set_option maxRecDepth 20000 in
theorem in_X9_bid_X9 : ∀ w ∈ u_ws RX9 TX9 42, w ∈ wsX9_bid := fun _ h => List.mem_cons_of_mem _ (List.mem_append_right _ h)
set_option maxHeartbeats 4000000 in
set_option maxRecDepth 100000 in
theorem c_X9_bid (l : Launch) (D : va_G) (y : Nat → ClassId) (b : Nat) (z : Nat → Nat) (G : wG) (I : wI) (J : wJ) (hL : w_full G) (lo : Int32) (bd : Int32) (mo : Int32) (hN : 0 ≤ (I 22 21).toInt ∧ (I 22 21).toInt ≤ 40) : mI l yX9_bid wsX9_bid { frames := 2, cells := 0, slots := 0, locals := 43 } D y b z G I J [.ref (G.1 22), .int lo, .int bd, .int mo] (fun r u => (r = (f_X9_bid I lo bd mo).1 ∧ u.2.1 = (f_X9_bid I lo bd mo).2) ∧ u.1 = G ∧ u.2.2 = J) 0 0 := by
  refine w_enter (by decide) rfl (Nat.le_of_ble_eq_true rfl) rfl ?_
  intro p e s m below meth c ls X hr hlk hnm hw hst hl
  have hx := X.1.1
  have hb := X.1.2.1
  obtain ⟨po_c_X9_bid, epo⟩ : ∃ qpo9 : Int32 → wS → Prop, qpo9 = (fun r u => (r = (f_X9_bid I lo bd mo).1 ∧ u.2.1 = (f_X9_bid I lo bd mo).2) ∧ u.1 = G ∧ u.2.2 = J) := ⟨_, rfl⟩
  rw [← epo]
  refine lv_aload_n hx hb dX9_bid_0 rfl (lv_at hl 0 rfl) ?_
  refine lv_iconst (v := 0) hx hb dX9_bid_1 (by decide) ?_
  refine w_put X hw 10 0 (hL 22 (by decide)) rfl (by decide) k_X9 in_X9_bid_X9 (by decide) (by decide +kernel) rfl rfl (t := .int) (by decide +kernel) rfl rfl (fun _ => rfl) (fun _ => Nat.le_of_ble_eq_true rfl) dX9_bid_2 (fun H locs hw => ?_)
  refine lv_aload_n hx hb dX9_bid_5 rfl (lv_at hl 0 rfl) ?_
  refine lv_aload_n hx hb dX9_bid_6 rfl (lv_at hl 0 rfl) ?_
  refine lv_iload_n hx hb dX9_bid_7 rfl (lv_at hl 1 rfl) ?_
  refine w_callVi (As := [.int lo]) (rest := [.ref (G.1 22)]) X hw hst hl (c_X9_noLot l D y b z G (wU I 22 0 0) J hL lo) (cwV 1 X.1.2.2.2.2 gX9_bid_X9_noLot rfl rfl rfl (by decide +kernel) ⟨Nat.le_of_ble_eq_true rfl, Nat.le_of_ble_eq_true rfl⟩) (w_recv X hw (hL 22 (by decide)) rfl (by decide) k_X9) rfl rfl (Nat.le_of_ble_eq_true rfl) dX9_bid_8 ⟨Nat.le_of_ble_eq_true rfl, Nat.le_of_ble_eq_true rfl⟩ (fun r_8_1 u H locs hp_8 hw => ?_)
  obtain ⟨hp_8, rfl⟩ := hp_8
  dsimp only at hw
  rcases f_X9_noLot_01  (wU I 22 0 0) lo with q_8 | ⟨q_8, q0_8⟩
  · rw [q_8] at hp_8
    subst r_8_1
    refine lv_iconst (v := 1) hx hb dX9_bid_11 (by decide) ?_
    refine w_callVi (As := [.int 1, .int 1]) (rest := []) X hw hst hl (c_X9_throwsIf1 l D y b z G (wU I 22 0 0) J hL 1) (cwV 2 X.1.2.2.2.2 gX9_bid_X9_throwsIf rfl rfl rfl (by decide +kernel) ⟨Nat.le_of_ble_eq_true rfl, Nat.le_of_ble_eq_true rfl⟩) (w_recv X hw (hL 22 (by decide)) rfl (by decide) k_X9) rfl rfl (Nat.le_of_ble_eq_true rfl) dX9_bid_12 ⟨Nat.le_of_ble_eq_true rfl, Nat.le_of_ble_eq_true rfl⟩ (fun r_12_2 u H locs hp_12 hw => ?_)
    obtain ⟨G_12_2, I_12_2, J_12_2⟩ := u
    dsimp only at hw hp_12
    obtain ⟨⟨hp_12, hI_12_2⟩, eG_12, eJ_12⟩ := hp_12
    subst G_12_2 J_12_2
    subst r_12_2
    refine lv_if_ne (tgt := 70) hx hb dX9_bid_15 (by decide) (fun c_15 => ?_) (fun c_15 => ?_)
    · refine lv_iconst (v := 0) hx hb dX9_bid_70 (by decide) ?_
      have hp_71 : po_c_X9_bid 0 (G, I_12_2, J) := by
          obtain rfl := hI_12_2.symm
          rw [epo]
          have ef : f_X9_bid I lo bd mo = (0, (wU (wU I 22 0 0) 22 0 1)) := by unfold f_X9_bid; rw [if_pos q_8]
          exact ⟨⟨by rw [ef], by rw [ef]⟩, rfl, rfl⟩
      exact w_zret X hr (by decide) hlk hw hp_71 (Nat.le_of_ble_eq_true rfl) (Nat.le_of_ble_eq_true rfl) dX9_bid_71
    · exact absurd c_15 (by decide)
  · rw [q0_8] at hp_8
    subst r_8_1
    refine lv_iconst (v := 1) hx hb dX9_bid_11 (by decide) ?_
    refine w_callVi (As := [.int 0, .int 1]) (rest := []) X hw hst hl (c_X9_throwsIf0 l D y b z G (wU I 22 0 0) J hL 1) (cwV 2 X.1.2.2.2.2 gX9_bid_X9_throwsIf rfl rfl rfl (by decide +kernel) ⟨Nat.le_of_ble_eq_true rfl, Nat.le_of_ble_eq_true rfl⟩) (w_recv X hw (hL 22 (by decide)) rfl (by decide) k_X9) rfl rfl (Nat.le_of_ble_eq_true rfl) dX9_bid_12 ⟨Nat.le_of_ble_eq_true rfl, Nat.le_of_ble_eq_true rfl⟩ (fun r_12_3 u H locs hp_12 hw => ?_)
    obtain ⟨hp_12, rfl⟩ := hp_12
    dsimp only at hw
    subst r_12_3
    refine lv_if_ne (tgt := 70) hx hb dX9_bid_15 (by decide) (fun c_15 => ?_) (fun c_15 => ?_)
    · exact absurd (by decide) c_15
    · refine lv_aload_n hx hb dX9_bid_18 rfl (lv_at hl 0 rfl) ?_
      refine lv_iload_n hx hb dX9_bid_19 rfl (lv_at hl 2 rfl) ?_
      refine lv_iconst (v := 0) hx hb dX9_bid_20 (by decide) ?_
      refine lv_bipush (v := 7) hx hb dX9_bid_21 (by decide) ?_
      refine w_callSi (As := [.int bd, .int 0, .int 7]) (rest := [.ref (G.1 22)]) X hw hst hl (c_X9_in l D y b z G (wU I 22 0 0) J hL bd 0 7) (va_cwS 3 X.1.2.2.2.2 gX9_bid_X9_in rfl rfl rfl (by decide +kernel) ⟨Nat.le_of_ble_eq_true rfl, Nat.le_of_ble_eq_true rfl⟩) rfl rfl (Nat.le_of_ble_eq_true rfl) dX9_bid_23 ⟨Nat.le_of_ble_eq_true rfl, Nat.le_of_ble_eq_true rfl⟩ (fun r_23_4 u H locs hp_23 hw => ?_)
      obtain ⟨hp_23, rfl⟩ := hp_23
      dsimp only at hw
      rcases f_X9_in_01  (wU I 22 0 0) bd 0 7 with q_23 | ⟨q_23, q0_23⟩
      · rw [q_23] at hp_23
        subst r_23_4
        refine lv_if_eq (tgt := 39) hx hb dX9_bid_26 (by decide) (fun c_26 => ?_) (fun c_26 => ?_)
        · exact absurd c_26 (by decide)
        · refine lv_iload_n hx hb dX9_bid_29 rfl (lv_at hl 3 rfl) ?_
          refine lv_iconst (v := 0) hx hb dX9_bid_30 (by decide) ?_
          refine lv_ldc (v := 1000000) hx hb X.1.2.2.2.1 (X.1.2.2.2.2 (.constant RX9 207 1000000) (by decide +kernel)) dX9_bid_31 ?_
          refine w_callSi (As := [.int mo, .int 0, .int 1000000]) (rest := [.ref (G.1 22)]) X hw hst hl (c_X9_in l D y b z G (wU I 22 0 0) J hL mo 0 1000000) (va_cwS 3 X.1.2.2.2.2 gX9_bid_X9_in rfl rfl rfl (by decide +kernel) ⟨Nat.le_of_ble_eq_true rfl, Nat.le_of_ble_eq_true rfl⟩) rfl rfl (Nat.le_of_ble_eq_true rfl) dX9_bid_33 ⟨Nat.le_of_ble_eq_true rfl, Nat.le_of_ble_eq_true rfl⟩ (fun r_33_5 u H locs hp_33 hw => ?_)
          obtain ⟨hp_33, rfl⟩ := hp_33
          dsimp only at hw
          rcases f_X9_in_01  (wU I 22 0 0) mo 0 1000000 with q_33 | ⟨q_33, q0_33⟩
          · rw [q_33] at hp_33
            subst r_33_5
            refine lv_if_ne (tgt := 43) hx hb dX9_bid_36 (by decide) (fun c_36 => ?_) (fun c_36 => ?_)
            · refine lv_iconst (v := 0) hx hb dX9_bid_43 (by decide) ?_
              refine lv_iconst (v := 2) hx hb dX9_bid_44 (by decide) ?_
              refine w_callVi (As := [.int 0, .int 2]) (rest := []) X hw hst hl (c_X9_throwsIf0 l D y b z G (wU I 22 0 0) J hL 2) (cwV 2 X.1.2.2.2.2 gX9_bid_X9_throwsIf rfl rfl rfl (by decide +kernel) ⟨Nat.le_of_ble_eq_true rfl, Nat.le_of_ble_eq_true rfl⟩) (w_recv X hw (hL 22 (by decide)) rfl (by decide) k_X9) rfl rfl (Nat.le_of_ble_eq_true rfl) dX9_bid_45 ⟨Nat.le_of_ble_eq_true rfl, Nat.le_of_ble_eq_true rfl⟩ (fun r_45_6 u H locs hp_45 hw => ?_)
              obtain ⟨hp_45, rfl⟩ := hp_45
              dsimp only at hw
              subst r_45_6
              refine lv_if_ne (tgt := 70) hx hb dX9_bid_48 (by decide) (fun c_48 => ?_) (fun c_48 => ?_)
              · exact absurd (by decide) c_48
              · refine lv_iload_n hx hb dX9_bid_51 rfl (lv_at hl 3 rfl) ?_
                refine lv_aload_n hx hb dX9_bid_52 rfl (lv_at hl 0 rfl) ?_
                refine w_get X hw 10 17 (hL 22 (by decide)) rfl (by decide) k_X9 in_X9_bid_X9 (by decide) (by decide +kernel) rfl (v := .ref (G.1 47)) rfl dX9_bid_53 ?_
                refine lv_iload_n hx hb dX9_bid_56 rfl (lv_at hl 1 rfl) ?_
                have h_57 : vp_in lo 40 := by have h8 := ix_L hN q_8; rw [vp_in_iff]; omega
                refine w_ild X hw (hL 47 (by decide)) rfl h_57 dX9_bid_57 ?_
                refine W.eq (g2 := F0 m 58 ls [.int (I 47 lo.toNatClampNeg), .int mo]) rfl ?_
                refine lv_icmp_lt (tgt := 70) hx hb dX9_bid_58 (by decide) (fun c_58 => ?_) (fun c_58 => ?_)
                · refine lv_iconst (v := 0) hx hb dX9_bid_70 (by decide) ?_
                  have hp_71 : po_c_X9_bid 0 (G, (wU I 22 0 0), J) := by
                      rw [epo]
                      have ef : f_X9_bid I lo bd mo = (0, (wU I 22 0 0)) := by unfold f_X9_bid; rw [if_neg q_8, if_pos q_23, if_pos q_33, if_pos c_58]
                      exact ⟨⟨by rw [ef], by rw [ef]⟩, rfl, rfl⟩
                  exact w_zret X hr (by decide) hlk hw hp_71 (Nat.le_of_ble_eq_true rfl) (Nat.le_of_ble_eq_true rfl) dX9_bid_71
                · refine lv_aload_n hx hb dX9_bid_61 rfl (lv_at hl 0 rfl) ?_
                  refine w_get X hw 10 19 (hL 22 (by decide)) rfl (by decide) k_X9 in_X9_bid_X9 (by decide) (by decide +kernel) rfl (v := .ref (G.1 49)) rfl dX9_bid_62 ?_
                  refine lv_iload_n hx hb dX9_bid_65 rfl (lv_at hl 1 rfl) ?_
                  have h_66 : vp_in lo 40 := by have h8 := ix_L hN q_8; rw [vp_in_iff]; omega
                  refine w_ild X hw (hL 49 (by decide)) rfl h_66 dX9_bid_66 ?_
                  refine W.eq (g2 := F0 m 67 ls [.int (I 49 lo.toNatClampNeg)]) rfl ?_
                  refine lv_if_lt (tgt := 72) hx hb dX9_bid_67 (by decide) (fun c_67 => ?_) (fun c_67 => ?_)
                  · refine lv_aload_n hx hb dX9_bid_72 rfl (lv_at hl 0 rfl) ?_
                    refine w_get X hw 10 18 (hL 22 (by decide)) rfl (by decide) k_X9 in_X9_bid_X9 (by decide) (by decide +kernel) rfl (v := .ref (G.1 48)) rfl dX9_bid_73 ?_
                    refine lv_bipush (v := 8) hx hb dX9_bid_76 (by decide) ?_
                    refine lv_iload_n hx hb dX9_bid_78 rfl (lv_at hl 1 rfl) ?_
                    refine lv_imul hx hb dX9_bid_79 ?_
                    refine lv_iload_n hx hb dX9_bid_80 rfl (lv_at hl 2 rfl) ?_
                    refine lv_iadd hx hb dX9_bid_81 ?_
                    refine lv_iload_n hx hb dX9_bid_82 rfl (lv_at hl 3 rfl) ?_
                    have h_83 : vp_in (((8 : Int32) * lo) + bd) 320 := by have h8 := ix_L hN q_8; have h9 := ix_i q_23; simp only [Int32.reduceToInt] at h9; exact ix_8 ⟨h8.1, by omega⟩ ⟨by omega, by omega⟩
                    refine w_ist X hw (hL 48 (by decide)) rfl h_83 dX9_bid_83 (fun H locs hw => ?_)
                    refine lv_iconst (v := 1) hx hb dX9_bid_84 (by decide) ?_
                    have hp_85 : po_c_X9_bid 1 (G, (wU (wU I 22 0 0) 48 (((8 : Int32) * lo) + bd).toNatClampNeg mo), J) := by
                        rw [epo]
                        have ef : f_X9_bid I lo bd mo = (1, (wU (wU I 22 0 0) 48 (((8 : Int32) * lo) + bd).toNatClampNeg mo)) := by unfold f_X9_bid; rw [if_neg q_8, if_pos q_23, if_pos q_33, if_neg c_58, if_pos c_67]
                        exact ⟨⟨by rw [ef], by rw [ef]⟩, rfl, rfl⟩
                    exact w_zret X hr (by decide) hlk hw hp_85 (Nat.le_of_ble_eq_true rfl) (Nat.le_of_ble_eq_true rfl) dX9_bid_85
                  · refine lv_iconst (v := 0) hx hb dX9_bid_70 (by decide) ?_
                    have hp_71 : po_c_X9_bid 0 (G, (wU I 22 0 0), J) := by
                        rw [epo]
                        have ef : f_X9_bid I lo bd mo = (0, (wU I 22 0 0)) := by unfold f_X9_bid; rw [if_neg q_8, if_pos q_23, if_pos q_33, if_neg c_58, if_neg c_67]
                        exact ⟨⟨by rw [ef], by rw [ef]⟩, rfl, rfl⟩
                    exact w_zret X hr (by decide) hlk hw hp_71 (Nat.le_of_ble_eq_true rfl) (Nat.le_of_ble_eq_true rfl) dX9_bid_71
            · exact absurd c_36 (by decide)
          · rw [q0_33] at hp_33
            subst r_33_5
            refine lv_if_ne (tgt := 43) hx hb dX9_bid_36 (by decide) (fun c_36 => ?_) (fun c_36 => ?_)
            · exact absurd (by decide) c_36
            · refine lv_iconst (v := 1) hx hb dX9_bid_39 (by decide) ?_
              refine lv_goto (tgt := 44) hx hb dX9_bid_40 (by decide) ?_
              refine lv_iconst (v := 2) hx hb dX9_bid_44 (by decide) ?_
              refine w_callVi (As := [.int 1, .int 2]) (rest := []) X hw hst hl (c_X9_throwsIf1 l D y b z G (wU I 22 0 0) J hL 2) (cwV 2 X.1.2.2.2.2 gX9_bid_X9_throwsIf rfl rfl rfl (by decide +kernel) ⟨Nat.le_of_ble_eq_true rfl, Nat.le_of_ble_eq_true rfl⟩) (w_recv X hw (hL 22 (by decide)) rfl (by decide) k_X9) rfl rfl (Nat.le_of_ble_eq_true rfl) dX9_bid_45 ⟨Nat.le_of_ble_eq_true rfl, Nat.le_of_ble_eq_true rfl⟩ (fun r_45_7 u H locs hp_45 hw => ?_)
              obtain ⟨G_45_7, I_45_7, J_45_7⟩ := u
              dsimp only at hw hp_45
              obtain ⟨⟨hp_45, hI_45_7⟩, eG_45, eJ_45⟩ := hp_45
              subst G_45_7 J_45_7
              subst r_45_7
              refine lv_if_ne (tgt := 70) hx hb dX9_bid_48 (by decide) (fun c_48 => ?_) (fun c_48 => ?_)
              · refine lv_iconst (v := 0) hx hb dX9_bid_70 (by decide) ?_
                have hp_71 : po_c_X9_bid 0 (G, I_45_7, J) := by
                    obtain rfl := hI_45_7.symm
                    rw [epo]
                    have ef : f_X9_bid I lo bd mo = (0, (wU (wU I 22 0 0) 22 0 2)) := by unfold f_X9_bid; rw [if_neg q_8, if_pos q_23, if_neg q_33]
                    exact ⟨⟨by rw [ef], by rw [ef]⟩, rfl, rfl⟩
                exact w_zret X hr (by decide) hlk hw hp_71 (Nat.le_of_ble_eq_true rfl) (Nat.le_of_ble_eq_true rfl) dX9_bid_71
              · exact absurd c_48 (by decide)
      · rw [q0_23] at hp_23
        subst r_23_4
        refine lv_if_eq (tgt := 39) hx hb dX9_bid_26 (by decide) (fun c_26 => ?_) (fun c_26 => ?_)
        · refine lv_iconst (v := 1) hx hb dX9_bid_39 (by decide) ?_
          refine lv_goto (tgt := 44) hx hb dX9_bid_40 (by decide) ?_
          refine lv_iconst (v := 2) hx hb dX9_bid_44 (by decide) ?_
          refine w_callVi (As := [.int 1, .int 2]) (rest := []) X hw hst hl (c_X9_throwsIf1 l D y b z G (wU I 22 0 0) J hL 2) (cwV 2 X.1.2.2.2.2 gX9_bid_X9_throwsIf rfl rfl rfl (by decide +kernel) ⟨Nat.le_of_ble_eq_true rfl, Nat.le_of_ble_eq_true rfl⟩) (w_recv X hw (hL 22 (by decide)) rfl (by decide) k_X9) rfl rfl (Nat.le_of_ble_eq_true rfl) dX9_bid_45 ⟨Nat.le_of_ble_eq_true rfl, Nat.le_of_ble_eq_true rfl⟩ (fun r_45_8 u H locs hp_45 hw => ?_)
          obtain ⟨G_45_8, I_45_8, J_45_8⟩ := u
          dsimp only at hw hp_45
          obtain ⟨⟨hp_45, hI_45_8⟩, eG_45, eJ_45⟩ := hp_45
          subst G_45_8 J_45_8
          subst r_45_8
          refine lv_if_ne (tgt := 70) hx hb dX9_bid_48 (by decide) (fun c_48 => ?_) (fun c_48 => ?_)
          · refine lv_iconst (v := 0) hx hb dX9_bid_70 (by decide) ?_
            have hp_71 : po_c_X9_bid 0 (G, I_45_8, J) := by
                obtain rfl := hI_45_8.symm
                rw [epo]
                have ef : f_X9_bid I lo bd mo = (0, (wU (wU I 22 0 0) 22 0 2)) := by unfold f_X9_bid; rw [if_neg q_8, if_neg q_23]
                exact ⟨⟨by rw [ef], by rw [ef]⟩, rfl, rfl⟩
            exact w_zret X hr (by decide) hlk hw hp_71 (Nat.le_of_ble_eq_true rfl) (Nat.le_of_ble_eq_true rfl) dX9_bid_71
          · exact absurd c_48 (by decide)
        · exact absurd (by decide) c_26
def f_X9_sort (I : wI) (si : Int32) (wo : Int32) (fl : Int32) : Int32 × wI := (if f_X9_in (wU I 22 0 0) si 1 12 = 1 then (if f_X9_in (wU I 22 0 0) wo 0 1000 = 1 then (if f_X9_in (wU I 22 0 0) fl 0 12 = 1 then (if (I 22 34) = 6 then ((-1), (wU I 22 0 0)) else (((I 22 34) + 1) - 1, (wU (wU (wU (wU (wU I 22 0 0) 61 (I 22 34).toNatClampNeg si) 62 (I 22 34).toNatClampNeg wo) 63 (I 22 34).toNatClampNeg fl) 22 34 ((I 22 34) + 1)))) else (0, (wU (wU I 22 0 0) 22 0 1))) else (0, (wU (wU I 22 0 0) 22 0 1))) else (0, (wU (wU I 22 0 0) 22 0 1)))
theorem fr_f_X9_sort (I : wI) (si : Int32) (wo : Int32) (fl : Int32) (q9 : Nat) (h22 : q9 ≠ 22) (h61 : q9 ≠ 61) (h62 : q9 ≠ 62) (h63 : q9 ≠ 63) : (f_X9_sort I si wo fl).2 q9 = I q9 := by
  unfold f_X9_sort
  repeat' split
  all_goals first | with_reducible rfl | (simp only [wU_ne _ _ _ h22, wU_ne _ _ _ h61, wU_ne _ _ _ h62, wU_ne _ _ _ h63])
set_option maxRecDepth 20000 in
theorem in_X9_sort_X9 : ∀ w ∈ u_ws RX9 TX9 42, w ∈ wsX9_sort := fun _ h => List.mem_cons_of_mem _ (List.mem_append_right _ h)
set_option maxHeartbeats 4000000 in
set_option maxRecDepth 100000 in
theorem c_X9_sort (l : Launch) (D : va_G) (y : Nat → ClassId) (b : Nat) (z : Nat → Nat) (G : wG) (I : wI) (J : wJ) (hL : w_full G) (si : Int32) (wo : Int32) (fl : Int32) (hN : 0 ≤ (I 22 34).toInt ∧ (I 22 34).toInt ≤ 6) : mI l yX9_sort wsX9_sort { frames := 1, cells := 0, slots := 0, locals := 22 } D y b z G I J [.ref (G.1 22), .int si, .int wo, .int fl] (fun r u => (r = (f_X9_sort I si wo fl).1 ∧ u.2.1 = (f_X9_sort I si wo fl).2) ∧ u.1 = G ∧ u.2.2 = J) 0 0 := by
  refine w_enter (by decide) rfl (Nat.le_of_ble_eq_true rfl) rfl ?_
  intro p e s m below meth c ls X hr hlk hnm hw hst hl
  have hx := X.1.1
  have hb := X.1.2.1
  obtain ⟨po_c_X9_sort, epo⟩ : ∃ qpo9 : Int32 → wS → Prop, qpo9 = (fun r u => (r = (f_X9_sort I si wo fl).1 ∧ u.2.1 = (f_X9_sort I si wo fl).2) ∧ u.1 = G ∧ u.2.2 = J) := ⟨_, rfl⟩
  rw [← epo]
  refine lv_aload_n hx hb dX9_sort_0 rfl (lv_at hl 0 rfl) ?_
  refine lv_iconst (v := 0) hx hb dX9_sort_1 (by decide) ?_
  refine w_put X hw 10 0 (hL 22 (by decide)) rfl (by decide) k_X9 in_X9_sort_X9 (by decide) (by decide +kernel) rfl rfl (t := .int) (by decide +kernel) rfl rfl (fun _ => rfl) (fun _ => Nat.le_of_ble_eq_true rfl) dX9_sort_2 (fun H locs hw => ?_)
  refine lv_aload_n hx hb dX9_sort_5 rfl (lv_at hl 0 rfl) ?_
  refine lv_iload_n hx hb dX9_sort_6 rfl (lv_at hl 1 rfl) ?_
  refine lv_iconst (v := 1) hx hb dX9_sort_7 (by decide) ?_
  refine lv_bipush (v := 12) hx hb dX9_sort_8 (by decide) ?_
  refine w_callSi (As := [.int si, .int 1, .int 12]) (rest := [.ref (G.1 22)]) X hw hst hl (c_X9_in l D y b z G (wU I 22 0 0) J hL si 1 12) (va_cwS 3 X.1.2.2.2.2 gX9_sort_X9_in rfl rfl rfl (by decide +kernel) ⟨Nat.le_of_ble_eq_true rfl, Nat.le_of_ble_eq_true rfl⟩) rfl rfl (Nat.le_of_ble_eq_true rfl) dX9_sort_10 ⟨Nat.le_of_ble_eq_true rfl, Nat.le_of_ble_eq_true rfl⟩ (fun r_10_1 u H locs hp_10 hw => ?_)
  obtain ⟨hp_10, rfl⟩ := hp_10
  dsimp only at hw
  rcases f_X9_in_01  (wU I 22 0 0) si 1 12 with q_10 | ⟨q_10, q0_10⟩
  · rw [q_10] at hp_10
    subst r_10_1
    refine lv_if_eq (tgt := 37) hx hb dX9_sort_13 (by decide) (fun c_13 => ?_) (fun c_13 => ?_)
    · exact absurd c_13 (by decide)
    · refine lv_iload_n hx hb dX9_sort_16 rfl (lv_at hl 2 rfl) ?_
      refine lv_iconst (v := 0) hx hb dX9_sort_17 (by decide) ?_
      refine lv_sipush (v := 1000) hx hb dX9_sort_18 (by decide) ?_
      refine w_callSi (As := [.int wo, .int 0, .int 1000]) (rest := [.ref (G.1 22)]) X hw hst hl (c_X9_in l D y b z G (wU I 22 0 0) J hL wo 0 1000) (va_cwS 3 X.1.2.2.2.2 gX9_sort_X9_in rfl rfl rfl (by decide +kernel) ⟨Nat.le_of_ble_eq_true rfl, Nat.le_of_ble_eq_true rfl⟩) rfl rfl (Nat.le_of_ble_eq_true rfl) dX9_sort_21 ⟨Nat.le_of_ble_eq_true rfl, Nat.le_of_ble_eq_true rfl⟩ (fun r_21_2 u H locs hp_21 hw => ?_)
      obtain ⟨hp_21, rfl⟩ := hp_21
      dsimp only at hw
      rcases f_X9_in_01  (wU I 22 0 0) wo 0 1000 with q_21 | ⟨q_21, q0_21⟩
      · rw [q_21] at hp_21
        subst r_21_2
        refine lv_if_eq (tgt := 37) hx hb dX9_sort_24 (by decide) (fun c_24 => ?_) (fun c_24 => ?_)
        · exact absurd c_24 (by decide)
        · refine lv_iload_n hx hb dX9_sort_27 rfl (lv_at hl 3 rfl) ?_
          refine lv_iconst (v := 0) hx hb dX9_sort_28 (by decide) ?_
          refine lv_bipush (v := 12) hx hb dX9_sort_29 (by decide) ?_
          refine w_callSi (As := [.int fl, .int 0, .int 12]) (rest := [.ref (G.1 22)]) X hw hst hl (c_X9_in l D y b z G (wU I 22 0 0) J hL fl 0 12) (va_cwS 3 X.1.2.2.2.2 gX9_sort_X9_in rfl rfl rfl (by decide +kernel) ⟨Nat.le_of_ble_eq_true rfl, Nat.le_of_ble_eq_true rfl⟩) rfl rfl (Nat.le_of_ble_eq_true rfl) dX9_sort_31 ⟨Nat.le_of_ble_eq_true rfl, Nat.le_of_ble_eq_true rfl⟩ (fun r_31_3 u H locs hp_31 hw => ?_)
          obtain ⟨hp_31, rfl⟩ := hp_31
          dsimp only at hw
          rcases f_X9_in_01  (wU I 22 0 0) fl 0 12 with q_31 | ⟨q_31, q0_31⟩
          · rw [q_31] at hp_31
            subst r_31_3
            refine lv_if_ne (tgt := 41) hx hb dX9_sort_34 (by decide) (fun c_34 => ?_) (fun c_34 => ?_)
            · refine lv_iconst (v := 0) hx hb dX9_sort_41 (by decide) ?_
              refine lv_iconst (v := 1) hx hb dX9_sort_42 (by decide) ?_
              refine w_callVi (As := [.int 0, .int 1]) (rest := []) X hw hst hl (c_X9_throwsIf0 l D y b z G (wU I 22 0 0) J hL 1) (cwV 2 X.1.2.2.2.2 gX9_sort_X9_throwsIf rfl rfl rfl (by decide +kernel) ⟨Nat.le_of_ble_eq_true rfl, Nat.le_of_ble_eq_true rfl⟩) (w_recv X hw (hL 22 (by decide)) rfl (by decide) k_X9) rfl rfl (Nat.le_of_ble_eq_true rfl) dX9_sort_43 ⟨Nat.le_of_ble_eq_true rfl, Nat.le_of_ble_eq_true rfl⟩ (fun r_43_4 u H locs hp_43 hw => ?_)
              obtain ⟨hp_43, rfl⟩ := hp_43
              dsimp only at hw
              subst r_43_4
              refine lv_if_eq (tgt := 51) hx hb dX9_sort_46 (by decide) (fun c_46 => ?_) (fun c_46 => ?_)
              · refine lv_aload_n hx hb dX9_sort_51 rfl (lv_at hl 0 rfl) ?_
                refine w_get X hw 10 34 (hL 22 (by decide)) rfl (by decide) k_X9 in_X9_sort_X9 (by decide) (by decide +kernel) rfl (v := .int (I 22 34)) rfl dX9_sort_52 ?_
                refine lv_bipush (v := 6) hx hb dX9_sort_55 (by decide) ?_
                refine lv_icmp_ne (tgt := 62) hx hb dX9_sort_57 (by decide) (fun c_57 => ?_) (fun c_57 => ?_)
                · refine lv_aload_n hx hb dX9_sort_62 rfl (lv_at hl 0 rfl) ?_
                  refine w_get X hw 10 31 (hL 22 (by decide)) rfl (by decide) k_X9 in_X9_sort_X9 (by decide) (by decide +kernel) rfl (v := .ref (G.1 61)) rfl dX9_sort_63 ?_
                  refine lv_aload_n hx hb dX9_sort_66 rfl (lv_at hl 0 rfl) ?_
                  refine w_get X hw 10 34 (hL 22 (by decide)) rfl (by decide) k_X9 in_X9_sort_X9 (by decide) (by decide +kernel) rfl (v := .int (I 22 34)) rfl dX9_sort_67 ?_
                  refine lv_iload_n hx hb dX9_sort_70 rfl (lv_at hl 1 rfl) ?_
                  have h_71 : vp_in (I 22 34) 6 := by rw [vp_in_iff]; simp only [i_eq, Int32.reduceToInt] at *; omega
                  refine w_ist X hw (hL 61 (by decide)) rfl h_71 dX9_sort_71 (fun H locs hw => ?_)
                  refine lv_aload_n hx hb dX9_sort_72 rfl (lv_at hl 0 rfl) ?_
                  refine w_get X hw 10 32 (hL 22 (by decide)) rfl (by decide) k_X9 in_X9_sort_X9 (by decide) (by decide +kernel) rfl (v := .ref (G.1 62)) rfl dX9_sort_73 ?_
                  refine lv_aload_n hx hb dX9_sort_76 rfl (lv_at hl 0 rfl) ?_
                  refine w_get X hw 10 34 (hL 22 (by decide)) rfl (by decide) k_X9 in_X9_sort_X9 (by decide) (by decide +kernel) rfl (v := .int (I 22 34)) rfl dX9_sort_77 ?_
                  refine lv_iload_n hx hb dX9_sort_80 rfl (lv_at hl 2 rfl) ?_
                  have h_81 : vp_in (I 22 34) 6 := by rw [vp_in_iff]; simp only [i_eq, Int32.reduceToInt] at *; omega
                  refine w_ist X hw (hL 62 (by decide)) rfl h_81 dX9_sort_81 (fun H locs hw => ?_)
                  refine lv_aload_n hx hb dX9_sort_82 rfl (lv_at hl 0 rfl) ?_
                  refine w_get X hw 10 33 (hL 22 (by decide)) rfl (by decide) k_X9 in_X9_sort_X9 (by decide) (by decide +kernel) rfl (v := .ref (G.1 63)) rfl dX9_sort_83 ?_
                  refine lv_aload_n hx hb dX9_sort_86 rfl (lv_at hl 0 rfl) ?_
                  refine w_get X hw 10 34 (hL 22 (by decide)) rfl (by decide) k_X9 in_X9_sort_X9 (by decide) (by decide +kernel) rfl (v := .int (I 22 34)) rfl dX9_sort_87 ?_
                  refine lv_iload_n hx hb dX9_sort_90 rfl (lv_at hl 3 rfl) ?_
                  have h_91 : vp_in (I 22 34) 6 := by rw [vp_in_iff]; simp only [i_eq, Int32.reduceToInt] at *; omega
                  refine w_ist X hw (hL 63 (by decide)) rfl h_91 dX9_sort_91 (fun H locs hw => ?_)
                  refine lv_aload_n hx hb dX9_sort_92 rfl (lv_at hl 0 rfl) ?_
                  refine lv_dup hx hb dX9_sort_93 rfl ?_
                  refine w_get X hw 10 34 (hL 22 (by decide)) rfl (by decide) k_X9 in_X9_sort_X9 (by decide) (by decide +kernel) rfl (v := .int (I 22 34)) rfl dX9_sort_94 ?_
                  refine lv_iconst (v := 1) hx hb dX9_sort_97 (by decide) ?_
                  refine lv_iadd hx hb dX9_sort_98 ?_
                  refine lv_topi (fun x_5 ex_5 => ?_)
                  refine w_put X hw 10 34 (hL 22 (by decide)) rfl (by decide) k_X9 in_X9_sort_X9 (by decide) (by decide +kernel) rfl rfl (t := .int) (by decide +kernel) rfl rfl (fun _ => rfl) (fun _ => Nat.le_of_ble_eq_true rfl) dX9_sort_99 (fun H locs hw => ?_)
                  refine lv_aload_n hx hb dX9_sort_102 rfl (lv_at hl 0 rfl) ?_
                  refine w_get X hw 10 34 (hL 22 (by decide)) rfl (by decide) k_X9 in_X9_sort_X9 (by decide) (by decide +kernel) rfl (v := .int x_5) rfl dX9_sort_103 ?_
                  refine lv_iconst (v := 1) hx hb dX9_sort_106 (by decide) ?_
                  refine lv_isub hx hb dX9_sort_107 ?_
                  have hp_108 : po_c_X9_sort (x_5 - 1) (G, (wU (wU (wU (wU (wU I 22 0 0) 61 (I 22 34).toNatClampNeg si) 62 (I 22 34).toNatClampNeg wo) 63 (I 22 34).toNatClampNeg fl) 22 34 x_5), J) := by
                      obtain rfl := ex_5.symm
                      rw [epo]
                      have ef : f_X9_sort I si wo fl = (((I 22 34) + 1) - 1, (wU (wU (wU (wU (wU I 22 0 0) 61 (I 22 34).toNatClampNeg si) 62 (I 22 34).toNatClampNeg wo) 63 (I 22 34).toNatClampNeg fl) 22 34 ((I 22 34) + 1))) := by unfold f_X9_sort; rw [if_pos q_10, if_pos q_21, if_pos q_31, if_neg c_57]
                      exact ⟨⟨by rw [ef], by rw [ef]⟩, rfl, rfl⟩
                  exact w_iret X hr hlk hw hp_108 (Nat.le_of_ble_eq_true rfl) (Nat.le_of_ble_eq_true rfl) dX9_sort_108
                · refine lv_iconst (v := -1) hx hb dX9_sort_60 (by decide) ?_
                  have hp_61 : po_c_X9_sort (-1) (G, (wU I 22 0 0), J) := by
                      rw [epo]
                      have ef : f_X9_sort I si wo fl = ((-1), (wU I 22 0 0)) := by unfold f_X9_sort; rw [if_pos q_10, if_pos q_21, if_pos q_31, if_pos c_57]
                      exact ⟨⟨by rw [ef], by rw [ef]⟩, rfl, rfl⟩
                  exact w_iret X hr hlk hw hp_61 (Nat.le_of_ble_eq_true rfl) (Nat.le_of_ble_eq_true rfl) dX9_sort_61
              · exact absurd (by decide) c_46
            · exact absurd c_34 (by decide)
          · rw [q0_31] at hp_31
            subst r_31_3
            refine lv_if_ne (tgt := 41) hx hb dX9_sort_34 (by decide) (fun c_34 => ?_) (fun c_34 => ?_)
            · exact absurd (by decide) c_34
            · refine lv_iconst (v := 1) hx hb dX9_sort_37 (by decide) ?_
              refine lv_goto (tgt := 42) hx hb dX9_sort_38 (by decide) ?_
              refine lv_iconst (v := 1) hx hb dX9_sort_42 (by decide) ?_
              refine w_callVi (As := [.int 1, .int 1]) (rest := []) X hw hst hl (c_X9_throwsIf1 l D y b z G (wU I 22 0 0) J hL 1) (cwV 2 X.1.2.2.2.2 gX9_sort_X9_throwsIf rfl rfl rfl (by decide +kernel) ⟨Nat.le_of_ble_eq_true rfl, Nat.le_of_ble_eq_true rfl⟩) (w_recv X hw (hL 22 (by decide)) rfl (by decide) k_X9) rfl rfl (Nat.le_of_ble_eq_true rfl) dX9_sort_43 ⟨Nat.le_of_ble_eq_true rfl, Nat.le_of_ble_eq_true rfl⟩ (fun r_43_6 u H locs hp_43 hw => ?_)
              obtain ⟨G_43_6, I_43_6, J_43_6⟩ := u
              dsimp only at hw hp_43
              obtain ⟨⟨hp_43, hI_43_6⟩, eG_43, eJ_43⟩ := hp_43
              subst G_43_6 J_43_6
              subst r_43_6
              refine lv_if_eq (tgt := 51) hx hb dX9_sort_46 (by decide) (fun c_46 => ?_) (fun c_46 => ?_)
              · exact absurd c_46 (by decide)
              · refine lv_iconst (v := 0) hx hb dX9_sort_49 (by decide) ?_
                have hp_50 : po_c_X9_sort 0 (G, I_43_6, J) := by
                    obtain rfl := hI_43_6.symm
                    rw [epo]
                    have ef : f_X9_sort I si wo fl = (0, (wU (wU I 22 0 0) 22 0 1)) := by unfold f_X9_sort; rw [if_pos q_10, if_pos q_21, if_neg q_31]
                    exact ⟨⟨by rw [ef], by rw [ef]⟩, rfl, rfl⟩
                exact w_iret X hr hlk hw hp_50 (Nat.le_of_ble_eq_true rfl) (Nat.le_of_ble_eq_true rfl) dX9_sort_50
      · rw [q0_21] at hp_21
        subst r_21_2
        refine lv_if_eq (tgt := 37) hx hb dX9_sort_24 (by decide) (fun c_24 => ?_) (fun c_24 => ?_)
        · refine lv_iconst (v := 1) hx hb dX9_sort_37 (by decide) ?_
          refine lv_goto (tgt := 42) hx hb dX9_sort_38 (by decide) ?_
          refine lv_iconst (v := 1) hx hb dX9_sort_42 (by decide) ?_
          refine w_callVi (As := [.int 1, .int 1]) (rest := []) X hw hst hl (c_X9_throwsIf1 l D y b z G (wU I 22 0 0) J hL 1) (cwV 2 X.1.2.2.2.2 gX9_sort_X9_throwsIf rfl rfl rfl (by decide +kernel) ⟨Nat.le_of_ble_eq_true rfl, Nat.le_of_ble_eq_true rfl⟩) (w_recv X hw (hL 22 (by decide)) rfl (by decide) k_X9) rfl rfl (Nat.le_of_ble_eq_true rfl) dX9_sort_43 ⟨Nat.le_of_ble_eq_true rfl, Nat.le_of_ble_eq_true rfl⟩ (fun r_43_7 u H locs hp_43 hw => ?_)
          obtain ⟨G_43_7, I_43_7, J_43_7⟩ := u
          dsimp only at hw hp_43
          obtain ⟨⟨hp_43, hI_43_7⟩, eG_43, eJ_43⟩ := hp_43
          subst G_43_7 J_43_7
          subst r_43_7
          refine lv_if_eq (tgt := 51) hx hb dX9_sort_46 (by decide) (fun c_46 => ?_) (fun c_46 => ?_)
          · exact absurd c_46 (by decide)
          · refine lv_iconst (v := 0) hx hb dX9_sort_49 (by decide) ?_
            have hp_50 : po_c_X9_sort 0 (G, I_43_7, J) := by
                obtain rfl := hI_43_7.symm
                rw [epo]
                have ef : f_X9_sort I si wo fl = (0, (wU (wU I 22 0 0) 22 0 1)) := by unfold f_X9_sort; rw [if_pos q_10, if_neg q_21]
                exact ⟨⟨by rw [ef], by rw [ef]⟩, rfl, rfl⟩
            exact w_iret X hr hlk hw hp_50 (Nat.le_of_ble_eq_true rfl) (Nat.le_of_ble_eq_true rfl) dX9_sort_50
        · exact absurd (by decide) c_24
  · rw [q0_10] at hp_10
    subst r_10_1
    refine lv_if_eq (tgt := 37) hx hb dX9_sort_13 (by decide) (fun c_13 => ?_) (fun c_13 => ?_)
    · refine lv_iconst (v := 1) hx hb dX9_sort_37 (by decide) ?_
      refine lv_goto (tgt := 42) hx hb dX9_sort_38 (by decide) ?_
      refine lv_iconst (v := 1) hx hb dX9_sort_42 (by decide) ?_
      refine w_callVi (As := [.int 1, .int 1]) (rest := []) X hw hst hl (c_X9_throwsIf1 l D y b z G (wU I 22 0 0) J hL 1) (cwV 2 X.1.2.2.2.2 gX9_sort_X9_throwsIf rfl rfl rfl (by decide +kernel) ⟨Nat.le_of_ble_eq_true rfl, Nat.le_of_ble_eq_true rfl⟩) (w_recv X hw (hL 22 (by decide)) rfl (by decide) k_X9) rfl rfl (Nat.le_of_ble_eq_true rfl) dX9_sort_43 ⟨Nat.le_of_ble_eq_true rfl, Nat.le_of_ble_eq_true rfl⟩ (fun r_43_8 u H locs hp_43 hw => ?_)
      obtain ⟨G_43_8, I_43_8, J_43_8⟩ := u
      dsimp only at hw hp_43
      obtain ⟨⟨hp_43, hI_43_8⟩, eG_43, eJ_43⟩ := hp_43
      subst G_43_8 J_43_8
      subst r_43_8
      refine lv_if_eq (tgt := 51) hx hb dX9_sort_46 (by decide) (fun c_46 => ?_) (fun c_46 => ?_)
      · exact absurd c_46 (by decide)
      · refine lv_iconst (v := 0) hx hb dX9_sort_49 (by decide) ?_
        have hp_50 : po_c_X9_sort 0 (G, I_43_8, J) := by
            obtain rfl := hI_43_8.symm
            rw [epo]
            have ef : f_X9_sort I si wo fl = (0, (wU (wU I 22 0 0) 22 0 1)) := by unfold f_X9_sort; rw [if_neg q_10]
            exact ⟨⟨by rw [ef], by rw [ef]⟩, rfl, rfl⟩
        exact w_iret X hr hlk hw hp_50 (Nat.le_of_ble_eq_true rfl) (Nat.le_of_ble_eq_true rfl) dX9_sort_50
    · exact absurd (by decide) c_13
def f_X9_stand (I : wI) (he : Int32) (ye : Int32) : Int32 × wI := (if f_X9_in (wU I 22 0 0) he 0 1000000 = 1 then (if f_X9_in (wU I 22 0 0) ye 1 511 = 1 then (if (I 22 39) = 6 then ((-1), (wU I 22 0 0)) else (((I 22 39) + 1) - 1, (wU (wU (wU (wU I 22 0 0) 67 (I 22 39).toNatClampNeg he) 68 (I 22 39).toNatClampNeg ye) 22 39 ((I 22 39) + 1)))) else (0, (wU (wU I 22 0 0) 22 0 1))) else (0, (wU (wU I 22 0 0) 22 0 1)))
theorem fr_f_X9_stand (I : wI) (he : Int32) (ye : Int32) (q9 : Nat) (h22 : q9 ≠ 22) (h67 : q9 ≠ 67) (h68 : q9 ≠ 68) : (f_X9_stand I he ye).2 q9 = I q9 := by
  unfold f_X9_stand
  repeat' split
  all_goals first | with_reducible rfl | (simp only [wU_ne _ _ _ h22, wU_ne _ _ _ h67, wU_ne _ _ _ h68])
set_option maxRecDepth 20000 in
theorem in_X9_stand_X9 : ∀ w ∈ u_ws RX9 TX9 42, w ∈ wsX9_stand := fun _ h => List.mem_cons_of_mem _ (List.mem_append_right _ h)
set_option maxHeartbeats 4000000 in
set_option maxRecDepth 100000 in
theorem c_X9_stand (l : Launch) (D : va_G) (y : Nat → ClassId) (b : Nat) (z : Nat → Nat) (G : wG) (I : wI) (J : wJ) (hL : w_full G) (he : Int32) (ye : Int32) (hN : 0 ≤ (I 22 39).toInt ∧ (I 22 39).toInt ≤ 6) : mI l yX9_stand wsX9_stand { frames := 1, cells := 0, slots := 0, locals := 22 } D y b z G I J [.ref (G.1 22), .int he, .int ye] (fun r u => (r = (f_X9_stand I he ye).1 ∧ u.2.1 = (f_X9_stand I he ye).2) ∧ u.1 = G ∧ u.2.2 = J) 0 0 := by
  refine w_enter (by decide) rfl (Nat.le_of_ble_eq_true rfl) rfl ?_
  intro p e s m below meth c ls X hr hlk hnm hw hst hl
  have hx := X.1.1
  have hb := X.1.2.1
  obtain ⟨po_c_X9_stand, epo⟩ : ∃ qpo9 : Int32 → wS → Prop, qpo9 = (fun r u => (r = (f_X9_stand I he ye).1 ∧ u.2.1 = (f_X9_stand I he ye).2) ∧ u.1 = G ∧ u.2.2 = J) := ⟨_, rfl⟩
  rw [← epo]
  refine lv_aload_n hx hb dX9_stand_0 rfl (lv_at hl 0 rfl) ?_
  refine lv_iconst (v := 0) hx hb dX9_stand_1 (by decide) ?_
  refine w_put X hw 10 0 (hL 22 (by decide)) rfl (by decide) k_X9 in_X9_stand_X9 (by decide) (by decide +kernel) rfl rfl (t := .int) (by decide +kernel) rfl rfl (fun _ => rfl) (fun _ => Nat.le_of_ble_eq_true rfl) dX9_stand_2 (fun H locs hw => ?_)
  refine lv_aload_n hx hb dX9_stand_5 rfl (lv_at hl 0 rfl) ?_
  refine lv_iload_n hx hb dX9_stand_6 rfl (lv_at hl 1 rfl) ?_
  refine lv_iconst (v := 0) hx hb dX9_stand_7 (by decide) ?_
  refine lv_ldc (v := 1000000) hx hb X.1.2.2.2.1 (X.1.2.2.2.2 (.constant RX9 207 1000000) (by decide +kernel)) dX9_stand_8 ?_
  refine w_callSi (As := [.int he, .int 0, .int 1000000]) (rest := [.ref (G.1 22)]) X hw hst hl (c_X9_in l D y b z G (wU I 22 0 0) J hL he 0 1000000) (va_cwS 3 X.1.2.2.2.2 gX9_stand_X9_in rfl rfl rfl (by decide +kernel) ⟨Nat.le_of_ble_eq_true rfl, Nat.le_of_ble_eq_true rfl⟩) rfl rfl (Nat.le_of_ble_eq_true rfl) dX9_stand_10 ⟨Nat.le_of_ble_eq_true rfl, Nat.le_of_ble_eq_true rfl⟩ (fun r_10_1 u H locs hp_10 hw => ?_)
  obtain ⟨hp_10, rfl⟩ := hp_10
  dsimp only at hw
  rcases f_X9_in_01  (wU I 22 0 0) he 0 1000000 with q_10 | ⟨q_10, q0_10⟩
  · rw [q_10] at hp_10
    subst r_10_1
    refine lv_if_eq (tgt := 27) hx hb dX9_stand_13 (by decide) (fun c_13 => ?_) (fun c_13 => ?_)
    · exact absurd c_13 (by decide)
    · refine lv_iload_n hx hb dX9_stand_16 rfl (lv_at hl 2 rfl) ?_
      refine lv_iconst (v := 1) hx hb dX9_stand_17 (by decide) ?_
      refine lv_sipush (v := 511) hx hb dX9_stand_18 (by decide) ?_
      refine w_callSi (As := [.int ye, .int 1, .int 511]) (rest := [.ref (G.1 22)]) X hw hst hl (c_X9_in l D y b z G (wU I 22 0 0) J hL ye 1 511) (va_cwS 3 X.1.2.2.2.2 gX9_stand_X9_in rfl rfl rfl (by decide +kernel) ⟨Nat.le_of_ble_eq_true rfl, Nat.le_of_ble_eq_true rfl⟩) rfl rfl (Nat.le_of_ble_eq_true rfl) dX9_stand_21 ⟨Nat.le_of_ble_eq_true rfl, Nat.le_of_ble_eq_true rfl⟩ (fun r_21_2 u H locs hp_21 hw => ?_)
      obtain ⟨hp_21, rfl⟩ := hp_21
      dsimp only at hw
      rcases f_X9_in_01  (wU I 22 0 0) ye 1 511 with q_21 | ⟨q_21, q0_21⟩
      · rw [q_21] at hp_21
        subst r_21_2
        refine lv_if_ne (tgt := 31) hx hb dX9_stand_24 (by decide) (fun c_24 => ?_) (fun c_24 => ?_)
        · refine lv_iconst (v := 0) hx hb dX9_stand_31 (by decide) ?_
          refine lv_iconst (v := 1) hx hb dX9_stand_32 (by decide) ?_
          refine w_callVi (As := [.int 0, .int 1]) (rest := []) X hw hst hl (c_X9_throwsIf0 l D y b z G (wU I 22 0 0) J hL 1) (cwV 2 X.1.2.2.2.2 gX9_stand_X9_throwsIf rfl rfl rfl (by decide +kernel) ⟨Nat.le_of_ble_eq_true rfl, Nat.le_of_ble_eq_true rfl⟩) (w_recv X hw (hL 22 (by decide)) rfl (by decide) k_X9) rfl rfl (Nat.le_of_ble_eq_true rfl) dX9_stand_33 ⟨Nat.le_of_ble_eq_true rfl, Nat.le_of_ble_eq_true rfl⟩ (fun r_33_3 u H locs hp_33 hw => ?_)
          obtain ⟨hp_33, rfl⟩ := hp_33
          dsimp only at hw
          subst r_33_3
          refine lv_if_eq (tgt := 41) hx hb dX9_stand_36 (by decide) (fun c_36 => ?_) (fun c_36 => ?_)
          · refine lv_aload_n hx hb dX9_stand_41 rfl (lv_at hl 0 rfl) ?_
            refine w_get X hw 10 39 (hL 22 (by decide)) rfl (by decide) k_X9 in_X9_stand_X9 (by decide) (by decide +kernel) rfl (v := .int (I 22 39)) rfl dX9_stand_42 ?_
            refine lv_bipush (v := 6) hx hb dX9_stand_45 (by decide) ?_
            refine lv_icmp_ne (tgt := 52) hx hb dX9_stand_47 (by decide) (fun c_47 => ?_) (fun c_47 => ?_)
            · refine lv_aload_n hx hb dX9_stand_52 rfl (lv_at hl 0 rfl) ?_
              refine w_get X hw 10 37 (hL 22 (by decide)) rfl (by decide) k_X9 in_X9_stand_X9 (by decide) (by decide +kernel) rfl (v := .ref (G.1 67)) rfl dX9_stand_53 ?_
              refine lv_aload_n hx hb dX9_stand_56 rfl (lv_at hl 0 rfl) ?_
              refine w_get X hw 10 39 (hL 22 (by decide)) rfl (by decide) k_X9 in_X9_stand_X9 (by decide) (by decide +kernel) rfl (v := .int (I 22 39)) rfl dX9_stand_57 ?_
              refine lv_iload_n hx hb dX9_stand_60 rfl (lv_at hl 1 rfl) ?_
              have h_61 : vp_in (I 22 39) 6 := by rw [vp_in_iff]; simp only [i_eq, Int32.reduceToInt] at *; omega
              refine w_ist X hw (hL 67 (by decide)) rfl h_61 dX9_stand_61 (fun H locs hw => ?_)
              refine lv_aload_n hx hb dX9_stand_62 rfl (lv_at hl 0 rfl) ?_
              refine w_get X hw 10 38 (hL 22 (by decide)) rfl (by decide) k_X9 in_X9_stand_X9 (by decide) (by decide +kernel) rfl (v := .ref (G.1 68)) rfl dX9_stand_63 ?_
              refine lv_aload_n hx hb dX9_stand_66 rfl (lv_at hl 0 rfl) ?_
              refine w_get X hw 10 39 (hL 22 (by decide)) rfl (by decide) k_X9 in_X9_stand_X9 (by decide) (by decide +kernel) rfl (v := .int (I 22 39)) rfl dX9_stand_67 ?_
              refine lv_iload_n hx hb dX9_stand_70 rfl (lv_at hl 2 rfl) ?_
              have h_71 : vp_in (I 22 39) 6 := by rw [vp_in_iff]; simp only [i_eq, Int32.reduceToInt] at *; omega
              refine w_ist X hw (hL 68 (by decide)) rfl h_71 dX9_stand_71 (fun H locs hw => ?_)
              refine lv_aload_n hx hb dX9_stand_72 rfl (lv_at hl 0 rfl) ?_
              refine lv_dup hx hb dX9_stand_73 rfl ?_
              refine w_get X hw 10 39 (hL 22 (by decide)) rfl (by decide) k_X9 in_X9_stand_X9 (by decide) (by decide +kernel) rfl (v := .int (I 22 39)) rfl dX9_stand_74 ?_
              refine lv_iconst (v := 1) hx hb dX9_stand_77 (by decide) ?_
              refine lv_iadd hx hb dX9_stand_78 ?_
              refine lv_topi (fun x_4 ex_4 => ?_)
              refine w_put X hw 10 39 (hL 22 (by decide)) rfl (by decide) k_X9 in_X9_stand_X9 (by decide) (by decide +kernel) rfl rfl (t := .int) (by decide +kernel) rfl rfl (fun _ => rfl) (fun _ => Nat.le_of_ble_eq_true rfl) dX9_stand_79 (fun H locs hw => ?_)
              refine lv_aload_n hx hb dX9_stand_82 rfl (lv_at hl 0 rfl) ?_
              refine w_get X hw 10 39 (hL 22 (by decide)) rfl (by decide) k_X9 in_X9_stand_X9 (by decide) (by decide +kernel) rfl (v := .int x_4) rfl dX9_stand_83 ?_
              refine lv_iconst (v := 1) hx hb dX9_stand_86 (by decide) ?_
              refine lv_isub hx hb dX9_stand_87 ?_
              have hp_88 : po_c_X9_stand (x_4 - 1) (G, (wU (wU (wU (wU I 22 0 0) 67 (I 22 39).toNatClampNeg he) 68 (I 22 39).toNatClampNeg ye) 22 39 x_4), J) := by
                  obtain rfl := ex_4.symm
                  rw [epo]
                  have ef : f_X9_stand I he ye = (((I 22 39) + 1) - 1, (wU (wU (wU (wU I 22 0 0) 67 (I 22 39).toNatClampNeg he) 68 (I 22 39).toNatClampNeg ye) 22 39 ((I 22 39) + 1))) := by unfold f_X9_stand; rw [if_pos q_10, if_pos q_21, if_neg c_47]
                  exact ⟨⟨by rw [ef], by rw [ef]⟩, rfl, rfl⟩
              exact w_iret X hr hlk hw hp_88 (Nat.le_of_ble_eq_true rfl) (Nat.le_of_ble_eq_true rfl) dX9_stand_88
            · refine lv_iconst (v := -1) hx hb dX9_stand_50 (by decide) ?_
              have hp_51 : po_c_X9_stand (-1) (G, (wU I 22 0 0), J) := by
                  rw [epo]
                  have ef : f_X9_stand I he ye = ((-1), (wU I 22 0 0)) := by unfold f_X9_stand; rw [if_pos q_10, if_pos q_21, if_pos c_47]
                  exact ⟨⟨by rw [ef], by rw [ef]⟩, rfl, rfl⟩
              exact w_iret X hr hlk hw hp_51 (Nat.le_of_ble_eq_true rfl) (Nat.le_of_ble_eq_true rfl) dX9_stand_51
          · exact absurd (by decide) c_36
        · exact absurd c_24 (by decide)
      · rw [q0_21] at hp_21
        subst r_21_2
        refine lv_if_ne (tgt := 31) hx hb dX9_stand_24 (by decide) (fun c_24 => ?_) (fun c_24 => ?_)
        · exact absurd (by decide) c_24
        · refine lv_iconst (v := 1) hx hb dX9_stand_27 (by decide) ?_
          refine lv_goto (tgt := 32) hx hb dX9_stand_28 (by decide) ?_
          refine lv_iconst (v := 1) hx hb dX9_stand_32 (by decide) ?_
          refine w_callVi (As := [.int 1, .int 1]) (rest := []) X hw hst hl (c_X9_throwsIf1 l D y b z G (wU I 22 0 0) J hL 1) (cwV 2 X.1.2.2.2.2 gX9_stand_X9_throwsIf rfl rfl rfl (by decide +kernel) ⟨Nat.le_of_ble_eq_true rfl, Nat.le_of_ble_eq_true rfl⟩) (w_recv X hw (hL 22 (by decide)) rfl (by decide) k_X9) rfl rfl (Nat.le_of_ble_eq_true rfl) dX9_stand_33 ⟨Nat.le_of_ble_eq_true rfl, Nat.le_of_ble_eq_true rfl⟩ (fun r_33_5 u H locs hp_33 hw => ?_)
          obtain ⟨G_33_5, I_33_5, J_33_5⟩ := u
          dsimp only at hw hp_33
          obtain ⟨⟨hp_33, hI_33_5⟩, eG_33, eJ_33⟩ := hp_33
          subst G_33_5 J_33_5
          subst r_33_5
          refine lv_if_eq (tgt := 41) hx hb dX9_stand_36 (by decide) (fun c_36 => ?_) (fun c_36 => ?_)
          · exact absurd c_36 (by decide)
          · refine lv_iconst (v := 0) hx hb dX9_stand_39 (by decide) ?_
            have hp_40 : po_c_X9_stand 0 (G, I_33_5, J) := by
                obtain rfl := hI_33_5.symm
                rw [epo]
                have ef : f_X9_stand I he ye = (0, (wU (wU I 22 0 0) 22 0 1)) := by unfold f_X9_stand; rw [if_pos q_10, if_neg q_21]
                exact ⟨⟨by rw [ef], by rw [ef]⟩, rfl, rfl⟩
            exact w_iret X hr hlk hw hp_40 (Nat.le_of_ble_eq_true rfl) (Nat.le_of_ble_eq_true rfl) dX9_stand_40
  · rw [q0_10] at hp_10
    subst r_10_1
    refine lv_if_eq (tgt := 27) hx hb dX9_stand_13 (by decide) (fun c_13 => ?_) (fun c_13 => ?_)
    · refine lv_iconst (v := 1) hx hb dX9_stand_27 (by decide) ?_
      refine lv_goto (tgt := 32) hx hb dX9_stand_28 (by decide) ?_
      refine lv_iconst (v := 1) hx hb dX9_stand_32 (by decide) ?_
      refine w_callVi (As := [.int 1, .int 1]) (rest := []) X hw hst hl (c_X9_throwsIf1 l D y b z G (wU I 22 0 0) J hL 1) (cwV 2 X.1.2.2.2.2 gX9_stand_X9_throwsIf rfl rfl rfl (by decide +kernel) ⟨Nat.le_of_ble_eq_true rfl, Nat.le_of_ble_eq_true rfl⟩) (w_recv X hw (hL 22 (by decide)) rfl (by decide) k_X9) rfl rfl (Nat.le_of_ble_eq_true rfl) dX9_stand_33 ⟨Nat.le_of_ble_eq_true rfl, Nat.le_of_ble_eq_true rfl⟩ (fun r_33_6 u H locs hp_33 hw => ?_)
      obtain ⟨G_33_6, I_33_6, J_33_6⟩ := u
      dsimp only at hw hp_33
      obtain ⟨⟨hp_33, hI_33_6⟩, eG_33, eJ_33⟩ := hp_33
      subst G_33_6 J_33_6
      subst r_33_6
      refine lv_if_eq (tgt := 41) hx hb dX9_stand_36 (by decide) (fun c_36 => ?_) (fun c_36 => ?_)
      · exact absurd c_36 (by decide)
      · refine lv_iconst (v := 0) hx hb dX9_stand_39 (by decide) ?_
        have hp_40 : po_c_X9_stand 0 (G, I_33_6, J) := by
            obtain rfl := hI_33_6.symm
            rw [epo]
            have ef : f_X9_stand I he ye = (0, (wU (wU I 22 0 0) 22 0 1)) := by unfold f_X9_stand; rw [if_neg q_10]
            exact ⟨⟨by rw [ef], by rw [ef]⟩, rfl, rfl⟩
        exact w_iret X hr hlk hw hp_40 (Nat.le_of_ble_eq_true rfl) (Nat.le_of_ble_eq_true rfl) dX9_stand_40
    · exact absurd (by decide) c_13
def f_X9_grows (I : wI) (t : Int32) (rain : Int32) : wI := (if 0 ≤ (I 34 t.toNatClampNeg) then (if 3000 < ((wU (wU (wU I 32 t.toNatClampNeg (if (((I 32 t.toNatClampNeg) + 1) + (rain / 100)) < (600 : Int32) then (((I 32 t.toNatClampNeg) + 1) + (rain / 100)) else (600 : Int32))) 38 t.toNatClampNeg ((I 38 t.toNatClampNeg) + (((if (10 : Int32) < ((40 : Int32) - ((2 : Int32) * ((I 22 1) - (I 34 t.toNatClampNeg)))) then ((40 : Int32) - ((2 : Int32) * ((I 22 1) - (I 34 t.toNatClampNeg)))) else (10 : Int32)) * ((50 : Int32) + rain)) / 100))) 33 t.toNatClampNeg ((I 33 t.toNatClampNeg) + (((if (10 : Int32) < ((40 : Int32) - ((2 : Int32) * ((I 22 1) - (I 34 t.toNatClampNeg)))) then ((40 : Int32) - ((2 : Int32) * ((I 22 1) - (I 34 t.toNatClampNeg)))) else (10 : Int32)) * ((50 : Int32) + rain)) / 100))) 33 t.toNatClampNeg) then (wU (wU (wU (wU (wU I 32 t.toNatClampNeg (if (((I 32 t.toNatClampNeg) + 1) + (rain / 100)) < (600 : Int32) then (((I 32 t.toNatClampNeg) + 1) + (rain / 100)) else (600 : Int32))) 38 t.toNatClampNeg ((I 38 t.toNatClampNeg) + (((if (10 : Int32) < ((40 : Int32) - ((2 : Int32) * ((I 22 1) - (I 34 t.toNatClampNeg)))) then ((40 : Int32) - ((2 : Int32) * ((I 22 1) - (I 34 t.toNatClampNeg)))) else (10 : Int32)) * ((50 : Int32) + rain)) / 100))) 33 t.toNatClampNeg ((I 33 t.toNatClampNeg) + (((if (10 : Int32) < ((40 : Int32) - ((2 : Int32) * ((I 22 1) - (I 34 t.toNatClampNeg)))) then ((40 : Int32) - ((2 : Int32) * ((I 22 1) - (I 34 t.toNatClampNeg)))) else (10 : Int32)) * ((50 : Int32) + rain)) / 100))) 41 t.toNatClampNeg ((I 41 t.toNatClampNeg) + (((wU (wU (wU I 32 t.toNatClampNeg (if (((I 32 t.toNatClampNeg) + 1) + (rain / 100)) < (600 : Int32) then (((I 32 t.toNatClampNeg) + 1) + (rain / 100)) else (600 : Int32))) 38 t.toNatClampNeg ((I 38 t.toNatClampNeg) + (((if (10 : Int32) < ((40 : Int32) - ((2 : Int32) * ((I 22 1) - (I 34 t.toNatClampNeg)))) then ((40 : Int32) - ((2 : Int32) * ((I 22 1) - (I 34 t.toNatClampNeg)))) else (10 : Int32)) * ((50 : Int32) + rain)) / 100))) 33 t.toNatClampNeg ((I 33 t.toNatClampNeg) + (((if (10 : Int32) < ((40 : Int32) - ((2 : Int32) * ((I 22 1) - (I 34 t.toNatClampNeg)))) then ((40 : Int32) - ((2 : Int32) * ((I 22 1) - (I 34 t.toNatClampNeg)))) else (10 : Int32)) * ((50 : Int32) + rain)) / 100))) 33 t.toNatClampNeg) - 3000))) 33 t.toNatClampNeg 3000) else (wU (wU (wU I 32 t.toNatClampNeg (if (((I 32 t.toNatClampNeg) + 1) + (rain / 100)) < (600 : Int32) then (((I 32 t.toNatClampNeg) + 1) + (rain / 100)) else (600 : Int32))) 38 t.toNatClampNeg ((I 38 t.toNatClampNeg) + (((if (10 : Int32) < ((40 : Int32) - ((2 : Int32) * ((I 22 1) - (I 34 t.toNatClampNeg)))) then ((40 : Int32) - ((2 : Int32) * ((I 22 1) - (I 34 t.toNatClampNeg)))) else (10 : Int32)) * ((50 : Int32) + rain)) / 100))) 33 t.toNatClampNeg ((I 33 t.toNatClampNeg) + (((if (10 : Int32) < ((40 : Int32) - ((2 : Int32) * ((I 22 1) - (I 34 t.toNatClampNeg)))) then ((40 : Int32) - ((2 : Int32) * ((I 22 1) - (I 34 t.toNatClampNeg)))) else (10 : Int32)) * ((50 : Int32) + rain)) / 100)))) else (if 3000 < ((wU (wU (wU I 32 t.toNatClampNeg (if (((I 32 t.toNatClampNeg) + 1) + (rain / 100)) < (600 : Int32) then (((I 32 t.toNatClampNeg) + 1) + (rain / 100)) else (600 : Int32))) 38 t.toNatClampNeg ((I 38 t.toNatClampNeg) + (((if (10 : Int32) < ((40 : Int32) - ((2 : Int32) * 20)) then ((40 : Int32) - ((2 : Int32) * 20)) else (10 : Int32)) * ((50 : Int32) + rain)) / 100))) 33 t.toNatClampNeg ((I 33 t.toNatClampNeg) + (((if (10 : Int32) < ((40 : Int32) - ((2 : Int32) * 20)) then ((40 : Int32) - ((2 : Int32) * 20)) else (10 : Int32)) * ((50 : Int32) + rain)) / 100))) 33 t.toNatClampNeg) then (wU (wU (wU (wU (wU I 32 t.toNatClampNeg (if (((I 32 t.toNatClampNeg) + 1) + (rain / 100)) < (600 : Int32) then (((I 32 t.toNatClampNeg) + 1) + (rain / 100)) else (600 : Int32))) 38 t.toNatClampNeg ((I 38 t.toNatClampNeg) + (((if (10 : Int32) < ((40 : Int32) - ((2 : Int32) * 20)) then ((40 : Int32) - ((2 : Int32) * 20)) else (10 : Int32)) * ((50 : Int32) + rain)) / 100))) 33 t.toNatClampNeg ((I 33 t.toNatClampNeg) + (((if (10 : Int32) < ((40 : Int32) - ((2 : Int32) * 20)) then ((40 : Int32) - ((2 : Int32) * 20)) else (10 : Int32)) * ((50 : Int32) + rain)) / 100))) 41 t.toNatClampNeg ((I 41 t.toNatClampNeg) + (((wU (wU (wU I 32 t.toNatClampNeg (if (((I 32 t.toNatClampNeg) + 1) + (rain / 100)) < (600 : Int32) then (((I 32 t.toNatClampNeg) + 1) + (rain / 100)) else (600 : Int32))) 38 t.toNatClampNeg ((I 38 t.toNatClampNeg) + (((if (10 : Int32) < ((40 : Int32) - ((2 : Int32) * 20)) then ((40 : Int32) - ((2 : Int32) * 20)) else (10 : Int32)) * ((50 : Int32) + rain)) / 100))) 33 t.toNatClampNeg ((I 33 t.toNatClampNeg) + (((if (10 : Int32) < ((40 : Int32) - ((2 : Int32) * 20)) then ((40 : Int32) - ((2 : Int32) * 20)) else (10 : Int32)) * ((50 : Int32) + rain)) / 100))) 33 t.toNatClampNeg) - 3000))) 33 t.toNatClampNeg 3000) else (wU (wU (wU I 32 t.toNatClampNeg (if (((I 32 t.toNatClampNeg) + 1) + (rain / 100)) < (600 : Int32) then (((I 32 t.toNatClampNeg) + 1) + (rain / 100)) else (600 : Int32))) 38 t.toNatClampNeg ((I 38 t.toNatClampNeg) + (((if (10 : Int32) < ((40 : Int32) - ((2 : Int32) * 20)) then ((40 : Int32) - ((2 : Int32) * 20)) else (10 : Int32)) * ((50 : Int32) + rain)) / 100))) 33 t.toNatClampNeg ((I 33 t.toNatClampNeg) + (((if (10 : Int32) < ((40 : Int32) - ((2 : Int32) * 20)) then ((40 : Int32) - ((2 : Int32) * 20)) else (10 : Int32)) * ((50 : Int32) + rain)) / 100)))))
theorem fr_f_X9_grows (I : wI) (t : Int32) (rain : Int32) (q9 : Nat) (h32 : q9 ≠ 32) (h33 : q9 ≠ 33) (h38 : q9 ≠ 38) (h41 : q9 ≠ 41) : (f_X9_grows I t rain) q9 = I q9 := by
  unfold f_X9_grows
  repeat' split
  all_goals first | with_reducible rfl | (simp only [wU_ne _ _ _ h32, wU_ne _ _ _ h33, wU_ne _ _ _ h38, wU_ne _ _ _ h41])
set_option maxRecDepth 20000 in
theorem in_X9_grows_X9 : ∀ w ∈ u_ws RX9 TX9 42, w ∈ wsX9_grows := fun _ h => List.mem_cons_of_mem _ (List.mem_append_right _ h)
set_option maxHeartbeats 4000000 in
set_option maxRecDepth 100000 in
theorem c_X9_grows (l : Launch) (D : va_G) (y : Nat → ClassId) (b : Nat) (z : Nat → Nat) (G : wG) (I : wI) (J : wJ) (hL : w_full G) (t : Int32) (rain : Int32) (ht : 0 ≤ t.toInt ∧ t.toInt < 40) : mV l yX9_grows wsX9_grows { frames := 1, cells := 0, slots := 0, locals := 21 } D y b z G I J [.ref (G.1 22), .int t, .int rain] (fun u => u.2.1 = f_X9_grows I t rain ∧ u.1 = G ∧ u.2.2 = J) 0 0 := by
  refine w_enter (by decide) rfl (Nat.le_of_ble_eq_true rfl) rfl ?_
  intro p e s m below meth c ls X hr hlk hnm hw hst hl
  have hx := X.1.1
  have hb := X.1.2.1
  obtain ⟨po_c_X9_grows, epo⟩ : ∃ qpo9 : wS → Prop, qpo9 = (fun u => u.2.1 = f_X9_grows I t rain ∧ u.1 = G ∧ u.2.2 = J) := ⟨_, rfl⟩
  rw [← epo]
  refine lv_aload_n hx hb dX9_grows_0 rfl (lv_at hl 0 rfl) ?_
  refine w_get X hw 10 2 (hL 22 (by decide)) rfl (by decide) k_X9 in_X9_grows_X9 (by decide) (by decide +kernel) rfl (v := .ref (G.1 32)) rfl dX9_grows_1 ?_
  refine lv_iload_n hx hb dX9_grows_4 rfl (lv_at hl 1 rfl) ?_
  refine lv_sipush (v := 600) hx hb dX9_grows_5 (by decide) ?_
  refine lv_aload_n hx hb dX9_grows_8 rfl (lv_at hl 0 rfl) ?_
  refine w_get X hw 10 2 (hL 22 (by decide)) rfl (by decide) k_X9 in_X9_grows_X9 (by decide) (by decide +kernel) rfl (v := .ref (G.1 32)) rfl dX9_grows_9 ?_
  refine lv_iload_n hx hb dX9_grows_12 rfl (lv_at hl 1 rfl) ?_
  have h_13 : vp_in t 40 := by rw [vp_in_iff]; exact ht
  refine w_ild X hw (hL 32 (by decide)) rfl h_13 dX9_grows_13 ?_
  refine lv_iconst (v := 1) hx hb dX9_grows_14 (by decide) ?_
  refine lv_iadd hx hb dX9_grows_15 ?_
  refine lv_iload_n hx hb dX9_grows_16 rfl (lv_at hl 2 rfl) ?_
  refine lv_bipush (v := 100) hx hb dX9_grows_17 (by decide) ?_
  refine lv_idiv hx hb dX9_grows_19 (by decide) ?_
  refine lv_iadd hx hb dX9_grows_20 ?_
  refine va_mmin hx hb (by rw [X.1.2.2.1]; exact hl.1.symm) X.1.2.2.2.1 (X.1.2.2.2.2 (.methodLink RX9 123 Lib.Math.min.name) (by decide +kernel)) (X.1.2.2.2.2 (.static Lib.Math.min.name) (by decide +kernel)) (X.1.2.2.2.2 (.initialized "java/lang/Math") (by decide +kernel)) (X.1.2.2.2.2 (.code Lib.Math.min.name Lib.Math.min.code 2 (some .int)) (by decide +kernel)) (Nat.le_of_ble_eq_true rfl) (Nat.le_of_ble_eq_true rfl) (Nat.le_of_ble_eq_true rfl) (Nat.le_of_ble_eq_true rfl) dX9_grows_21 ?_
  refine lv_topi (fun x_1 ex_1 => ?_)
  have h_24 : vp_in t 40 := by rw [vp_in_iff]; exact ht
  refine w_ist X hw (hL 32 (by decide)) rfl h_24 dX9_grows_24 (fun H locs hw => ?_)
  refine lv_aload_n hx hb dX9_grows_25 rfl (lv_at hl 0 rfl) ?_
  refine w_get X hw 10 4 (hL 22 (by decide)) rfl (by decide) k_X9 in_X9_grows_X9 (by decide) (by decide +kernel) rfl (v := .ref (G.1 34)) rfl dX9_grows_26 ?_
  refine lv_iload_n hx hb dX9_grows_29 rfl (lv_at hl 1 rfl) ?_
  have h_30 : vp_in t 40 := by rw [vp_in_iff]; exact ht
  refine w_ild X hw (hL 34 (by decide)) rfl h_30 dX9_grows_30 ?_
  refine W.eq (g2 := F0 m 31 ls [.int (I 34 t.toNatClampNeg)]) rfl ?_
  refine lv_if_ge (tgt := 39) hx hb dX9_grows_31 (by decide) (fun c_31 => ?_) (fun c_31 => ?_)
  · refine lv_aload_n hx hb dX9_grows_39 rfl (lv_at hl 0 rfl) ?_
    refine w_get X hw 10 1 (hL 22 (by decide)) rfl (by decide) k_X9 in_X9_grows_X9 (by decide) (by decide +kernel) rfl (v := .int (I 22 1)) rfl dX9_grows_40 ?_
    refine lv_aload_n hx hb dX9_grows_43 rfl (lv_at hl 0 rfl) ?_
    refine w_get X hw 10 4 (hL 22 (by decide)) rfl (by decide) k_X9 in_X9_grows_X9 (by decide) (by decide +kernel) rfl (v := .ref (G.1 34)) rfl dX9_grows_44 ?_
    refine lv_iload_n hx hb dX9_grows_47 rfl (lv_at hl 1 rfl) ?_
    have h_48 : vp_in t 40 := by rw [vp_in_iff]; exact ht
    refine w_ild X hw (hL 34 (by decide)) rfl h_48 dX9_grows_48 ?_
    refine W.eq (g2 := F0 m 49 ls [.int (I 34 t.toNatClampNeg), .int (I 22 1)]) rfl ?_
    refine lv_isub hx hb dX9_grows_49 ?_
    refine lv_topi (fun x_2 ex_2 => ?_)
    refine lv_istore_n (lv' := [(3, .int x_2), (0, .ref (G.1 22)), (1, .int t), (2, .int rain)]) hx hb dX9_grows_50 rfl hl (by decide) rfl (fun ls hl => ?_)
    refine lv_bipush (v := 10) hx hb dX9_grows_51 (by decide) ?_
    refine lv_bipush (v := 40) hx hb dX9_grows_53 (by decide) ?_
    refine lv_iconst (v := 2) hx hb dX9_grows_55 (by decide) ?_
    refine lv_iload_n hx hb dX9_grows_56 rfl (lv_at hl 0 rfl) ?_
    refine lv_imul hx hb dX9_grows_57 ?_
    refine lv_isub hx hb dX9_grows_58 ?_
    refine va_mmax hx hb (by rw [X.1.2.2.1]; exact hl.1.symm) X.1.2.2.2.1 (X.1.2.2.2.2 (.methodLink RX9 132 Lib.Math.max.name) (by decide +kernel)) (X.1.2.2.2.2 (.static Lib.Math.max.name) (by decide +kernel)) (X.1.2.2.2.2 (.initialized "java/lang/Math") (by decide +kernel)) (X.1.2.2.2.2 (.code Lib.Math.max.name Lib.Math.max.code 2 (some .int)) (by decide +kernel)) (Nat.le_of_ble_eq_true rfl) (Nat.le_of_ble_eq_true rfl) (Nat.le_of_ble_eq_true rfl) (Nat.le_of_ble_eq_true rfl) dX9_grows_59 ?_
    refine lv_bipush (v := 50) hx hb dX9_grows_62 (by decide) ?_
    refine lv_iload_n hx hb dX9_grows_64 rfl (lv_at hl 3 rfl) ?_
    refine lv_iadd hx hb dX9_grows_65 ?_
    refine lv_imul hx hb dX9_grows_66 ?_
    refine lv_bipush (v := 100) hx hb dX9_grows_67 (by decide) ?_
    refine lv_idiv hx hb dX9_grows_69 (by decide) ?_
    refine lv_topi (fun x_3 ex_3 => ?_)
    refine lv_istore (lv' := [(4, .int x_3), (3, .int x_2), (0, .ref (G.1 22)), (1, .int t), (2, .int rain)]) hx hb dX9_grows_70 hl (by decide) rfl (fun ls hl => ?_)
    refine lv_aload_n hx hb dX9_grows_72 rfl (lv_at hl 2 rfl) ?_
    refine w_get X hw 10 8 (hL 22 (by decide)) rfl (by decide) k_X9 in_X9_grows_X9 (by decide) (by decide +kernel) rfl (v := .ref (G.1 38)) rfl dX9_grows_73 ?_
    refine lv_iload_n hx hb dX9_grows_76 rfl (lv_at hl 3 rfl) ?_
    refine lv_dup2_11 hx hb dX9_grows_77 rfl rfl ?_
    have h_78 : vp_in t 40 := by rw [vp_in_iff]; exact ht
    refine w_ild X hw (hL 38 (by decide)) rfl h_78 dX9_grows_78 ?_
    refine W.eq (g2 := F0 m 79 ls [.int (I 38 t.toNatClampNeg), .int t, .ref (G.1 38)]) rfl ?_
    refine lv_iload hx hb dX9_grows_79 (lv_at hl 0 rfl) ?_
    refine lv_iadd hx hb dX9_grows_81 ?_
    refine lv_topi (fun x_4 ex_4 => ?_)
    have h_82 : vp_in t 40 := by rw [vp_in_iff]; exact ht
    refine w_ist X hw (hL 38 (by decide)) rfl h_82 dX9_grows_82 (fun H locs hw => ?_)
    refine lv_aload_n hx hb dX9_grows_83 rfl (lv_at hl 2 rfl) ?_
    refine w_get X hw 10 3 (hL 22 (by decide)) rfl (by decide) k_X9 in_X9_grows_X9 (by decide) (by decide +kernel) rfl (v := .ref (G.1 33)) rfl dX9_grows_84 ?_
    refine lv_iload_n hx hb dX9_grows_87 rfl (lv_at hl 3 rfl) ?_
    refine lv_dup2_11 hx hb dX9_grows_88 rfl rfl ?_
    have h_89 : vp_in t 40 := by rw [vp_in_iff]; exact ht
    refine w_ild X hw (hL 33 (by decide)) rfl h_89 dX9_grows_89 ?_
    refine W.eq (g2 := F0 m 90 ls [.int (I 33 t.toNatClampNeg), .int t, .ref (G.1 33)]) rfl ?_
    refine lv_iload hx hb dX9_grows_90 (lv_at hl 0 rfl) ?_
    refine lv_iadd hx hb dX9_grows_92 ?_
    refine lv_topi (fun x_5 ex_5 => ?_)
    have h_93 : vp_in t 40 := by rw [vp_in_iff]; exact ht
    refine w_ist X hw (hL 33 (by decide)) rfl h_93 dX9_grows_93 (fun H locs hw => ?_)
    refine lv_aload_n hx hb dX9_grows_94 rfl (lv_at hl 2 rfl) ?_
    refine w_get X hw 10 3 (hL 22 (by decide)) rfl (by decide) k_X9 in_X9_grows_X9 (by decide) (by decide +kernel) rfl (v := .ref (G.1 33)) rfl dX9_grows_95 ?_
    refine lv_iload_n hx hb dX9_grows_98 rfl (lv_at hl 3 rfl) ?_
    have h_99 : vp_in t 40 := by rw [vp_in_iff]; exact ht
    refine w_ild X hw (hL 33 (by decide)) rfl h_99 dX9_grows_99 ?_
    refine lv_sipush (v := 3000) hx hb dX9_grows_100 (by decide) ?_
    refine lv_icmp_gt (tgt := 107) hx hb dX9_grows_103 (by decide) (fun c_103 => ?_) (fun c_103 => ?_)
    · refine lv_aload_n hx hb dX9_grows_107 rfl (lv_at hl 2 rfl) ?_
      refine w_get X hw 10 11 (hL 22 (by decide)) rfl (by decide) k_X9 in_X9_grows_X9 (by decide) (by decide +kernel) rfl (v := .ref (G.1 41)) rfl dX9_grows_108 ?_
      refine lv_iload_n hx hb dX9_grows_111 rfl (lv_at hl 3 rfl) ?_
      refine lv_dup2_11 hx hb dX9_grows_112 rfl rfl ?_
      have h_113 : vp_in t 40 := by rw [vp_in_iff]; exact ht
      refine w_ild X hw (hL 41 (by decide)) rfl h_113 dX9_grows_113 ?_
      refine W.eq (g2 := F0 m 114 ls [.int (I 41 t.toNatClampNeg), .int t, .ref (G.1 41)]) rfl ?_
      refine lv_aload_n hx hb dX9_grows_114 rfl (lv_at hl 2 rfl) ?_
      refine w_get X hw 10 3 (hL 22 (by decide)) rfl (by decide) k_X9 in_X9_grows_X9 (by decide) (by decide +kernel) rfl (v := .ref (G.1 33)) rfl dX9_grows_115 ?_
      refine lv_iload_n hx hb dX9_grows_118 rfl (lv_at hl 3 rfl) ?_
      have h_119 : vp_in t 40 := by rw [vp_in_iff]; exact ht
      refine w_ild X hw (hL 33 (by decide)) rfl h_119 dX9_grows_119 ?_
      refine lv_sipush (v := 3000) hx hb dX9_grows_120 (by decide) ?_
      refine lv_isub hx hb dX9_grows_123 ?_
      refine lv_iadd hx hb dX9_grows_124 ?_
      refine lv_topi (fun x_6 ex_6 => ?_)
      have h_125 : vp_in t 40 := by rw [vp_in_iff]; exact ht
      refine w_ist X hw (hL 41 (by decide)) rfl h_125 dX9_grows_125 (fun H locs hw => ?_)
      refine lv_aload_n hx hb dX9_grows_126 rfl (lv_at hl 2 rfl) ?_
      refine w_get X hw 10 3 (hL 22 (by decide)) rfl (by decide) k_X9 in_X9_grows_X9 (by decide) (by decide +kernel) rfl (v := .ref (G.1 33)) rfl dX9_grows_127 ?_
      refine lv_iload_n hx hb dX9_grows_130 rfl (lv_at hl 3 rfl) ?_
      refine lv_sipush (v := 3000) hx hb dX9_grows_131 (by decide) ?_
      have h_134 : vp_in t 40 := by rw [vp_in_iff]; exact ht
      refine w_ist X hw (hL 33 (by decide)) rfl h_134 dX9_grows_134 (fun H locs hw => ?_)
      have hp_135 : po_c_X9_grows (G, (wU (wU (wU (wU (wU I 32 t.toNatClampNeg x_1) 38 t.toNatClampNeg x_4) 33 t.toNatClampNeg x_5) 41 t.toNatClampNeg x_6) 33 t.toNatClampNeg 3000), J) := by
          obtain rfl := ex_1.symm
          obtain rfl := ex_2.symm
          obtain rfl := ex_3.symm
          obtain rfl := ex_4.symm
          obtain rfl := ex_5.symm
          obtain rfl := ex_6.symm
          rw [epo]
          refine ⟨Eq.symm ?_, rfl, rfl⟩
          unfold f_X9_grows; rw [if_pos c_31, if_pos c_103]
      exact w_vret X hr hlk hw hp_135 (Nat.le_of_ble_eq_true rfl) (Nat.le_of_ble_eq_true rfl) dX9_grows_135
    · have hp_106 : po_c_X9_grows (G, (wU (wU (wU I 32 t.toNatClampNeg x_1) 38 t.toNatClampNeg x_4) 33 t.toNatClampNeg x_5), J) := by
          obtain rfl := ex_1.symm
          obtain rfl := ex_2.symm
          obtain rfl := ex_3.symm
          obtain rfl := ex_4.symm
          obtain rfl := ex_5.symm
          rw [epo]
          refine ⟨Eq.symm ?_, rfl, rfl⟩
          unfold f_X9_grows; rw [if_pos c_31, if_neg c_103]
      exact w_vret X hr hlk hw hp_106 (Nat.le_of_ble_eq_true rfl) (Nat.le_of_ble_eq_true rfl) dX9_grows_106
  · refine lv_bipush (v := 20) hx hb dX9_grows_34 (by decide) ?_
    refine lv_goto (tgt := 50) hx hb dX9_grows_36 (by decide) ?_
    refine lv_istore_n (lv' := [(3, .int 20), (0, .ref (G.1 22)), (1, .int t), (2, .int rain)]) hx hb dX9_grows_50 rfl hl (by decide) rfl (fun ls hl => ?_)
    refine lv_bipush (v := 10) hx hb dX9_grows_51 (by decide) ?_
    refine lv_bipush (v := 40) hx hb dX9_grows_53 (by decide) ?_
    refine lv_iconst (v := 2) hx hb dX9_grows_55 (by decide) ?_
    refine lv_iload_n hx hb dX9_grows_56 rfl (lv_at hl 0 rfl) ?_
    refine lv_imul hx hb dX9_grows_57 ?_
    refine lv_isub hx hb dX9_grows_58 ?_
    refine va_mmax hx hb (by rw [X.1.2.2.1]; exact hl.1.symm) X.1.2.2.2.1 (X.1.2.2.2.2 (.methodLink RX9 132 Lib.Math.max.name) (by decide +kernel)) (X.1.2.2.2.2 (.static Lib.Math.max.name) (by decide +kernel)) (X.1.2.2.2.2 (.initialized "java/lang/Math") (by decide +kernel)) (X.1.2.2.2.2 (.code Lib.Math.max.name Lib.Math.max.code 2 (some .int)) (by decide +kernel)) (Nat.le_of_ble_eq_true rfl) (Nat.le_of_ble_eq_true rfl) (Nat.le_of_ble_eq_true rfl) (Nat.le_of_ble_eq_true rfl) dX9_grows_59 ?_
    refine lv_bipush (v := 50) hx hb dX9_grows_62 (by decide) ?_
    refine lv_iload_n hx hb dX9_grows_64 rfl (lv_at hl 3 rfl) ?_
    refine lv_iadd hx hb dX9_grows_65 ?_
    refine lv_imul hx hb dX9_grows_66 ?_
    refine lv_bipush (v := 100) hx hb dX9_grows_67 (by decide) ?_
    refine lv_idiv hx hb dX9_grows_69 (by decide) ?_
    refine lv_topi (fun x_7 ex_7 => ?_)
    refine lv_istore (lv' := [(4, .int x_7), (3, .int 20), (0, .ref (G.1 22)), (1, .int t), (2, .int rain)]) hx hb dX9_grows_70 hl (by decide) rfl (fun ls hl => ?_)
    refine lv_aload_n hx hb dX9_grows_72 rfl (lv_at hl 2 rfl) ?_
    refine w_get X hw 10 8 (hL 22 (by decide)) rfl (by decide) k_X9 in_X9_grows_X9 (by decide) (by decide +kernel) rfl (v := .ref (G.1 38)) rfl dX9_grows_73 ?_
    refine lv_iload_n hx hb dX9_grows_76 rfl (lv_at hl 3 rfl) ?_
    refine lv_dup2_11 hx hb dX9_grows_77 rfl rfl ?_
    have h_78 : vp_in t 40 := by rw [vp_in_iff]; exact ht
    refine w_ild X hw (hL 38 (by decide)) rfl h_78 dX9_grows_78 ?_
    refine W.eq (g2 := F0 m 79 ls [.int (I 38 t.toNatClampNeg), .int t, .ref (G.1 38)]) rfl ?_
    refine lv_iload hx hb dX9_grows_79 (lv_at hl 0 rfl) ?_
    refine lv_iadd hx hb dX9_grows_81 ?_
    refine lv_topi (fun x_8 ex_8 => ?_)
    have h_82 : vp_in t 40 := by rw [vp_in_iff]; exact ht
    refine w_ist X hw (hL 38 (by decide)) rfl h_82 dX9_grows_82 (fun H locs hw => ?_)
    refine lv_aload_n hx hb dX9_grows_83 rfl (lv_at hl 2 rfl) ?_
    refine w_get X hw 10 3 (hL 22 (by decide)) rfl (by decide) k_X9 in_X9_grows_X9 (by decide) (by decide +kernel) rfl (v := .ref (G.1 33)) rfl dX9_grows_84 ?_
    refine lv_iload_n hx hb dX9_grows_87 rfl (lv_at hl 3 rfl) ?_
    refine lv_dup2_11 hx hb dX9_grows_88 rfl rfl ?_
    have h_89 : vp_in t 40 := by rw [vp_in_iff]; exact ht
    refine w_ild X hw (hL 33 (by decide)) rfl h_89 dX9_grows_89 ?_
    refine W.eq (g2 := F0 m 90 ls [.int (I 33 t.toNatClampNeg), .int t, .ref (G.1 33)]) rfl ?_
    refine lv_iload hx hb dX9_grows_90 (lv_at hl 0 rfl) ?_
    refine lv_iadd hx hb dX9_grows_92 ?_
    refine lv_topi (fun x_9 ex_9 => ?_)
    have h_93 : vp_in t 40 := by rw [vp_in_iff]; exact ht
    refine w_ist X hw (hL 33 (by decide)) rfl h_93 dX9_grows_93 (fun H locs hw => ?_)
    refine lv_aload_n hx hb dX9_grows_94 rfl (lv_at hl 2 rfl) ?_
    refine w_get X hw 10 3 (hL 22 (by decide)) rfl (by decide) k_X9 in_X9_grows_X9 (by decide) (by decide +kernel) rfl (v := .ref (G.1 33)) rfl dX9_grows_95 ?_
    refine lv_iload_n hx hb dX9_grows_98 rfl (lv_at hl 3 rfl) ?_
    have h_99 : vp_in t 40 := by rw [vp_in_iff]; exact ht
    refine w_ild X hw (hL 33 (by decide)) rfl h_99 dX9_grows_99 ?_
    refine lv_sipush (v := 3000) hx hb dX9_grows_100 (by decide) ?_
    refine lv_icmp_gt (tgt := 107) hx hb dX9_grows_103 (by decide) (fun c_103 => ?_) (fun c_103 => ?_)
    · refine lv_aload_n hx hb dX9_grows_107 rfl (lv_at hl 2 rfl) ?_
      refine w_get X hw 10 11 (hL 22 (by decide)) rfl (by decide) k_X9 in_X9_grows_X9 (by decide) (by decide +kernel) rfl (v := .ref (G.1 41)) rfl dX9_grows_108 ?_
      refine lv_iload_n hx hb dX9_grows_111 rfl (lv_at hl 3 rfl) ?_
      refine lv_dup2_11 hx hb dX9_grows_112 rfl rfl ?_
      have h_113 : vp_in t 40 := by rw [vp_in_iff]; exact ht
      refine w_ild X hw (hL 41 (by decide)) rfl h_113 dX9_grows_113 ?_
      refine W.eq (g2 := F0 m 114 ls [.int (I 41 t.toNatClampNeg), .int t, .ref (G.1 41)]) rfl ?_
      refine lv_aload_n hx hb dX9_grows_114 rfl (lv_at hl 2 rfl) ?_
      refine w_get X hw 10 3 (hL 22 (by decide)) rfl (by decide) k_X9 in_X9_grows_X9 (by decide) (by decide +kernel) rfl (v := .ref (G.1 33)) rfl dX9_grows_115 ?_
      refine lv_iload_n hx hb dX9_grows_118 rfl (lv_at hl 3 rfl) ?_
      have h_119 : vp_in t 40 := by rw [vp_in_iff]; exact ht
      refine w_ild X hw (hL 33 (by decide)) rfl h_119 dX9_grows_119 ?_
      refine lv_sipush (v := 3000) hx hb dX9_grows_120 (by decide) ?_
      refine lv_isub hx hb dX9_grows_123 ?_
      refine lv_iadd hx hb dX9_grows_124 ?_
      refine lv_topi (fun x_10 ex_10 => ?_)
      have h_125 : vp_in t 40 := by rw [vp_in_iff]; exact ht
      refine w_ist X hw (hL 41 (by decide)) rfl h_125 dX9_grows_125 (fun H locs hw => ?_)
      refine lv_aload_n hx hb dX9_grows_126 rfl (lv_at hl 2 rfl) ?_
      refine w_get X hw 10 3 (hL 22 (by decide)) rfl (by decide) k_X9 in_X9_grows_X9 (by decide) (by decide +kernel) rfl (v := .ref (G.1 33)) rfl dX9_grows_127 ?_
      refine lv_iload_n hx hb dX9_grows_130 rfl (lv_at hl 3 rfl) ?_
      refine lv_sipush (v := 3000) hx hb dX9_grows_131 (by decide) ?_
      have h_134 : vp_in t 40 := by rw [vp_in_iff]; exact ht
      refine w_ist X hw (hL 33 (by decide)) rfl h_134 dX9_grows_134 (fun H locs hw => ?_)
      have hp_135 : po_c_X9_grows (G, (wU (wU (wU (wU (wU I 32 t.toNatClampNeg x_1) 38 t.toNatClampNeg x_8) 33 t.toNatClampNeg x_9) 41 t.toNatClampNeg x_10) 33 t.toNatClampNeg 3000), J) := by
          obtain rfl := ex_1.symm
          obtain rfl := ex_7.symm
          obtain rfl := ex_8.symm
          obtain rfl := ex_9.symm
          obtain rfl := ex_10.symm
          rw [epo]
          refine ⟨Eq.symm ?_, rfl, rfl⟩
          unfold f_X9_grows; rw [if_neg c_31, if_pos c_103]
      exact w_vret X hr hlk hw hp_135 (Nat.le_of_ble_eq_true rfl) (Nat.le_of_ble_eq_true rfl) dX9_grows_135
    · have hp_106 : po_c_X9_grows (G, (wU (wU (wU I 32 t.toNatClampNeg x_1) 38 t.toNatClampNeg x_8) 33 t.toNatClampNeg x_9), J) := by
          obtain rfl := ex_1.symm
          obtain rfl := ex_7.symm
          obtain rfl := ex_8.symm
          obtain rfl := ex_9.symm
          rw [epo]
          refine ⟨Eq.symm ?_, rfl, rfl⟩
          unfold f_X9_grows; rw [if_neg c_31, if_neg c_103]
      exact w_vret X hr hlk hw hp_106 (Nat.le_of_ble_eq_true rfl) (Nat.le_of_ble_eq_true rfl) dX9_grows_106
