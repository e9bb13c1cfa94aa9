def f_X9_readClause (I : wI)  : Int32 × wI := (if 0 ≤ (l_X9_rc_k  7 (l_X9_rc_w  401 (f_X9_blanks I)) 0 (-1)).2.2 then (if ((l_X9_rc_n  401 (f_X9_blanks (l_X9_rc_w  401 (f_X9_blanks I))) 0 (l_X9_rc_k  7 (l_X9_rc_w  401 (f_X9_blanks I)) 0 (-1)).2.2).1 22 25) = ((l_X9_rc_n  401 (f_X9_blanks (l_X9_rc_w  401 (f_X9_blanks I))) 0 (l_X9_rc_k  7 (l_X9_rc_w  401 (f_X9_blanks I)) 0 (-1)).2.2).1 22 27) then (0, (l_X9_rc_n  401 (f_X9_blanks (l_X9_rc_w  401 (f_X9_blanks I))) 0 (l_X9_rc_k  7 (l_X9_rc_w  401 (f_X9_blanks I)) 0 (-1)).2.2).1) else (if 4 < (((l_X9_rc_n  401 (f_X9_blanks (l_X9_rc_w  401 (f_X9_blanks I))) 0 (l_X9_rc_k  7 (l_X9_rc_w  401 (f_X9_blanks I)) 0 (-1)).2.2).1 22 25) - ((l_X9_rc_n  401 (f_X9_blanks (l_X9_rc_w  401 (f_X9_blanks I))) 0 (l_X9_rc_k  7 (l_X9_rc_w  401 (f_X9_blanks I)) 0 (-1)).2.2).1 22 27)) then (0, (l_X9_rc_n  401 (f_X9_blanks (l_X9_rc_w  401 (f_X9_blanks I))) 0 (l_X9_rc_k  7 (l_X9_rc_w  401 (f_X9_blanks I)) 0 (-1)).2.2).1) else (if (l_X9_rc_n  401 (f_X9_blanks (l_X9_rc_w  401 (f_X9_blanks I))) 0 (l_X9_rc_k  7 (l_X9_rc_w  401 (f_X9_blanks I)) 0 (-1)).2.2).2 ≤ (l_most (l_X9_rc_k  7 (l_X9_rc_w  401 (f_X9_blanks I)) 0 (-1)).2.2.toNatClampNeg) then (1, (wU (l_X9_rc_n  401 (f_X9_blanks (l_X9_rc_w  401 (f_X9_blanks I))) 0 (l_X9_rc_k  7 (l_X9_rc_w  401 (f_X9_blanks I)) 0 (-1)).2.2).1 44 (l_X9_rc_k  7 (l_X9_rc_w  401 (f_X9_blanks I)) 0 (-1)).2.2.toNatClampNeg (l_X9_rc_n  401 (f_X9_blanks (l_X9_rc_w  401 (f_X9_blanks I))) 0 (l_X9_rc_k  7 (l_X9_rc_w  401 (f_X9_blanks I)) 0 (-1)).2.2).2)) else (0, (l_X9_rc_n  401 (f_X9_blanks (l_X9_rc_w  401 (f_X9_blanks I))) 0 (l_X9_rc_k  7 (l_X9_rc_w  401 (f_X9_blanks I)) 0 (-1)).2.2).1)))) else (0, (l_X9_rc_w  401 (f_X9_blanks I))))
theorem fr_f_X9_readClause (I : wI)  (q9 : Nat) (h22 : q9 ≠ 22) (h44 : q9 ≠ 44) : (f_X9_readClause I).2 q9 = I q9 := by
  unfold f_X9_readClause
  repeat' split
  all_goals first | with_reducible rfl | (simp only [wU_ne _ _ _ h22, wU_ne _ _ _ h44, fr_X9_rc_n _ _ _ _ _ h22, fr_X9_rc_w _ _ _ h22, fr_f_X9_blanks _ _ h22])
set_option maxHeartbeats 4000000 in
set_option maxRecDepth 100000 in
theorem c_X9_readClause (l : Launch) (D : va_G) (y : Nat → ClassId) (b : Nat) (z : Nat → Nat) (G : wG) (I : wI) (J : wJ) (hL : w_full G)  (hi : rdM I) : mI l yX9_readClause wsX9_readClause { frames := 5, cells := 0, slots := 0, locals := 108 } D y b z G I J [.ref (G.1 22)] (fun r u => (r = (f_X9_readClause I).1 ∧ u.2.1 = (f_X9_readClause I).2) ∧ u.1 = G ∧ u.2.2 = J) 0 0 := by
  refine w_enter (by decide) rfl (Nat.le_of_ble_eq_true rfl) rfl ?_
  intro p e s m below meth c ls X hr hlk hnm hw hst hl
  have hx := X.1.1
  have hb := X.1.2.1
  obtain ⟨po_c_X9_readClause, epo⟩ : ∃ qpo9 : Int32 → wS → Prop, qpo9 = (fun r u => (r = (f_X9_readClause I).1 ∧ u.2.1 = (f_X9_readClause I).2) ∧ u.1 = G ∧ u.2.2 = J) := ⟨_, rfl⟩
  rw [← epo]
  refine lv_aload_n hx hb dX9_readClause_0 rfl (lv_at hl 0 rfl) ?_
  refine w_callVv (As := []) (rest := []) X hw hst hl (c_X9_blanks l D y b z G I J hL hi) (cwV 0 X.1.2.2.2.2 gX9_readClause_X9_blanks rfl rfl rfl (by decide +kernel) ⟨Nat.le_of_ble_eq_true rfl, Nat.le_of_ble_eq_true rfl⟩) (w_recv X hw (hL 22 (by decide)) rfl (by decide) k_X9) rfl rfl (Nat.le_of_ble_eq_true rfl) dX9_readClause_1 ⟨Nat.le_of_ble_eq_true rfl, Nat.le_of_ble_eq_true rfl⟩ (fun u H locs hp_1 hw => ?_)
  obtain ⟨G_1_1, I_1_1, J_1_1⟩ := u
  dsimp only at hw hp_1
  obtain ⟨hI_1_1, eG_1, eJ_1⟩ := hp_1
  subst G_1_1 J_1_1
  have P1 := mb_p hi
  rw [← hI_1_1] at P1
  refine lp_X9_rc_w  X hst hL (Nat.le_of_ble_eq_true rfl) (Nat.le_of_ble_eq_true rfl) (Nat.le_of_ble_eq_true rfl) (Nat.le_of_ble_eq_true rfl)   401 I_1_1  _ _ _ (P1.1.1) (at_0 P1.1.1) hw (lv_sub hl [0] rfl) (fun H locs ls hw hl => ?_)
  obtain ⟨Q_2, eQ_2⟩ : ∃ q9 : wI, q9 = l_X9_rc_w  401 I_1_1 := ⟨_, rfl⟩
  rw [← eQ_2] at hw
  have P2 := mw_l 401 _ P1.1.1
  rw [← eQ_2] at P2
  have hb9 : 0 ≤ (Q_2 22 27).toInt ∧ (Q_2 22 27).toInt ≤ (Q_2 22 25).toInt ∧ (Q_2 22 25).toInt ≤ 400 := by rw [P2.2, P1.2]; exact ⟨P1.1.1.1, P2.1.2.1, Int.le_trans P2.1.1.2.1 P2.1.1.2.2⟩
  refine lv_iconst (v := -1) hx hb dX9_readClause_28 (by decide) ?_
  refine lv_istore_n (lv' := [(1, .int (-1)), (0, .ref (G.1 22))]) hx hb dX9_readClause_29 rfl hl (by decide) rfl (fun ls hl => ?_)
  refine lv_iconst (v := 0) hx hb dX9_readClause_30 (by decide) ?_
  refine lv_istore_n (lv' := [(2, .int 0), (1, .int (-1)), (0, .ref (G.1 22))]) hx hb dX9_readClause_31 rfl hl (by decide) rfl (fun ls hl => ?_)
  refine lp_X9_rc_k  X hst hL (Nat.le_of_ble_eq_true rfl) (Nat.le_of_ble_eq_true rfl) (Nat.le_of_ble_eq_true rfl) (Nat.le_of_ble_eq_true rfl)   7 Q_2 0 (-1) _ _ _ (⟨by decide, hb9⟩) (by decide) hw (lv_sub hl [0, 1, 2] rfl) (fun H locs ls hw hl => ?_)
  obtain ⟨Q_3, eQ_3⟩ : ∃ q9 : wI × Int32 × Int32, q9 = l_X9_rc_k  7 Q_2 0 (-1) := ⟨_, rfl⟩
  rw [← eQ_3] at hw hl
  rw [show Q_3.1 = Q_2 from by rw [eQ_3]; exact ro_X9_rc_k _ _ _ _ ] at hw
  refine lv_iload_n hx hb dX9_readClause_57 rfl (lv_at hl 1 rfl) ?_
  refine lv_if_ge (tgt := 63) hx hb dX9_readClause_58 (by decide) (fun c_58 => ?_) (fun c_58 => ?_)
  · have hK9 : vp_in Q_3.2.2 6 := by rw [eQ_3] at c_58 ⊢; exact rk_v (k := 0) c_58
    refine lv_aload_n hx hb dX9_readClause_63 rfl (lv_at hl 2 rfl) ?_
    refine w_callVv (As := []) (rest := []) X hw hst hl (c_X9_blanks l D y b z G Q_2 J hL P2.1.1) (cwV 0 X.1.2.2.2.2 gX9_readClause_X9_blanks rfl rfl rfl (by decide +kernel) ⟨Nat.le_of_ble_eq_true rfl, Nat.le_of_ble_eq_true rfl⟩) (w_recv X hw (hL 22 (by decide)) rfl (by decide) k_X9) rfl rfl (Nat.le_of_ble_eq_true rfl) dX9_readClause_64 ⟨Nat.le_of_ble_eq_true rfl, Nat.le_of_ble_eq_true rfl⟩ (fun u H locs hp_64 hw => ?_)
    obtain ⟨G_64_4, I_64_4, J_64_4⟩ := u
    dsimp only at hw hp_64
    obtain ⟨hI_64_4, eG_64, eJ_64⟩ := hp_64
    subst G_64_4 J_64_4
    have P3 := mb_p P2.1.1
    rw [← hI_64_4] at P3
    refine lv_iconst (v := 0) hx hb dX9_readClause_67 (by decide) ?_
    refine lv_istore_n (lv' := [(2, .int 0), (1, .int Q_3.2.2), (0, .ref (G.1 22))]) hx hb dX9_readClause_68 rfl hl (by decide) rfl (fun ls hl => ?_)
    refine lp_X9_rc_n  X hst hL (Nat.le_of_ble_eq_true rfl) (Nat.le_of_ble_eq_true rfl) (Nat.le_of_ble_eq_true rfl) (Nat.le_of_ble_eq_true rfl) Q_3.2.2  401 I_64_4 0 _ _ _ (P3.1.1) (at_0 P3.1.1) hw (lv_sub hl [0, 2, 1] rfl) (fun H locs ls hw hl => ?_)
    obtain ⟨Q_5, eQ_5⟩ : ∃ q9 : wI × Int32, q9 = l_X9_rc_n  401 I_64_4 0 Q_3.2.2 := ⟨_, rfl⟩
    rw [← eQ_5] at hw hl
    refine lv_aload_n hx hb dX9_readClause_128 rfl (lv_at hl 1 rfl) ?_
    refine w_get X hw 10 25 (hL 22 (by decide)) rfl (by decide) k_X9 in_X9_readClause_X9 (by decide) (by decide +kernel) rfl (v := .int (Q_5.1 22 25)) rfl dX9_readClause_129 ?_
    refine lv_aload_n hx hb dX9_readClause_132 rfl (lv_at hl 1 rfl) ?_
    refine w_get X hw 10 27 (hL 22 (by decide)) rfl (by decide) k_X9 in_X9_readClause_X9 (by decide) (by decide +kernel) rfl (v := .int (Q_5.1 22 27)) rfl dX9_readClause_133 ?_
    refine lv_icmp_eq (tgt := 161) hx hb dX9_readClause_136 (by decide) (fun c_136 => ?_) (fun c_136 => ?_)
    · refine lv_iconst (v := 0) hx hb dX9_readClause_161 (by decide) ?_
      have hp_162 : po_c_X9_readClause 0 (G, Q_5.1, J) := by
          obtain rfl := hI_1_1.symm
          obtain rfl := eQ_2.symm
          obtain rfl := eQ_3.symm
          obtain rfl := hI_64_4.symm
          obtain rfl := eQ_5.symm
          rw [epo]
          have ef : f_X9_readClause I = (0, (l_X9_rc_n  401 (f_X9_blanks (l_X9_rc_w  401 (f_X9_blanks I))) 0 (l_X9_rc_k  7 (l_X9_rc_w  401 (f_X9_blanks I)) 0 (-1)).2.2).1) := by unfold f_X9_readClause; rw [if_pos c_58, if_pos c_136]
          exact ⟨⟨by rw [ef], by rw [ef]⟩, rfl, rfl⟩
      exact w_zret X hr (by decide) hlk hw hp_162 (Nat.le_of_ble_eq_true rfl) (Nat.le_of_ble_eq_true rfl) dX9_readClause_162
    · refine lv_aload_n hx hb dX9_readClause_139 rfl (lv_at hl 1 rfl) ?_
      refine w_get X hw 10 25 (hL 22 (by decide)) rfl (by decide) k_X9 in_X9_readClause_X9 (by decide) (by decide +kernel) rfl (v := .int (Q_5.1 22 25)) rfl dX9_readClause_140 ?_
      refine lv_aload_n hx hb dX9_readClause_143 rfl (lv_at hl 1 rfl) ?_
      refine w_get X hw 10 27 (hL 22 (by decide)) rfl (by decide) k_X9 in_X9_readClause_X9 (by decide) (by decide +kernel) rfl (v := .int (Q_5.1 22 27)) rfl dX9_readClause_144 ?_
      refine lv_isub hx hb dX9_readClause_147 ?_
      refine lv_iconst (v := 4) hx hb dX9_readClause_148 (by decide) ?_
      refine lv_icmp_gt (tgt := 161) hx hb dX9_readClause_149 (by decide) (fun c_149 => ?_) (fun c_149 => ?_)
      · refine lv_iconst (v := 0) hx hb dX9_readClause_161 (by decide) ?_
        have hp_162 : po_c_X9_readClause 0 (G, Q_5.1, J) := by
            obtain rfl := hI_1_1.symm
            obtain rfl := eQ_2.symm
            obtain rfl := eQ_3.symm
            obtain rfl := hI_64_4.symm
            obtain rfl := eQ_5.symm
            rw [epo]
            have ef : f_X9_readClause I = (0, (l_X9_rc_n  401 (f_X9_blanks (l_X9_rc_w  401 (f_X9_blanks I))) 0 (l_X9_rc_k  7 (l_X9_rc_w  401 (f_X9_blanks I)) 0 (-1)).2.2).1) := by unfold f_X9_readClause; rw [if_pos c_58, if_neg c_136, if_pos c_149]
            exact ⟨⟨by rw [ef], by rw [ef]⟩, rfl, rfl⟩
        exact w_zret X hr (by decide) hlk hw hp_162 (Nat.le_of_ble_eq_true rfl) (Nat.le_of_ble_eq_true rfl) dX9_readClause_162
      · refine lv_iload_n hx hb dX9_readClause_152 rfl (lv_at hl 0 rfl) ?_
        refine va_gets hx hb hst.2.2.2.2.2.2.1.1 hw.2.2 X.1.2.2.2.1 (X.1.2.2.2.2 (.fieldLink RX9 197 "CorkForestModel" "BOUNDS" "[I") (by decide +kernel)) (fun _ h => h) dX9_readClause_153 ?_
        refine lv_iload_n hx hb dX9_readClause_156 rfl (lv_at hl 2 rfl) ?_
        have h_157 : vp_in Q_3.2.2 6 := hK9
        refine va_ti hx hb hst.2.2.2.2.2.2.1.2 hw.2.2 h_157 (v := .int (l_most Q_3.2.2.toNatClampNeg)) rfl dX9_readClause_157 ?_
        refine lv_icmp_le (tgt := 163) hx hb dX9_readClause_158 (by decide) (fun c_158 => ?_) (fun c_158 => ?_)
        · refine lv_aload_n hx hb dX9_readClause_163 rfl (lv_at hl 1 rfl) ?_
          refine w_get X hw 10 14 (hL 22 (by decide)) rfl (by decide) k_X9 in_X9_readClause_X9 (by decide) (by decide +kernel) rfl (v := .ref (G.1 44)) rfl dX9_readClause_164 ?_
          refine lv_iload_n hx hb dX9_readClause_167 rfl (lv_at hl 2 rfl) ?_
          refine lv_iload_n hx hb dX9_readClause_168 rfl (lv_at hl 0 rfl) ?_
          refine lv_topi (fun x_6 ex_6 => ?_)
          have h_169 : vp_in Q_3.2.2 6 := hK9
          refine w_ist X hw (hL 44 (by decide)) rfl h_169 dX9_readClause_169 (fun H locs hw => ?_)
          refine lv_iconst (v := 1) hx hb dX9_readClause_170 (by decide) ?_
          have hp_171 : po_c_X9_readClause 1 (G, (wU Q_5.1 44 Q_3.2.2.toNatClampNeg x_6), J) := by
              obtain rfl := hI_1_1.symm
              obtain rfl := eQ_2.symm
              obtain rfl := eQ_3.symm
              obtain rfl := hI_64_4.symm
              obtain rfl := eQ_5.symm
              obtain rfl := ex_6.symm
              rw [epo]
              have ef : f_X9_readClause I = (1, (wU (l_X9_rc_n  401 (f_X9_blanks (l_X9_rc_w  401 (f_X9_blanks I))) 0 (l_X9_rc_k  7 (l_X9_rc_w  401 (f_X9_blanks I)) 0 (-1)).2.2).1 44 (l_X9_rc_k  7 (l_X9_rc_w  401 (f_X9_blanks I)) 0 (-1)).2.2.toNatClampNeg (l_X9_rc_n  401 (f_X9_blanks (l_X9_rc_w  401 (f_X9_blanks I))) 0 (l_X9_rc_k  7 (l_X9_rc_w  401 (f_X9_blanks I)) 0 (-1)).2.2).2)) := by unfold f_X9_readClause; rw [if_pos c_58, if_neg c_136, if_neg c_149, if_pos c_158]
              exact ⟨⟨by rw [ef], by rw [ef]⟩, rfl, rfl⟩
          exact w_zret X hr (by decide) hlk hw hp_171 (Nat.le_of_ble_eq_true rfl) (Nat.le_of_ble_eq_true rfl) dX9_readClause_171
        · refine lv_iconst (v := 0) hx hb dX9_readClause_161 (by decide) ?_
          have hp_162 : po_c_X9_readClause 0 (G, Q_5.1, J) := by
              obtain rfl := hI_1_1.symm
              obtain rfl := eQ_2.symm
              obtain rfl := eQ_3.symm
              obtain rfl := hI_64_4.symm
              obtain rfl := eQ_5.symm
              rw [epo]
              have ef : f_X9_readClause I = (0, (l_X9_rc_n  401 (f_X9_blanks (l_X9_rc_w  401 (f_X9_blanks I))) 0 (l_X9_rc_k  7 (l_X9_rc_w  401 (f_X9_blanks I)) 0 (-1)).2.2).1) := by unfold f_X9_readClause; rw [if_pos c_58, if_neg c_136, if_neg c_149, if_neg c_158]
              exact ⟨⟨by rw [ef], by rw [ef]⟩, rfl, rfl⟩
          exact w_zret X hr (by decide) hlk hw hp_162 (Nat.le_of_ble_eq_true rfl) (Nat.le_of_ble_eq_true rfl) dX9_readClause_162
  · refine lv_iconst (v := 0) hx hb dX9_readClause_61 (by decide) ?_
    have hp_62 : po_c_X9_readClause 0 (G, Q_2, J) := by
        obtain rfl := hI_1_1.symm
        obtain rfl := eQ_2.symm
        obtain rfl := eQ_3.symm
        rw [epo]
        have ef : f_X9_readClause I = (0, (l_X9_rc_w  401 (f_X9_blanks I))) := by unfold f_X9_readClause; rw [if_neg c_58]
        exact ⟨⟨by rw [ef], by rw [ef]⟩, rfl, rfl⟩
    exact w_zret X hr (by decide) hlk hw hp_62 (Nat.le_of_ble_eq_true rfl) (Nat.le_of_ble_eq_true rfl) dX9_readClause_62
