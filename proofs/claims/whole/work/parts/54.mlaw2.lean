def f_X9_law (I : wI)  : Int32 × wI := (if (l_X9_law_m  401 ((f_X9_readClause (l_X9_law_a  7 (wU (wU (wU (wU I 22 0 0) 22 26 (I 22 23)) 22 23 0) 22 25 0) 0).1).2) ((f_X9_readClause (l_X9_law_a  7 (wU (wU (wU (wU I 22 0 0) 22 26 (I 22 23)) 22 23 0) 22 25 0) 0).1).1) 0).2.1 = 0 then (if (l_X9_law_m  401 ((f_X9_readClause (l_X9_law_a  7 (wU (wU (wU (wU I 22 0 0) 22 26 (I 22 23)) 22 23 0) 22 25 0) 0).1).2) ((f_X9_readClause (l_X9_law_a  7 (wU (wU (wU (wU I 22 0 0) 22 26 (I 22 23)) 22 23 0) 22 25 0) 0).1).1) 0).2.1 = 0 then (0, (wU (wU (l_X9_law_m  401 ((f_X9_readClause (l_X9_law_a  7 (wU (wU (wU (wU I 22 0 0) 22 26 (I 22 23)) 22 23 0) 22 25 0) 0).1).2) ((f_X9_readClause (l_X9_law_a  7 (wU (wU (wU (wU I 22 0 0) 22 26 (I 22 23)) 22 23 0) 22 25 0) 0).1).1) 0).1 22 28 ((l_X9_law_m  401 ((f_X9_readClause (l_X9_law_a  7 (wU (wU (wU (wU I 22 0 0) 22 26 (I 22 23)) 22 23 0) 22 25 0) 0).1).2) ((f_X9_readClause (l_X9_law_a  7 (wU (wU (wU (wU I 22 0 0) 22 26 (I 22 23)) 22 23 0) 22 25 0) 0).1).1) 0).1 22 27)) 22 0 1)) else ((l_X9_law_m  401 ((f_X9_readClause (l_X9_law_a  7 (wU (wU (wU (wU I 22 0 0) 22 26 (I 22 23)) 22 23 0) 22 25 0) 0).1).2) ((f_X9_readClause (l_X9_law_a  7 (wU (wU (wU (wU I 22 0 0) 22 26 (I 22 23)) 22 23 0) 22 25 0) 0).1).1) 0).2.2, (l_X9_law_c  7 (wU (l_X9_law_m  401 ((f_X9_readClause (l_X9_law_a  7 (wU (wU (wU (wU I 22 0 0) 22 26 (I 22 23)) 22 23 0) 22 25 0) 0).1).2) ((f_X9_readClause (l_X9_law_a  7 (wU (wU (wU (wU I 22 0 0) 22 26 (I 22 23)) 22 23 0) 22 25 0) 0).1).1) 0).1 22 28 ((l_X9_law_m  401 ((f_X9_readClause (l_X9_law_a  7 (wU (wU (wU (wU I 22 0 0) 22 26 (I 22 23)) 22 23 0) 22 25 0) 0).1).2) ((f_X9_readClause (l_X9_law_a  7 (wU (wU (wU (wU I 22 0 0) 22 26 (I 22 23)) 22 23 0) 22 25 0) 0).1).1) 0).1 22 27)) 0 (l_X9_law_m  401 ((f_X9_readClause (l_X9_law_a  7 (wU (wU (wU (wU I 22 0 0) 22 26 (I 22 23)) 22 23 0) 22 25 0) 0).1).2) ((f_X9_readClause (l_X9_law_a  7 (wU (wU (wU (wU I 22 0 0) 22 26 (I 22 23)) 22 23 0) 22 25 0) 0).1).1) 0).2.1 (l_X9_law_m  401 ((f_X9_readClause (l_X9_law_a  7 (wU (wU (wU (wU I 22 0 0) 22 26 (I 22 23)) 22 23 0) 22 25 0) 0).1).2) ((f_X9_readClause (l_X9_law_a  7 (wU (wU (wU (wU I 22 0 0) 22 26 (I 22 23)) 22 23 0) 22 25 0) 0).1).1) 0).2.2).1)) else (if (l_X9_law_m  401 ((f_X9_readClause (l_X9_law_a  7 (wU (wU (wU (wU I 22 0 0) 22 26 (I 22 23)) 22 23 0) 22 25 0) 0).1).2) ((f_X9_readClause (l_X9_law_a  7 (wU (wU (wU (wU I 22 0 0) 22 26 (I 22 23)) 22 23 0) 22 25 0) 0).1).1) 0).2.1 = 0 then (0, (wU (wU (l_X9_law_m  401 ((f_X9_readClause (l_X9_law_a  7 (wU (wU (wU (wU I 22 0 0) 22 26 (I 22 23)) 22 23 0) 22 25 0) 0).1).2) ((f_X9_readClause (l_X9_law_a  7 (wU (wU (wU (wU I 22 0 0) 22 26 (I 22 23)) 22 23 0) 22 25 0) 0).1).1) 0).1 22 28 (-1)) 22 0 1)) else ((l_X9_law_m  401 ((f_X9_readClause (l_X9_law_a  7 (wU (wU (wU (wU I 22 0 0) 22 26 (I 22 23)) 22 23 0) 22 25 0) 0).1).2) ((f_X9_readClause (l_X9_law_a  7 (wU (wU (wU (wU I 22 0 0) 22 26 (I 22 23)) 22 23 0) 22 25 0) 0).1).1) 0).2.2, (l_X9_law_c  7 (wU (l_X9_law_m  401 ((f_X9_readClause (l_X9_law_a  7 (wU (wU (wU (wU I 22 0 0) 22 26 (I 22 23)) 22 23 0) 22 25 0) 0).1).2) ((f_X9_readClause (l_X9_law_a  7 (wU (wU (wU (wU I 22 0 0) 22 26 (I 22 23)) 22 23 0) 22 25 0) 0).1).1) 0).1 22 28 (-1)) 0 (l_X9_law_m  401 ((f_X9_readClause (l_X9_law_a  7 (wU (wU (wU (wU I 22 0 0) 22 26 (I 22 23)) 22 23 0) 22 25 0) 0).1).2) ((f_X9_readClause (l_X9_law_a  7 (wU (wU (wU (wU I 22 0 0) 22 26 (I 22 23)) 22 23 0) 22 25 0) 0).1).1) 0).2.1 (l_X9_law_m  401 ((f_X9_readClause (l_X9_law_a  7 (wU (wU (wU (wU I 22 0 0) 22 26 (I 22 23)) 22 23 0) 22 25 0) 0).1).2) ((f_X9_readClause (l_X9_law_a  7 (wU (wU (wU (wU I 22 0 0) 22 26 (I 22 23)) 22 23 0) 22 25 0) 0).1).1) 0).2.2).1)))
theorem fr_f_X9_law (I : wI)  (q9 : Nat) (h22 : q9 ≠ 22) (h43 : q9 ≠ 43) (h44 : q9 ≠ 44) : (f_X9_law I).2 q9 = I q9 := by
  unfold f_X9_law
  repeat' split
  all_goals first | with_reducible rfl | (simp only [wU_ne _ _ _ h22, wU_ne _ _ _ h43, wU_ne _ _ _ h44, fr_X9_law_a _ _ _ _ h44, fr_X9_law_m _ _ _ _ _ h22 h44, fr_f_X9_readClause _ _ h22 h44, fr_X9_law_c _ _ _ _ _ _ h43])
set_option maxHeartbeats 4000000 in
set_option maxRecDepth 100000 in
theorem c_X9_law (l : Launch) (D : va_G) (y : Nat → ClassId) (b : Nat) (z : Nat → Nat) (G : wG) (I : wI) (J : wJ) (hL : w_full G)  (hN : 0 ≤ (I 22 23).toInt ∧ (I 22 23).toInt ≤ 400) : mI l yX9_law wsX9_law { frames := 6, cells := 0, slots := 0, locals := 130 } D y b z G I J [.ref (G.1 22)] (fun r u => (r = (f_X9_law I).1 ∧ u.2.1 = (f_X9_law I).2) ∧ u.1 = G ∧ u.2.2 = J) 0 0 := by
  refine w_enter (by decide) rfl (Nat.le_of_ble_eq_true rfl) rfl ?_
  intro p e s m below meth c ls X hr hlk hnm hw hst hl
  have hx := X.1.1
  have hb := X.1.2.1
  obtain ⟨po_c_X9_law, epo⟩ : ∃ qpo9 : Int32 → wS → Prop, qpo9 = (fun r u => (r = (f_X9_law I).1 ∧ u.2.1 = (f_X9_law I).2) ∧ u.1 = G ∧ u.2.2 = J) := ⟨_, rfl⟩
  rw [← epo]
  refine lv_aload_n hx hb dX9_law_0 rfl (lv_at hl 0 rfl) ?_
  refine lv_iconst (v := 0) hx hb dX9_law_1 (by decide) ?_
  refine w_put X hw 10 0 (hL 22 (by decide)) rfl (by decide) k_X9 in_X9_law_X9 (by decide) (by decide +kernel) rfl rfl (t := .int) (by decide +kernel) rfl rfl (fun _ => rfl) (fun _ => Nat.le_of_ble_eq_true rfl) dX9_law_2 (fun H locs hw => ?_)
  refine lv_aload_n hx hb dX9_law_5 rfl (lv_at hl 0 rfl) ?_
  refine lv_aload_n hx hb dX9_law_6 rfl (lv_at hl 0 rfl) ?_
  refine w_get X hw 10 23 (hL 22 (by decide)) rfl (by decide) k_X9 in_X9_law_X9 (by decide) (by decide +kernel) rfl (v := .int (I 22 23)) rfl dX9_law_7 ?_
  refine lv_topi (fun x_1 ex_1 => ?_)
  refine w_put X hw 10 26 (hL 22 (by decide)) rfl (by decide) k_X9 in_X9_law_X9 (by decide) (by decide +kernel) rfl rfl (t := .int) (by decide +kernel) rfl rfl (fun _ => rfl) (fun _ => Nat.le_of_ble_eq_true rfl) dX9_law_10 (fun H locs hw => ?_)
  refine lv_aload_n hx hb dX9_law_13 rfl (lv_at hl 0 rfl) ?_
  refine lv_iconst (v := 0) hx hb dX9_law_14 (by decide) ?_
  refine w_put X hw 10 23 (hL 22 (by decide)) rfl (by decide) k_X9 in_X9_law_X9 (by decide) (by decide +kernel) rfl rfl (t := .int) (by decide +kernel) rfl rfl (fun _ => rfl) (fun _ => Nat.le_of_ble_eq_true rfl) dX9_law_15 (fun H locs hw => ?_)
  refine lv_aload_n hx hb dX9_law_18 rfl (lv_at hl 0 rfl) ?_
  refine lv_iconst (v := 0) hx hb dX9_law_19 (by decide) ?_
  refine w_put X hw 10 25 (hL 22 (by decide)) rfl (by decide) k_X9 in_X9_law_X9 (by decide) (by decide +kernel) rfl rfl (t := .int) (by decide +kernel) rfl rfl (fun _ => rfl) (fun _ => Nat.le_of_ble_eq_true rfl) dX9_law_20 (fun H locs hw => ?_)
  refine lv_iconst (v := 0) hx hb dX9_law_23 (by decide) ?_
  refine lv_istore_n (lv' := [(1, .int 0), (0, .ref (G.1 22))]) hx hb dX9_law_24 rfl hl (by decide) rfl (fun ls hl => ?_)
  refine lp_X9_law_a  X hst hL (Nat.le_of_ble_eq_true rfl) (Nat.le_of_ble_eq_true rfl) (Nat.le_of_ble_eq_true rfl) (Nat.le_of_ble_eq_true rfl)   7 (wU (wU (wU (wU I 22 0 0) 22 26 x_1) 22 23 0) 22 25 0) 0 _ _ _ (by decide) (by decide) hw (lv_sub hl [0, 1] rfl) (fun H locs ls hw hl => ?_)
  obtain ⟨Q_2, eQ_2⟩ : ∃ q9 : wI × Int32, q9 = l_X9_law_a  7 (wU (wU (wU (wU I 22 0 0) 22 26 x_1) 22 23 0) 22 25 0) 0 := ⟨_, rfl⟩
  rw [← eQ_2] at hw hl
  refine lv_iconst (v := 0) hx hb dX9_law_49 (by decide) ?_
  refine lv_istore_n (lv' := [(1, .int 0), (0, .ref (G.1 22))]) hx hb dX9_law_50 rfl hl (by decide) rfl (fun ls hl => ?_)
  have e22 : Q_2.1 22 = (wU (wU (wU (wU I 22 0 0) 22 26 (I 22 23)) 22 23 0) 22 25 0) 22 := by rw [eQ_2, ex_1]; exact fr_X9_law_a _ _ _ 22 (by decide)
  have P0 : rdM Q_2.1 := law_0 hN (by rw [e22]; rfl) (by rw [e22]; rfl)
  refine lv_aload_n hx hb dX9_law_51 rfl (lv_at hl 1 rfl) ?_
  refine w_callVi (As := []) (rest := []) X hw hst hl (c_X9_readClause l D y b z G Q_2.1 J hL P0) (cwV 0 X.1.2.2.2.2 gX9_law_X9_readClause rfl rfl rfl (by decide +kernel) ⟨Nat.le_of_ble_eq_true rfl, Nat.le_of_ble_eq_true rfl⟩) (w_recv X hw (hL 22 (by decide)) rfl (by decide) k_X9) rfl rfl (Nat.le_of_ble_eq_true rfl) dX9_law_52 ⟨Nat.le_of_ble_eq_true rfl, Nat.le_of_ble_eq_true rfl⟩ (fun r_52_3 u H locs hp_52 hw => ?_)
  obtain ⟨G_52_3, I_52_3, J_52_3⟩ := u
  dsimp only at hw hp_52
  obtain ⟨⟨hp_52, hI_52_3⟩, eG_52, eJ_52⟩ := hp_52
  subst G_52_3 J_52_3
  refine lv_istore_n (lv' := [(2, .int r_52_3), (1, .int 0), (0, .ref (G.1 22))]) hx hb dX9_law_55 rfl hl (by decide) rfl (fun ls hl => ?_)
  have P1 : rdM I_52_3 := by rw [hI_52_3]; exact (rc9_p P0).1
  refine lp_X9_law_m  X hst hL (Nat.le_of_ble_eq_true rfl) (Nat.le_of_ble_eq_true rfl) (Nat.le_of_ble_eq_true rfl) (Nat.le_of_ble_eq_true rfl)   401 I_52_3 r_52_3 0 _ _ _ (P1) (at_0 P1) hw (lv_sub hl [0, 1, 2] rfl) (fun H locs ls hw hl => ?_)
  obtain ⟨Q_4, eQ_4⟩ : ∃ q9 : wI × Int32 × Int32, q9 = l_X9_law_m  401 I_52_3 r_52_3 0 := ⟨_, rfl⟩
  rw [← eQ_4] at hw hl
  refine lv_aload_n hx hb dX9_law_115 rfl (lv_at hl 2 rfl) ?_
  refine lv_iload_n hx hb dX9_law_116 rfl (lv_at hl 0 rfl) ?_
  refine lv_if_eq (tgt := 124) hx hb dX9_law_117 (by decide) (fun c_117 => ?_) (fun c_117 => ?_)
  · refine lv_aload_n hx hb dX9_law_124 rfl (lv_at hl 2 rfl) ?_
    refine w_get X hw 10 27 (hL 22 (by decide)) rfl (by decide) k_X9 in_X9_law_X9 (by decide) (by decide +kernel) rfl (v := .int (Q_4.1 22 27)) rfl dX9_law_125 ?_
    refine lv_topi (fun x_5 ex_5 => ?_)
    refine w_put X hw 10 28 (hL 22 (by decide)) rfl (by decide) k_X9 in_X9_law_X9 (by decide) (by decide +kernel) rfl rfl (t := .int) (by decide +kernel) rfl rfl (fun _ => rfl) (fun _ => Nat.le_of_ble_eq_true rfl) dX9_law_128 (fun H locs hw => ?_)
    refine lv_aload_n hx hb dX9_law_131 rfl (lv_at hl 2 rfl) ?_
    refine lv_iload_n hx hb dX9_law_132 rfl (lv_at hl 0 rfl) ?_
    refine lv_if_ne (tgt := 140) hx hb dX9_law_133 (by decide) (fun c_133 => ?_) (fun c_133 => ?_)
    · refine lv_iconst (v := 0) hx hb dX9_law_140 (by decide) ?_
      refine lv_iconst (v := 1) hx hb dX9_law_141 (by decide) ?_
      refine w_callVi (As := [.int 0, .int 1]) (rest := []) X hw hst hl (c_X9_throwsIf0 l D y b z G (wU Q_4.1 22 28 x_5) J hL 1) (cwV 2 X.1.2.2.2.2 gX9_law_X9_throwsIf rfl rfl rfl (by decide +kernel) ⟨Nat.le_of_ble_eq_true rfl, Nat.le_of_ble_eq_true rfl⟩) (w_recv X hw (hL 22 (by decide)) rfl (by decide) k_X9) rfl rfl (Nat.le_of_ble_eq_true rfl) dX9_law_142 ⟨Nat.le_of_ble_eq_true rfl, Nat.le_of_ble_eq_true rfl⟩ (fun r_142_6 u H locs hp_142 hw => ?_)
      obtain ⟨hp_142, rfl⟩ := hp_142
      dsimp only at hw
      subst r_142_6
      refine lv_if_eq (tgt := 150) hx hb dX9_law_145 (by decide) (fun c_145 => ?_) (fun c_145 => ?_)
      · refine lv_iconst (v := 0) hx hb dX9_law_150 (by decide) ?_
        refine lv_istore_n (lv' := [(3, .int 0), (2, .int Q_4.2.1), (1, .int Q_4.2.2), (0, .ref (G.1 22))]) hx hb dX9_law_151 rfl hl (by decide) rfl (fun ls hl => ?_)
        refine lp_X9_law_c  X hst hL (Nat.le_of_ble_eq_true rfl) (Nat.le_of_ble_eq_true rfl) (Nat.le_of_ble_eq_true rfl) (Nat.le_of_ble_eq_true rfl) Q_4.2.1 Q_4.2.2  7 (wU Q_4.1 22 28 x_5) 0 _ _ _ (by decide) (by decide) hw (lv_sub hl [0, 1, 2, 3] rfl) (fun H locs ls hw hl => ?_)
        obtain ⟨Q_7, eQ_7⟩ : ∃ q9 : wI × Int32, q9 = l_X9_law_c  7 (wU Q_4.1 22 28 x_5) 0 Q_4.2.1 Q_4.2.2 := ⟨_, rfl⟩
        rw [← eQ_7] at hw hl
        refine lv_iload_n hx hb dX9_law_176 rfl (lv_at hl 2 rfl) ?_
        have hp_177 : po_c_X9_law Q_4.2.2 (G, Q_7.1, J) := by
            obtain rfl := ex_1.symm
            obtain rfl := eQ_2.symm
            obtain rfl := hI_52_3.symm
            obtain rfl := hp_52.symm
            obtain rfl := eQ_4.symm
            obtain rfl := ex_5.symm
            obtain rfl := eQ_7.symm
            rw [epo]
            have ef : f_X9_law I = ((l_X9_law_m  401 ((f_X9_readClause (l_X9_law_a  7 (wU (wU (wU (wU I 22 0 0) 22 26 (I 22 23)) 22 23 0) 22 25 0) 0).1).2) ((f_X9_readClause (l_X9_law_a  7 (wU (wU (wU (wU I 22 0 0) 22 26 (I 22 23)) 22 23 0) 22 25 0) 0).1).1) 0).2.2, (l_X9_law_c  7 (wU (l_X9_law_m  401 ((f_X9_readClause (l_X9_law_a  7 (wU (wU (wU (wU I 22 0 0) 22 26 (I 22 23)) 22 23 0) 22 25 0) 0).1).2) ((f_X9_readClause (l_X9_law_a  7 (wU (wU (wU (wU I 22 0 0) 22 26 (I 22 23)) 22 23 0) 22 25 0) 0).1).1) 0).1 22 28 ((l_X9_law_m  401 ((f_X9_readClause (l_X9_law_a  7 (wU (wU (wU (wU I 22 0 0) 22 26 (I 22 23)) 22 23 0) 22 25 0) 0).1).2) ((f_X9_readClause (l_X9_law_a  7 (wU (wU (wU (wU I 22 0 0) 22 26 (I 22 23)) 22 23 0) 22 25 0) 0).1).1) 0).1 22 27)) 0 (l_X9_law_m  401 ((f_X9_readClause (l_X9_law_a  7 (wU (wU (wU (wU I 22 0 0) 22 26 (I 22 23)) 22 23 0) 22 25 0) 0).1).2) ((f_X9_readClause (l_X9_law_a  7 (wU (wU (wU (wU I 22 0 0) 22 26 (I 22 23)) 22 23 0) 22 25 0) 0).1).1) 0).2.1 (l_X9_law_m  401 ((f_X9_readClause (l_X9_law_a  7 (wU (wU (wU (wU I 22 0 0) 22 26 (I 22 23)) 22 23 0) 22 25 0) 0).1).2) ((f_X9_readClause (l_X9_law_a  7 (wU (wU (wU (wU I 22 0 0) 22 26 (I 22 23)) 22 23 0) 22 25 0) 0).1).1) 0).2.2).1) := by unfold f_X9_law; rw [if_pos c_117, if_neg c_133]
            exact ⟨⟨by rw [ef], by rw [ef]⟩, rfl, rfl⟩
        exact w_iret X hr hlk hw hp_177 (Nat.le_of_ble_eq_true rfl) (Nat.le_of_ble_eq_true rfl) dX9_law_177
      · exact absurd (by decide) c_145
    · refine lv_iconst (v := 1) hx hb dX9_law_136 (by decide) ?_
      refine lv_goto (tgt := 141) hx hb dX9_law_137 (by decide) ?_
      refine lv_iconst (v := 1) hx hb dX9_law_141 (by decide) ?_
      refine w_callVi (As := [.int 1, .int 1]) (rest := []) X hw hst hl (c_X9_throwsIf1 l D y b z G (wU Q_4.1 22 28 x_5) J hL 1) (cwV 2 X.1.2.2.2.2 gX9_law_X9_throwsIf rfl rfl rfl (by decide +kernel) ⟨Nat.le_of_ble_eq_true rfl, Nat.le_of_ble_eq_true rfl⟩) (w_recv X hw (hL 22 (by decide)) rfl (by decide) k_X9) rfl rfl (Nat.le_of_ble_eq_true rfl) dX9_law_142 ⟨Nat.le_of_ble_eq_true rfl, Nat.le_of_ble_eq_true rfl⟩ (fun r_142_8 u H locs hp_142 hw => ?_)
      obtain ⟨G_142_8, I_142_8, J_142_8⟩ := u
      dsimp only at hw hp_142
      obtain ⟨⟨hp_142, hI_142_8⟩, eG_142, eJ_142⟩ := hp_142
      subst G_142_8 J_142_8
      subst r_142_8
      refine lv_if_eq (tgt := 150) hx hb dX9_law_145 (by decide) (fun c_145 => ?_) (fun c_145 => ?_)
      · exact absurd c_145 (by decide)
      · refine lv_iconst (v := 0) hx hb dX9_law_148 (by decide) ?_
        have hp_149 : po_c_X9_law 0 (G, I_142_8, J) := by
            obtain rfl := ex_1.symm
            obtain rfl := eQ_2.symm
            obtain rfl := hI_52_3.symm
            obtain rfl := hp_52.symm
            obtain rfl := eQ_4.symm
            obtain rfl := ex_5.symm
            obtain rfl := hI_142_8.symm
            rw [epo]
            have ef : f_X9_law I = (0, (wU (wU (l_X9_law_m  401 ((f_X9_readClause (l_X9_law_a  7 (wU (wU (wU (wU I 22 0 0) 22 26 (I 22 23)) 22 23 0) 22 25 0) 0).1).2) ((f_X9_readClause (l_X9_law_a  7 (wU (wU (wU (wU I 22 0 0) 22 26 (I 22 23)) 22 23 0) 22 25 0) 0).1).1) 0).1 22 28 ((l_X9_law_m  401 ((f_X9_readClause (l_X9_law_a  7 (wU (wU (wU (wU I 22 0 0) 22 26 (I 22 23)) 22 23 0) 22 25 0) 0).1).2) ((f_X9_readClause (l_X9_law_a  7 (wU (wU (wU (wU I 22 0 0) 22 26 (I 22 23)) 22 23 0) 22 25 0) 0).1).1) 0).1 22 27)) 22 0 1)) := by unfold f_X9_law; rw [if_pos c_117, if_pos c_133]
            exact ⟨⟨by rw [ef], by rw [ef]⟩, rfl, rfl⟩
        exact w_iret X hr hlk hw hp_149 (Nat.le_of_ble_eq_true rfl) (Nat.le_of_ble_eq_true rfl) dX9_law_149
  · refine lv_iconst (v := -1) hx hb dX9_law_120 (by decide) ?_
    refine lv_goto (tgt := 128) hx hb dX9_law_121 (by decide) ?_
    refine w_put X hw 10 28 (hL 22 (by decide)) rfl (by decide) k_X9 in_X9_law_X9 (by decide) (by decide +kernel) rfl rfl (t := .int) (by decide +kernel) rfl rfl (fun _ => rfl) (fun _ => Nat.le_of_ble_eq_true rfl) dX9_law_128 (fun H locs hw => ?_)
    refine lv_aload_n hx hb dX9_law_131 rfl (lv_at hl 2 rfl) ?_
    refine lv_iload_n hx hb dX9_law_132 rfl (lv_at hl 0 rfl) ?_
    refine lv_if_ne (tgt := 140) hx hb dX9_law_133 (by decide) (fun c_133 => ?_) (fun c_133 => ?_)
    · refine lv_iconst (v := 0) hx hb dX9_law_140 (by decide) ?_
      refine lv_iconst (v := 1) hx hb dX9_law_141 (by decide) ?_
      refine w_callVi (As := [.int 0, .int 1]) (rest := []) X hw hst hl (c_X9_throwsIf0 l D y b z G (wU Q_4.1 22 28 (-1)) J hL 1) (cwV 2 X.1.2.2.2.2 gX9_law_X9_throwsIf rfl rfl rfl (by decide +kernel) ⟨Nat.le_of_ble_eq_true rfl, Nat.le_of_ble_eq_true rfl⟩) (w_recv X hw (hL 22 (by decide)) rfl (by decide) k_X9) rfl rfl (Nat.le_of_ble_eq_true rfl) dX9_law_142 ⟨Nat.le_of_ble_eq_true rfl, Nat.le_of_ble_eq_true rfl⟩ (fun r_142_9 u H locs hp_142 hw => ?_)
      obtain ⟨hp_142, rfl⟩ := hp_142
      dsimp only at hw
      subst r_142_9
      refine lv_if_eq (tgt := 150) hx hb dX9_law_145 (by decide) (fun c_145 => ?_) (fun c_145 => ?_)
      · refine lv_iconst (v := 0) hx hb dX9_law_150 (by decide) ?_
        refine lv_istore_n (lv' := [(3, .int 0), (2, .int Q_4.2.1), (1, .int Q_4.2.2), (0, .ref (G.1 22))]) hx hb dX9_law_151 rfl hl (by decide) rfl (fun ls hl => ?_)
        refine lp_X9_law_c  X hst hL (Nat.le_of_ble_eq_true rfl) (Nat.le_of_ble_eq_true rfl) (Nat.le_of_ble_eq_true rfl) (Nat.le_of_ble_eq_true rfl) Q_4.2.1 Q_4.2.2  7 (wU Q_4.1 22 28 (-1)) 0 _ _ _ (by decide) (by decide) hw (lv_sub hl [0, 1, 2, 3] rfl) (fun H locs ls hw hl => ?_)
        obtain ⟨Q_10, eQ_10⟩ : ∃ q9 : wI × Int32, q9 = l_X9_law_c  7 (wU Q_4.1 22 28 (-1)) 0 Q_4.2.1 Q_4.2.2 := ⟨_, rfl⟩
        rw [← eQ_10] at hw hl
        refine lv_iload_n hx hb dX9_law_176 rfl (lv_at hl 2 rfl) ?_
        have hp_177 : po_c_X9_law Q_4.2.2 (G, Q_10.1, J) := by
            obtain rfl := ex_1.symm
            obtain rfl := eQ_2.symm
            obtain rfl := hI_52_3.symm
            obtain rfl := hp_52.symm
            obtain rfl := eQ_4.symm
            obtain rfl := eQ_10.symm
            rw [epo]
            have ef : f_X9_law I = ((l_X9_law_m  401 ((f_X9_readClause (l_X9_law_a  7 (wU (wU (wU (wU I 22 0 0) 22 26 (I 22 23)) 22 23 0) 22 25 0) 0).1).2) ((f_X9_readClause (l_X9_law_a  7 (wU (wU (wU (wU I 22 0 0) 22 26 (I 22 23)) 22 23 0) 22 25 0) 0).1).1) 0).2.2, (l_X9_law_c  7 (wU (l_X9_law_m  401 ((f_X9_readClause (l_X9_law_a  7 (wU (wU (wU (wU I 22 0 0) 22 26 (I 22 23)) 22 23 0) 22 25 0) 0).1).2) ((f_X9_readClause (l_X9_law_a  7 (wU (wU (wU (wU I 22 0 0) 22 26 (I 22 23)) 22 23 0) 22 25 0) 0).1).1) 0).1 22 28 (-1)) 0 (l_X9_law_m  401 ((f_X9_readClause (l_X9_law_a  7 (wU (wU (wU (wU I 22 0 0) 22 26 (I 22 23)) 22 23 0) 22 25 0) 0).1).2) ((f_X9_readClause (l_X9_law_a  7 (wU (wU (wU (wU I 22 0 0) 22 26 (I 22 23)) 22 23 0) 22 25 0) 0).1).1) 0).2.1 (l_X9_law_m  401 ((f_X9_readClause (l_X9_law_a  7 (wU (wU (wU (wU I 22 0 0) 22 26 (I 22 23)) 22 23 0) 22 25 0) 0).1).2) ((f_X9_readClause (l_X9_law_a  7 (wU (wU (wU (wU I 22 0 0) 22 26 (I 22 23)) 22 23 0) 22 25 0) 0).1).1) 0).2.2).1) := by unfold f_X9_law; rw [if_neg c_117, if_neg c_133]
            exact ⟨⟨by rw [ef], by rw [ef]⟩, rfl, rfl⟩
        exact w_iret X hr hlk hw hp_177 (Nat.le_of_ble_eq_true rfl) (Nat.le_of_ble_eq_true rfl) dX9_law_177
      · exact absurd (by decide) c_145
    · refine lv_iconst (v := 1) hx hb dX9_law_136 (by decide) ?_
      refine lv_goto (tgt := 141) hx hb dX9_law_137 (by decide) ?_
      refine lv_iconst (v := 1) hx hb dX9_law_141 (by decide) ?_
      refine w_callVi (As := [.int 1, .int 1]) (rest := []) X hw hst hl (c_X9_throwsIf1 l D y b z G (wU Q_4.1 22 28 (-1)) J hL 1) (cwV 2 X.1.2.2.2.2 gX9_law_X9_throwsIf rfl rfl rfl (by decide +kernel) ⟨Nat.le_of_ble_eq_true rfl, Nat.le_of_ble_eq_true rfl⟩) (w_recv X hw (hL 22 (by decide)) rfl (by decide) k_X9) rfl rfl (Nat.le_of_ble_eq_true rfl) dX9_law_142 ⟨Nat.le_of_ble_eq_true rfl, Nat.le_of_ble_eq_true rfl⟩ (fun r_142_11 u H locs hp_142 hw => ?_)
      obtain ⟨G_142_11, I_142_11, J_142_11⟩ := u
      dsimp only at hw hp_142
      obtain ⟨⟨hp_142, hI_142_11⟩, eG_142, eJ_142⟩ := hp_142
      subst G_142_11 J_142_11
      subst r_142_11
      refine lv_if_eq (tgt := 150) hx hb dX9_law_145 (by decide) (fun c_145 => ?_) (fun c_145 => ?_)
      · exact absurd c_145 (by decide)
      · refine lv_iconst (v := 0) hx hb dX9_law_148 (by decide) ?_
        have hp_149 : po_c_X9_law 0 (G, I_142_11, J) := by
            obtain rfl := ex_1.symm
            obtain rfl := eQ_2.symm
            obtain rfl := hI_52_3.symm
            obtain rfl := hp_52.symm
            obtain rfl := eQ_4.symm
            obtain rfl := hI_142_11.symm
            rw [epo]
            have ef : f_X9_law I = (0, (wU (wU (l_X9_law_m  401 ((f_X9_readClause (l_X9_law_a  7 (wU (wU (wU (wU I 22 0 0) 22 26 (I 22 23)) 22 23 0) 22 25 0) 0).1).2) ((f_X9_readClause (l_X9_law_a  7 (wU (wU (wU (wU I 22 0 0) 22 26 (I 22 23)) 22 23 0) 22 25 0) 0).1).1) 0).1 22 28 (-1)) 22 0 1)) := by unfold f_X9_law; rw [if_neg c_117, if_pos c_133]
            exact ⟨⟨by rw [ef], by rw [ef]⟩, rfl, rfl⟩
        exact w_iret X hr hlk hw hp_149 (Nat.le_of_ble_eq_true rfl) (Nat.le_of_ble_eq_true rfl) dX9_law_149
