theorem rc_p {I : wI} (h : rdP I) : rdP (f_X2_readClause I).2 := by
  have P1 := sb_p h
  unfold f_X2_readClause
  generalize f_X2_skipBlanks I = A1 at P1 ⊢
  have B1 := br_p P1 97 122
  generalize f_X2_behindRun A1 97 122 = bw at B1 ⊢
  generalize f_X2_kindOfWord A1 bw = kd
  have P2 := sb_w P1 B1
  have P3 := sb_p P2
  generalize f_X2_skipBlanks (wU A1 5 3 bw) = A3 at P3 ⊢
  have B2 := br_p P3 48 57
  generalize f_X2_behindRun A3 48 57 = bn at B2 ⊢
  generalize f_X2_numberUpTo A3 bn = nu
  repeat' split
  all_goals first | exact P1 | exact P3 | exact sb_w P3 B2
theorem rt_1 {I : wI} (h : rdP I) (hc : I 5 3 < f_X6_size I) : rdP (wU I 5 3 (I 5 3 + 1)) := at_inv (a := I 5 3) (e := I 1 1) (fun q => by unfold f_X6_size at hc; simp only [i_le, i_lt] at *; omega) h
set_option maxRecDepth 20000 in
theorem in_X2_readText_X2 : ∀ w ∈ u_ws RX2 TX2 4, w ∈ wsX2_readText := fun _ h => List.mem_cons_of_mem _ (List.mem_append_left _ (List.mem_append_left _ (List.mem_append_right _ h)))
def l_X2_readText  : Nat → wI → Int32 → Int32 × wI
  | 0, I, cl => (0, I)
  | nf + 1, I, cl => (if 400 < cl then ((-1), I) else (if ((f_X2_readClause I).1) = 0 then ((-1), ((f_X2_readClause I).2)) else (if ((f_X2_skipBlanks ((f_X2_readClause I).2)) 5 3) < (f_X6_size (f_X2_skipBlanks ((f_X2_readClause I).2))) then (if (f_X6_at (f_X2_skipBlanks ((f_X2_readClause I).2)) ((f_X2_skipBlanks ((f_X2_readClause I).2)) 5 3)) = 59 then (l_X2_readText nf (wU (f_X2_skipBlanks ((f_X2_readClause I).2)) 5 3 (((f_X2_skipBlanks ((f_X2_readClause I).2)) 5 3) + 1)) (cl + 1) ) else ((-1), (f_X2_skipBlanks ((f_X2_readClause I).2)))) else (cl, (f_X1_become (f_X2_skipBlanks ((f_X2_readClause I).2)))))))
set_option maxHeartbeats 4000000 in
set_option maxRecDepth 100000 in
theorem lt_X2_readText {p : Program} {l : Launch} {e : Env} {R : Room} {s : State} {m : MethodId} {args : Array Value} {below : List Frame} {meth : Method} {c : Code} {D : va_G} {y : Nat → ClassId} {b : Nat} {z : Nat → Nat} {G : wG} {J : wJ}  (X : wCx p m c cX2_readText 2 s args wsX2_readText yX2_readText.cls D y b) (hst : St z b s) (hL : w_full G) (hRf : 7 ≤ R.frames) (hRl : 154 ≤ R.locals) (hRc : 0 ≤ R.cells) (hRs : 0 ≤ R.slots) (hr : meth.sig.returnType = (some .int)) (hlk : meth.locks = false) (po : Int32 → wS → Prop)   : ∀ (nf : Nat) (I : wI) (cl : Int32) (H : Heap) (locs : List Loc) (ls : Array Slot), (rdP I ∧ 1 ≤ cl.toInt ∧ cl.toInt ≤ 401) → ((401 - cl.toInt).toNat < nf) → Wh D y b G I J s H locs → lv_has ls 2 [(1, .int cl), (0, .ref (G.1 5))] → po (l_X2_readText nf I cl ).1 (G, (l_X2_readText nf I cl ).2, J) → W p l e R s m args below meth c H locs 0 0 (MQ below (va_Qi po (wB D y b) (fun q => b ≤ q)) args s 0 0 (fun q => b ≤ q)) (F0 m 18 ls []) := by
  have hx := X.1.1
  have hb := X.1.2.1
  intro nf
  induction nf with
  | zero => intro I cl H locs ls hi hm; exact absurd hm (Nat.not_lt_zero _)
  | succ nf ih =>
    intro I cl H locs ls hi hm hw hl hpo
    refine lv_iload_n hx hb dX2_readText_18 rfl (lv_at hl 0 rfl) ?_
    refine lv_sipush (v := 400) hx hb dX2_readText_19 (by decide) ?_
    refine lv_icmp_gt (tgt := 99) hx hb dX2_readText_22 (by decide) (fun c_22 => ?_) (fun c_22 => ?_)
    · refine lv_iconst (v := -1) hx hb dX2_readText_99 (by decide) ?_
      have hp_100 : po (-1) (G, I, J) := by
          have el : l_X2_readText (nf + 1) I cl  = ((-1), I) := by rw [l_X2_readText]; rw [if_pos c_22]
          rw [el] at hpo
          dsimp only at hpo
          exact hpo
      exact w_iret X hr hlk hw hp_100 (Nat.le_of_ble_eq_true rfl) (Nat.le_of_ble_eq_true rfl) dX2_readText_100
    · refine lv_aload_n hx hb dX2_readText_25 rfl (lv_at hl 1 rfl) ?_
      refine w_callVi (As := []) (rest := []) X hw hst hl (c_X2_readClause l D y b z G I J hL hi.1) (cwV 0 X.1.2.2.2.2 gX2_readText_X2_readClause rfl rfl rfl (by decide +kernel) ⟨Nat.le_trans (Nat.le_of_ble_eq_true rfl) hRf, Nat.le_trans (Nat.le_of_ble_eq_true rfl) hRl⟩) (w_recv X hw (hL 5 (by decide)) rfl (by decide) k_X2) rfl rfl (Nat.le_of_ble_eq_true rfl) dX2_readText_26 ⟨hRc, hRs⟩ (fun r_26_1 u H locs hp_26 hw => ?_)
      obtain ⟨G_26_1, I_26_1, J_26_1⟩ := u
      dsimp only at hw hp_26
      obtain ⟨⟨hp_26, hI_26_1⟩, eG_26, eJ_26⟩ := hp_26
      subst G_26_1 J_26_1
      refine lv_if_ne (tgt := 34) hx hb dX2_readText_29 (by decide) (fun c_29 => ?_) (fun c_29 => ?_)
      · have P1 : rdP I_26_1 := by rw [hI_26_1]; exact rc_p hi.1
        refine lv_aload_n hx hb dX2_readText_34 rfl (lv_at hl 1 rfl) ?_
        refine w_callVv (As := []) (rest := []) X hw hst hl (c_X2_skipBlanks l D y b z G I_26_1 J hL P1) (cwV 0 X.1.2.2.2.2 gX2_readText_X2_skipBlanks rfl rfl rfl (by decide +kernel) ⟨Nat.le_trans (Nat.le_of_ble_eq_true rfl) hRf, Nat.le_trans (Nat.le_of_ble_eq_true rfl) hRl⟩) (w_recv X hw (hL 5 (by decide)) rfl (by decide) k_X2) rfl rfl (Nat.le_of_ble_eq_true rfl) dX2_readText_35 ⟨hRc, hRs⟩ (fun u H locs hp_35 hw => ?_)
        obtain ⟨G_35_2, I_35_2, J_35_2⟩ := u
        dsimp only at hw hp_35
        obtain ⟨hI_35_2, eG_35, eJ_35⟩ := hp_35
        subst G_35_2 J_35_2
        have P2 : rdP I_35_2 := by rw [hI_35_2]; exact sb_p P1
        refine lv_aload_n hx hb dX2_readText_38 rfl (lv_at hl 1 rfl) ?_
        refine w_get X hw 3 3 (hL 5 (by decide)) rfl (by decide) k_X2 in_X2_readText_X2 (by decide) (by decide +kernel) rfl (v := .int (I_35_2 5 3)) rfl dX2_readText_39 ?_
        refine lv_aload_n hx hb dX2_readText_42 rfl (lv_at hl 1 rfl) ?_
        refine w_get X hw 3 0 (hL 5 (by decide)) rfl (by decide) k_X2 in_X2_readText_X2 (by decide) (by decide +kernel) rfl (v := .ref (G.1 1)) rfl dX2_readText_43 ?_
        refine w_callVi (As := []) (rest := [.int (I_35_2 5 3)]) X hw hst hl (c_X6_size l D y b z G I_35_2 J hL ) (cwV 0 X.1.2.2.2.2 gX2_readText_X6_size rfl rfl rfl (by decide +kernel) ⟨Nat.le_trans (Nat.le_of_ble_eq_true rfl) hRf, Nat.le_trans (Nat.le_of_ble_eq_true rfl) hRl⟩) (w_recv X hw (hL 1 (by decide)) rfl (by decide) k_X6) rfl rfl (Nat.le_of_ble_eq_true rfl) dX2_readText_46 ⟨hRc, hRs⟩ (fun r_46_3 u H locs hp_46 hw => ?_)
        obtain ⟨hp_46, rfl⟩ := hp_46
        dsimp only at hw
        refine lv_icmp_lt (tgt := 65) hx hb dX2_readText_49 (by decide) (fun c_49 => ?_) (fun c_49 => ?_)
        · refine lv_aload_n hx hb dX2_readText_65 rfl (lv_at hl 1 rfl) ?_
          refine w_get X hw 3 0 (hL 5 (by decide)) rfl (by decide) k_X2 in_X2_readText_X2 (by decide) (by decide +kernel) rfl (v := .ref (G.1 1)) rfl dX2_readText_66 ?_
          refine lv_aload_n hx hb dX2_readText_69 rfl (lv_at hl 1 rfl) ?_
          refine w_get X hw 3 3 (hL 5 (by decide)) rfl (by decide) k_X2 in_X2_readText_X2 (by decide) (by decide +kernel) rfl (v := .int (I_35_2 5 3)) rfl dX2_readText_70 ?_
          refine w_callVi (As := [.int (I_35_2 5 3)]) (rest := []) X hw hst hl (c_X6_at l D y b z G I_35_2 J hL (I_35_2 5 3) P2.2.2) (cwV 1 X.1.2.2.2.2 gX2_readText_X6_at rfl rfl rfl (by decide +kernel) ⟨Nat.le_trans (Nat.le_of_ble_eq_true rfl) hRf, Nat.le_trans (Nat.le_of_ble_eq_true rfl) hRl⟩) (w_recv X hw (hL 1 (by decide)) rfl (by decide) k_X6) rfl rfl (Nat.le_of_ble_eq_true rfl) dX2_readText_73 ⟨hRc, hRs⟩ (fun r_73_4 u H locs hp_73 hw => ?_)
          obtain ⟨hp_73, rfl⟩ := hp_73
          dsimp only at hw
          refine lv_bipush (v := 59) hx hb dX2_readText_76 (by decide) ?_
          refine lv_icmp_eq (tgt := 83) hx hb dX2_readText_78 (by decide) (fun c_78 => ?_) (fun c_78 => ?_)
          · refine lv_aload_n hx hb dX2_readText_83 rfl (lv_at hl 1 rfl) ?_
            refine lv_dup hx hb dX2_readText_84 rfl ?_
            refine w_get X hw 3 3 (hL 5 (by decide)) rfl (by decide) k_X2 in_X2_readText_X2 (by decide) (by decide +kernel) rfl (v := .int (I_35_2 5 3)) rfl dX2_readText_85 ?_
            refine lv_iconst (v := 1) hx hb dX2_readText_88 (by decide) ?_
            refine lv_iadd hx hb dX2_readText_89 ?_
            refine lv_topi (fun x_5 ex_5 => ?_)
            refine w_put X hw 3 3 (hL 5 (by decide)) rfl (by decide) k_X2 in_X2_readText_X2 (by decide) (by decide +kernel) rfl rfl (t := .int) (by decide +kernel) rfl rfl (fun _ => rfl) (fun _ => Nat.le_of_ble_eq_true rfl) dX2_readText_90 (fun H locs hw => ?_)
            obtain ⟨x_6, ex_6⟩ : ∃ y : Int32, y = cl + 1 := ⟨_, rfl⟩
            refine lv_iinc (v := x_6) (lv' := [(1, .int x_6), (0, .ref (G.1 5))]) hx hb dX2_readText_93 hl (k := 0) rfl (by rw [ex_6]; rfl) (by decide) rfl (fun ls hl => ?_)
            refine lv_goto (tgt := 18) hx hb dX2_readText_96 (by decide) ?_
            have hw9 := hw
            have hl9 := hl
            obtain rfl := hI_26_1.symm
            obtain rfl := hp_26.symm
            obtain rfl := hI_35_2.symm
            obtain rfl := hp_46.symm
            obtain rfl := hp_73.symm
            obtain rfl := ex_5.symm
            obtain rfl := ex_6.symm
            have el : l_X2_readText (nf + 1) I cl  = l_X2_readText nf (wU (f_X2_skipBlanks ((f_X2_readClause I).2)) 5 3 (((f_X2_skipBlanks ((f_X2_readClause I).2)) 5 3) + 1)) (cl + 1)  := by rw [l_X2_readText]; rw [if_neg c_22, if_neg c_29, if_pos c_49, if_pos c_78]
            exact ih (wU (f_X2_skipBlanks ((f_X2_readClause I).2)) 5 3 (((f_X2_skipBlanks ((f_X2_readClause I).2)) 5 3) + 1)) (cl + 1) _ _ _ (⟨rt_1 (sb_p (rc_p hi.1)) c_49, rt_inv c_22 hi.2⟩) (rt_m c_22 hi.2 hm) hw9 (lv_sub hl9 [0, 1] rfl) (by rw [← el]; exact hpo)
          · refine lv_iconst (v := -1) hx hb dX2_readText_81 (by decide) ?_
            have hp_82 : po (-1) (G, I_35_2, J) := by
                obtain rfl := hI_26_1.symm
                obtain rfl := hp_26.symm
                obtain rfl := hI_35_2.symm
                obtain rfl := hp_46.symm
                obtain rfl := hp_73.symm
                have el : l_X2_readText (nf + 1) I cl  = ((-1), (f_X2_skipBlanks ((f_X2_readClause I).2))) := by rw [l_X2_readText]; rw [if_neg c_22, if_neg c_29, if_pos c_49, if_neg c_78]
                rw [el] at hpo
                dsimp only at hpo
                exact hpo
            exact w_iret X hr hlk hw hp_82 (Nat.le_of_ble_eq_true rfl) (Nat.le_of_ble_eq_true rfl) dX2_readText_82
        · refine lv_aload_n hx hb dX2_readText_52 rfl (lv_at hl 1 rfl) ?_
          refine w_get X hw 3 1 (hL 5 (by decide)) rfl (by decide) k_X2 in_X2_readText_X2 (by decide) (by decide +kernel) rfl (v := .ref (G.1 3)) rfl dX2_readText_53 ?_
          refine lv_aload_n hx hb dX2_readText_56 rfl (lv_at hl 1 rfl) ?_
          refine w_get X hw 3 2 (hL 5 (by decide)) rfl (by decide) k_X2 in_X2_readText_X2 (by decide) (by decide +kernel) rfl (v := .ref (G.1 6)) rfl dX2_readText_57 ?_
          refine w_callVv (As := [.ref (G.1 6)]) (rest := []) X hw hst hl (c_X1_become l D y b z G I_35_2 J hL ) (cwV 1 X.1.2.2.2.2 gX2_readText_X1_become rfl rfl rfl (by decide +kernel) ⟨Nat.le_trans (Nat.le_of_ble_eq_true rfl) hRf, Nat.le_trans (Nat.le_of_ble_eq_true rfl) hRl⟩) (w_recv X hw (hL 3 (by decide)) rfl (by decide) k_X1) rfl rfl (Nat.le_of_ble_eq_true rfl) dX2_readText_60 ⟨hRc, hRs⟩ (fun u H locs hp_60 hw => ?_)
          obtain ⟨G_60_7, I_60_7, J_60_7⟩ := u
          dsimp only at hw hp_60
          obtain ⟨hI_60_7, eG_60, eJ_60⟩ := hp_60
          subst G_60_7 J_60_7
          refine lv_iload_n hx hb dX2_readText_63 rfl (lv_at hl 0 rfl) ?_
          have hp_64 : po cl (G, I_60_7, J) := by
              obtain rfl := hI_26_1.symm
              obtain rfl := hp_26.symm
              obtain rfl := hI_35_2.symm
              obtain rfl := hp_46.symm
              obtain rfl := hI_60_7.symm
              have el : l_X2_readText (nf + 1) I cl  = (cl, (f_X1_become (f_X2_skipBlanks ((f_X2_readClause I).2)))) := by rw [l_X2_readText]; rw [if_neg c_22, if_neg c_29, if_neg c_49]
              rw [el] at hpo
              dsimp only at hpo
              exact hpo
          exact w_iret X hr hlk hw hp_64 (Nat.le_of_ble_eq_true rfl) (Nat.le_of_ble_eq_true rfl) dX2_readText_64
      · refine lv_iconst (v := -1) hx hb dX2_readText_32 (by decide) ?_
        have hp_33 : po (-1) (G, I_26_1, J) := by
            obtain rfl := hI_26_1.symm
            obtain rfl := hp_26.symm
            have el : l_X2_readText (nf + 1) I cl  = ((-1), ((f_X2_readClause I).2)) := by rw [l_X2_readText]; rw [if_neg c_22, if_pos c_29]
            rw [el] at hpo
            dsimp only at hpo
            exact hpo
        exact w_iret X hr hlk hw hp_33 (Nat.le_of_ble_eq_true rfl) (Nat.le_of_ble_eq_true rfl) dX2_readText_33
theorem fr_X2_readText : ∀ (nf : Nat) (I : wI) (cl : Int32)  (q9 : Nat) (h4 : q9 ≠ 4) (h5 : q9 ≠ 5) (h6 : q9 ≠ 6), (l_X2_readText nf I cl ).2 q9 = I q9 := by
  intro nf
  induction nf with
  | zero => intros; rfl
  | succ nf ih =>
    intro I cl  q9 h4 h5 h6
    rw [l_X2_readText]
    repeat' split
    all_goals first | with_reducible rfl | (rw [ih _ _  q9 h4 h5 h6]; done) | (rw [ih _ _  q9 h4 h5 h6]; simp only [wU_ne _ _ _ h4, wU_ne _ _ _ h5, wU_ne _ _ _ h6, fr_f_X2_skipBlanks _ _ h5, fr_f_X2_readClause _ _ h5 h6, fr_f_X1_become _ _ h4]) | (simp only [wU_ne _ _ _ h4, wU_ne _ _ _ h5, wU_ne _ _ _ h6, fr_f_X2_skipBlanks _ _ h5, fr_f_X2_readClause _ _ h5 h6, fr_f_X1_become _ _ h4])
theorem rt_0 {I : wI} (h1 : 0 ≤ (I 1 1).toInt ∧ (I 1 1).toInt ≤ 400) : rdP (f_X1_copyTo (wU I 5 3 0)) := by
  have e1 := fr_f_X1_copyTo (wU I 5 3 0) 1 (by decide)
  have e5 := fr_f_X1_copyTo (wU I 5 3 0) 5 (by decide)
  unfold rdP
  rw [e1, e5]
  exact ⟨Int.le_refl _, h1⟩
def f_X2_readText (I : wI)  : Int32 × wI := ((l_X2_readText  401 (f_X1_copyTo (wU I 5 3 0)) 1).1, (l_X2_readText  401 (f_X1_copyTo (wU I 5 3 0)) 1).2)
theorem fr_f_X2_readText (I : wI)  (q9 : Nat) (h4 : q9 ≠ 4) (h5 : q9 ≠ 5) (h6 : q9 ≠ 6) : (f_X2_readText I).2 q9 = I q9 := by
  unfold f_X2_readText
  repeat' split
  all_goals first | with_reducible rfl | (simp only [wU_ne _ _ _ h4, wU_ne _ _ _ h5, wU_ne _ _ _ h6, fr_X2_readText _ _ _ _ h4 h5 h6, fr_f_X1_copyTo _ _ h6])
set_option maxHeartbeats 4000000 in
set_option maxRecDepth 100000 in
theorem c_X2_readText (l : Launch) (D : va_G) (y : Nat → ClassId) (b : Nat) (z : Nat → Nat) (G : wG) (I : wI) (J : wJ) (hL : w_full G)  (hs : 0 ≤ (I 1 1).toInt ∧ (I 1 1).toInt ≤ 400) : mI l yX2_readText wsX2_readText { frames := 7, cells := 0, slots := 0, locals := 154 } D y b z G I J [.ref (G.1 5)] (fun r u => (r = (f_X2_readText I).1 ∧ u.2.1 = (f_X2_readText I).2) ∧ u.1 = G ∧ u.2.2 = J) 0 0 := by
  refine w_enter (by decide) rfl (Nat.le_of_ble_eq_true rfl) rfl ?_
  intro p e s m below meth c ls X hr hlk hnm hw hst hl
  have hx := X.1.1
  have hb := X.1.2.1
  obtain ⟨po_c_X2_readText, epo⟩ : ∃ qpo9 : Int32 → wS → Prop, qpo9 = (fun r u => (r = (f_X2_readText I).1 ∧ u.2.1 = (f_X2_readText I).2) ∧ u.1 = G ∧ u.2.2 = J) := ⟨_, rfl⟩
  rw [← epo]
  refine lv_aload_n hx hb dX2_readText_0 rfl (lv_at hl 0 rfl) ?_
  refine lv_iconst (v := 0) hx hb dX2_readText_1 (by decide) ?_
  refine w_put X hw 3 3 (hL 5 (by decide)) rfl (by decide) k_X2 in_X2_readText_X2 (by decide) (by decide +kernel) rfl rfl (t := .int) (by decide +kernel) rfl rfl (fun _ => rfl) (fun _ => Nat.le_of_ble_eq_true rfl) dX2_readText_2 (fun H locs hw => ?_)
  refine lv_aload_n hx hb dX2_readText_5 rfl (lv_at hl 0 rfl) ?_
  refine w_get X hw 3 1 (hL 5 (by decide)) rfl (by decide) k_X2 in_X2_readText_X2 (by decide) (by decide +kernel) rfl (v := .ref (G.1 3)) rfl dX2_readText_6 ?_
  refine lv_aload_n hx hb dX2_readText_9 rfl (lv_at hl 0 rfl) ?_
  refine w_get X hw 3 2 (hL 5 (by decide)) rfl (by decide) k_X2 in_X2_readText_X2 (by decide) (by decide +kernel) rfl (v := .ref (G.1 6)) rfl dX2_readText_10 ?_
  refine w_callVv (As := [.ref (G.1 6)]) (rest := []) X hw hst hl (c_X1_copyTo l D y b z G (wU I 5 3 0) J hL ) (cwV 1 X.1.2.2.2.2 gX2_readText_X1_copyTo rfl rfl rfl (by decide +kernel) ⟨Nat.le_of_ble_eq_true rfl, Nat.le_of_ble_eq_true rfl⟩) (w_recv X hw (hL 3 (by decide)) rfl (by decide) k_X1) rfl rfl (Nat.le_of_ble_eq_true rfl) dX2_readText_13 ⟨Nat.le_of_ble_eq_true rfl, Nat.le_of_ble_eq_true rfl⟩ (fun u H locs hp_13 hw => ?_)
  obtain ⟨G_13_1, I_13_1, J_13_1⟩ := u
  dsimp only at hw hp_13
  obtain ⟨hI_13_1, eG_13, eJ_13⟩ := hp_13
  subst G_13_1 J_13_1
  refine lv_iconst (v := 1) hx hb dX2_readText_16 (by decide) ?_
  refine lv_istore_n (lv' := [(1, .int 1), (0, .ref (G.1 5))]) hx hb dX2_readText_17 rfl hl (by decide) rfl (fun ls hl => ?_)
  exact lt_X2_readText  X hst hL (Nat.le_of_ble_eq_true rfl) (Nat.le_of_ble_eq_true rfl) (Nat.zero_le _) (Nat.zero_le _) hr hlk _   401 I_13_1 1 _ _ _ (⟨by rw [hI_13_1]; exact rt_0 hs, by decide, by decide⟩) (by decide) hw (lv_sub hl [0, 1] rfl) (by
      obtain rfl := hI_13_1.symm
      rw [epo]
      have ef : f_X2_readText I = ((l_X2_readText  401 (f_X1_copyTo (wU I 5 3 0)) 1).1, (l_X2_readText  401 (f_X1_copyTo (wU I 5 3 0)) 1).2) := rfl
      exact ⟨⟨by rw [ef], by rw [ef]⟩, rfl, rfl⟩)
