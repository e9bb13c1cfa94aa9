set_option maxRecDepth 20000 in
theorem in_X9_lot_X9 : ∀ w ∈ u_ws RX9 TX9 42, w ∈ wsX9_lot := fun _ h => List.mem_cons_of_mem _ (List.mem_append_right _ h)
def l_X9_lot  : Nat → wI → Int32 → Int32 → wI × Int32
  | 0, I, k, fl => (I, k)
  | nf + 1, I, k, fl => (if 8 ≤ k then (I, k) else (l_X9_lot nf (wU I 48 (((8 : Int32) * (I 22 21)) + k).toNatClampNeg (-1)) (k + 1) fl))
set_option maxHeartbeats 4000000 in
set_option maxRecDepth 100000 in
theorem lp_X9_lot {p : Program} {l : Launch} {e : Env} {R : Room} {s : State} {m : MethodId} {args : Array Value} {below : List Frame} {meth : Method} {c : Code} {cells slots : Nat} {Q : State → Prop} {D : va_G} {y : Nat → ClassId} {b : Nat} {z : Nat → Nat} {G : wG} {J : wJ}  (X : wCx p m c cX9_lot 3 s args wsX9_lot yX9_lot.cls D y b) (hst : St z b s) (hL : w_full G) (hRf : 0 ≤ R.frames) (hRl : 0 ≤ R.locals) (hRc : cells ≤ R.cells) (hRs : slots ≤ R.slots) (fl : Int32)  : ∀ (nf : Nat) (I : wI) (k : Int32) (H : Heap) (locs : List Loc) (ls : Array Slot), (0 ≤ k.toInt ∧ k.toInt ≤ 8 ∧ 0 ≤ (I 22 21).toInt ∧ (I 22 21).toInt < 40) → ((8 - k.toInt).toNat < nf) → Wh D y b G I J s H locs → lv_has ls 3 [(2, .int k), (0, .ref (G.1 22)), (1, .int fl)] → (∀ (H : Heap) (locs : List Loc) (ls : Array Slot), Wh D y b G (l_X9_lot nf I k fl).1 J s H locs → lv_has ls 3 [(2, .int (l_X9_lot nf I k fl).2), (0, .ref (G.1 22)), (1, .int fl)] → W p l e R s m args below meth c H locs cells slots Q (F0 m 111 ls [])) → W p l e R s m args below meth c H locs cells slots Q (F0 m 84 ls []) := by
  have hx := X.1.1
  have hb := X.1.2.1
  intro nf
  induction nf with
  | zero => intro I k H locs ls hi hm; exact absurd hm (by omega)
  | succ nf ih =>
    intro I k H locs ls hi hm hw hl kk
    refine lv_iload_n hx hb dX9_lot_84 rfl (lv_at hl 0 rfl) ?_
    refine lv_bipush (v := 8) hx hb dX9_lot_85 (by decide) ?_
    refine lv_icmp_ge (tgt := 111) hx hb dX9_lot_87 (by decide) (fun c_87 => ?_) (fun c_87 => ?_)
    · have hw9 := hw
      have hl9 := hl
      have el : l_X9_lot (nf + 1) I k fl = (I, k) := by rw [l_X9_lot]; rw [if_pos c_87]
      exact kk _ _ _ (by rw [el]; exact hw9) (by rw [el]; exact (lv_sub hl9 [0, 1, 2] rfl))
    · refine lv_aload_n hx hb dX9_lot_90 rfl (lv_at hl 1 rfl) ?_
      refine w_get X hw 10 18 (hL 22 (by decide)) rfl (by decide) k_X9 in_X9_lot_X9 (by decide) (by decide +kernel) rfl (v := .ref (G.1 48)) rfl dX9_lot_91 ?_
      refine lv_bipush (v := 8) hx hb dX9_lot_94 (by decide) ?_
      refine lv_aload_n hx hb dX9_lot_96 rfl (lv_at hl 1 rfl) ?_
      refine w_get X hw 10 21 (hL 22 (by decide)) rfl (by decide) k_X9 in_X9_lot_X9 (by decide) (by decide +kernel) rfl (v := .int (I 22 21)) rfl dX9_lot_97 ?_
      refine lv_imul hx hb dX9_lot_100 ?_
      refine lv_iload_n hx hb dX9_lot_101 rfl (lv_at hl 0 rfl) ?_
      refine lv_iadd hx hb dX9_lot_102 ?_
      refine lv_iconst (v := -1) hx hb dX9_lot_103 (by decide) ?_
      have h_104 : vp_in (((8 : Int32) * (I 22 21)) + k) 320 := ix_8 ⟨hi.2.2.1, hi.2.2.2⟩ ⟨hi.1, by simp only [i_le, Int32.reduceToInt] at *; omega⟩
      refine w_ist X hw (hL 48 (by decide)) rfl h_104 dX9_lot_104 (fun H locs hw => ?_)
      obtain ⟨x_1, ex_1⟩ : ∃ y : Int32, y = k + 1 := ⟨_, rfl⟩
      refine lv_iinc (v := x_1) (lv' := [(2, .int x_1), (0, .ref (G.1 22)), (1, .int fl)]) hx hb dX9_lot_105 hl (k := 0) rfl (by rw [ex_1]; rfl) (by decide) rfl (fun ls hl => ?_)
      refine lv_goto (tgt := 84) hx hb dX9_lot_108 (by decide) ?_
      have hw9 := hw
      have hl9 := hl
      obtain rfl := ex_1.symm
      have el : l_X9_lot (nf + 1) I k fl = l_X9_lot nf (wU I 48 (((8 : Int32) * (I 22 21)) + k).toNatClampNeg (-1)) (k + 1) fl := by rw [l_X9_lot]; rw [if_neg c_87]
      exact ih (wU I 48 (((8 : Int32) * (I 22 21)) + k).toNatClampNeg (-1)) (k + 1) _ _ _ (by have e1 := i_inc (k := k) (by omega); simp only [i_le, i_lt, Int32.reduceToInt] at c_87; exact ⟨by omega, by omega, hi.2.2⟩) (by have e1 := i_inc (k := k) (by omega); simp only [i_le, i_lt, Int32.reduceToInt] at c_87; omega) hw9 (lv_sub hl9 [0, 1, 2] rfl) (fun H locs ls hw hl => kk H locs ls (by rw [el]; exact hw) (by rw [el]; exact hl))
theorem fr_X9_lot   : ∀ (nf : Nat) (I : wI) (k : Int32) (fl : Int32) (q9 : Nat) (h48 : q9 ≠ 48), (l_X9_lot nf I k fl).1 q9 = I q9 := by
  intro nf
  induction nf with
  | zero => intros; rfl
  | succ nf ih =>
    intro I k fl q9 h48
    rw [l_X9_lot]
    repeat' split
    all_goals first | with_reducible rfl | (rw [ih _ _ _ q9 h48]; done) | (rw [ih _ _ _ q9 h48]; simp only [wU_ne _ _ _ h48]) | (simp only [wU_ne _ _ _ h48])
def f_X9_lot (I : wI) (fl : Int32) : Int32 × wI := (if f_X9_in (wU I 22 0 0) fl 0 1000000 = 1 then (if (I 22 21) = 40 then (0, (wU (wU I 22 0 0) 22 0 2)) else ((((l_X9_lot  9 (wU (wU (wU (wU I 22 0 0) 47 (I 22 21).toNatClampNeg fl) 49 (I 22 21).toNatClampNeg (-1)) 50 (I 22 21).toNatClampNeg (-1)) 0 fl).1 22 21) + 1) - 1, (wU (l_X9_lot  9 (wU (wU (wU (wU I 22 0 0) 47 (I 22 21).toNatClampNeg fl) 49 (I 22 21).toNatClampNeg (-1)) 50 (I 22 21).toNatClampNeg (-1)) 0 fl).1 22 21 (((l_X9_lot  9 (wU (wU (wU (wU I 22 0 0) 47 (I 22 21).toNatClampNeg fl) 49 (I 22 21).toNatClampNeg (-1)) 50 (I 22 21).toNatClampNeg (-1)) 0 fl).1 22 21) + 1)))) else (0, (wU (wU I 22 0 0) 22 0 1)))
theorem fr_f_X9_lot (I : wI) (fl : Int32) (q9 : Nat) (h22 : q9 ≠ 22) (h47 : q9 ≠ 47) (h48 : q9 ≠ 48) (h49 : q9 ≠ 49) (h50 : q9 ≠ 50) : (f_X9_lot I fl).2 q9 = I q9 := by
  unfold f_X9_lot
  repeat' split
  all_goals first | with_reducible rfl | (simp only [wU_ne _ _ _ h22, wU_ne _ _ _ h47, wU_ne _ _ _ h48, wU_ne _ _ _ h49, wU_ne _ _ _ h50, fr_X9_lot _ _ _ _ _ h48])
set_option maxHeartbeats 4000000 in
set_option maxRecDepth 100000 in
theorem c_X9_lot (l : Launch) (D : va_G) (y : Nat → ClassId) (b : Nat) (z : Nat → Nat) (G : wG) (I : wI) (J : wJ) (hL : w_full G) (fl : Int32) (hN : 0 ≤ (I 22 21).toInt ∧ (I 22 21).toInt ≤ 40) : mI l yX9_lot wsX9_lot { frames := 1, cells := 0, slots := 0, locals := 22 } D y b z G I J [.ref (G.1 22), .int fl] (fun r u => (r = (f_X9_lot I fl).1 ∧ u.2.1 = (f_X9_lot I fl).2) ∧ u.1 = G ∧ u.2.2 = J) 0 0 := by
  refine w_enter (by decide) rfl (Nat.le_of_ble_eq_true rfl) rfl ?_
  intro p e s m below meth c ls X hr hlk hnm hw hst hl
  have hx := X.1.1
  have hb := X.1.2.1
  obtain ⟨po_c_X9_lot, epo⟩ : ∃ qpo9 : Int32 → wS → Prop, qpo9 = (fun r u => (r = (f_X9_lot I fl).1 ∧ u.2.1 = (f_X9_lot I fl).2) ∧ u.1 = G ∧ u.2.2 = J) := ⟨_, rfl⟩
  rw [← epo]
  refine lv_aload_n hx hb dX9_lot_0 rfl (lv_at hl 0 rfl) ?_
  refine lv_iconst (v := 0) hx hb dX9_lot_1 (by decide) ?_
  refine w_put X hw 10 0 (hL 22 (by decide)) rfl (by decide) k_X9 in_X9_lot_X9 (by decide) (by decide +kernel) rfl rfl (t := .int) (by decide +kernel) rfl rfl (fun _ => rfl) (fun _ => Nat.le_of_ble_eq_true rfl) dX9_lot_2 (fun H locs hw => ?_)
  refine lv_aload_n hx hb dX9_lot_5 rfl (lv_at hl 0 rfl) ?_
  refine lv_iload_n hx hb dX9_lot_6 rfl (lv_at hl 1 rfl) ?_
  refine lv_iconst (v := 0) hx hb dX9_lot_7 (by decide) ?_
  refine lv_ldc (v := 1000000) hx hb X.1.2.2.2.1 (X.1.2.2.2.2 (.constant RX9 207 1000000) (by decide +kernel)) dX9_lot_8 ?_
  refine w_callSi (As := [.int fl, .int 0, .int 1000000]) (rest := [.ref (G.1 22)]) X hw hst hl (c_X9_in l D y b z G (wU I 22 0 0) J hL fl 0 1000000) (va_cwS 3 X.1.2.2.2.2 gX9_lot_X9_in rfl rfl rfl (by decide +kernel) ⟨Nat.le_of_ble_eq_true rfl, Nat.le_of_ble_eq_true rfl⟩) rfl rfl (Nat.le_of_ble_eq_true rfl) dX9_lot_10 ⟨Nat.le_of_ble_eq_true rfl, Nat.le_of_ble_eq_true rfl⟩ (fun r_10_1 u H locs hp_10 hw => ?_)
  obtain ⟨hp_10, rfl⟩ := hp_10
  dsimp only at hw
  rcases f_X9_in_01  (wU I 22 0 0) fl 0 1000000 with q_10 | ⟨q_10, q0_10⟩
  · rw [q_10] at hp_10
    subst r_10_1
    refine lv_if_ne (tgt := 20) hx hb dX9_lot_13 (by decide) (fun c_13 => ?_) (fun c_13 => ?_)
    · refine lv_iconst (v := 0) hx hb dX9_lot_20 (by decide) ?_
      refine lv_iconst (v := 1) hx hb dX9_lot_21 (by decide) ?_
      refine w_callVi (As := [.int 0, .int 1]) (rest := []) X hw hst hl (c_X9_throwsIf0 l D y b z G (wU I 22 0 0) J hL 1) (cwV 2 X.1.2.2.2.2 gX9_lot_X9_throwsIf rfl rfl rfl (by decide +kernel) ⟨Nat.le_of_ble_eq_true rfl, Nat.le_of_ble_eq_true rfl⟩) (w_recv X hw (hL 22 (by decide)) rfl (by decide) k_X9) rfl rfl (Nat.le_of_ble_eq_true rfl) dX9_lot_22 ⟨Nat.le_of_ble_eq_true rfl, Nat.le_of_ble_eq_true rfl⟩ (fun r_22_2 u H locs hp_22 hw => ?_)
      obtain ⟨hp_22, rfl⟩ := hp_22
      dsimp only at hw
      subst r_22_2
      refine lv_if_ne (tgt := 50) hx hb dX9_lot_25 (by decide) (fun c_25 => ?_) (fun c_25 => ?_)
      · exact absurd (by decide) c_25
      · refine lv_aload_n hx hb dX9_lot_28 rfl (lv_at hl 0 rfl) ?_
        refine lv_aload_n hx hb dX9_lot_29 rfl (lv_at hl 0 rfl) ?_
        refine w_get X hw 10 21 (hL 22 (by decide)) rfl (by decide) k_X9 in_X9_lot_X9 (by decide) (by decide +kernel) rfl (v := .int (I 22 21)) rfl dX9_lot_30 ?_
        refine lv_bipush (v := 40) hx hb dX9_lot_33 (by decide) ?_
        refine lv_icmp_ne (tgt := 42) hx hb dX9_lot_35 (by decide) (fun c_35 => ?_) (fun c_35 => ?_)
        · refine lv_iconst (v := 0) hx hb dX9_lot_42 (by decide) ?_
          refine lv_iconst (v := 2) hx hb dX9_lot_43 (by decide) ?_
          refine w_callVi (As := [.int 0, .int 2]) (rest := []) X hw hst hl (c_X9_throwsIf0 l D y b z G (wU I 22 0 0) J hL 2) (cwV 2 X.1.2.2.2.2 gX9_lot_X9_throwsIf rfl rfl rfl (by decide +kernel) ⟨Nat.le_of_ble_eq_true rfl, Nat.le_of_ble_eq_true rfl⟩) (w_recv X hw (hL 22 (by decide)) rfl (by decide) k_X9) rfl rfl (Nat.le_of_ble_eq_true rfl) dX9_lot_44 ⟨Nat.le_of_ble_eq_true rfl, Nat.le_of_ble_eq_true rfl⟩ (fun r_44_3 u H locs hp_44 hw => ?_)
          obtain ⟨hp_44, rfl⟩ := hp_44
          dsimp only at hw
          subst r_44_3
          refine lv_if_eq (tgt := 52) hx hb dX9_lot_47 (by decide) (fun c_47 => ?_) (fun c_47 => ?_)
          · refine lv_aload_n hx hb dX9_lot_52 rfl (lv_at hl 0 rfl) ?_
            refine w_get X hw 10 17 (hL 22 (by decide)) rfl (by decide) k_X9 in_X9_lot_X9 (by decide) (by decide +kernel) rfl (v := .ref (G.1 47)) rfl dX9_lot_53 ?_
            refine lv_aload_n hx hb dX9_lot_56 rfl (lv_at hl 0 rfl) ?_
            refine w_get X hw 10 21 (hL 22 (by decide)) rfl (by decide) k_X9 in_X9_lot_X9 (by decide) (by decide +kernel) rfl (v := .int (I 22 21)) rfl dX9_lot_57 ?_
            refine lv_iload_n hx hb dX9_lot_60 rfl (lv_at hl 1 rfl) ?_
            have h_61 : vp_in (I 22 21) 40 := by rw [vp_in_iff]; simp only [i_eq, Int32.reduceToInt] at *; omega
            refine w_ist X hw (hL 47 (by decide)) rfl h_61 dX9_lot_61 (fun H locs hw => ?_)
            refine lv_aload_n hx hb dX9_lot_62 rfl (lv_at hl 0 rfl) ?_
            refine w_get X hw 10 19 (hL 22 (by decide)) rfl (by decide) k_X9 in_X9_lot_X9 (by decide) (by decide +kernel) rfl (v := .ref (G.1 49)) rfl dX9_lot_63 ?_
            refine lv_aload_n hx hb dX9_lot_66 rfl (lv_at hl 0 rfl) ?_
            refine w_get X hw 10 21 (hL 22 (by decide)) rfl (by decide) k_X9 in_X9_lot_X9 (by decide) (by decide +kernel) rfl (v := .int (I 22 21)) rfl dX9_lot_67 ?_
            refine lv_iconst (v := -1) hx hb dX9_lot_70 (by decide) ?_
            have h_71 : vp_in (I 22 21) 40 := by rw [vp_in_iff]; simp only [i_eq, Int32.reduceToInt] at *; omega
            refine w_ist X hw (hL 49 (by decide)) rfl h_71 dX9_lot_71 (fun H locs hw => ?_)
            refine lv_aload_n hx hb dX9_lot_72 rfl (lv_at hl 0 rfl) ?_
            refine w_get X hw 10 20 (hL 22 (by decide)) rfl (by decide) k_X9 in_X9_lot_X9 (by decide) (by decide +kernel) rfl (v := .ref (G.1 50)) rfl dX9_lot_73 ?_
            refine lv_aload_n hx hb dX9_lot_76 rfl (lv_at hl 0 rfl) ?_
            refine w_get X hw 10 21 (hL 22 (by decide)) rfl (by decide) k_X9 in_X9_lot_X9 (by decide) (by decide +kernel) rfl (v := .int (I 22 21)) rfl dX9_lot_77 ?_
            refine lv_iconst (v := -1) hx hb dX9_lot_80 (by decide) ?_
            have h_81 : vp_in (I 22 21) 40 := by rw [vp_in_iff]; simp only [i_eq, Int32.reduceToInt] at *; omega
            refine w_ist X hw (hL 50 (by decide)) rfl h_81 dX9_lot_81 (fun H locs hw => ?_)
            refine lv_iconst (v := 0) hx hb dX9_lot_82 (by decide) ?_
            refine lv_istore_n (lv' := [(2, .int 0), (0, .ref (G.1 22)), (1, .int fl)]) hx hb dX9_lot_83 rfl hl (by decide) rfl (fun ls hl => ?_)
            refine lp_X9_lot  X hst hL (Nat.le_of_ble_eq_true rfl) (Nat.le_of_ble_eq_true rfl) (Nat.le_of_ble_eq_true rfl) (Nat.le_of_ble_eq_true rfl) fl  9 (wU (wU (wU (wU I 22 0 0) 47 (I 22 21).toNatClampNeg fl) 49 (I 22 21).toNatClampNeg (-1)) 50 (I 22 21).toNatClampNeg (-1)) 0 _ _ _ (⟨by decide, by decide, hN.1, (show (I 22 21).toInt < 40 from by have h9 : ¬ (I 22 21).toInt = 40 := fun e => c_35 (i_eq.mpr e); omega)⟩) (by decide) hw (lv_sub hl [0, 1, 2] rfl) (fun H locs ls hw hl => ?_)
            obtain ⟨Q_4, eQ_4⟩ : ∃ q9 : wI × Int32, q9 = l_X9_lot  9 (wU (wU (wU (wU I 22 0 0) 47 (I 22 21).toNatClampNeg fl) 49 (I 22 21).toNatClampNeg (-1)) 50 (I 22 21).toNatClampNeg (-1)) 0 fl := ⟨_, rfl⟩
            rw [← eQ_4] at hw hl
            refine lv_aload_n hx hb dX9_lot_111 rfl (lv_at hl 1 rfl) ?_
            refine lv_dup hx hb dX9_lot_112 rfl ?_
            refine w_get X hw 10 21 (hL 22 (by decide)) rfl (by decide) k_X9 in_X9_lot_X9 (by decide) (by decide +kernel) rfl (v := .int (Q_4.1 22 21)) rfl dX9_lot_113 ?_
            refine lv_iconst (v := 1) hx hb dX9_lot_116 (by decide) ?_
            refine lv_iadd hx hb dX9_lot_117 ?_
            refine lv_topi (fun x_5 ex_5 => ?_)
            refine w_put X hw 10 21 (hL 22 (by decide)) rfl (by decide) k_X9 in_X9_lot_X9 (by decide) (by decide +kernel) rfl rfl (t := .int) (by decide +kernel) rfl rfl (fun _ => rfl) (fun _ => Nat.le_of_ble_eq_true rfl) dX9_lot_118 (fun H locs hw => ?_)
            refine lv_aload_n hx hb dX9_lot_121 rfl (lv_at hl 1 rfl) ?_
            refine w_get X hw 10 21 (hL 22 (by decide)) rfl (by decide) k_X9 in_X9_lot_X9 (by decide) (by decide +kernel) rfl (v := .int x_5) rfl dX9_lot_122 ?_
            refine lv_iconst (v := 1) hx hb dX9_lot_125 (by decide) ?_
            refine lv_isub hx hb dX9_lot_126 ?_
            have hp_127 : po_c_X9_lot (x_5 - 1) (G, (wU Q_4.1 22 21 x_5), J) := by
                obtain rfl := eQ_4.symm
                obtain rfl := ex_5.symm
                rw [epo]
                have ef : f_X9_lot I fl = ((((l_X9_lot  9 (wU (wU (wU (wU I 22 0 0) 47 (I 22 21).toNatClampNeg fl) 49 (I 22 21).toNatClampNeg (-1)) 50 (I 22 21).toNatClampNeg (-1)) 0 fl).1 22 21) + 1) - 1, (wU (l_X9_lot  9 (wU (wU (wU (wU I 22 0 0) 47 (I 22 21).toNatClampNeg fl) 49 (I 22 21).toNatClampNeg (-1)) 50 (I 22 21).toNatClampNeg (-1)) 0 fl).1 22 21 (((l_X9_lot  9 (wU (wU (wU (wU I 22 0 0) 47 (I 22 21).toNatClampNeg fl) 49 (I 22 21).toNatClampNeg (-1)) 50 (I 22 21).toNatClampNeg (-1)) 0 fl).1 22 21) + 1))) := by unfold f_X9_lot; rw [if_pos q_10, if_neg c_35]
                exact ⟨⟨by rw [ef], by rw [ef]⟩, rfl, rfl⟩
            exact w_iret X hr hlk hw hp_127 (Nat.le_of_ble_eq_true rfl) (Nat.le_of_ble_eq_true rfl) dX9_lot_127
          · exact absurd (by decide) c_47
        · refine lv_iconst (v := 1) hx hb dX9_lot_38 (by decide) ?_
          refine lv_goto (tgt := 43) hx hb dX9_lot_39 (by decide) ?_
          refine lv_iconst (v := 2) hx hb dX9_lot_43 (by decide) ?_
          refine w_callVi (As := [.int 1, .int 2]) (rest := []) X hw hst hl (c_X9_throwsIf1 l D y b z G (wU I 22 0 0) J hL 2) (cwV 2 X.1.2.2.2.2 gX9_lot_X9_throwsIf rfl rfl rfl (by decide +kernel) ⟨Nat.le_of_ble_eq_true rfl, Nat.le_of_ble_eq_true rfl⟩) (w_recv X hw (hL 22 (by decide)) rfl (by decide) k_X9) rfl rfl (Nat.le_of_ble_eq_true rfl) dX9_lot_44 ⟨Nat.le_of_ble_eq_true rfl, Nat.le_of_ble_eq_true rfl⟩ (fun r_44_6 u H locs hp_44 hw => ?_)
          obtain ⟨G_44_6, I_44_6, J_44_6⟩ := u
          dsimp only at hw hp_44
          obtain ⟨⟨hp_44, hI_44_6⟩, eG_44, eJ_44⟩ := hp_44
          subst G_44_6 J_44_6
          subst r_44_6
          refine lv_if_eq (tgt := 52) hx hb dX9_lot_47 (by decide) (fun c_47 => ?_) (fun c_47 => ?_)
          · exact absurd c_47 (by decide)
          · refine lv_iconst (v := 0) hx hb dX9_lot_50 (by decide) ?_
            have hp_51 : po_c_X9_lot 0 (G, I_44_6, J) := by
                obtain rfl := hI_44_6.symm
                rw [epo]
                have ef : f_X9_lot I fl = (0, (wU (wU I 22 0 0) 22 0 2)) := by unfold f_X9_lot; rw [if_pos q_10, if_pos c_35]
                exact ⟨⟨by rw [ef], by rw [ef]⟩, rfl, rfl⟩
            exact w_iret X hr hlk hw hp_51 (Nat.le_of_ble_eq_true rfl) (Nat.le_of_ble_eq_true rfl) dX9_lot_51
    · exact absurd c_13 (by decide)
  · rw [q0_10] at hp_10
    subst r_10_1
    refine lv_if_ne (tgt := 20) hx hb dX9_lot_13 (by decide) (fun c_13 => ?_) (fun c_13 => ?_)
    · exact absurd (by decide) c_13
    · refine lv_iconst (v := 1) hx hb dX9_lot_16 (by decide) ?_
      refine lv_goto (tgt := 21) hx hb dX9_lot_17 (by decide) ?_
      refine lv_iconst (v := 1) hx hb dX9_lot_21 (by decide) ?_
      refine w_callVi (As := [.int 1, .int 1]) (rest := []) X hw hst hl (c_X9_throwsIf1 l D y b z G (wU I 22 0 0) J hL 1) (cwV 2 X.1.2.2.2.2 gX9_lot_X9_throwsIf rfl rfl rfl (by decide +kernel) ⟨Nat.le_of_ble_eq_true rfl, Nat.le_of_ble_eq_true rfl⟩) (w_recv X hw (hL 22 (by decide)) rfl (by decide) k_X9) rfl rfl (Nat.le_of_ble_eq_true rfl) dX9_lot_22 ⟨Nat.le_of_ble_eq_true rfl, Nat.le_of_ble_eq_true rfl⟩ (fun r_22_7 u H locs hp_22 hw => ?_)
      obtain ⟨G_22_7, I_22_7, J_22_7⟩ := u
      dsimp only at hw hp_22
      obtain ⟨⟨hp_22, hI_22_7⟩, eG_22, eJ_22⟩ := hp_22
      subst G_22_7 J_22_7
      subst r_22_7
      refine lv_if_ne (tgt := 50) hx hb dX9_lot_25 (by decide) (fun c_25 => ?_) (fun c_25 => ?_)
      · refine lv_iconst (v := 0) hx hb dX9_lot_50 (by decide) ?_
        have hp_51 : po_c_X9_lot 0 (G, I_22_7, J) := by
            obtain rfl := hI_22_7.symm
            rw [epo]
            have ef : f_X9_lot I fl = (0, (wU (wU I 22 0 0) 22 0 1)) := by unfold f_X9_lot; rw [if_neg q_10]
            exact ⟨⟨by rw [ef], by rw [ef]⟩, rfl, rfl⟩
        exact w_iret X hr hlk hw hp_51 (Nat.le_of_ble_eq_true rfl) (Nat.le_of_ble_eq_true rfl) dX9_lot_51
      · exact absurd c_25 (by decide)
set_option maxRecDepth 20000 in
theorem in_X9_count_X9 : ∀ w ∈ u_ws RX9 TX9 42, w ∈ wsX9_count := fun _ h => List.mem_cons_of_mem _ (List.mem_append_right _ h)
def l_X9_count_a  : Nat → wI → Int32 → Int32 → Int32 → wI × Int32 × Int32
  | 0, I, k, n, w => (I, k, n)
  | nf + 1, I, k, n, w => (if (I 22 21) ≤ k then (I, k, n) else (if (I 49 k.toNatClampNeg) < 0 then (l_X9_count_a nf I (k + 1) (n + 0) w) else (l_X9_count_a nf I (k + 1) (n + 1) w)))
set_option maxHeartbeats 4000000 in
set_option maxRecDepth 100000 in
theorem lp_X9_count_a {p : Program} {l : Launch} {e : Env} {R : Room} {s : State} {m : MethodId} {args : Array Value} {below : List Frame} {meth : Method} {c : Code} {cells slots : Nat} {Q : State → Prop} {D : va_G} {y : Nat → ClassId} {b : Nat} {z : Nat → Nat} {G : wG} {J : wJ}  (X : wCx p m c cX9_count 4 s args wsX9_count yX9_count.cls D y b) (hst : St z b s) (hL : w_full G) (hRf : 0 ≤ R.frames) (hRl : 0 ≤ R.locals) (hRc : cells ≤ R.cells) (hRs : slots ≤ R.slots) (w : Int32)  : ∀ (nf : Nat) (I : wI) (k : Int32) (n : Int32) (H : Heap) (locs : List Loc) (ls : Array Slot), (0 ≤ k.toInt ∧ k.toInt ≤ (I 22 21).toInt ∧ (I 22 21).toInt ≤ 40) → (((I 22 21).toInt - k.toInt).toNat < nf) → Wh D y b G I J s H locs → lv_has ls 4 [(3, .int k), (2, .int n), (0, .ref (G.1 22)), (1, .int w)] → (∀ (H : Heap) (locs : List Loc) (ls : Array Slot), Wh D y b G (l_X9_count_a nf I k n w).1 J s H locs → lv_has ls 4 [(3, .int (l_X9_count_a nf I k n w).2.1), (2, .int (l_X9_count_a nf I k n w).2.2), (0, .ref (G.1 22)), (1, .int w)] → W p l e R s m args below meth c H locs cells slots Q (F0 m 121 ls [])) → W p l e R s m args below meth c H locs cells slots Q (F0 m 90 ls []) := by
  have hx := X.1.1
  have hb := X.1.2.1
  intro nf
  induction nf with
  | zero => intro I k n H locs ls hi hm; exact absurd hm (by omega)
  | succ nf ih =>
    intro I k n H locs ls hi hm hw hl kk
    refine lv_iload_n hx hb dX9_count_90 rfl (lv_at hl 0 rfl) ?_
    refine lv_aload_n hx hb dX9_count_91 rfl (lv_at hl 2 rfl) ?_
    refine w_get X hw 10 21 (hL 22 (by decide)) rfl (by decide) k_X9 in_X9_count_X9 (by decide) (by decide +kernel) rfl (v := .int (I 22 21)) rfl dX9_count_92 ?_
    refine lv_icmp_ge (tgt := 121) hx hb dX9_count_95 (by decide) (fun c_95 => ?_) (fun c_95 => ?_)
    · have hw9 := hw
      have hl9 := hl
      have el : l_X9_count_a (nf + 1) I k n w = (I, k, n) := by rw [l_X9_count_a]; rw [if_pos c_95]
      exact kk _ _ _ (by rw [el]; exact hw9) (by rw [el]; exact (lv_sub hl9 [0, 1, 2, 3] rfl))
    · refine lv_iload_n hx hb dX9_count_98 rfl (lv_at hl 1 rfl) ?_
      refine lv_aload_n hx hb dX9_count_99 rfl (lv_at hl 2 rfl) ?_
      refine w_get X hw 10 19 (hL 22 (by decide)) rfl (by decide) k_X9 in_X9_count_X9 (by decide) (by decide +kernel) rfl (v := .ref (G.1 49)) rfl dX9_count_100 ?_
      refine lv_iload_n hx hb dX9_count_103 rfl (lv_at hl 0 rfl) ?_
      have h_104 : vp_in k 40 := by rw [vp_in_iff]; simp only [i_le, i_lt, Int32.reduceToInt] at c_95; omega
      refine w_ild X hw (hL 49 (by decide)) rfl h_104 dX9_count_104 ?_
      refine lv_if_lt (tgt := 112) hx hb dX9_count_105 (by decide) (fun c_105 => ?_) (fun c_105 => ?_)
      · refine lv_iconst (v := 0) hx hb dX9_count_112 (by decide) ?_
        refine lv_iadd hx hb dX9_count_113 ?_
        refine lv_topi (fun x_1 ex_1 => ?_)
        refine lv_istore_n (lv' := [(2, .int x_1), (3, .int k), (0, .ref (G.1 22)), (1, .int w)]) hx hb dX9_count_114 rfl hl (by decide) rfl (fun ls hl => ?_)
        obtain ⟨x_2, ex_2⟩ : ∃ y : Int32, y = k + 1 := ⟨_, rfl⟩
        refine lv_iinc (v := x_2) (lv' := [(3, .int x_2), (2, .int x_1), (0, .ref (G.1 22)), (1, .int w)]) hx hb dX9_count_115 hl (k := 1) rfl (by rw [ex_2]; rfl) (by decide) rfl (fun ls hl => ?_)
        refine lv_goto (tgt := 90) hx hb dX9_count_118 (by decide) ?_
        have hw9 := hw
        have hl9 := hl
        obtain rfl := ex_1.symm
        obtain rfl := ex_2.symm
        have el : l_X9_count_a (nf + 1) I k n w = l_X9_count_a nf I (k + 1) (n + 0) w := by rw [l_X9_count_a]; rw [if_neg c_95, if_pos c_105]
        exact ih I (k + 1) (n + 0) _ _ _ (by have e1 := i_inc (k := k) (by omega); simp only [i_le, i_lt, Int32.reduceToInt] at c_95; exact ⟨by omega, by omega, hi.2.2⟩) (by have e1 := i_inc (k := k) (by omega); simp only [i_le, i_lt, Int32.reduceToInt] at c_95; omega) hw9 (lv_sub hl9 [0, 1, 2, 3] rfl) (fun H locs ls hw hl => kk H locs ls (by rw [el]; exact hw) (by rw [el]; exact hl))
      · refine lv_iconst (v := 1) hx hb dX9_count_108 (by decide) ?_
        refine lv_goto (tgt := 113) hx hb dX9_count_109 (by decide) ?_
        refine lv_iadd hx hb dX9_count_113 ?_
        refine lv_topi (fun x_3 ex_3 => ?_)
        refine lv_istore_n (lv' := [(2, .int x_3), (3, .int k), (0, .ref (G.1 22)), (1, .int w)]) hx hb dX9_count_114 rfl hl (by decide) rfl (fun ls hl => ?_)
        obtain ⟨x_4, ex_4⟩ : ∃ y : Int32, y = k + 1 := ⟨_, rfl⟩
        refine lv_iinc (v := x_4) (lv' := [(3, .int x_4), (2, .int x_3), (0, .ref (G.1 22)), (1, .int w)]) hx hb dX9_count_115 hl (k := 1) rfl (by rw [ex_4]; rfl) (by decide) rfl (fun ls hl => ?_)
        refine lv_goto (tgt := 90) hx hb dX9_count_118 (by decide) ?_
        have hw9 := hw
        have hl9 := hl
        obtain rfl := ex_3.symm
        obtain rfl := ex_4.symm
        have el : l_X9_count_a (nf + 1) I k n w = l_X9_count_a nf I (k + 1) (n + 1) w := by rw [l_X9_count_a]; rw [if_neg c_95, if_neg c_105]
        exact ih I (k + 1) (n + 1) _ _ _ (by have e1 := i_inc (k := k) (by omega); simp only [i_le, i_lt, Int32.reduceToInt] at c_95; exact ⟨by omega, by omega, hi.2.2⟩) (by have e1 := i_inc (k := k) (by omega); simp only [i_le, i_lt, Int32.reduceToInt] at c_95; omega) hw9 (lv_sub hl9 [0, 1, 2, 3] rfl) (fun H locs ls hw hl => kk H locs ls (by rw [el]; exact hw) (by rw [el]; exact hl))
theorem ro_X9_count_a : ∀ (nf : Nat) (I : wI) (k : Int32) (n : Int32) (w : Int32), (l_X9_count_a nf I k n w).1 = I := by
  intro nf
  induction nf with
  | zero => intros; rfl
  | succ nf ih =>
    intro I k n w
    rw [l_X9_count_a]
    repeat' split
    all_goals first | with_reducible rfl | exact ih _ _ _ _
def l_X9_count_b  : Nat → wI → Int32 → Int32 → Int32 → wI × Int32 × Int32
  | 0, I, k, n, w => (I, k, n)
  | nf + 1, I, k, n, w => (if (I 22 21) ≤ k then (I, k, n) else (if (I 49 k.toNatClampNeg) < 0 then (l_X9_count_b nf I (k + 1) (n + 0) w) else (l_X9_count_b nf I (k + 1) (n + (I 50 k.toNatClampNeg)) w)))
set_option maxHeartbeats 4000000 in
set_option maxRecDepth 100000 in
theorem lp_X9_count_b {p : Program} {l : Launch} {e : Env} {R : Room} {s : State} {m : MethodId} {args : Array Value} {below : List Frame} {meth : Method} {c : Code} {cells slots : Nat} {Q : State → Prop} {D : va_G} {y : Nat → ClassId} {b : Nat} {z : Nat → Nat} {G : wG} {J : wJ}  (X : wCx p m c cX9_count 4 s args wsX9_count yX9_count.cls D y b) (hst : St z b s) (hL : w_full G) (hRf : 0 ≤ R.frames) (hRl : 0 ≤ R.locals) (hRc : cells ≤ R.cells) (hRs : slots ≤ R.slots) (w : Int32)  : ∀ (nf : Nat) (I : wI) (k : Int32) (n : Int32) (H : Heap) (locs : List Loc) (ls : Array Slot), (0 ≤ k.toInt ∧ k.toInt ≤ (I 22 21).toInt ∧ (I 22 21).toInt ≤ 40) → (((I 22 21).toInt - k.toInt).toNat < nf) → Wh D y b G I J s H locs → lv_has ls 4 [(3, .int k), (2, .int n), (0, .ref (G.1 22)), (1, .int w)] → (∀ (H : Heap) (locs : List Loc) (ls : Array Slot), Wh D y b G (l_X9_count_b nf I k n w).1 J s H locs → lv_has ls 4 [(3, .int (l_X9_count_b nf I k n w).2.1), (2, .int (l_X9_count_b nf I k n w).2.2), (0, .ref (G.1 22)), (1, .int w)] → W p l e R s m args below meth c H locs cells slots Q (F0 m 161 ls [])) → W p l e R s m args below meth c H locs cells slots Q (F0 m 125 ls []) := by
  have hx := X.1.1
  have hb := X.1.2.1
  intro nf
  induction nf with
  | zero => intro I k n H locs ls hi hm; exact absurd hm (by omega)
  | succ nf ih =>
    intro I k n H locs ls hi hm hw hl kk
    refine lv_iload_n hx hb dX9_count_125 rfl (lv_at hl 0 rfl) ?_
    refine lv_aload_n hx hb dX9_count_126 rfl (lv_at hl 2 rfl) ?_
    refine w_get X hw 10 21 (hL 22 (by decide)) rfl (by decide) k_X9 in_X9_count_X9 (by decide) (by decide +kernel) rfl (v := .int (I 22 21)) rfl dX9_count_127 ?_
    refine lv_icmp_ge (tgt := 161) hx hb dX9_count_130 (by decide) (fun c_130 => ?_) (fun c_130 => ?_)
    · have hw9 := hw
      have hl9 := hl
      have el : l_X9_count_b (nf + 1) I k n w = (I, k, n) := by rw [l_X9_count_b]; rw [if_pos c_130]
      exact kk _ _ _ (by rw [el]; exact hw9) (by rw [el]; exact (lv_sub hl9 [0, 1, 2, 3] rfl))
    · refine lv_iload_n hx hb dX9_count_133 rfl (lv_at hl 1 rfl) ?_
      refine lv_aload_n hx hb dX9_count_134 rfl (lv_at hl 2 rfl) ?_
      refine w_get X hw 10 19 (hL 22 (by decide)) rfl (by decide) k_X9 in_X9_count_X9 (by decide) (by decide +kernel) rfl (v := .ref (G.1 49)) rfl dX9_count_135 ?_
      refine lv_iload_n hx hb dX9_count_138 rfl (lv_at hl 0 rfl) ?_
      have h_139 : vp_in k 40 := by rw [vp_in_iff]; simp only [i_le, i_lt, Int32.reduceToInt] at c_130; omega
      refine w_ild X hw (hL 49 (by decide)) rfl h_139 dX9_count_139 ?_
      refine lv_if_lt (tgt := 152) hx hb dX9_count_140 (by decide) (fun c_140 => ?_) (fun c_140 => ?_)
      · refine lv_iconst (v := 0) hx hb dX9_count_152 (by decide) ?_
        refine lv_iadd hx hb dX9_count_153 ?_
        refine lv_topi (fun x_1 ex_1 => ?_)
        refine lv_istore_n (lv' := [(2, .int x_1), (3, .int k), (0, .ref (G.1 22)), (1, .int w)]) hx hb dX9_count_154 rfl hl (by decide) rfl (fun ls hl => ?_)
        obtain ⟨x_2, ex_2⟩ : ∃ y : Int32, y = k + 1 := ⟨_, rfl⟩
        refine lv_iinc (v := x_2) (lv' := [(3, .int x_2), (2, .int x_1), (0, .ref (G.1 22)), (1, .int w)]) hx hb dX9_count_155 hl (k := 1) rfl (by rw [ex_2]; rfl) (by decide) rfl (fun ls hl => ?_)
        refine lv_goto (tgt := 125) hx hb dX9_count_158 (by decide) ?_
        have hw9 := hw
        have hl9 := hl
        obtain rfl := ex_1.symm
        obtain rfl := ex_2.symm
        have el : l_X9_count_b (nf + 1) I k n w = l_X9_count_b nf I (k + 1) (n + 0) w := by rw [l_X9_count_b]; rw [if_neg c_130, if_pos c_140]
        exact ih I (k + 1) (n + 0) _ _ _ (by have e1 := i_inc (k := k) (by omega); simp only [i_le, i_lt, Int32.reduceToInt] at c_130; exact ⟨by omega, by omega, hi.2.2⟩) (by have e1 := i_inc (k := k) (by omega); simp only [i_le, i_lt, Int32.reduceToInt] at c_130; omega) hw9 (lv_sub hl9 [0, 1, 2, 3] rfl) (fun H locs ls hw hl => kk H locs ls (by rw [el]; exact hw) (by rw [el]; exact hl))
      · refine lv_aload_n hx hb dX9_count_143 rfl (lv_at hl 2 rfl) ?_
        refine w_get X hw 10 20 (hL 22 (by decide)) rfl (by decide) k_X9 in_X9_count_X9 (by decide) (by decide +kernel) rfl (v := .ref (G.1 50)) rfl dX9_count_144 ?_
        refine lv_iload_n hx hb dX9_count_147 rfl (lv_at hl 0 rfl) ?_
        have h_148 : vp_in k 40 := by rw [vp_in_iff]; simp only [i_le, i_lt, Int32.reduceToInt] at c_130; omega
        refine w_ild X hw (hL 50 (by decide)) rfl h_148 dX9_count_148 ?_
        refine lv_goto (tgt := 153) hx hb dX9_count_149 (by decide) ?_
        refine lv_iadd hx hb dX9_count_153 ?_
        refine lv_topi (fun x_3 ex_3 => ?_)
        refine lv_istore_n (lv' := [(2, .int x_3), (3, .int k), (0, .ref (G.1 22)), (1, .int w)]) hx hb dX9_count_154 rfl hl (by decide) rfl (fun ls hl => ?_)
        obtain ⟨x_4, ex_4⟩ : ∃ y : Int32, y = k + 1 := ⟨_, rfl⟩
        refine lv_iinc (v := x_4) (lv' := [(3, .int x_4), (2, .int x_3), (0, .ref (G.1 22)), (1, .int w)]) hx hb dX9_count_155 hl (k := 1) rfl (by rw [ex_4]; rfl) (by decide) rfl (fun ls hl => ?_)
        refine lv_goto (tgt := 125) hx hb dX9_count_158 (by decide) ?_
        have hw9 := hw
        have hl9 := hl
        obtain rfl := ex_3.symm
        obtain rfl := ex_4.symm
        have el : l_X9_count_b (nf + 1) I k n w = l_X9_count_b nf I (k + 1) (n + (I 50 k.toNatClampNeg)) w := by rw [l_X9_count_b]; rw [if_neg c_130, if_neg c_140]
        exact ih I (k + 1) (n + (I 50 k.toNatClampNeg)) _ _ _ (by have e1 := i_inc (k := k) (by omega); simp only [i_le, i_lt, Int32.reduceToInt] at c_130; exact ⟨by omega, by omega, hi.2.2⟩) (by have e1 := i_inc (k := k) (by omega); simp only [i_le, i_lt, Int32.reduceToInt] at c_130; omega) hw9 (lv_sub hl9 [0, 1, 2, 3] rfl) (fun H locs ls hw hl => kk H locs ls (by rw [el]; exact hw) (by rw [el]; exact hl))
theorem ro_X9_count_b : ∀ (nf : Nat) (I : wI) (k : Int32) (n : Int32) (w : Int32), (l_X9_count_b nf I k n w).1 = I := by
  intro nf
  induction nf with
  | zero => intros; rfl
  | succ nf ih =>
    intro I k n w
    rw [l_X9_count_b]
    repeat' split
    all_goals first | with_reducible rfl | exact ih _ _ _ _
def l_X9_count_c  : Nat → wI → Int32 → Int32 → Int32 → wI × Int32 × Int32
  | 0, I, k, n, w => (I, k, n)
  | nf + 1, I, k, n, w => (if (I 22 29) ≤ k then (I, k, n) else (if (I 60 k.toNatClampNeg) = 0 then (l_X9_count_c nf I (k + 1) (n + 0) w) else (l_X9_count_c nf I (k + 1) (n + 1) w)))
set_option maxHeartbeats 4000000 in
set_option maxRecDepth 100000 in
theorem lp_X9_count_c {p : Program} {l : Launch} {e : Env} {R : Room} {s : State} {m : MethodId} {args : Array Value} {below : List Frame} {meth : Method} {c : Code} {cells slots : Nat} {Q : State → Prop} {D : va_G} {y : Nat → ClassId} {b : Nat} {z : Nat → Nat} {G : wG} {J : wJ}  (X : wCx p m c cX9_count 4 s args wsX9_count yX9_count.cls D y b) (hst : St z b s) (hL : w_full G) (hRf : 0 ≤ R.frames) (hRl : 0 ≤ R.locals) (hRc : cells ≤ R.cells) (hRs : slots ≤ R.slots) (w : Int32)  : ∀ (nf : Nat) (I : wI) (k : Int32) (n : Int32) (H : Heap) (locs : List Loc) (ls : Array Slot), (0 ≤ k.toInt ∧ k.toInt ≤ (I 22 29).toInt ∧ (I 22 29).toInt ≤ 60) → (((I 22 29).toInt - k.toInt).toNat < nf) → Wh D y b G I J s H locs → lv_has ls 4 [(3, .int k), (2, .int n), (0, .ref (G.1 22)), (1, .int w)] → (∀ (H : Heap) (locs : List Loc) (ls : Array Slot), Wh D y b G (l_X9_count_c nf I k n w).1 J s H locs → lv_has ls 4 [(3, .int (l_X9_count_c nf I k n w).2.1), (2, .int (l_X9_count_c nf I k n w).2.2), (0, .ref (G.1 22)), (1, .int w)] → W p l e R s m args below meth c H locs cells slots Q (F0 m 201 ls [])) → W p l e R s m args below meth c H locs cells slots Q (F0 m 170 ls []) := by
  have hx := X.1.1
  have hb := X.1.2.1
  intro nf
  induction nf with
  | zero => intro I k n H locs ls hi hm; exact absurd hm (by omega)
  | succ nf ih =>
    intro I k n H locs ls hi hm hw hl kk
    refine lv_iload_n hx hb dX9_count_170 rfl (lv_at hl 0 rfl) ?_
    refine lv_aload_n hx hb dX9_count_171 rfl (lv_at hl 2 rfl) ?_
    refine w_get X hw 10 29 (hL 22 (by decide)) rfl (by decide) k_X9 in_X9_count_X9 (by decide) (by decide +kernel) rfl (v := .int (I 22 29)) rfl dX9_count_172 ?_
    refine lv_icmp_ge (tgt := 201) hx hb dX9_count_175 (by decide) (fun c_175 => ?_) (fun c_175 => ?_)
    · have hw9 := hw
      have hl9 := hl
      have el : l_X9_count_c (nf + 1) I k n w = (I, k, n) := by rw [l_X9_count_c]; rw [if_pos c_175]
      exact kk _ _ _ (by rw [el]; exact hw9) (by rw [el]; exact (lv_sub hl9 [0, 1, 2, 3] rfl))
    · refine lv_iload_n hx hb dX9_count_178 rfl (lv_at hl 1 rfl) ?_
      refine lv_aload_n hx hb dX9_count_179 rfl (lv_at hl 2 rfl) ?_
      refine w_get X hw 10 30 (hL 22 (by decide)) rfl (by decide) k_X9 in_X9_count_X9 (by decide) (by decide +kernel) rfl (v := .ref (G.1 60)) rfl dX9_count_180 ?_
      refine lv_iload_n hx hb dX9_count_183 rfl (lv_at hl 0 rfl) ?_
      have h_184 : vp_in k 60 := by rw [vp_in_iff]; simp only [i_le, i_lt, Int32.reduceToInt] at c_175; omega
      refine w_zld X hw (hL 60 (by decide)) rfl h_184 dX9_count_184 ?_
      refine lv_if_eq (tgt := 192) hx hb dX9_count_185 (by decide) (fun c_185 => ?_) (fun c_185 => ?_)
      · refine lv_iconst (v := 0) hx hb dX9_count_192 (by decide) ?_
        refine lv_iadd hx hb dX9_count_193 ?_
        refine lv_topi (fun x_1 ex_1 => ?_)
        refine lv_istore_n (lv' := [(2, .int x_1), (3, .int k), (0, .ref (G.1 22)), (1, .int w)]) hx hb dX9_count_194 rfl hl (by decide) rfl (fun ls hl => ?_)
        obtain ⟨x_2, ex_2⟩ : ∃ y : Int32, y = k + 1 := ⟨_, rfl⟩
        refine lv_iinc (v := x_2) (lv' := [(3, .int x_2), (2, .int x_1), (0, .ref (G.1 22)), (1, .int w)]) hx hb dX9_count_195 hl (k := 1) rfl (by rw [ex_2]; rfl) (by decide) rfl (fun ls hl => ?_)
        refine lv_goto (tgt := 170) hx hb dX9_count_198 (by decide) ?_
        have hw9 := hw
        have hl9 := hl
        obtain rfl := ex_1.symm
        obtain rfl := ex_2.symm
        have el : l_X9_count_c (nf + 1) I k n w = l_X9_count_c nf I (k + 1) (n + 0) w := by rw [l_X9_count_c]; rw [if_neg c_175, if_pos c_185]
        exact ih I (k + 1) (n + 0) _ _ _ (by have e1 := i_inc (k := k) (by omega); simp only [i_le, i_lt, Int32.reduceToInt] at c_175; exact ⟨by omega, by omega, hi.2.2⟩) (by have e1 := i_inc (k := k) (by omega); simp only [i_le, i_lt, Int32.reduceToInt] at c_175; omega) hw9 (lv_sub hl9 [0, 1, 2, 3] rfl) (fun H locs ls hw hl => kk H locs ls (by rw [el]; exact hw) (by rw [el]; exact hl))
      · refine lv_iconst (v := 1) hx hb dX9_count_188 (by decide) ?_
        refine lv_goto (tgt := 193) hx hb dX9_count_189 (by decide) ?_
        refine lv_iadd hx hb dX9_count_193 ?_
        refine lv_topi (fun x_3 ex_3 => ?_)
        refine lv_istore_n (lv' := [(2, .int x_3), (3, .int k), (0, .ref (G.1 22)), (1, .int w)]) hx hb dX9_count_194 rfl hl (by decide) rfl (fun ls hl => ?_)
        obtain ⟨x_4, ex_4⟩ : ∃ y : Int32, y = k + 1 := ⟨_, rfl⟩
        refine lv_iinc (v := x_4) (lv' := [(3, .int x_4), (2, .int x_3), (0, .ref (G.1 22)), (1, .int w)]) hx hb dX9_count_195 hl (k := 1) rfl (by rw [ex_4]; rfl) (by decide) rfl (fun ls hl => ?_)
        refine lv_goto (tgt := 170) hx hb dX9_count_198 (by decide) ?_
        have hw9 := hw
        have hl9 := hl
        obtain rfl := ex_3.symm
        obtain rfl := ex_4.symm
        have el : l_X9_count_c (nf + 1) I k n w = l_X9_count_c nf I (k + 1) (n + 1) w := by rw [l_X9_count_c]; rw [if_neg c_175, if_neg c_185]
        exact ih I (k + 1) (n + 1) _ _ _ (by have e1 := i_inc (k := k) (by omega); simp only [i_le, i_lt, Int32.reduceToInt] at c_175; exact ⟨by omega, by omega, hi.2.2⟩) (by have e1 := i_inc (k := k) (by omega); simp only [i_le, i_lt, Int32.reduceToInt] at c_175; omega) hw9 (lv_sub hl9 [0, 1, 2, 3] rfl) (fun H locs ls hw hl => kk H locs ls (by rw [el]; exact hw) (by rw [el]; exact hl))
theorem ro_X9_count_c : ∀ (nf : Nat) (I : wI) (k : Int32) (n : Int32) (w : Int32), (l_X9_count_c nf I k n w).1 = I := by
  intro nf
  induction nf with
  | zero => intros; rfl
  | succ nf ih =>
    intro I k n w
    rw [l_X9_count_c]
    repeat' split
    all_goals first | with_reducible rfl | exact ih _ _ _ _
def l_X9_count_d  : Nat → wI → Int32 → Int32 → Int32 → wI × Int32 × Int32
  | 0, I, k, n, w => (I, k, n)
  | nf + 1, I, k, n, w => (if (I 22 12) ≤ k then (I, k, n) else (if (I 37 k.toNatClampNeg) = 0 then (l_X9_count_d nf I (k + 1) (n + 0) w) else (l_X9_count_d nf I (k + 1) (n + 1) w)))
set_option maxHeartbeats 4000000 in
set_option maxRecDepth 100000 in
theorem lp_X9_count_d {p : Program} {l : Launch} {e : Env} {R : Room} {s : State} {m : MethodId} {args : Array Value} {below : List Frame} {meth : Method} {c : Code} {cells slots : Nat} {Q : State → Prop} {D : va_G} {y : Nat → ClassId} {b : Nat} {z : Nat → Nat} {G : wG} {J : wJ}  (X : wCx p m c cX9_count 4 s args wsX9_count yX9_count.cls D y b) (hst : St z b s) (hL : w_full G) (hRf : 0 ≤ R.frames) (hRl : 0 ≤ R.locals) (hRc : cells ≤ R.cells) (hRs : slots ≤ R.slots) (w : Int32)  : ∀ (nf : Nat) (I : wI) (k : Int32) (n : Int32) (H : Heap) (locs : List Loc) (ls : Array Slot), (0 ≤ k.toInt ∧ k.toInt ≤ (I 22 12).toInt ∧ (I 22 12).toInt ≤ 40) → (((I 22 12).toInt - k.toInt).toNat < nf) → Wh D y b G I J s H locs → lv_has ls 4 [(3, .int k), (2, .int n), (0, .ref (G.1 22)), (1, .int w)] → (∀ (H : Heap) (locs : List Loc) (ls : Array Slot), Wh D y b G (l_X9_count_d nf I k n w).1 J s H locs → lv_has ls 4 [(3, .int (l_X9_count_d nf I k n w).2.1), (2, .int (l_X9_count_d nf I k n w).2.2), (0, .ref (G.1 22)), (1, .int w)] → W p l e R s m args below meth c H locs cells slots Q (F0 m 246 ls [])) → W p l e R s m args below meth c H locs cells slots Q (F0 m 215 ls []) := by
  have hx := X.1.1
  have hb := X.1.2.1
  intro nf
  induction nf with
  | zero => intro I k n H locs ls hi hm; exact absurd hm (by omega)
  | succ nf ih =>
    intro I k n H locs ls hi hm hw hl kk
    refine lv_iload_n hx hb dX9_count_215 rfl (lv_at hl 0 rfl) ?_
    refine lv_aload_n hx hb dX9_count_216 rfl (lv_at hl 2 rfl) ?_
    refine w_get X hw 10 12 (hL 22 (by decide)) rfl (by decide) k_X9 in_X9_count_X9 (by decide) (by decide +kernel) rfl (v := .int (I 22 12)) rfl dX9_count_217 ?_
    refine lv_icmp_ge (tgt := 246) hx hb dX9_count_220 (by decide) (fun c_220 => ?_) (fun c_220 => ?_)
    · have hw9 := hw
      have hl9 := hl
      have el : l_X9_count_d (nf + 1) I k n w = (I, k, n) := by rw [l_X9_count_d]; rw [if_pos c_220]
      exact kk _ _ _ (by rw [el]; exact hw9) (by rw [el]; exact (lv_sub hl9 [0, 1, 2, 3] rfl))
    · refine lv_iload_n hx hb dX9_count_223 rfl (lv_at hl 1 rfl) ?_
      refine lv_aload_n hx hb dX9_count_224 rfl (lv_at hl 2 rfl) ?_
      refine w_get X hw 10 7 (hL 22 (by decide)) rfl (by decide) k_X9 in_X9_count_X9 (by decide) (by decide +kernel) rfl (v := .ref (G.1 37)) rfl dX9_count_225 ?_
      refine lv_iload_n hx hb dX9_count_228 rfl (lv_at hl 0 rfl) ?_
      have h_229 : vp_in k 40 := by rw [vp_in_iff]; simp only [i_le, i_lt, Int32.reduceToInt] at c_220; omega
      refine w_zld X hw (hL 37 (by decide)) rfl h_229 dX9_count_229 ?_
      refine lv_if_eq (tgt := 237) hx hb dX9_count_230 (by decide) (fun c_230 => ?_) (fun c_230 => ?_)
      · refine lv_iconst (v := 0) hx hb dX9_count_237 (by decide) ?_
        refine lv_iadd hx hb dX9_count_238 ?_
        refine lv_topi (fun x_1 ex_1 => ?_)
        refine lv_istore_n (lv' := [(2, .int x_1), (3, .int k), (0, .ref (G.1 22)), (1, .int w)]) hx hb dX9_count_239 rfl hl (by decide) rfl (fun ls hl => ?_)
        obtain ⟨x_2, ex_2⟩ : ∃ y : Int32, y = k + 1 := ⟨_, rfl⟩
        refine lv_iinc (v := x_2) (lv' := [(3, .int x_2), (2, .int x_1), (0, .ref (G.1 22)), (1, .int w)]) hx hb dX9_count_240 hl (k := 1) rfl (by rw [ex_2]; rfl) (by decide) rfl (fun ls hl => ?_)
        refine lv_goto (tgt := 215) hx hb dX9_count_243 (by decide) ?_
        have hw9 := hw
        have hl9 := hl
        obtain rfl := ex_1.symm
        obtain rfl := ex_2.symm
        have el : l_X9_count_d (nf + 1) I k n w = l_X9_count_d nf I (k + 1) (n + 0) w := by rw [l_X9_count_d]; rw [if_neg c_220, if_pos c_230]
        exact ih I (k + 1) (n + 0) _ _ _ (by have e1 := i_inc (k := k) (by omega); simp only [i_le, i_lt, Int32.reduceToInt] at c_220; exact ⟨by omega, by omega, hi.2.2⟩) (by have e1 := i_inc (k := k) (by omega); simp only [i_le, i_lt, Int32.reduceToInt] at c_220; omega) hw9 (lv_sub hl9 [0, 1, 2, 3] rfl) (fun H locs ls hw hl => kk H locs ls (by rw [el]; exact hw) (by rw [el]; exact hl))
      · refine lv_iconst (v := 1) hx hb dX9_count_233 (by decide) ?_
        refine lv_goto (tgt := 238) hx hb dX9_count_234 (by decide) ?_
        refine lv_iadd hx hb dX9_count_238 ?_
        refine lv_topi (fun x_3 ex_3 => ?_)
        refine lv_istore_n (lv' := [(2, .int x_3), (3, .int k), (0, .ref (G.1 22)), (1, .int w)]) hx hb dX9_count_239 rfl hl (by decide) rfl (fun ls hl => ?_)
        obtain ⟨x_4, ex_4⟩ : ∃ y : Int32, y = k + 1 := ⟨_, rfl⟩
        refine lv_iinc (v := x_4) (lv' := [(3, .int x_4), (2, .int x_3), (0, .ref (G.1 22)), (1, .int w)]) hx hb dX9_count_240 hl (k := 1) rfl (by rw [ex_4]; rfl) (by decide) rfl (fun ls hl => ?_)
        refine lv_goto (tgt := 215) hx hb dX9_count_243 (by decide) ?_
        have hw9 := hw
        have hl9 := hl
        obtain rfl := ex_3.symm
        obtain rfl := ex_4.symm
        have el : l_X9_count_d (nf + 1) I k n w = l_X9_count_d nf I (k + 1) (n + 1) w := by rw [l_X9_count_d]; rw [if_neg c_220, if_neg c_230]
        exact ih I (k + 1) (n + 1) _ _ _ (by have e1 := i_inc (k := k) (by omega); simp only [i_le, i_lt, Int32.reduceToInt] at c_220; exact ⟨by omega, by omega, hi.2.2⟩) (by have e1 := i_inc (k := k) (by omega); simp only [i_le, i_lt, Int32.reduceToInt] at c_220; omega) hw9 (lv_sub hl9 [0, 1, 2, 3] rfl) (fun H locs ls hw hl => kk H locs ls (by rw [el]; exact hw) (by rw [el]; exact hl))
theorem ro_X9_count_d : ∀ (nf : Nat) (I : wI) (k : Int32) (n : Int32) (w : Int32), (l_X9_count_d nf I k n w).1 = I := by
  intro nf
  induction nf with
  | zero => intros; rfl
  | succ nf ih =>
    intro I k n w
    rw [l_X9_count_d]
    repeat' split
    all_goals first | with_reducible rfl | exact ih _ _ _ _
def f_X9_count (I : wI) (w : Int32) : Int32 × wI := (if w = 0 then (I 22 1, (wU I 22 0 0)) else (if w = 1 then (I 22 12, (wU I 22 0 0)) else (if w = 2 then (I 22 16, (wU I 22 0 0)) else (if w = 3 then (I 22 21, (wU I 22 0 0)) else (if w = 4 then ((l_X9_count_a  41 (wU I 22 0 0) 0 0 w).2.2, (wU I 22 0 0)) else (if w = 5 then ((l_X9_count_b  41 (wU I 22 0 0) 0 0 w).2.2, (wU I 22 0 0)) else (if w = 6 then (I 22 29, (wU I 22 0 0)) else (if w = 7 then ((l_X9_count_c  61 (wU I 22 0 0) 0 0 w).2.2, (wU I 22 0 0)) else (if w = 8 then (I 22 34, (wU I 22 0 0)) else (if w = 9 then (I 22 39, (wU I 22 0 0)) else (if w = 10 then ((l_X9_count_d  41 (wU I 22 0 0) 0 0 w).2.2, (wU I 22 0 0)) else ((-1), (wU I 22 0 0)))))))))))))
theorem fr_f_X9_count (I : wI) (w : Int32) (q9 : Nat) (h22 : q9 ≠ 22) : (f_X9_count I w).2 q9 = I q9 := by
  unfold f_X9_count
  repeat' split
  all_goals first | with_reducible rfl | (simp only [wU_ne _ _ _ h22])
set_option maxHeartbeats 4000000 in
set_option maxRecDepth 100000 in
theorem c_X9_count (l : Launch) (D : va_G) (y : Nat → ClassId) (b : Nat) (z : Nat → Nat) (G : wG) (I : wI) (J : wJ) (hL : w_full G) (w : Int32) (hT : 0 ≤ (I 22 12).toInt ∧ (I 22 12).toInt ≤ 40) (hN : 0 ≤ (I 22 21).toInt ∧ (I 22 21).toInt ≤ 40) (hC : 0 ≤ (I 22 29).toInt ∧ (I 22 29).toInt ≤ 60) : mI l yX9_count wsX9_count { frames := 0, cells := 0, slots := 0, locals := 0 } D y b z G I J [.ref (G.1 22), .int w] (fun r u => (r = (f_X9_count I w).1 ∧ u.2.1 = (f_X9_count I w).2) ∧ u.1 = G ∧ u.2.2 = J) 0 0 := by
  refine w_enter (by decide) rfl (Nat.le_of_ble_eq_true rfl) rfl ?_
  intro p e s m below meth c ls X hr hlk hnm hw hst hl
  have hx := X.1.1
  have hb := X.1.2.1
  obtain ⟨po_c_X9_count, epo⟩ : ∃ qpo9 : Int32 → wS → Prop, qpo9 = (fun r u => (r = (f_X9_count I w).1 ∧ u.2.1 = (f_X9_count I w).2) ∧ u.1 = G ∧ u.2.2 = J) := ⟨_, rfl⟩
  rw [← epo]
  refine lv_aload_n hx hb dX9_count_0 rfl (lv_at hl 0 rfl) ?_
  refine lv_iconst (v := 0) hx hb dX9_count_1 (by decide) ?_
  refine w_put X hw 10 0 (hL 22 (by decide)) rfl (by decide) k_X9 in_X9_count_X9 (by decide) (by decide +kernel) rfl rfl (t := .int) (by decide +kernel) rfl rfl (fun _ => rfl) (fun _ => Nat.le_of_ble_eq_true rfl) dX9_count_2 (fun H locs hw => ?_)
  refine lv_iconst (v := 0) hx hb dX9_count_5 (by decide) ?_
  refine lv_istore_n (lv' := [(2, .int 0), (0, .ref (G.1 22)), (1, .int w)]) hx hb dX9_count_6 rfl hl (by decide) rfl (fun ls hl => ?_)
  refine lv_iload_n hx hb dX9_count_7 rfl (lv_at hl 2 rfl) ?_
  by_cases s_8_0 : w = 0
  · refine lv_tableIn (tgt := 68) hx hb dX9_count_8 (by rw [s_8_0]; decide) (by rw [s_8_0]; decide) (by rw [s_8_0]; rfl) (by decide) ?_
    refine lv_aload_n hx hb dX9_count_68 rfl (lv_at hl 1 rfl) ?_
    refine w_get X hw 10 1 (hL 22 (by decide)) rfl (by decide) k_X9 in_X9_count_X9 (by decide) (by decide +kernel) rfl (v := .int (I 22 1)) rfl dX9_count_69 ?_
    have hp_72 : po_c_X9_count (I 22 1) (G, (wU I 22 0 0), J) := by
        rw [epo]
        have ef : f_X9_count I w = (I 22 1, (wU I 22 0 0)) := by unfold f_X9_count; rw [if_pos s_8_0]
        exact ⟨⟨by rw [ef], by rw [ef]⟩, rfl, rfl⟩
    exact w_iret X hr hlk hw hp_72 (Nat.le_of_ble_eq_true rfl) (Nat.le_of_ble_eq_true rfl) dX9_count_72
  by_cases s_8_1 : w = 1
  · refine lv_tableIn (tgt := 73) hx hb dX9_count_8 (by rw [s_8_1]; decide) (by rw [s_8_1]; decide) (by rw [s_8_1]; rfl) (by decide) ?_
    refine lv_aload_n hx hb dX9_count_73 rfl (lv_at hl 1 rfl) ?_
    refine w_get X hw 10 12 (hL 22 (by decide)) rfl (by decide) k_X9 in_X9_count_X9 (by decide) (by decide +kernel) rfl (v := .int (I 22 12)) rfl dX9_count_74 ?_
    have hp_77 : po_c_X9_count (I 22 12) (G, (wU I 22 0 0), J) := by
        rw [epo]
        have ef : f_X9_count I w = (I 22 12, (wU I 22 0 0)) := by unfold f_X9_count; rw [if_neg s_8_0, if_pos s_8_1]
        exact ⟨⟨by rw [ef], by rw [ef]⟩, rfl, rfl⟩
    exact w_iret X hr hlk hw hp_77 (Nat.le_of_ble_eq_true rfl) (Nat.le_of_ble_eq_true rfl) dX9_count_77
  by_cases s_8_2 : w = 2
  · refine lv_tableIn (tgt := 78) hx hb dX9_count_8 (by rw [s_8_2]; decide) (by rw [s_8_2]; decide) (by rw [s_8_2]; rfl) (by decide) ?_
    refine lv_aload_n hx hb dX9_count_78 rfl (lv_at hl 1 rfl) ?_
    refine w_get X hw 10 16 (hL 22 (by decide)) rfl (by decide) k_X9 in_X9_count_X9 (by decide) (by decide +kernel) rfl (v := .int (I 22 16)) rfl dX9_count_79 ?_
    have hp_82 : po_c_X9_count (I 22 16) (G, (wU I 22 0 0), J) := by
        rw [epo]
        have ef : f_X9_count I w = (I 22 16, (wU I 22 0 0)) := by unfold f_X9_count; rw [if_neg s_8_0, if_neg s_8_1, if_pos s_8_2]
        exact ⟨⟨by rw [ef], by rw [ef]⟩, rfl, rfl⟩
    exact w_iret X hr hlk hw hp_82 (Nat.le_of_ble_eq_true rfl) (Nat.le_of_ble_eq_true rfl) dX9_count_82
  by_cases s_8_3 : w = 3
  · refine lv_tableIn (tgt := 83) hx hb dX9_count_8 (by rw [s_8_3]; decide) (by rw [s_8_3]; decide) (by rw [s_8_3]; rfl) (by decide) ?_
    refine lv_aload_n hx hb dX9_count_83 rfl (lv_at hl 1 rfl) ?_
    refine w_get X hw 10 21 (hL 22 (by decide)) rfl (by decide) k_X9 in_X9_count_X9 (by decide) (by decide +kernel) rfl (v := .int (I 22 21)) rfl dX9_count_84 ?_
    have hp_87 : po_c_X9_count (I 22 21) (G, (wU I 22 0 0), J) := by
        rw [epo]
        have ef : f_X9_count I w = (I 22 21, (wU I 22 0 0)) := by unfold f_X9_count; rw [if_neg s_8_0, if_neg s_8_1, if_neg s_8_2, if_pos s_8_3]
        exact ⟨⟨by rw [ef], by rw [ef]⟩, rfl, rfl⟩
    exact w_iret X hr hlk hw hp_87 (Nat.le_of_ble_eq_true rfl) (Nat.le_of_ble_eq_true rfl) dX9_count_87
  by_cases s_8_4 : w = 4
  · refine lv_tableIn (tgt := 88) hx hb dX9_count_8 (by rw [s_8_4]; decide) (by rw [s_8_4]; decide) (by rw [s_8_4]; rfl) (by decide) ?_
    refine lv_iconst (v := 0) hx hb dX9_count_88 (by decide) ?_
    refine lv_istore_n (lv' := [(3, .int 0), (2, .int 0), (0, .ref (G.1 22)), (1, .int w)]) hx hb dX9_count_89 rfl hl (by decide) rfl (fun ls hl => ?_)
    refine lp_X9_count_a  X hst hL (Nat.le_of_ble_eq_true rfl) (Nat.le_of_ble_eq_true rfl) (Nat.le_of_ble_eq_true rfl) (Nat.le_of_ble_eq_true rfl) w  41 (wU I 22 0 0) 0 0 _ _ _ (⟨by decide, hN⟩) (show ((I 22 21).toInt - 0).toNat < 41 from by omega) hw (lv_sub hl [0, 1, 2, 3] rfl) (fun H locs ls hw hl => ?_)
    obtain ⟨Q_1, eQ_1⟩ : ∃ q9 : wI × Int32 × Int32, q9 = l_X9_count_a  41 (wU I 22 0 0) 0 0 w := ⟨_, rfl⟩
    rw [← eQ_1] at hw hl
    rw [show Q_1.1 = (wU I 22 0 0) from by rw [eQ_1]; exact ro_X9_count_a _ _ _ _ _] at hw
    refine lv_iload_n hx hb dX9_count_121 rfl (lv_at hl 1 rfl) ?_
    have hp_122 : po_c_X9_count Q_1.2.2 (G, (wU I 22 0 0), J) := by
        obtain rfl := eQ_1.symm
        rw [epo]
        have ef : f_X9_count I w = ((l_X9_count_a  41 (wU I 22 0 0) 0 0 w).2.2, (wU I 22 0 0)) := by unfold f_X9_count; rw [if_neg s_8_0, if_neg s_8_1, if_neg s_8_2, if_neg s_8_3, if_pos s_8_4]
        exact ⟨⟨by rw [ef], by rw [ef]⟩, rfl, rfl⟩
    exact w_iret X hr hlk hw hp_122 (Nat.le_of_ble_eq_true rfl) (Nat.le_of_ble_eq_true rfl) dX9_count_122
  by_cases s_8_5 : w = 5
  · refine lv_tableIn (tgt := 123) hx hb dX9_count_8 (by rw [s_8_5]; decide) (by rw [s_8_5]; decide) (by rw [s_8_5]; rfl) (by decide) ?_
    refine lv_iconst (v := 0) hx hb dX9_count_123 (by decide) ?_
    refine lv_istore_n (lv' := [(3, .int 0), (2, .int 0), (0, .ref (G.1 22)), (1, .int w)]) hx hb dX9_count_124 rfl hl (by decide) rfl (fun ls hl => ?_)
    refine lp_X9_count_b  X hst hL (Nat.le_of_ble_eq_true rfl) (Nat.le_of_ble_eq_true rfl) (Nat.le_of_ble_eq_true rfl) (Nat.le_of_ble_eq_true rfl) w  41 (wU I 22 0 0) 0 0 _ _ _ (⟨by decide, hN⟩) (show ((I 22 21).toInt - 0).toNat < 41 from by omega) hw (lv_sub hl [0, 1, 2, 3] rfl) (fun H locs ls hw hl => ?_)
    obtain ⟨Q_2, eQ_2⟩ : ∃ q9 : wI × Int32 × Int32, q9 = l_X9_count_b  41 (wU I 22 0 0) 0 0 w := ⟨_, rfl⟩
    rw [← eQ_2] at hw hl
    rw [show Q_2.1 = (wU I 22 0 0) from by rw [eQ_2]; exact ro_X9_count_b _ _ _ _ _] at hw
    refine lv_iload_n hx hb dX9_count_161 rfl (lv_at hl 1 rfl) ?_
    have hp_162 : po_c_X9_count Q_2.2.2 (G, (wU I 22 0 0), J) := by
        obtain rfl := eQ_2.symm
        rw [epo]
        have ef : f_X9_count I w = ((l_X9_count_b  41 (wU I 22 0 0) 0 0 w).2.2, (wU I 22 0 0)) := by unfold f_X9_count; rw [if_neg s_8_0, if_neg s_8_1, if_neg s_8_2, if_neg s_8_3, if_neg s_8_4, if_pos s_8_5]
        exact ⟨⟨by rw [ef], by rw [ef]⟩, rfl, rfl⟩
    exact w_iret X hr hlk hw hp_162 (Nat.le_of_ble_eq_true rfl) (Nat.le_of_ble_eq_true rfl) dX9_count_162
  by_cases s_8_6 : w = 6
  · refine lv_tableIn (tgt := 163) hx hb dX9_count_8 (by rw [s_8_6]; decide) (by rw [s_8_6]; decide) (by rw [s_8_6]; rfl) (by decide) ?_
    refine lv_aload_n hx hb dX9_count_163 rfl (lv_at hl 1 rfl) ?_
    refine w_get X hw 10 29 (hL 22 (by decide)) rfl (by decide) k_X9 in_X9_count_X9 (by decide) (by decide +kernel) rfl (v := .int (I 22 29)) rfl dX9_count_164 ?_
    have hp_167 : po_c_X9_count (I 22 29) (G, (wU I 22 0 0), J) := by
        rw [epo]
        have ef : f_X9_count I w = (I 22 29, (wU I 22 0 0)) := by unfold f_X9_count; rw [if_neg s_8_0, if_neg s_8_1, if_neg s_8_2, if_neg s_8_3, if_neg s_8_4, if_neg s_8_5, if_pos s_8_6]
        exact ⟨⟨by rw [ef], by rw [ef]⟩, rfl, rfl⟩
    exact w_iret X hr hlk hw hp_167 (Nat.le_of_ble_eq_true rfl) (Nat.le_of_ble_eq_true rfl) dX9_count_167
  by_cases s_8_7 : w = 7
  · refine lv_tableIn (tgt := 168) hx hb dX9_count_8 (by rw [s_8_7]; decide) (by rw [s_8_7]; decide) (by rw [s_8_7]; rfl) (by decide) ?_
    refine lv_iconst (v := 0) hx hb dX9_count_168 (by decide) ?_
    refine lv_istore_n (lv' := [(3, .int 0), (2, .int 0), (0, .ref (G.1 22)), (1, .int w)]) hx hb dX9_count_169 rfl hl (by decide) rfl (fun ls hl => ?_)
    refine lp_X9_count_c  X hst hL (Nat.le_of_ble_eq_true rfl) (Nat.le_of_ble_eq_true rfl) (Nat.le_of_ble_eq_true rfl) (Nat.le_of_ble_eq_true rfl) w  61 (wU I 22 0 0) 0 0 _ _ _ (⟨by decide, hC⟩) (show ((I 22 29).toInt - 0).toNat < 61 from by omega) hw (lv_sub hl [0, 1, 2, 3] rfl) (fun H locs ls hw hl => ?_)
    obtain ⟨Q_3, eQ_3⟩ : ∃ q9 : wI × Int32 × Int32, q9 = l_X9_count_c  61 (wU I 22 0 0) 0 0 w := ⟨_, rfl⟩
    rw [← eQ_3] at hw hl
    rw [show Q_3.1 = (wU I 22 0 0) from by rw [eQ_3]; exact ro_X9_count_c _ _ _ _ _] at hw
    refine lv_iload_n hx hb dX9_count_201 rfl (lv_at hl 1 rfl) ?_
    have hp_202 : po_c_X9_count Q_3.2.2 (G, (wU I 22 0 0), J) := by
        obtain rfl := eQ_3.symm
        rw [epo]
        have ef : f_X9_count I w = ((l_X9_count_c  61 (wU I 22 0 0) 0 0 w).2.2, (wU I 22 0 0)) := by unfold f_X9_count; rw [if_neg s_8_0, if_neg s_8_1, if_neg s_8_2, if_neg s_8_3, if_neg s_8_4, if_neg s_8_5, if_neg s_8_6, if_pos s_8_7]
        exact ⟨⟨by rw [ef], by rw [ef]⟩, rfl, rfl⟩
    exact w_iret X hr hlk hw hp_202 (Nat.le_of_ble_eq_true rfl) (Nat.le_of_ble_eq_true rfl) dX9_count_202
  by_cases s_8_8 : w = 8
  · refine lv_tableIn (tgt := 203) hx hb dX9_count_8 (by rw [s_8_8]; decide) (by rw [s_8_8]; decide) (by rw [s_8_8]; rfl) (by decide) ?_
    refine lv_aload_n hx hb dX9_count_203 rfl (lv_at hl 1 rfl) ?_
    refine w_get X hw 10 34 (hL 22 (by decide)) rfl (by decide) k_X9 in_X9_count_X9 (by decide) (by decide +kernel) rfl (v := .int (I 22 34)) rfl dX9_count_204 ?_
    have hp_207 : po_c_X9_count (I 22 34) (G, (wU I 22 0 0), J) := by
        rw [epo]
        have ef : f_X9_count I w = (I 22 34, (wU I 22 0 0)) := by unfold f_X9_count; rw [if_neg s_8_0, if_neg s_8_1, if_neg s_8_2, if_neg s_8_3, if_neg s_8_4, if_neg s_8_5, if_neg s_8_6, if_neg s_8_7, if_pos s_8_8]
        exact ⟨⟨by rw [ef], by rw [ef]⟩, rfl, rfl⟩
    exact w_iret X hr hlk hw hp_207 (Nat.le_of_ble_eq_true rfl) (Nat.le_of_ble_eq_true rfl) dX9_count_207
  by_cases s_8_9 : w = 9
  · refine lv_tableIn (tgt := 208) hx hb dX9_count_8 (by rw [s_8_9]; decide) (by rw [s_8_9]; decide) (by rw [s_8_9]; rfl) (by decide) ?_
    refine lv_aload_n hx hb dX9_count_208 rfl (lv_at hl 1 rfl) ?_
    refine w_get X hw 10 39 (hL 22 (by decide)) rfl (by decide) k_X9 in_X9_count_X9 (by decide) (by decide +kernel) rfl (v := .int (I 22 39)) rfl dX9_count_209 ?_
    have hp_212 : po_c_X9_count (I 22 39) (G, (wU I 22 0 0), J) := by
        rw [epo]
        have ef : f_X9_count I w = (I 22 39, (wU I 22 0 0)) := by unfold f_X9_count; rw [if_neg s_8_0, if_neg s_8_1, if_neg s_8_2, if_neg s_8_3, if_neg s_8_4, if_neg s_8_5, if_neg s_8_6, if_neg s_8_7, if_neg s_8_8, if_pos s_8_9]
        exact ⟨⟨by rw [ef], by rw [ef]⟩, rfl, rfl⟩
    exact w_iret X hr hlk hw hp_212 (Nat.le_of_ble_eq_true rfl) (Nat.le_of_ble_eq_true rfl) dX9_count_212
  by_cases s_8_10 : w = 10
  · refine lv_tableIn (tgt := 213) hx hb dX9_count_8 (by rw [s_8_10]; decide) (by rw [s_8_10]; decide) (by rw [s_8_10]; rfl) (by decide) ?_
    refine lv_iconst (v := 0) hx hb dX9_count_213 (by decide) ?_
    refine lv_istore_n (lv' := [(3, .int 0), (2, .int 0), (0, .ref (G.1 22)), (1, .int w)]) hx hb dX9_count_214 rfl hl (by decide) rfl (fun ls hl => ?_)
    refine lp_X9_count_d  X hst hL (Nat.le_of_ble_eq_true rfl) (Nat.le_of_ble_eq_true rfl) (Nat.le_of_ble_eq_true rfl) (Nat.le_of_ble_eq_true rfl) w  41 (wU I 22 0 0) 0 0 _ _ _ (⟨by decide, hT⟩) (show ((I 22 12).toInt - 0).toNat < 41 from by omega) hw (lv_sub hl [0, 1, 2, 3] rfl) (fun H locs ls hw hl => ?_)
    obtain ⟨Q_4, eQ_4⟩ : ∃ q9 : wI × Int32 × Int32, q9 = l_X9_count_d  41 (wU I 22 0 0) 0 0 w := ⟨_, rfl⟩
    rw [← eQ_4] at hw hl
    rw [show Q_4.1 = (wU I 22 0 0) from by rw [eQ_4]; exact ro_X9_count_d _ _ _ _ _] at hw
    refine lv_iload_n hx hb dX9_count_246 rfl (lv_at hl 1 rfl) ?_
    have hp_247 : po_c_X9_count Q_4.2.2 (G, (wU I 22 0 0), J) := by
        obtain rfl := eQ_4.symm
        rw [epo]
        have ef : f_X9_count I w = ((l_X9_count_d  41 (wU I 22 0 0) 0 0 w).2.2, (wU I 22 0 0)) := by unfold f_X9_count; rw [if_neg s_8_0, if_neg s_8_1, if_neg s_8_2, if_neg s_8_3, if_neg s_8_4, if_neg s_8_5, if_neg s_8_6, if_neg s_8_7, if_neg s_8_8, if_neg s_8_9, if_pos s_8_10]
        exact ⟨⟨by rw [ef], by rw [ef]⟩, rfl, rfl⟩
    exact w_iret X hr hlk hw hp_247 (Nat.le_of_ble_eq_true rfl) (Nat.le_of_ble_eq_true rfl) dX9_count_247
  refine lv_tableOut (tgt := 248) hx hb dX9_count_8 (sw_out w 0 10 (fun j h1 h2 => by
    rcases (show j = 0 ∨ j = 1 ∨ j = 2 ∨ j = 3 ∨ j = 4 ∨ j = 5 ∨ j = 6 ∨ j = 7 ∨ j = 8 ∨ j = 9 ∨ j = 10 by omega) with rfl | rfl | rfl | rfl | rfl | rfl | rfl | rfl | rfl | rfl | rfl
    · exact lv_neT s_8_0 (by decide)
    · exact lv_neT s_8_1 (by decide)
    · exact lv_neT s_8_2 (by decide)
    · exact lv_neT s_8_3 (by decide)
    · exact lv_neT s_8_4 (by decide)
    · exact lv_neT s_8_5 (by decide)
    · exact lv_neT s_8_6 (by decide)
    · exact lv_neT s_8_7 (by decide)
    · exact lv_neT s_8_8 (by decide)
    · exact lv_neT s_8_9 (by decide)
    · exact lv_neT s_8_10 (by decide))) (by decide) ?_
  refine lv_iconst (v := -1) hx hb dX9_count_248 (by decide) ?_
  have hp_249 : po_c_X9_count (-1) (G, (wU I 22 0 0), J) := by
      rw [epo]
      have ef : f_X9_count I w = ((-1), (wU I 22 0 0)) := by unfold f_X9_count; rw [if_neg s_8_0, if_neg s_8_1, if_neg s_8_2, if_neg s_8_3, if_neg s_8_4, if_neg s_8_5, if_neg s_8_6, if_neg s_8_7, if_neg s_8_8, if_neg s_8_9, if_neg s_8_10]
      exact ⟨⟨by rw [ef], by rw [ef]⟩, rfl, rfl⟩
  exact w_iret X hr hlk hw hp_249 (Nat.le_of_ble_eq_true rfl) (Nat.le_of_ble_eq_true rfl) dX9_count_249
