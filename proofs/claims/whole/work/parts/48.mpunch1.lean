def l_X9_punch_f  : Nat → wI → Int32 → Int32 → wI × Int32
  | 0, I, fr, mny => (I, fr)
  | nf + 1, I, fr, mny => (if fr < 0 then (I, fr) else (l_X9_punch_f nf ((l_X9_punch_s  7 (wU (wU I 65 fr.toNatClampNeg (I 65 (fr + 1).toNatClampNeg)) 66 fr.toNatClampNeg (I 66 (fr + 1).toNatClampNeg)) 0 fr mny).1) (fr + (-1)) mny))
set_option maxHeartbeats 4000000 in
set_option maxRecDepth 100000 in
theorem lp_X9_punch_f {p : Program} {l : Launch} {e : Env} {R : Room} {s : State} {m : MethodId} {args : Array Value} {below : List Frame} {meth : Method} {c : Code} {cells slots : Nat} {Q : State → Prop} {D : va_G} {y : Nat → ClassId} {b : Nat} {z : Nat → Nat} {G : wG} {J : wJ}  (X : wCx p m c cX9_punch 6 s args wsX9_punch yX9_punch.cls D y b) (hst : St z b s) (hL : w_full G) (hRf : 1 ≤ R.frames) (hRl : 24 ≤ R.locals) (hRc : cells ≤ R.cells) (hRs : slots ≤ R.slots) (mny : Int32)  : ∀ (nf : Nat) (I : wI) (fr : Int32) (H : Heap) (locs : List Loc) (ls : Array Slot), (-1 ≤ fr.toInt ∧ fr.toInt < (I 22 29).toInt ∧ (I 22 29).toInt ≤ 60 ∧ 0 ≤ (I 22 34).toInt ∧ (I 22 34).toInt ≤ 6 ∧ (∀ j : Nat, j < 6 → 0 ≤ (I 61 j).toInt ∧ (I 61 j).toInt ≤ 12)) → ((fr.toInt + 1).toNat < nf) → Wh D y b G I J s H locs → lv_has ls 6 [(2, .int fr), (0, .ref (G.1 22)), (1, .int mny)] → (∀ (H : Heap) (locs : List Loc) (ls : Array Slot), Wh D y b G (l_X9_punch_f nf I fr mny).1 J s H locs → lv_has ls 6 [(2, .int (l_X9_punch_f nf I fr mny).2), (0, .ref (G.1 22)), (1, .int mny)] → W p l e R s m args below meth c H locs cells slots Q (F0 m 189 ls [])) → W p l e R s m args below meth c H locs cells slots Q (F0 m 32 ls []) := by
  have hx := X.1.1
  have hb := X.1.2.1
  intro nf
  induction nf with
  | zero => intro I fr H locs ls hi hm; exact absurd hm (by omega)
  | succ nf ih =>
    intro I fr H locs ls hi hm hw hl kk
    refine lv_iload_n hx hb dX9_punch_32 rfl (lv_at hl 0 rfl) ?_
    refine lv_if_lt (tgt := 189) hx hb dX9_punch_33 (by decide) (fun c_33 => ?_) (fun c_33 => ?_)
    · have hw9 := hw
      have hl9 := hl
      have el : l_X9_punch_f (nf + 1) I fr mny = (I, fr) := by rw [l_X9_punch_f]; rw [if_pos c_33]
      exact kk _ _ _ (by rw [el]; exact hw9) (by rw [el]; exact (lv_sub hl9 [0, 1, 2] rfl))
    · refine lv_aload_n hx hb dX9_punch_36 rfl (lv_at hl 1 rfl) ?_
      refine w_get X hw 10 35 (hL 22 (by decide)) rfl (by decide) k_X9 in_X9_punch_X9 (by decide) (by decide +kernel) rfl (v := .ref (G.1 65)) rfl dX9_punch_37 ?_
      refine lv_iload_n hx hb dX9_punch_40 rfl (lv_at hl 0 rfl) ?_
      refine lv_aload_n hx hb dX9_punch_41 rfl (lv_at hl 1 rfl) ?_
      refine w_get X hw 10 35 (hL 22 (by decide)) rfl (by decide) k_X9 in_X9_punch_X9 (by decide) (by decide +kernel) rfl (v := .ref (G.1 65)) rfl dX9_punch_42 ?_
      refine lv_iload_n hx hb dX9_punch_45 rfl (lv_at hl 0 rfl) ?_
      refine lv_iconst (v := 1) hx hb dX9_punch_46 (by decide) ?_
      refine lv_iadd hx hb dX9_punch_47 ?_
      have h_48 : vp_in (fr + 1) 61 := by simp only [i_lt, Int32.reduceToInt] at c_33; rw [vp_in_iff, i_inc (by omega)]; omega
      refine w_ild X hw (hL 65 (by decide)) rfl h_48 dX9_punch_48 ?_
      refine lv_topi (fun x_1 ex_1 => ?_)
      have h_49 : vp_in fr 61 := by simp only [i_lt, Int32.reduceToInt] at c_33; rw [vp_in_iff]; omega
      refine w_ist X hw (hL 65 (by decide)) rfl h_49 dX9_punch_49 (fun H locs hw => ?_)
      refine lv_aload_n hx hb dX9_punch_50 rfl (lv_at hl 1 rfl) ?_
      refine w_get X hw 10 36 (hL 22 (by decide)) rfl (by decide) k_X9 in_X9_punch_X9 (by decide) (by decide +kernel) rfl (v := .ref (G.1 66)) rfl dX9_punch_51 ?_
      refine lv_iload_n hx hb dX9_punch_54 rfl (lv_at hl 0 rfl) ?_
      refine lv_aload_n hx hb dX9_punch_55 rfl (lv_at hl 1 rfl) ?_
      refine w_get X hw 10 36 (hL 22 (by decide)) rfl (by decide) k_X9 in_X9_punch_X9 (by decide) (by decide +kernel) rfl (v := .ref (G.1 66)) rfl dX9_punch_56 ?_
      refine lv_iload_n hx hb dX9_punch_59 rfl (lv_at hl 0 rfl) ?_
      refine lv_iconst (v := 1) hx hb dX9_punch_60 (by decide) ?_
      refine lv_iadd hx hb dX9_punch_61 ?_
      have h_62 : vp_in (fr + 1) 61 := by simp only [i_lt, Int32.reduceToInt] at c_33; rw [vp_in_iff, i_inc (by omega)]; omega
      refine w_ild X hw (hL 66 (by decide)) rfl h_62 dX9_punch_62 ?_
      refine W.eq (g2 := F0 m 63 ls [.int (I 66 (fr + 1).toNatClampNeg), .int fr, .ref (G.1 66)]) rfl ?_
      refine lv_topi (fun x_2 ex_2 => ?_)
      have h_63 : vp_in fr 61 := by simp only [i_lt, Int32.reduceToInt] at c_33; rw [vp_in_iff]; omega
      refine w_ist X hw (hL 66 (by decide)) rfl h_63 dX9_punch_63 (fun H locs hw => ?_)
      refine lv_iconst (v := 0) hx hb dX9_punch_64 (by decide) ?_
      refine lv_istore_n (lv' := [(3, .int 0), (2, .int fr), (0, .ref (G.1 22)), (1, .int mny)]) hx hb dX9_punch_65 rfl hl (by decide) rfl (fun ls hl => ?_)
      refine lp_X9_punch_s  X hst hL (Nat.le_trans (Nat.le_of_ble_eq_true rfl) hRf) (Nat.le_trans (Nat.le_of_ble_eq_true rfl) hRl) hRc hRs fr mny  7 (wU (wU I 65 fr.toNatClampNeg x_1) 66 fr.toNatClampNeg x_2) 0 _ _ _ (⟨by decide, hi.2.2.2.1, hi.2.2.2.2.1, by simp only [i_lt, Int32.reduceToInt] at c_33; omega, hi.2.1, hi.2.2.1, hi.2.2.2.2.2⟩) (show ((I 22 34).toInt - 0).toNat < 7 from by omega) hw (lv_sub hl [0, 1, 2, 3] rfl) (fun H locs ls hw hl => ?_)
      obtain ⟨Q_3, eQ_3⟩ : ∃ q9 : wI × Int32, q9 = l_X9_punch_s  7 (wU (wU I 65 fr.toNatClampNeg x_1) 66 fr.toNatClampNeg x_2) 0 fr mny := ⟨_, rfl⟩
      rw [← eQ_3] at hw hl
      have e22 : Q_3.1 22 = I 22 := by rw [eQ_3]; exact fr_X9_punch_s _ _ _ _ _ 22 (by decide) (by decide)
      have e61 : Q_3.1 61 = I 61 := by rw [eQ_3]; exact fr_X9_punch_s _ _ _ _ _ 61 (by decide) (by decide)
      obtain ⟨x_4, ex_4⟩ : ∃ y : Int32, y = fr + (-1) := ⟨_, rfl⟩
      refine lv_iinc (v := x_4) (lv' := [(2, .int x_4), (3, .int Q_3.2), (0, .ref (G.1 22)), (1, .int mny)]) hx hb dX9_punch_183 hl (k := 1) rfl (by rw [ex_4]; rfl) (by decide) rfl (fun ls hl => ?_)
      refine lv_goto (tgt := 32) hx hb dX9_punch_186 (by decide) ?_
      have hw9 := hw
      have hl9 := hl
      obtain rfl := ex_1.symm
      obtain rfl := ex_2.symm
      obtain rfl := ex_4.symm
      have el : l_X9_punch_f (nf + 1) I fr mny = l_X9_punch_f nf Q_3.1 (fr + (-1)) mny := by obtain rfl := eQ_3.symm; rw [l_X9_punch_f]; rw [if_neg c_33]
      exact ih Q_3.1 (fr + (-1)) _ _ _ (by rw [e22, e61]; exact ⟨(pf_inv c_33 hi.2.1).1, (pf_inv c_33 hi.2.1).2, hi.2.2⟩) (pf_m c_33 hm) hw9 (lv_sub hl9 [0, 2, 3] rfl) (fun H locs ls hw hl => kk H locs ls (by rw [el]; exact hw) (by rw [el]; exact hl))
theorem fr_X9_punch_f   : ∀ (nf : Nat) (I : wI) (fr : Int32) (mny : Int32) (q9 : Nat) (h65 : q9 ≠ 65) (h66 : q9 ≠ 66), (l_X9_punch_f nf I fr mny).1 q9 = I q9 := by
  intro nf
  induction nf with
  | zero => intros; rfl
  | succ nf ih =>
    intro I fr mny q9 h65 h66
    rw [l_X9_punch_f]
    repeat' split
    all_goals first | with_reducible rfl | (rw [ih _ _ _ q9 h65 h66]; done) | (rw [ih _ _ _ q9 h65 h66]; simp only [wU_ne _ _ _ h65, wU_ne _ _ _ h66, fr_X9_punch_s _ _ _ _ _ _ h65 h66]) | (simp only [wU_ne _ _ _ h65, wU_ne _ _ _ h66, fr_X9_punch_s _ _ _ _ _ _ h65 h66])
def f_X9_punch (I : wI) (mny : Int32) : Int32 × wI := (if mny = 0 then ((l_X9_punch_f  61 (wU (wU (wU I 22 0 0) 65 (I 22 29).toNatClampNeg 0) 66 (I 22 29).toNatClampNeg 0) ((I 22 29) - 1) mny).1 65 0, (l_X9_punch_f  61 (wU (wU (wU I 22 0 0) 65 (I 22 29).toNatClampNeg 0) 66 (I 22 29).toNatClampNeg 0) ((I 22 29) - 1) mny).1) else ((l_X9_punch_f  61 (wU (wU (wU I 22 0 0) 65 (I 22 29).toNatClampNeg 0) 66 (I 22 29).toNatClampNeg 0) ((I 22 29) - 1) mny).1 66 0, (l_X9_punch_f  61 (wU (wU (wU I 22 0 0) 65 (I 22 29).toNatClampNeg 0) 66 (I 22 29).toNatClampNeg 0) ((I 22 29) - 1) mny).1))
theorem fr_f_X9_punch (I : wI) (mny : Int32) (q9 : Nat) (h22 : q9 ≠ 22) (h65 : q9 ≠ 65) (h66 : q9 ≠ 66) : (f_X9_punch I mny).2 q9 = I q9 := by
  unfold f_X9_punch
  repeat' split
  all_goals first | with_reducible rfl | (simp only [wU_ne _ _ _ h22, wU_ne _ _ _ h65, wU_ne _ _ _ h66, fr_X9_punch_f _ _ _ _ _ h65 h66])
set_option maxHeartbeats 4000000 in
set_option maxRecDepth 100000 in
theorem c_X9_punch (l : Launch) (D : va_G) (y : Nat → ClassId) (b : Nat) (z : Nat → Nat) (G : wG) (I : wI) (J : wJ) (hL : w_full G) (mny : Int32) (hC : 1 ≤ (I 22 29).toInt ∧ (I 22 29).toInt ≤ 60) (hN : 0 ≤ (I 22 34).toInt ∧ (I 22 34).toInt ≤ 6) (hZ : ∀ j : Nat, j < 6 → 0 ≤ (I 61 j).toInt ∧ (I 61 j).toInt ≤ 12) : mI l yX9_punch wsX9_punch { frames := 1, cells := 0, slots := 0, locals := 24 } D y b z G I J [.ref (G.1 22), .int mny] (fun r u => (r = (f_X9_punch I mny).1 ∧ u.2.1 = (f_X9_punch I mny).2) ∧ u.1 = G ∧ u.2.2 = J) 0 0 := by
  refine w_enter (by decide) rfl (Nat.le_of_ble_eq_true rfl) rfl ?_
  intro p e s m below meth c ls X hr hlk hnm hw hst hl
  have hx := X.1.1
  have hb := X.1.2.1
  obtain ⟨po_c_X9_punch, epo⟩ : ∃ qpo9 : Int32 → wS → Prop, qpo9 = (fun r u => (r = (f_X9_punch I mny).1 ∧ u.2.1 = (f_X9_punch I mny).2) ∧ u.1 = G ∧ u.2.2 = J) := ⟨_, rfl⟩
  rw [← epo]
  refine lv_aload_n hx hb dX9_punch_0 rfl (lv_at hl 0 rfl) ?_
  refine lv_iconst (v := 0) hx hb dX9_punch_1 (by decide) ?_
  refine w_put X hw 10 0 (hL 22 (by decide)) rfl (by decide) k_X9 in_X9_punch_X9 (by decide) (by decide +kernel) rfl rfl (t := .int) (by decide +kernel) rfl rfl (fun _ => rfl) (fun _ => Nat.le_of_ble_eq_true rfl) dX9_punch_2 (fun H locs hw => ?_)
  refine lv_aload_n hx hb dX9_punch_5 rfl (lv_at hl 0 rfl) ?_
  refine w_get X hw 10 35 (hL 22 (by decide)) rfl (by decide) k_X9 in_X9_punch_X9 (by decide) (by decide +kernel) rfl (v := .ref (G.1 65)) rfl dX9_punch_6 ?_
  refine lv_aload_n hx hb dX9_punch_9 rfl (lv_at hl 0 rfl) ?_
  refine w_get X hw 10 29 (hL 22 (by decide)) rfl (by decide) k_X9 in_X9_punch_X9 (by decide) (by decide +kernel) rfl (v := .int (I 22 29)) rfl dX9_punch_10 ?_
  refine lv_iconst (v := 0) hx hb dX9_punch_13 (by decide) ?_
  have h_14 : vp_in (I 22 29) 61 := by rw [vp_in_iff]; omega
  refine w_ist X hw (hL 65 (by decide)) rfl h_14 dX9_punch_14 (fun H locs hw => ?_)
  refine lv_aload_n hx hb dX9_punch_15 rfl (lv_at hl 0 rfl) ?_
  refine w_get X hw 10 36 (hL 22 (by decide)) rfl (by decide) k_X9 in_X9_punch_X9 (by decide) (by decide +kernel) rfl (v := .ref (G.1 66)) rfl dX9_punch_16 ?_
  refine lv_aload_n hx hb dX9_punch_19 rfl (lv_at hl 0 rfl) ?_
  refine w_get X hw 10 29 (hL 22 (by decide)) rfl (by decide) k_X9 in_X9_punch_X9 (by decide) (by decide +kernel) rfl (v := .int (I 22 29)) rfl dX9_punch_20 ?_
  refine lv_iconst (v := 0) hx hb dX9_punch_23 (by decide) ?_
  have h_24 : vp_in (I 22 29) 61 := by rw [vp_in_iff]; omega
  refine w_ist X hw (hL 66 (by decide)) rfl h_24 dX9_punch_24 (fun H locs hw => ?_)
  refine lv_aload_n hx hb dX9_punch_25 rfl (lv_at hl 0 rfl) ?_
  refine w_get X hw 10 29 (hL 22 (by decide)) rfl (by decide) k_X9 in_X9_punch_X9 (by decide) (by decide +kernel) rfl (v := .int (I 22 29)) rfl dX9_punch_26 ?_
  refine lv_iconst (v := 1) hx hb dX9_punch_29 (by decide) ?_
  refine lv_isub hx hb dX9_punch_30 ?_
  refine lv_topi (fun x_1 ex_1 => ?_)
  refine lv_istore_n (lv' := [(2, .int x_1), (0, .ref (G.1 22)), (1, .int mny)]) hx hb dX9_punch_31 rfl hl (by decide) rfl (fun ls hl => ?_)
  refine lp_X9_punch_f  X hst hL (Nat.le_of_ble_eq_true rfl) (Nat.le_of_ble_eq_true rfl) (Nat.le_of_ble_eq_true rfl) (Nat.le_of_ble_eq_true rfl) mny  61 (wU (wU (wU I 22 0 0) 65 (I 22 29).toNatClampNeg 0) 66 (I 22 29).toNatClampNeg 0) x_1 _ _ _ (by rw [ex_1]; have e1 := i_m1 (q := I 22 29) (by omega); exact ⟨by omega, (show (I 22 29 - 1).toInt < (I 22 29).toInt from by omega), hC.2, hN.1, hN.2, hZ⟩) (by rw [ex_1]; have e1 := i_m1 (q := I 22 29) (by omega); omega) hw (lv_sub hl [0, 1, 2] rfl) (fun H locs ls hw hl => ?_)
  obtain ⟨Q_2, eQ_2⟩ : ∃ q9 : wI × Int32, q9 = l_X9_punch_f  61 (wU (wU (wU I 22 0 0) 65 (I 22 29).toNatClampNeg 0) 66 (I 22 29).toNatClampNeg 0) x_1 mny := ⟨_, rfl⟩
  rw [← eQ_2] at hw hl
  refine lv_iload_n hx hb dX9_punch_189 rfl (lv_at hl 2 rfl) ?_
  refine lv_if_eq (tgt := 202) hx hb dX9_punch_190 (by decide) (fun c_190 => ?_) (fun c_190 => ?_)
  · refine lv_aload_n hx hb dX9_punch_202 rfl (lv_at hl 1 rfl) ?_
    refine w_get X hw 10 35 (hL 22 (by decide)) rfl (by decide) k_X9 in_X9_punch_X9 (by decide) (by decide +kernel) rfl (v := .ref (G.1 65)) rfl dX9_punch_203 ?_
    refine lv_iconst (v := 0) hx hb dX9_punch_206 (by decide) ?_
    have h_207 : vp_in 0 61 := by unfold vp_in; decide
    refine w_ild X hw (hL 65 (by decide)) rfl h_207 dX9_punch_207 ?_
    refine W.eq (g2 := F0 m 208 ls [.int (Q_2.1 65 0)]) rfl ?_
    have hp_208 : po_c_X9_punch (Q_2.1 65 0) (G, Q_2.1, J) := by
        obtain rfl := ex_1.symm
        obtain rfl := eQ_2.symm
        rw [epo]
        have ef : f_X9_punch I mny = ((l_X9_punch_f  61 (wU (wU (wU I 22 0 0) 65 (I 22 29).toNatClampNeg 0) 66 (I 22 29).toNatClampNeg 0) ((I 22 29) - 1) mny).1 65 0, (l_X9_punch_f  61 (wU (wU (wU I 22 0 0) 65 (I 22 29).toNatClampNeg 0) 66 (I 22 29).toNatClampNeg 0) ((I 22 29) - 1) mny).1) := by unfold f_X9_punch; rw [if_pos c_190]
        exact ⟨⟨by rw [ef], by rw [ef]⟩, rfl, rfl⟩
    exact w_iret X hr hlk hw hp_208 (Nat.le_of_ble_eq_true rfl) (Nat.le_of_ble_eq_true rfl) dX9_punch_208
  · refine lv_aload_n hx hb dX9_punch_193 rfl (lv_at hl 1 rfl) ?_
    refine w_get X hw 10 36 (hL 22 (by decide)) rfl (by decide) k_X9 in_X9_punch_X9 (by decide) (by decide +kernel) rfl (v := .ref (G.1 66)) rfl dX9_punch_194 ?_
    refine lv_iconst (v := 0) hx hb dX9_punch_197 (by decide) ?_
    have h_198 : vp_in 0 61 := by unfold vp_in; decide
    refine w_ild X hw (hL 66 (by decide)) rfl h_198 dX9_punch_198 ?_
    refine W.eq (g2 := F0 m 199 ls [.int (Q_2.1 66 0)]) rfl ?_
    refine lv_goto (tgt := 208) hx hb dX9_punch_199 (by decide) ?_
    have hp_208 : po_c_X9_punch (Q_2.1 66 0) (G, Q_2.1, J) := by
        obtain rfl := ex_1.symm
        obtain rfl := eQ_2.symm
        rw [epo]
        have ef : f_X9_punch I mny = ((l_X9_punch_f  61 (wU (wU (wU I 22 0 0) 65 (I 22 29).toNatClampNeg 0) 66 (I 22 29).toNatClampNeg 0) ((I 22 29) - 1) mny).1 66 0, (l_X9_punch_f  61 (wU (wU (wU I 22 0 0) 65 (I 22 29).toNatClampNeg 0) 66 (I 22 29).toNatClampNeg 0) ((I 22 29) - 1) mny).1) := by unfold f_X9_punch; rw [if_neg c_190]
        exact ⟨⟨by rw [ef], by rw [ef]⟩, rfl, rfl⟩
    exact w_iret X hr hlk hw hp_208 (Nat.le_of_ble_eq_true rfl) (Nat.le_of_ble_eq_true rfl) dX9_punch_208
