def f_X0_tryLast (I : wI) (J : wJ) (so : Int32) (be : Int32) : wI := (if (be - (I 11 so.toNatClampNeg)) < 0 then I else (if (f_X0_flawsBetween I J (be - (I 11 so.toNatClampNeg)) be) ≤ (I 13 so.toNatClampNeg) then (if (I 14 be.toNatClampNeg) < ((I 14 (be - (I 11 so.toNatClampNeg)).toNatClampNeg) + (I 12 so.toNatClampNeg)) then (wU (wU I 14 be.toNatClampNeg ((I 14 (be - (I 11 so.toNatClampNeg)).toNatClampNeg) + (I 12 so.toNatClampNeg))) 15 be.toNatClampNeg ((I 15 (be - (I 11 so.toNatClampNeg)).toNatClampNeg) + 1)) else (if ((I 14 (be - (I 11 so.toNatClampNeg)).toNatClampNeg) + (I 12 so.toNatClampNeg)) = (I 14 be.toNatClampNeg) then (if (I 15 be.toNatClampNeg) ≤ ((I 15 (be - (I 11 so.toNatClampNeg)).toNatClampNeg) + 1) then I else (wU (wU I 14 be.toNatClampNeg ((I 14 (be - (I 11 so.toNatClampNeg)).toNatClampNeg) + (I 12 so.toNatClampNeg))) 15 be.toNatClampNeg ((I 15 (be - (I 11 so.toNatClampNeg)).toNatClampNeg) + 1))) else I)) else I))
theorem fr_f_X0_tryLast (I : wI) (J : wJ) (so : Int32) (be : Int32) (q9 : Nat) (h14 : q9 ≠ 14) (h15 : q9 ≠ 15) : (f_X0_tryLast I J so be) q9 = I q9 := by
  unfold f_X0_tryLast
  repeat' split
  all_goals first | with_reducible rfl | (simp only [wU_ne _ _ _ h14, wU_ne _ _ _ h15])
set_option maxRecDepth 20000 in
theorem in_X0_tryLast_X0 : ∀ w ∈ u_ws RX0 TX0 8, w ∈ wsX0_tryLast := fun _ h => List.mem_cons_of_mem _ (List.mem_append_right _ h)
set_option maxHeartbeats 4000000 in
set_option maxRecDepth 100000 in
theorem c_X0_tryLast (l : Launch) (D : va_G) (y : Nat → ClassId) (b : Nat) (z : Nat → Nat) (G : wG) (I : wI) (J : wJ) (hL : w_full G) (so : Int32) (be : Int32) (hs : vp_in so 6) (hbe : 0 ≤ be.toInt ∧ be.toInt ≤ 60) (hz : 0 ≤ (I 11 so.toNatClampNeg).toInt ∧ (I 11 so.toNatClampNeg).toInt ≤ 12) : mV l yX0_tryLast wsX0_tryLast { frames := 2, cells := 0, slots := 0, locals := 43 } D y b z G I J [.ref (G.1 10), .int so, .int be] (fun u => u.2.1 = f_X0_tryLast I J so be ∧ u.1 = G ∧ u.2.2 = J) 0 0 := by
  refine w_enter (by decide) rfl (Nat.le_of_ble_eq_true rfl) rfl ?_
  intro p e s m below meth c ls X hr hlk hnm hw hst hl
  have hx := X.1.1
  have hb := X.1.2.1
  obtain ⟨po_c_X0_tryLast, epo⟩ : ∃ qpo9 : wS → Prop, qpo9 = (fun u => u.2.1 = f_X0_tryLast I J so be ∧ u.1 = G ∧ u.2.2 = J) := ⟨_, rfl⟩
  rw [← epo]
  refine lv_iload_n hx hb dX0_tryLast_0 rfl (lv_at hl 2 rfl) ?_
  refine lv_aload_n hx hb dX0_tryLast_1 rfl (lv_at hl 0 rfl) ?_
  refine w_get X hw 1 0 (hL 10 (by decide)) rfl (by decide) k_X0 in_X0_tryLast_X0 (by decide) (by decide +kernel) rfl (v := .ref (G.1 11)) rfl dX0_tryLast_2 ?_
  refine lv_iload_n hx hb dX0_tryLast_5 rfl (lv_at hl 1 rfl) ?_
  have h_6 : vp_in so 6 := hs
  refine w_ild X hw (hL 11 (by decide)) rfl h_6 dX0_tryLast_6 ?_
  refine lv_isub hx hb dX0_tryLast_7 ?_
  refine lv_topi (fun x_1 ex_1 => ?_)
  refine lv_istore_n (lv' := [(3, .int x_1), (0, .ref (G.1 10)), (1, .int so), (2, .int be)]) hx hb dX0_tryLast_8 rfl hl (by decide) rfl (fun ls hl => ?_)
  refine lv_iload_n hx hb dX0_tryLast_9 rfl (lv_at hl 0 rfl) ?_
  refine lv_if_lt (tgt := 28) hx hb dX0_tryLast_10 (by decide) (fun c_10 => ?_) (fun c_10 => ?_)
  · have hp_28 : po_c_X0_tryLast (G, I, J) := by
        obtain rfl := ex_1.symm
        rw [epo]
        refine ⟨Eq.symm ?_, rfl, rfl⟩
        unfold f_X0_tryLast; rw [if_pos c_10]
    exact w_vret X hr hlk hw hp_28 (Nat.le_of_ble_eq_true rfl) (Nat.le_of_ble_eq_true rfl) dX0_tryLast_28
  · refine lv_aload_n hx hb dX0_tryLast_13 rfl (lv_at hl 1 rfl) ?_
    refine lv_iload_n hx hb dX0_tryLast_14 rfl (lv_at hl 0 rfl) ?_
    refine lv_iload_n hx hb dX0_tryLast_15 rfl (lv_at hl 3 rfl) ?_
    refine w_callVi (As := [.int x_1, .int be]) (rest := []) X hw hst hl (c_X0_flawsBetween l D y b z G I J hL x_1 be) (cwV 2 X.1.2.2.2.2 gX0_tryLast_X0_flawsBetween rfl rfl rfl (by decide +kernel) ⟨Nat.le_of_ble_eq_true rfl, Nat.le_of_ble_eq_true rfl⟩) (w_recv X hw (hL 10 (by decide)) rfl (by decide) k_X0) rfl rfl (Nat.le_of_ble_eq_true rfl) dX0_tryLast_16 ⟨Nat.le_of_ble_eq_true rfl, Nat.le_of_ble_eq_true rfl⟩ (fun r_16_2 u H locs hp_16 hw => ?_)
    obtain ⟨hp_16, rfl⟩ := hp_16
    dsimp only at hw
    refine lv_aload_n hx hb dX0_tryLast_19 rfl (lv_at hl 1 rfl) ?_
    refine w_get X hw 1 2 (hL 10 (by decide)) rfl (by decide) k_X0 in_X0_tryLast_X0 (by decide) (by decide +kernel) rfl (v := .ref (G.1 13)) rfl dX0_tryLast_20 ?_
    refine lv_iload_n hx hb dX0_tryLast_23 rfl (lv_at hl 2 rfl) ?_
    have h_24 : vp_in so 6 := hs
    refine w_ild X hw (hL 13 (by decide)) rfl h_24 dX0_tryLast_24 ?_
    refine lv_icmp_le (tgt := 29) hx hb dX0_tryLast_25 (by decide) (fun c_25 => ?_) (fun c_25 => ?_)
    · refine lv_aload_n hx hb dX0_tryLast_29 rfl (lv_at hl 1 rfl) ?_
      refine w_get X hw 1 3 (hL 10 (by decide)) rfl (by decide) k_X0 in_X0_tryLast_X0 (by decide) (by decide +kernel) rfl (v := .ref (G.1 14)) rfl dX0_tryLast_30 ?_
      refine lv_iload_n hx hb dX0_tryLast_33 rfl (lv_at hl 0 rfl) ?_
      have h_34 : vp_in x_1 61 := by rw [ex_1]; rw [ex_1] at c_10; exact tl_i c_10 hbe hz
      refine w_ild X hw (hL 14 (by decide)) rfl h_34 dX0_tryLast_34 ?_
      refine lv_aload_n hx hb dX0_tryLast_35 rfl (lv_at hl 1 rfl) ?_
      refine w_get X hw 1 1 (hL 10 (by decide)) rfl (by decide) k_X0 in_X0_tryLast_X0 (by decide) (by decide +kernel) rfl (v := .ref (G.1 12)) rfl dX0_tryLast_36 ?_
      refine lv_iload_n hx hb dX0_tryLast_39 rfl (lv_at hl 2 rfl) ?_
      have h_40 : vp_in so 6 := hs
      refine w_ild X hw (hL 12 (by decide)) rfl h_40 dX0_tryLast_40 ?_
      refine lv_iadd hx hb dX0_tryLast_41 ?_
      refine lv_topi (fun x_3 ex_3 => ?_)
      refine lv_istore (lv' := [(4, .int x_3), (3, .int x_1), (0, .ref (G.1 10)), (1, .int so), (2, .int be)]) hx hb dX0_tryLast_42 hl (by decide) rfl (fun ls hl => ?_)
      refine lv_aload_n hx hb dX0_tryLast_44 rfl (lv_at hl 2 rfl) ?_
      refine w_get X hw 1 4 (hL 10 (by decide)) rfl (by decide) k_X0 in_X0_tryLast_X0 (by decide) (by decide +kernel) rfl (v := .ref (G.1 15)) rfl dX0_tryLast_45 ?_
      refine lv_iload_n hx hb dX0_tryLast_48 rfl (lv_at hl 1 rfl) ?_
      have h_49 : vp_in x_1 61 := by rw [ex_1]; rw [ex_1] at c_10; exact tl_i c_10 hbe hz
      refine w_ild X hw (hL 15 (by decide)) rfl h_49 dX0_tryLast_49 ?_
      refine lv_iconst (v := 1) hx hb dX0_tryLast_50 (by decide) ?_
      refine lv_iadd hx hb dX0_tryLast_51 ?_
      refine lv_topi (fun x_4 ex_4 => ?_)
      refine lv_istore (lv' := [(5, .int x_4), (4, .int x_3), (3, .int x_1), (0, .ref (G.1 10)), (1, .int so), (2, .int be)]) hx hb dX0_tryLast_52 hl (by decide) rfl (fun ls hl => ?_)
      refine lv_iload hx hb dX0_tryLast_54 (lv_at hl 1 rfl) ?_
      refine lv_aload_n hx hb dX0_tryLast_56 rfl (lv_at hl 3 rfl) ?_
      refine w_get X hw 1 3 (hL 10 (by decide)) rfl (by decide) k_X0 in_X0_tryLast_X0 (by decide) (by decide +kernel) rfl (v := .ref (G.1 14)) rfl dX0_tryLast_57 ?_
      refine lv_iload_n hx hb dX0_tryLast_60 rfl (lv_at hl 5 rfl) ?_
      have h_61 : vp_in be 61 := tl_b hbe
      refine w_ild X hw (hL 14 (by decide)) rfl h_61 dX0_tryLast_61 ?_
      refine lv_icmp_gt (tgt := 87) hx hb dX0_tryLast_62 (by decide) (fun c_62 => ?_) (fun c_62 => ?_)
      · refine lv_aload_n hx hb dX0_tryLast_87 rfl (lv_at hl 3 rfl) ?_
        refine w_get X hw 1 3 (hL 10 (by decide)) rfl (by decide) k_X0 in_X0_tryLast_X0 (by decide) (by decide +kernel) rfl (v := .ref (G.1 14)) rfl dX0_tryLast_88 ?_
        refine lv_iload_n hx hb dX0_tryLast_91 rfl (lv_at hl 5 rfl) ?_
        refine lv_iload hx hb dX0_tryLast_92 (lv_at hl 1 rfl) ?_
        have h_94 : vp_in be 61 := tl_b hbe
        refine w_ist X hw (hL 14 (by decide)) rfl h_94 dX0_tryLast_94 (fun H locs hw => ?_)
        refine lv_aload_n hx hb dX0_tryLast_95 rfl (lv_at hl 3 rfl) ?_
        refine w_get X hw 1 4 (hL 10 (by decide)) rfl (by decide) k_X0 in_X0_tryLast_X0 (by decide) (by decide +kernel) rfl (v := .ref (G.1 15)) rfl dX0_tryLast_96 ?_
        refine lv_iload_n hx hb dX0_tryLast_99 rfl (lv_at hl 5 rfl) ?_
        refine lv_iload hx hb dX0_tryLast_100 (lv_at hl 0 rfl) ?_
        have h_102 : vp_in be 61 := tl_b hbe
        refine w_ist X hw (hL 15 (by decide)) rfl h_102 dX0_tryLast_102 (fun H locs hw => ?_)
        have hp_103 : po_c_X0_tryLast (G, (wU (wU I 14 be.toNatClampNeg x_3) 15 be.toNatClampNeg x_4), J) := by
            obtain rfl := ex_1.symm
            obtain rfl := hp_16.symm
            obtain rfl := ex_3.symm
            obtain rfl := ex_4.symm
            rw [epo]
            refine ⟨Eq.symm ?_, rfl, rfl⟩
            unfold f_X0_tryLast; rw [if_neg c_10, if_pos c_25, if_pos c_62]
        exact w_vret X hr hlk hw hp_103 (Nat.le_of_ble_eq_true rfl) (Nat.le_of_ble_eq_true rfl) dX0_tryLast_103
      · refine lv_iload hx hb dX0_tryLast_65 (lv_at hl 1 rfl) ?_
        refine lv_aload_n hx hb dX0_tryLast_67 rfl (lv_at hl 3 rfl) ?_
        refine w_get X hw 1 3 (hL 10 (by decide)) rfl (by decide) k_X0 in_X0_tryLast_X0 (by decide) (by decide +kernel) rfl (v := .ref (G.1 14)) rfl dX0_tryLast_68 ?_
        refine lv_iload_n hx hb dX0_tryLast_71 rfl (lv_at hl 5 rfl) ?_
        have h_72 : vp_in be 61 := tl_b hbe
        refine w_ild X hw (hL 14 (by decide)) rfl h_72 dX0_tryLast_72 ?_
        refine lv_icmp_ne (tgt := 103) hx hb dX0_tryLast_73 (by decide) (fun c_73 => ?_) (fun c_73 => ?_)
        · have hp_103 : po_c_X0_tryLast (G, I, J) := by
              obtain rfl := ex_1.symm
              obtain rfl := hp_16.symm
              obtain rfl := ex_3.symm
              obtain rfl := ex_4.symm
              rw [epo]
              refine ⟨Eq.symm ?_, rfl, rfl⟩
              unfold f_X0_tryLast; rw [if_neg c_10, if_pos c_25, if_neg c_62, if_neg c_73]
          exact w_vret X hr hlk hw hp_103 (Nat.le_of_ble_eq_true rfl) (Nat.le_of_ble_eq_true rfl) dX0_tryLast_103
        · refine lv_iload hx hb dX0_tryLast_76 (lv_at hl 0 rfl) ?_
          refine lv_aload_n hx hb dX0_tryLast_78 rfl (lv_at hl 3 rfl) ?_
          refine w_get X hw 1 4 (hL 10 (by decide)) rfl (by decide) k_X0 in_X0_tryLast_X0 (by decide) (by decide +kernel) rfl (v := .ref (G.1 15)) rfl dX0_tryLast_79 ?_
          refine lv_iload_n hx hb dX0_tryLast_82 rfl (lv_at hl 5 rfl) ?_
          have h_83 : vp_in be 61 := tl_b hbe
          refine w_ild X hw (hL 15 (by decide)) rfl h_83 dX0_tryLast_83 ?_
          refine lv_icmp_ge (tgt := 103) hx hb dX0_tryLast_84 (by decide) (fun c_84 => ?_) (fun c_84 => ?_)
          · have hp_103 : po_c_X0_tryLast (G, I, J) := by
                obtain rfl := ex_1.symm
                obtain rfl := hp_16.symm
                obtain rfl := ex_3.symm
                obtain rfl := ex_4.symm
                rw [epo]
                refine ⟨Eq.symm ?_, rfl, rfl⟩
                unfold f_X0_tryLast; rw [if_neg c_10, if_pos c_25, if_neg c_62, if_pos c_73, if_pos c_84]
            exact w_vret X hr hlk hw hp_103 (Nat.le_of_ble_eq_true rfl) (Nat.le_of_ble_eq_true rfl) dX0_tryLast_103
          · refine lv_aload_n hx hb dX0_tryLast_87 rfl (lv_at hl 3 rfl) ?_
            refine w_get X hw 1 3 (hL 10 (by decide)) rfl (by decide) k_X0 in_X0_tryLast_X0 (by decide) (by decide +kernel) rfl (v := .ref (G.1 14)) rfl dX0_tryLast_88 ?_
            refine lv_iload_n hx hb dX0_tryLast_91 rfl (lv_at hl 5 rfl) ?_
            refine lv_iload hx hb dX0_tryLast_92 (lv_at hl 1 rfl) ?_
            have h_94 : vp_in be 61 := tl_b hbe
            refine w_ist X hw (hL 14 (by decide)) rfl h_94 dX0_tryLast_94 (fun H locs hw => ?_)
            refine lv_aload_n hx hb dX0_tryLast_95 rfl (lv_at hl 3 rfl) ?_
            refine w_get X hw 1 4 (hL 10 (by decide)) rfl (by decide) k_X0 in_X0_tryLast_X0 (by decide) (by decide +kernel) rfl (v := .ref (G.1 15)) rfl dX0_tryLast_96 ?_
            refine lv_iload_n hx hb dX0_tryLast_99 rfl (lv_at hl 5 rfl) ?_
            refine lv_iload hx hb dX0_tryLast_100 (lv_at hl 0 rfl) ?_
            have h_102 : vp_in be 61 := tl_b hbe
            refine w_ist X hw (hL 15 (by decide)) rfl h_102 dX0_tryLast_102 (fun H locs hw => ?_)
            have hp_103 : po_c_X0_tryLast (G, (wU (wU I 14 be.toNatClampNeg x_3) 15 be.toNatClampNeg x_4), J) := by
                obtain rfl := ex_1.symm
                obtain rfl := hp_16.symm
                obtain rfl := ex_3.symm
                obtain rfl := ex_4.symm
                rw [epo]
                refine ⟨Eq.symm ?_, rfl, rfl⟩
                unfold f_X0_tryLast; rw [if_neg c_10, if_pos c_25, if_neg c_62, if_pos c_73, if_neg c_84]
            exact w_vret X hr hlk hw hp_103 (Nat.le_of_ble_eq_true rfl) (Nat.le_of_ble_eq_true rfl) dX0_tryLast_103
    · have hp_28 : po_c_X0_tryLast (G, I, J) := by
          obtain rfl := ex_1.symm
          obtain rfl := hp_16.symm
          rw [epo]
          refine ⟨Eq.symm ?_, rfl, rfl⟩
          unfold f_X0_tryLast; rw [if_neg c_10, if_neg c_25]
      exact w_vret X hr hlk hw hp_28 (Nat.le_of_ble_eq_true rfl) (Nat.le_of_ble_eq_true rfl) dX0_tryLast_28
set_option maxRecDepth 20000 in
theorem in_X0_layStoppers_X0 : ∀ w ∈ u_ws RX0 TX0 8, w ∈ wsX0_layStoppers := fun _ h => List.mem_cons_of_mem _ (List.mem_append_right _ h)
def l_X0_ls_s  : Nat → wI → Int32 → Int32 → wJ → wI × Int32
  | 0, I, so, be, J => (I, so)
  | nf + 1, I, so, be, J => (if (I 10 5) ≤ so then (I, so) else (if 6 ≤ so then (I, so) else (l_X0_ls_s nf (f_X0_tryLast I J so be) (so + 1) be J)))
set_option maxHeartbeats 4000000 in
set_option maxRecDepth 100000 in
theorem lp_X0_ls_s {p : Program} {l : Launch} {e : Env} {R : Room} {s : State} {m : MethodId} {args : Array Value} {below : List Frame} {meth : Method} {c : Code} {cells slots : Nat} {Q : State → Prop} {D : va_G} {y : Nat → ClassId} {b : Nat} {z : Nat → Nat} {G : wG} {J : wJ}  (X : wCx p m c cX0_layStoppers 3 s args wsX0_layStoppers yX0_layStoppers.cls D y b) (hst : St z b s) (hL : w_full G) (hRf : 3 ≤ R.frames) (hRl : 68 ≤ R.locals) (hRc : cells ≤ R.cells) (hRs : slots ≤ R.slots) (be : Int32)  : ∀ (nf : Nat) (I : wI) (so : Int32) (H : Heap) (locs : List Loc) (ls : Array Slot), (0 ≤ so.toInt ∧ so.toInt ≤ 6 ∧ (0 ≤ be.toInt ∧ be.toInt ≤ 60) ∧ (∀ j : Nat, j < 6 → 0 ≤ (I 11 j).toInt ∧ (I 11 j).toInt ≤ 12)) → ((6 - so.toInt).toNat < nf) → Wh D y b G I J s H locs → lv_has ls 3 [(2, .int so), (0, .ref (G.1 10)), (1, .int be)] → (∀ (H : Heap) (locs : List Loc) (ls : Array Slot), Wh D y b G (l_X0_ls_s nf I so be J).1 J s H locs → lv_has ls 3 [(2, .int (l_X0_ls_s nf I so be J).2), (0, .ref (G.1 10)), (1, .int be)] → W p l e R s m args below meth c H locs cells slots Q (F0 m 86 ls [])) → W p l e R s m args below meth c H locs cells slots Q (F0 m 60 ls []) := by
  have hx := X.1.1
  have hb := X.1.2.1
  intro nf
  induction nf with
  | zero => intro I so H locs ls hi hm; exact absurd hm (by omega)
  | succ nf ih =>
    intro I so H locs ls hi hm hw hl kk
    refine lv_iload_n hx hb dX0_layStoppers_60 rfl (lv_at hl 0 rfl) ?_
    refine lv_aload_n hx hb dX0_layStoppers_61 rfl (lv_at hl 1 rfl) ?_
    refine w_get X hw 1 5 (hL 10 (by decide)) rfl (by decide) k_X0 in_X0_layStoppers_X0 (by decide) (by decide +kernel) rfl (v := .int (I 10 5)) rfl dX0_layStoppers_62 ?_
    refine lv_icmp_ge (tgt := 86) hx hb dX0_layStoppers_65 (by decide) (fun c_65 => ?_) (fun c_65 => ?_)
    · have hw9 := hw
      have hl9 := hl
      have el : l_X0_ls_s (nf + 1) I so be J = (I, so) := by rw [l_X0_ls_s]; rw [if_pos c_65]
      exact kk _ _ _ (by rw [el]; exact hw9) (by rw [el]; exact (lv_sub hl9 [0, 1, 2] rfl))
    · refine lv_iload_n hx hb dX0_layStoppers_68 rfl (lv_at hl 0 rfl) ?_
      refine lv_bipush (v := 6) hx hb dX0_layStoppers_69 (by decide) ?_
      refine lv_icmp_ge (tgt := 86) hx hb dX0_layStoppers_71 (by decide) (fun c_71 => ?_) (fun c_71 => ?_)
      · have hw9 := hw
        have hl9 := hl
        have el : l_X0_ls_s (nf + 1) I so be J = (I, so) := by rw [l_X0_ls_s]; rw [if_neg c_65, if_pos c_71]
        exact kk _ _ _ (by rw [el]; exact hw9) (by rw [el]; exact (lv_sub hl9 [0, 1, 2] rfl))
      · refine lv_aload_n hx hb dX0_layStoppers_74 rfl (lv_at hl 1 rfl) ?_
        refine lv_iload_n hx hb dX0_layStoppers_75 rfl (lv_at hl 0 rfl) ?_
        refine lv_iload_n hx hb dX0_layStoppers_76 rfl (lv_at hl 2 rfl) ?_
        refine w_callVv (As := [.int so, .int be]) (rest := []) X hw hst hl (c_X0_tryLast l D y b z G I J hL so be (cn_i c_71 ⟨hi.1, hi.2.1⟩) hi.2.2.1 (hi.2.2.2 _ (tl_n c_71 ⟨hi.1, hi.2.1⟩))) (cwV 2 X.1.2.2.2.2 gX0_layStoppers_X0_tryLast rfl rfl rfl (by decide +kernel) ⟨Nat.le_trans (Nat.le_of_ble_eq_true rfl) hRf, Nat.le_trans (Nat.le_of_ble_eq_true rfl) hRl⟩) (w_recv X hw (hL 10 (by decide)) rfl (by decide) k_X0) rfl rfl (Nat.le_of_ble_eq_true rfl) dX0_layStoppers_77 ⟨hRc, hRs⟩ (fun u H locs hp_77 hw => ?_)
        obtain ⟨G_77_1, I_77_1, J_77_1⟩ := u
        dsimp only at hw hp_77
        obtain ⟨hI_77_1, eG_77, eJ_77⟩ := hp_77
        subst G_77_1 J_77_1
        obtain ⟨x_2, ex_2⟩ : ∃ y : Int32, y = so + 1 := ⟨_, rfl⟩
        refine lv_iinc (v := x_2) (lv' := [(2, .int x_2), (0, .ref (G.1 10)), (1, .int be)]) hx hb dX0_layStoppers_80 hl (k := 0) rfl (by rw [ex_2]; rfl) (by decide) rfl (fun ls hl => ?_)
        refine lv_goto (tgt := 60) hx hb dX0_layStoppers_83 (by decide) ?_
        have hw9 := hw
        have hl9 := hl
        obtain rfl := hI_77_1.symm
        obtain rfl := ex_2.symm
        have el : l_X0_ls_s (nf + 1) I so be J = l_X0_ls_s nf (f_X0_tryLast I J so be) (so + 1) be J := by rw [l_X0_ls_s]; rw [if_neg c_65, if_neg c_71]
        exact ih (f_X0_tryLast I J so be) (so + 1) _ _ _ (by rw [fr_f_X0_tryLast I J so be 11 (by decide) (by decide)]; exact ⟨(cn_inv c_71 ⟨hi.1, hi.2.1⟩).1, (cn_inv c_71 ⟨hi.1, hi.2.1⟩).2, hi.2.2⟩) (cn_m c_71 ⟨hi.1, hi.2.1⟩ hm) hw9 (lv_sub hl9 [0, 1, 2] rfl) (fun H locs ls hw hl => kk H locs ls (by rw [el]; exact hw) (by rw [el]; exact hl))
theorem fr_X0_ls_s   : ∀ (nf : Nat) (I : wI) (so : Int32) (be : Int32) (J : wJ) (q9 : Nat) (h14 : q9 ≠ 14) (h15 : q9 ≠ 15), (l_X0_ls_s nf I so be J).1 q9 = I q9 := by
  intro nf
  induction nf with
  | zero => intros; rfl
  | succ nf ih =>
    intro I so be J q9 h14 h15
    rw [l_X0_ls_s]
    repeat' split
    all_goals first | with_reducible rfl | (rw [ih _ _ _ _ q9 h14 h15]; done) | (rw [ih _ _ _ _ q9 h14 h15]; simp only [wU_ne _ _ _ h14, wU_ne _ _ _ h15, fr_f_X0_tryLast _ _ _ _ _ h14 h15]) | (simp only [wU_ne _ _ _ h14, wU_ne _ _ _ h15, fr_f_X0_tryLast _ _ _ _ _ h14 h15])
def l_X0_ls_b  : Nat → wI → Int32 → wJ → wI × Int32
  | 0, I, be, J => (I, be)
  | nf + 1, I, be, J => (if (I 10 6) < be then (I, be) else (if 60 < be then (I, be) else (l_X0_ls_b nf ((l_X0_ls_s  7 (wU (wU I 14 be.toNatClampNeg (I 14 (be - 1).toNatClampNeg)) 15 be.toNatClampNeg (I 15 (be - 1).toNatClampNeg)) 0 be J).1) (be + 1) J)))
set_option maxHeartbeats 4000000 in
set_option maxRecDepth 100000 in
theorem lp_X0_ls_b {p : Program} {l : Launch} {e : Env} {R : Room} {s : State} {m : MethodId} {args : Array Value} {below : List Frame} {meth : Method} {c : Code} {cells slots : Nat} {Q : State → Prop} {D : va_G} {y : Nat → ClassId} {b : Nat} {z : Nat → Nat} {G : wG} {J : wJ}  (X : wCx p m c cX0_layStoppers 3 s args wsX0_layStoppers yX0_layStoppers.cls D y b) (hst : St z b s) (hL : w_full G) (hRf : 3 ≤ R.frames) (hRl : 68 ≤ R.locals) (hRc : cells ≤ R.cells) (hRs : slots ≤ R.slots)   : ∀ (nf : Nat) (I : wI) (be : Int32) (H : Heap) (locs : List Loc) (ls : Array Slot), (1 ≤ be.toInt ∧ be.toInt ≤ 61 ∧ (∀ j : Nat, j < 6 → 0 ≤ (I 11 j).toInt ∧ (I 11 j).toInt ≤ 12)) → ((61 - be.toInt).toNat < nf) → Wh D y b G I J s H locs → lv_has ls 3 [(1, .int be), (0, .ref (G.1 10))] → (∀ (H : Heap) (locs : List Loc) (ls : Array Slot), Wh D y b G (l_X0_ls_b nf I be J).1 J s H locs → lv_has ls 3 [(1, .int (l_X0_ls_b nf I be J).2), (0, .ref (G.1 10))] → W p l e R s m args below meth c H locs cells slots Q (F0 m 92 ls [])) → W p l e R s m args below meth c H locs cells slots Q (F0 m 16 ls []) := by
  have hx := X.1.1
  have hb := X.1.2.1
  intro nf
  induction nf with
  | zero => intro I be H locs ls hi hm; exact absurd hm (by omega)
  | succ nf ih =>
    intro I be H locs ls hi hm hw hl kk
    refine lv_iload_n hx hb dX0_layStoppers_16 rfl (lv_at hl 0 rfl) ?_
    refine lv_aload_n hx hb dX0_layStoppers_17 rfl (lv_at hl 1 rfl) ?_
    refine w_get X hw 1 6 (hL 10 (by decide)) rfl (by decide) k_X0 in_X0_layStoppers_X0 (by decide) (by decide +kernel) rfl (v := .int (I 10 6)) rfl dX0_layStoppers_18 ?_
    refine lv_icmp_gt (tgt := 92) hx hb dX0_layStoppers_21 (by decide) (fun c_21 => ?_) (fun c_21 => ?_)
    · have hw9 := hw
      have hl9 := hl
      have el : l_X0_ls_b (nf + 1) I be J = (I, be) := by rw [l_X0_ls_b]; rw [if_pos c_21]
      exact kk _ _ _ (by rw [el]; exact hw9) (by rw [el]; exact (lv_sub hl9 [0, 1] rfl))
    · refine lv_iload_n hx hb dX0_layStoppers_24 rfl (lv_at hl 0 rfl) ?_
      refine lv_bipush (v := 60) hx hb dX0_layStoppers_25 (by decide) ?_
      refine lv_icmp_gt (tgt := 92) hx hb dX0_layStoppers_27 (by decide) (fun c_27 => ?_) (fun c_27 => ?_)
      · have hw9 := hw
        have hl9 := hl
        have el : l_X0_ls_b (nf + 1) I be J = (I, be) := by rw [l_X0_ls_b]; rw [if_neg c_21, if_pos c_27]
        exact kk _ _ _ (by rw [el]; exact hw9) (by rw [el]; exact (lv_sub hl9 [0, 1] rfl))
      · refine lv_aload_n hx hb dX0_layStoppers_30 rfl (lv_at hl 1 rfl) ?_
        refine w_get X hw 1 3 (hL 10 (by decide)) rfl (by decide) k_X0 in_X0_layStoppers_X0 (by decide) (by decide +kernel) rfl (v := .ref (G.1 14)) rfl dX0_layStoppers_31 ?_
        refine lv_iload_n hx hb dX0_layStoppers_34 rfl (lv_at hl 0 rfl) ?_
        refine lv_aload_n hx hb dX0_layStoppers_35 rfl (lv_at hl 1 rfl) ?_
        refine w_get X hw 1 3 (hL 10 (by decide)) rfl (by decide) k_X0 in_X0_layStoppers_X0 (by decide) (by decide +kernel) rfl (v := .ref (G.1 14)) rfl dX0_layStoppers_36 ?_
        refine lv_iload_n hx hb dX0_layStoppers_39 rfl (lv_at hl 0 rfl) ?_
        refine lv_iconst (v := 1) hx hb dX0_layStoppers_40 (by decide) ?_
        refine lv_isub hx hb dX0_layStoppers_41 ?_
        have h_42 : vp_in (be - 1) 61 := tl_p hi.1 c_27
        refine w_ild X hw (hL 14 (by decide)) rfl h_42 dX0_layStoppers_42 ?_
        refine lv_topi (fun x_1 ex_1 => ?_)
        have h_43 : vp_in be 61 := tl_b ⟨by omega, tl_60 c_27⟩
        refine w_ist X hw (hL 14 (by decide)) rfl h_43 dX0_layStoppers_43 (fun H locs hw => ?_)
        refine lv_aload_n hx hb dX0_layStoppers_44 rfl (lv_at hl 1 rfl) ?_
        refine w_get X hw 1 4 (hL 10 (by decide)) rfl (by decide) k_X0 in_X0_layStoppers_X0 (by decide) (by decide +kernel) rfl (v := .ref (G.1 15)) rfl dX0_layStoppers_45 ?_
        refine lv_iload_n hx hb dX0_layStoppers_48 rfl (lv_at hl 0 rfl) ?_
        refine lv_aload_n hx hb dX0_layStoppers_49 rfl (lv_at hl 1 rfl) ?_
        refine w_get X hw 1 4 (hL 10 (by decide)) rfl (by decide) k_X0 in_X0_layStoppers_X0 (by decide) (by decide +kernel) rfl (v := .ref (G.1 15)) rfl dX0_layStoppers_50 ?_
        refine lv_iload_n hx hb dX0_layStoppers_53 rfl (lv_at hl 0 rfl) ?_
        refine lv_iconst (v := 1) hx hb dX0_layStoppers_54 (by decide) ?_
        refine lv_isub hx hb dX0_layStoppers_55 ?_
        have h_56 : vp_in (be - 1) 61 := tl_p hi.1 c_27
        refine w_ild X hw (hL 15 (by decide)) rfl h_56 dX0_layStoppers_56 ?_
        refine W.eq (g2 := F0 m 57 ls [.int (I 15 (be - 1).toNatClampNeg), .int be, .ref (G.1 15)]) rfl ?_
        refine lv_topi (fun x_2 ex_2 => ?_)
        have h_57 : vp_in be 61 := tl_b ⟨by omega, tl_60 c_27⟩
        refine w_ist X hw (hL 15 (by decide)) rfl h_57 dX0_layStoppers_57 (fun H locs hw => ?_)
        refine lv_iconst (v := 0) hx hb dX0_layStoppers_58 (by decide) ?_
        refine lv_istore_n (lv' := [(2, .int 0), (1, .int be), (0, .ref (G.1 10))]) hx hb dX0_layStoppers_59 rfl hl (by decide) rfl (fun ls hl => ?_)
        refine lp_X0_ls_s  X hst hL (Nat.le_trans (Nat.le_of_ble_eq_true rfl) hRf) (Nat.le_trans (Nat.le_of_ble_eq_true rfl) hRl) hRc hRs be  7 (wU (wU I 14 be.toNatClampNeg x_1) 15 be.toNatClampNeg x_2) 0 _ _ _ (⟨by decide, by decide, ⟨by omega, tl_60 c_27⟩, hi.2.2⟩) (by decide) hw (lv_sub hl [0, 2, 1] rfl) (fun H locs ls hw hl => ?_)
        obtain ⟨Q_3, eQ_3⟩ : ∃ q9 : wI × Int32, q9 = l_X0_ls_s  7 (wU (wU I 14 be.toNatClampNeg x_1) 15 be.toNatClampNeg x_2) 0 be J := ⟨_, rfl⟩
        rw [← eQ_3] at hw hl
        have e11 : Q_3.1 11 = I 11 := by rw [eQ_3]; exact fr_X0_ls_s _ _ _ _ _ 11 (by decide) (by decide)
        obtain ⟨x_4, ex_4⟩ : ∃ y : Int32, y = be + 1 := ⟨_, rfl⟩
        refine lv_iinc (v := x_4) (lv' := [(1, .int x_4), (2, .int Q_3.2), (0, .ref (G.1 10))]) hx hb dX0_layStoppers_86 hl (k := 2) rfl (by rw [ex_4]; rfl) (by decide) rfl (fun ls hl => ?_)
        refine lv_goto (tgt := 16) hx hb dX0_layStoppers_89 (by decide) ?_
        have hw9 := hw
        have hl9 := hl
        obtain rfl := ex_1.symm
        obtain rfl := ex_2.symm
        obtain rfl := ex_4.symm
        have el : l_X0_ls_b (nf + 1) I be J = l_X0_ls_b nf Q_3.1 (be + 1) J := by obtain rfl := eQ_3.symm; rw [l_X0_ls_b]; rw [if_neg c_21, if_neg c_27]
        exact ih Q_3.1 (be + 1) _ _ _ (by rw [e11]; exact ⟨(tl_inv hi.1 c_27).1, (tl_inv hi.1 c_27).2, hi.2.2⟩) (tl_m hi.1 c_27 hm) hw9 (lv_sub hl9 [0, 2] rfl) (fun H locs ls hw hl => kk H locs ls (by rw [el]; exact hw) (by rw [el]; exact hl))
theorem fr_X0_ls_b   : ∀ (nf : Nat) (I : wI) (be : Int32)  (J : wJ) (q9 : Nat) (h14 : q9 ≠ 14) (h15 : q9 ≠ 15), (l_X0_ls_b nf I be J).1 q9 = I q9 := by
  intro nf
  induction nf with
  | zero => intros; rfl
  | succ nf ih =>
    intro I be J q9 h14 h15
    rw [l_X0_ls_b]
    repeat' split
    all_goals first | with_reducible rfl | (rw [ih _ _ _ q9 h14 h15]; done) | (rw [ih _ _ _ q9 h14 h15]; simp only [wU_ne _ _ _ h14, wU_ne _ _ _ h15, fr_X0_ls_s _ _ _ _ _ _ h14 h15]) | (simp only [wU_ne _ _ _ h14, wU_ne _ _ _ h15, fr_X0_ls_s _ _ _ _ _ _ h14 h15])
def f_X0_layStoppers (I : wI) (J : wJ)  : wI := (l_X0_ls_b  61 (wU (wU I 14 0 0) 15 0 0) 1  J).1
theorem fr_f_X0_layStoppers (I : wI) (J : wJ)  (q9 : Nat) (h14 : q9 ≠ 14) (h15 : q9 ≠ 15) : (f_X0_layStoppers I J) q9 = I q9 := by
  unfold f_X0_layStoppers
  repeat' split
  all_goals first | with_reducible rfl | (simp only [wU_ne _ _ _ h14, wU_ne _ _ _ h15, fr_X0_ls_b _ _ _ _ _ h14 h15])
set_option maxHeartbeats 4000000 in
set_option maxRecDepth 100000 in
theorem c_X0_layStoppers (l : Launch) (D : va_G) (y : Nat → ClassId) (b : Nat) (z : Nat → Nat) (G : wG) (I : wI) (J : wJ) (hL : w_full G)  (hZ : ∀ j : Nat, j < 6 → 0 ≤ (I 11 j).toInt ∧ (I 11 j).toInt ≤ 12) : mV l yX0_layStoppers wsX0_layStoppers { frames := 3, cells := 0, slots := 0, locals := 68 } D y b z G I J [.ref (G.1 10)] (fun u => u.2.1 = f_X0_layStoppers I J ∧ u.1 = G ∧ u.2.2 = J) 0 0 := by
  refine w_enter (by decide) rfl (Nat.le_of_ble_eq_true rfl) rfl ?_
  intro p e s m below meth c ls X hr hlk hnm hw hst hl
  have hx := X.1.1
  have hb := X.1.2.1
  obtain ⟨po_c_X0_layStoppers, epo⟩ : ∃ qpo9 : wS → Prop, qpo9 = (fun u => u.2.1 = f_X0_layStoppers I J ∧ u.1 = G ∧ u.2.2 = J) := ⟨_, rfl⟩
  rw [← epo]
  refine lv_aload_n hx hb dX0_layStoppers_0 rfl (lv_at hl 0 rfl) ?_
  refine w_get X hw 1 3 (hL 10 (by decide)) rfl (by decide) k_X0 in_X0_layStoppers_X0 (by decide) (by decide +kernel) rfl (v := .ref (G.1 14)) rfl dX0_layStoppers_1 ?_
  refine lv_iconst (v := 0) hx hb dX0_layStoppers_4 (by decide) ?_
  refine lv_iconst (v := 0) hx hb dX0_layStoppers_5 (by decide) ?_
  have h_6 : vp_in 0 61 := by unfold vp_in; decide
  refine w_ist X hw (hL 14 (by decide)) rfl h_6 dX0_layStoppers_6 (fun H locs hw => ?_)
  refine lv_aload_n hx hb dX0_layStoppers_7 rfl (lv_at hl 0 rfl) ?_
  refine w_get X hw 1 4 (hL 10 (by decide)) rfl (by decide) k_X0 in_X0_layStoppers_X0 (by decide) (by decide +kernel) rfl (v := .ref (G.1 15)) rfl dX0_layStoppers_8 ?_
  refine lv_iconst (v := 0) hx hb dX0_layStoppers_11 (by decide) ?_
  refine lv_iconst (v := 0) hx hb dX0_layStoppers_12 (by decide) ?_
  have h_13 : vp_in 0 61 := by unfold vp_in; decide
  refine w_ist X hw (hL 15 (by decide)) rfl h_13 dX0_layStoppers_13 (fun H locs hw => ?_)
  refine lv_iconst (v := 1) hx hb dX0_layStoppers_14 (by decide) ?_
  refine lv_istore_n (lv' := [(1, .int 1), (0, .ref (G.1 10))]) hx hb dX0_layStoppers_15 rfl hl (by decide) rfl (fun ls hl => ?_)
  refine lp_X0_ls_b  X hst hL (Nat.le_of_ble_eq_true rfl) (Nat.le_of_ble_eq_true rfl) (Nat.le_of_ble_eq_true rfl) (Nat.le_of_ble_eq_true rfl)   61 (wU (wU I 14 0 0) 15 0 0) 1 _ _ _ (⟨by decide, by decide, hZ⟩) (by decide) hw (lv_sub hl [0, 1] rfl) (fun H locs ls hw hl => ?_)
  obtain ⟨Q_1, eQ_1⟩ : ∃ q9 : wI × Int32, q9 = l_X0_ls_b  61 (wU (wU I 14 0 0) 15 0 0) 1  J := ⟨_, rfl⟩
  rw [← eQ_1] at hw hl
  have hp_92 : po_c_X0_layStoppers (G, Q_1.1, J) := by
      obtain rfl := eQ_1.symm
      rw [epo]
      refine ⟨Eq.symm ?_, rfl, rfl⟩
      rfl
  exact w_vret X hr hlk hw hp_92 (Nat.le_of_ble_eq_true rfl) (Nat.le_of_ble_eq_true rfl) dX0_layStoppers_92
set_option maxRecDepth 20000 in
theorem in_X0_layStrip_X0 : ∀ w ∈ u_ws RX0 TX0 8, w ∈ wsX0_layStrip := fun _ h => List.mem_cons_of_mem _ (List.mem_append_right _ h)
set_option maxHeartbeats 4000000 in
set_option maxRecDepth 100000 in
theorem c_X0_layStrip (l : Launch) (D : va_G) (y : Nat → ClassId) (b : Nat) (z : Nat → Nat) (G : wG) (I : wI) (J : wJ) (hL : w_full G) (ce lo hi2 : Int32) : mV l yX0_layStrip wsX0_layStrip { frames := 1, cells := 0, slots := 0, locals := 20 } D y b z G I J [.ref (G.1 10), .int ce, .int lo, .int hi2] (fun u => (u.2.1 = wU I 10 6 ce ∧ u.2.2 = wV J 10 7 (p_lay I ce lo hi2)) ∧ u.1 = G) 0 0 := by
  refine w_enter (by decide) rfl (Nat.le_of_ble_eq_true rfl) rfl ?_
  intro p e s m below meth c ls X hr hlk hnm hw hst hl
  have hx := X.1.1
  have hb := X.1.2.1
  obtain ⟨po_c_X0_layStrip, epo⟩ : ∃ qpo9 : wS → Prop, qpo9 = (fun u => (u.2.1 = wU I 10 6 ce ∧ u.2.2 = wV J 10 7 (p_lay I ce lo hi2)) ∧ u.1 = G) := ⟨_, rfl⟩
  rw [← epo]
  refine lv_iload_n hx hb dX0_layStrip_0 rfl (lv_at hl 2 rfl) ?_
  refine lv_i2l hx hb dX0_layStrip_1 rfl ?_
  refine lv_bipush (v := 30) hx hb dX0_layStrip_2 (by decide) ?_
  refine w_callSl (As := [.int 30]) (rest := [.long lo.toInt64]) X hw hst hl (c_X0_lowest l D y b z G I J hL 30) (va_cwS 1 X.1.2.2.2.2 gX0_layStrip_X0_lowest rfl rfl rfl (by decide +kernel) ⟨Nat.le_of_ble_eq_true rfl, Nat.le_of_ble_eq_true rfl⟩) rfl rfl (Nat.le_of_ble_eq_true rfl) dX0_layStrip_4 ⟨Nat.le_of_ble_eq_true rfl, Nat.le_of_ble_eq_true rfl⟩ (fun r_4_1 u H locs hp_4 hw => ?_)
  obtain ⟨hp_4, rfl⟩ := hp_4
  dsimp only at hw
  refine lv_land hx hb dX0_layStrip_7 ?_
  refine lv_iload_n hx hb dX0_layStrip_8 rfl (lv_at hl 3 rfl) ?_
  refine lv_i2l hx hb dX0_layStrip_9 rfl ?_
  refine lv_bipush (v := 30) hx hb dX0_layStrip_10 (by decide) ?_
  refine w_callSl (As := [.int 30]) (rest := [.long hi2.toInt64, .long (lo.toInt64 &&& r_4_1)]) X hw hst hl (c_X0_lowest l D y b z G I J hL 30) (va_cwS 1 X.1.2.2.2.2 gX0_layStrip_X0_lowest rfl rfl rfl (by decide +kernel) ⟨Nat.le_of_ble_eq_true rfl, Nat.le_of_ble_eq_true rfl⟩) rfl rfl (Nat.le_of_ble_eq_true rfl) dX0_layStrip_12 ⟨Nat.le_of_ble_eq_true rfl, Nat.le_of_ble_eq_true rfl⟩ (fun r_12_2 u H locs hp_12 hw => ?_)
  obtain ⟨hp_12, rfl⟩ := hp_12
  dsimp only at hw
  refine lv_land hx hb dX0_layStrip_15 ?_
  refine lv_bipush (v := 30) hx hb dX0_layStrip_16 (by decide) ?_
  refine lv_lshl hx hb dX0_layStrip_18 rfl ?_
  refine lv_lor hx hb dX0_layStrip_19 ?_
  refine lv_topl (fun x_3 ex_3 => ?_)
  refine lv_lstore (lv' := [(4, .long x_3), (0, .ref (G.1 10)), (1, .int ce), (2, .int lo), (3, .int hi2)]) hx hb dX0_layStrip_20 hl (by decide) rfl (fun ls hl => ?_)
  refine lv_aload_n hx hb dX0_layStrip_22 rfl (lv_at hl 1 rfl) ?_
  refine lv_iload_n hx hb dX0_layStrip_23 rfl (lv_at hl 2 rfl) ?_
  refine w_put X hw 1 6 (hL 10 (by decide)) rfl (by decide) k_X0 in_X0_layStrip_X0 (by decide) (by decide +kernel) rfl rfl (t := .int) (by decide +kernel) rfl rfl (fun _ => rfl) (fun _ => Nat.le_of_ble_eq_true rfl) dX0_layStrip_24 (fun H locs hw => ?_)
  refine lv_aload_n hx hb dX0_layStrip_27 rfl (lv_at hl 1 rfl) ?_
  refine lv_lload hx hb dX0_layStrip_28 (lv_at hl 0 rfl) ?_
  refine lv_iload_n hx hb dX0_layStrip_30 rfl (lv_at hl 2 rfl) ?_
  refine w_callSl (As := [.int ce]) (rest := [.long x_3, .ref (G.1 10)]) X hw hst hl (c_X0_lowest l D y b z G (wU I 10 6 ce) J hL ce) (va_cwS 1 X.1.2.2.2.2 gX0_layStrip_X0_lowest rfl rfl rfl (by decide +kernel) ⟨Nat.le_of_ble_eq_true rfl, Nat.le_of_ble_eq_true rfl⟩) rfl rfl (Nat.le_of_ble_eq_true rfl) dX0_layStrip_31 ⟨Nat.le_of_ble_eq_true rfl, Nat.le_of_ble_eq_true rfl⟩ (fun r_31_4 u H locs hp_31 hw => ?_)
  obtain ⟨hp_31, rfl⟩ := hp_31
  dsimp only at hw
  refine lv_land hx hb dX0_layStrip_34 ?_
  refine lv_topl (fun x_5 ex_5 => ?_)
  refine w_putJ X hw 1 7 (hL 10 (by decide)) rfl (by decide) k_X0 in_X0_layStrip_X0 (by decide) (by decide +kernel) rfl rfl (by decide +kernel) (fun _ => rfl) (fun _ => Nat.le_of_ble_eq_true rfl) dX0_layStrip_35 (fun H locs hw => ?_)
  have hp_38 : po_c_X0_layStrip (G, (wU I 10 6 ce), (wV J 10 7 x_5)) := by
      obtain rfl := hp_4.symm
      obtain rfl := hp_12.symm
      obtain rfl := ex_3.symm
      obtain rfl := hp_31.symm
      obtain rfl := ex_5.symm
      rw [epo]
      exact ⟨⟨rfl, rfl⟩, rfl⟩
  exact w_vret X hr hlk hw hp_38 (Nat.le_of_ble_eq_true rfl) (Nat.le_of_ble_eq_true rfl) dX0_layStrip_38
