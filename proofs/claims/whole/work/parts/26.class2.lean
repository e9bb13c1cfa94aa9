set_option maxRecDepth 20000 in
theorem in_X2_numberUpTo_X2 : ∀ w ∈ u_ws RX2 TX2 4, w ∈ wsX2_numberUpTo := fun _ h => List.mem_cons_of_mem _ (List.mem_append_left _ (List.mem_append_right _ h))
def l_X2_numberUpTo  : Nat → wI → Int32 → Int32 → Int32 → Int32 → wI × Int32 × Int32
  | 0, I, k, v, be, dg => (I, k, v)
  | nf + 1, I, k, v, be, dg => (if be ≤ k then (I, k, v) else (l_X2_numberUpTo nf I (k + 1) (((10 : Int32) * v) + ((f_X6_at I k) - 48)) be dg))
set_option maxHeartbeats 4000000 in
set_option maxRecDepth 100000 in
theorem lp_X2_numberUpTo {p : Program} {l : Launch} {e : Env} {R : Room} {s : State} {m : MethodId} {args : Array Value} {below : List Frame} {meth : Method} {c : Code} {cells slots : Nat} {Q : State → Prop} {D : va_G} {y : Nat → ClassId} {b : Nat} {z : Nat → Nat} {G : wG} {J : wJ}  (X : wCx p m c cX2_numberUpTo 5 s args wsX2_numberUpTo yX2_numberUpTo.cls D y b) (hst : St z b s) (hL : w_full G) (hRf : 1 ≤ R.frames) (hRl : 21 ≤ R.locals) (hRc : cells ≤ R.cells) (hRs : slots ≤ R.slots) (be : Int32) (dg : Int32)  : ∀ (nf : Nat) (I : wI) (k : Int32) (v : Int32) (H : Heap) (locs : List Loc) (ls : Array Slot), (k.toInt ≤ be.toInt ∧ (I 1 1).toInt ≤ 400) → ((be.toInt - k.toInt).toNat < nf) → Wh D y b G I J s H locs → lv_has ls 5 [(4, .int k), (3, .int v), (0, .ref (G.1 5)), (1, .int be), (2, .int dg)] → (∀ (H : Heap) (locs : List Loc) (ls : Array Slot), Wh D y b G (l_X2_numberUpTo nf I k v be dg).1 J s H locs → lv_has ls 5 [(4, .int (l_X2_numberUpTo nf I k v be dg).2.1), (3, .int (l_X2_numberUpTo nf I k v be dg).2.2), (0, .ref (G.1 5)), (1, .int be), (2, .int dg)] → W p l e R s m args below meth c H locs cells slots Q (F0 m 57 ls [])) → W p l e R s m args below meth c H locs cells slots Q (F0 m 27 ls []) := by
  have hx := X.1.1
  have hb := X.1.2.1
  intro nf
  induction nf with
  | zero => intro I k v H locs ls hi hm; exact absurd hm (by omega)
  | succ nf ih =>
    intro I k v H locs ls hi hm hw hl kk
    refine lv_iload hx hb dX2_numberUpTo_27 (lv_at hl 0 rfl) ?_
    refine lv_iload_n hx hb dX2_numberUpTo_29 rfl (lv_at hl 3 rfl) ?_
    refine lv_icmp_ge (tgt := 57) hx hb dX2_numberUpTo_30 (by decide) (fun c_30 => ?_) (fun c_30 => ?_)
    · have hw9 := hw
      have hl9 := hl
      have el : l_X2_numberUpTo (nf + 1) I k v be dg = (I, k, v) := by rw [l_X2_numberUpTo]; rw [if_pos c_30]
      exact kk _ _ _ (by rw [el]; exact hw9) (by rw [el]; exact (lv_sub hl9 [0, 1, 2, 3, 4] rfl))
    · refine lv_bipush (v := 10) hx hb dX2_numberUpTo_33 (by decide) ?_
      refine lv_iload_n hx hb dX2_numberUpTo_35 rfl (lv_at hl 1 rfl) ?_
      refine lv_imul hx hb dX2_numberUpTo_36 ?_
      refine lv_aload_n hx hb dX2_numberUpTo_37 rfl (lv_at hl 2 rfl) ?_
      refine w_get X hw 3 0 (hL 5 (by decide)) rfl (by decide) k_X2 in_X2_numberUpTo_X2 (by decide) (by decide +kernel) rfl (v := .ref (G.1 1)) rfl dX2_numberUpTo_38 ?_
      refine lv_iload hx hb dX2_numberUpTo_41 (lv_at hl 0 rfl) ?_
      refine w_callVi (As := [.int k]) (rest := [.int ((10 : Int32) * v)]) X hw hst hl (c_X6_at l D y b z G I J hL k hi.2) (cwV 1 X.1.2.2.2.2 gX2_numberUpTo_X6_at rfl rfl rfl (by decide +kernel) ⟨Nat.le_trans (Nat.le_of_ble_eq_true rfl) hRf, Nat.le_trans (Nat.le_of_ble_eq_true rfl) hRl⟩) (w_recv X hw (hL 1 (by decide)) rfl (by decide) k_X6) rfl rfl (Nat.le_of_ble_eq_true rfl) dX2_numberUpTo_43 ⟨hRc, hRs⟩ (fun r_43_1 u H locs hp_43 hw => ?_)
      obtain ⟨hp_43, rfl⟩ := hp_43
      dsimp only at hw
      refine lv_bipush (v := 48) hx hb dX2_numberUpTo_46 (by decide) ?_
      refine lv_isub hx hb dX2_numberUpTo_48 ?_
      refine lv_iadd hx hb dX2_numberUpTo_49 ?_
      refine lv_topi (fun x_2 ex_2 => ?_)
      refine lv_istore_n (lv' := [(3, .int x_2), (4, .int k), (0, .ref (G.1 5)), (1, .int be), (2, .int dg)]) hx hb dX2_numberUpTo_50 rfl hl (by decide) rfl (fun ls hl => ?_)
      obtain ⟨x_3, ex_3⟩ : ∃ y : Int32, y = k + 1 := ⟨_, rfl⟩
      refine lv_iinc (v := x_3) (lv' := [(4, .int x_3), (3, .int x_2), (0, .ref (G.1 5)), (1, .int be), (2, .int dg)]) hx hb dX2_numberUpTo_51 hl (k := 1) rfl (by rw [ex_3]; rfl) (by decide) rfl (fun ls hl => ?_)
      refine lv_goto (tgt := 27) hx hb dX2_numberUpTo_54 (by decide) ?_
      have hw9 := hw
      have hl9 := hl
      obtain rfl := hp_43.symm
      obtain rfl := ex_2.symm
      obtain rfl := ex_3.symm
      have el : l_X2_numberUpTo (nf + 1) I k v be dg = l_X2_numberUpTo nf I (k + 1) (((10 : Int32) * v) + ((f_X6_at I k) - 48)) be dg := by rw [l_X2_numberUpTo]; rw [if_neg c_30]
      exact ih I (k + 1) (((10 : Int32) * v) + ((f_X6_at I k) - 48)) _ _ _ (⟨nu_inv c_30, hi.2⟩) (nu_m c_30 hm) hw9 (lv_sub hl9 [0, 1, 2, 3, 4] rfl) (fun H locs ls hw hl => kk H locs ls (by rw [el]; exact hw) (by rw [el]; exact hl))
theorem ro_X2_numberUpTo : ∀ (nf : Nat) (I : wI) (k : Int32) (v : Int32) (be : Int32) (dg : Int32), (l_X2_numberUpTo nf I k v be dg).1 = I := by
  intro nf
  induction nf with
  | zero => intros; rfl
  | succ nf ih =>
    intro I k v be dg
    rw [l_X2_numberUpTo]
    repeat' split
    all_goals first | with_reducible rfl | exact ih _ _ _ _ _
def f_X2_numberUpTo (I : wI) (be : Int32) : Int32 := (if (be - (I 5 3)) < 1 then (-1) else (if (be - (I 5 3)) ≤ 4 then ((l_X2_numberUpTo  5 I (I 5 3) 0 be (be - (I 5 3))).2.2) else (-1)))
set_option maxHeartbeats 4000000 in
set_option maxRecDepth 100000 in
theorem c_X2_numberUpTo (l : Launch) (D : va_G) (y : Nat → ClassId) (b : Nat) (z : Nat → Nat) (G : wG) (I : wI) (J : wJ) (hL : w_full G) (be : Int32) (hp : 0 ≤ (I 5 3).toInt ∧ (I 5 3).toInt ≤ be.toInt ∧ be.toInt ≤ 400) (hs9 : (I 1 1).toInt ≤ 400) : mI l yX2_numberUpTo wsX2_numberUpTo { frames := 1, cells := 0, slots := 0, locals := 21 } D y b z G I J [.ref (G.1 5), .int be] (fun r u => r = f_X2_numberUpTo I be ∧ u = (G, I, J)) 0 0 := by
  refine w_enter (by decide) rfl (Nat.le_of_ble_eq_true rfl) rfl ?_
  intro p e s m below meth c ls X hr hlk hnm hw hst hl
  have hx := X.1.1
  have hb := X.1.2.1
  obtain ⟨po_c_X2_numberUpTo, epo⟩ : ∃ qpo9 : Int32 → wS → Prop, qpo9 = (fun r u => r = f_X2_numberUpTo I be ∧ u = (G, I, J)) := ⟨_, rfl⟩
  rw [← epo]
  refine lv_iload_n hx hb dX2_numberUpTo_0 rfl (lv_at hl 1 rfl) ?_
  refine lv_aload_n hx hb dX2_numberUpTo_1 rfl (lv_at hl 0 rfl) ?_
  refine w_get X hw 3 3 (hL 5 (by decide)) rfl (by decide) k_X2 in_X2_numberUpTo_X2 (by decide) (by decide +kernel) rfl (v := .int (I 5 3)) rfl dX2_numberUpTo_2 ?_
  refine lv_isub hx hb dX2_numberUpTo_5 ?_
  refine lv_topi (fun x_1 ex_1 => ?_)
  refine lv_istore_n (lv' := [(2, .int x_1), (0, .ref (G.1 5)), (1, .int be)]) hx hb dX2_numberUpTo_6 rfl hl (by decide) rfl (fun ls hl => ?_)
  refine lv_iload_n hx hb dX2_numberUpTo_7 rfl (lv_at hl 0 rfl) ?_
  refine lv_iconst (v := 1) hx hb dX2_numberUpTo_8 (by decide) ?_
  refine lv_icmp_lt (tgt := 17) hx hb dX2_numberUpTo_9 (by decide) (fun c_9 => ?_) (fun c_9 => ?_)
  · refine lv_iconst (v := -1) hx hb dX2_numberUpTo_17 (by decide) ?_
    have hp_18 : po_c_X2_numberUpTo (-1) (G, I, J) := by
        obtain rfl := ex_1.symm
        rw [epo]
        refine ⟨Eq.symm ?_, rfl⟩
        unfold f_X2_numberUpTo; rw [if_pos c_9]
    exact w_iret X hr hlk hw hp_18 (Nat.le_of_ble_eq_true rfl) (Nat.le_of_ble_eq_true rfl) dX2_numberUpTo_18
  · refine lv_iload_n hx hb dX2_numberUpTo_12 rfl (lv_at hl 0 rfl) ?_
    refine lv_iconst (v := 4) hx hb dX2_numberUpTo_13 (by decide) ?_
    refine lv_icmp_le (tgt := 19) hx hb dX2_numberUpTo_14 (by decide) (fun c_14 => ?_) (fun c_14 => ?_)
    · refine lv_iconst (v := 0) hx hb dX2_numberUpTo_19 (by decide) ?_
      refine lv_istore_n (lv' := [(3, .int 0), (2, .int x_1), (0, .ref (G.1 5)), (1, .int be)]) hx hb dX2_numberUpTo_20 rfl hl (by decide) rfl (fun ls hl => ?_)
      refine lv_aload_n hx hb dX2_numberUpTo_21 rfl (lv_at hl 2 rfl) ?_
      refine w_get X hw 3 3 (hL 5 (by decide)) rfl (by decide) k_X2 in_X2_numberUpTo_X2 (by decide) (by decide +kernel) rfl (v := .int (I 5 3)) rfl dX2_numberUpTo_22 ?_
      refine lv_topi (fun x_2 ex_2 => ?_)
      refine lv_istore (lv' := [(4, .int x_2), (3, .int 0), (2, .int x_1), (0, .ref (G.1 5)), (1, .int be)]) hx hb dX2_numberUpTo_25 hl (by decide) rfl (fun ls hl => ?_)
      refine lp_X2_numberUpTo  X hst hL (Nat.le_of_ble_eq_true rfl) (Nat.le_of_ble_eq_true rfl) (Nat.le_of_ble_eq_true rfl) (Nat.le_of_ble_eq_true rfl) be x_1  5 I x_2 0 _ _ _ (by rw [ex_2]; exact ⟨hp.2.1, hs9⟩) (by rw [ex_2]; exact nu_0 hp ex_1 c_14) hw (lv_sub hl [0, 1, 3, 4, 2] rfl) (fun H locs ls hw hl => ?_)
      obtain ⟨Q_3, eQ_3⟩ : ∃ q9 : wI × Int32 × Int32, q9 = l_X2_numberUpTo  5 I x_2 0 be x_1 := ⟨_, rfl⟩
      rw [← eQ_3] at hw hl
      rw [show Q_3.1 = I from by rw [eQ_3]; exact ro_X2_numberUpTo _ _ _ _ _ _] at hw
      refine lv_iload_n hx hb dX2_numberUpTo_57 rfl (lv_at hl 1 rfl) ?_
      have hp_58 : po_c_X2_numberUpTo Q_3.2.2 (G, I, J) := by
          obtain rfl := ex_1.symm
          obtain rfl := ex_2.symm
          obtain rfl := eQ_3.symm
          rw [epo]
          refine ⟨Eq.symm ?_, rfl⟩
          unfold f_X2_numberUpTo; rw [if_neg c_9, if_pos c_14]
      exact w_iret X hr hlk hw hp_58 (Nat.le_of_ble_eq_true rfl) (Nat.le_of_ble_eq_true rfl) dX2_numberUpTo_58
    · refine lv_iconst (v := -1) hx hb dX2_numberUpTo_17 (by decide) ?_
      have hp_18 : po_c_X2_numberUpTo (-1) (G, I, J) := by
          obtain rfl := ex_1.symm
          rw [epo]
          refine ⟨Eq.symm ?_, rfl⟩
          unfold f_X2_numberUpTo; rw [if_neg c_9, if_neg c_14]
      exact w_iret X hr hlk hw hp_18 (Nat.le_of_ble_eq_true rfl) (Nat.le_of_ble_eq_true rfl) dX2_numberUpTo_18
set_option maxRecDepth 20000 in
theorem in_X5_greatestYield_X5 : ∀ w ∈ u_ws RX5 TX5 8, w ∈ wsX5_greatestYield := fun _ h => List.mem_cons_of_mem _ (List.mem_append_right _ h)
def l_X5_greatestYield  : Nat → wI → Int32 → Int32 → wI × Int32 × Int32
  | 0, I, k, gr => (I, k, gr)
  | nf + 1, I, k, gr => (if (I 16 5) ≤ k then (I, k, gr) else (l_X5_greatestYield nf I (k + 1) (if gr < (I 17 k.toNatClampNeg) then (I 17 k.toNatClampNeg) else gr) ))
set_option maxHeartbeats 4000000 in
set_option maxRecDepth 100000 in
theorem lp_X5_greatestYield {p : Program} {l : Launch} {e : Env} {R : Room} {s : State} {m : MethodId} {args : Array Value} {below : List Frame} {meth : Method} {c : Code} {cells slots : Nat} {Q : State → Prop} {D : va_G} {y : Nat → ClassId} {b : Nat} {z : Nat → Nat} {G : wG} {J : wJ}  (X : wCx p m c cX5_greatestYield 3 s args wsX5_greatestYield yX5_greatestYield.cls D y b) (hst : St z b s) (hL : w_full G) (hRf : 1 ≤ R.frames) (hRl : 21 ≤ R.locals) (hRc : cells ≤ R.cells) (hRs : slots ≤ R.slots)   : ∀ (nf : Nat) (I : wI) (k : Int32) (gr : Int32) (H : Heap) (locs : List Loc) (ls : Array Slot), (0 ≤ k.toInt ∧ k.toInt ≤ (I 16 5).toInt ∧ (I 16 5).toInt ≤ 6) → (((I 16 5).toInt - k.toInt).toNat < nf) → Wh D y b G I J s H locs → lv_has ls 3 [(2, .int k), (1, .int gr), (0, .ref (G.1 16))] → (∀ (H : Heap) (locs : List Loc) (ls : Array Slot), Wh D y b G (l_X5_greatestYield nf I k gr ).1 J s H locs → lv_has ls 3 [(2, .int (l_X5_greatestYield nf I k gr ).2.1), (1, .int (l_X5_greatestYield nf I k gr ).2.2), (0, .ref (G.1 16))] → W p l e R s m args below meth c H locs cells slots Q (F0 m 29 ls [])) → W p l e R s m args below meth c H locs cells slots Q (F0 m 4 ls []) := by
  have hx := X.1.1
  have hb := X.1.2.1
  intro nf
  induction nf with
  | zero => intro I k gr H locs ls hi hm; exact absurd hm (by omega)
  | succ nf ih =>
    intro I k gr H locs ls hi hm hw hl kk
    refine lv_iload_n hx hb dX5_greatestYield_4 rfl (lv_at hl 0 rfl) ?_
    refine lv_aload_n hx hb dX5_greatestYield_5 rfl (lv_at hl 2 rfl) ?_
    refine w_get X hw 6 5 (hL 16 (by decide)) rfl (by decide) k_X5 in_X5_greatestYield_X5 (by decide) (by decide +kernel) rfl (v := .int (I 16 5)) rfl dX5_greatestYield_6 ?_
    refine lv_icmp_ge (tgt := 29) hx hb dX5_greatestYield_9 (by decide) (fun c_9 => ?_) (fun c_9 => ?_)
    · have hw9 := hw
      have hl9 := hl
      have el : l_X5_greatestYield (nf + 1) I k gr  = (I, k, gr) := by rw [l_X5_greatestYield]; rw [if_pos c_9]
      exact kk _ _ _ (by rw [el]; exact hw9) (by rw [el]; exact (lv_sub hl9 [0, 1, 2] rfl))
    · refine lv_iload_n hx hb dX5_greatestYield_12 rfl (lv_at hl 1 rfl) ?_
      refine lv_aload_n hx hb dX5_greatestYield_13 rfl (lv_at hl 2 rfl) ?_
      refine w_get X hw 6 0 (hL 16 (by decide)) rfl (by decide) k_X5 in_X5_greatestYield_X5 (by decide) (by decide +kernel) rfl (v := .ref (G.1 17)) rfl dX5_greatestYield_14 ?_
      refine lv_iload_n hx hb dX5_greatestYield_17 rfl (lv_at hl 0 rfl) ?_
      have h_18 : vp_in k 6 := c6_i c_9 hi
      refine w_ild X hw (hL 17 (by decide)) rfl h_18 dX5_greatestYield_18 ?_
      refine va_mmax hx hb (by rw [X.1.2.2.1]; exact hl.1.symm) X.1.2.2.2.1 (X.1.2.2.2.2 (.methodLink RX5 52 Lib.Math.max.name) (by decide +kernel)) (X.1.2.2.2.2 (.static Lib.Math.max.name) (by decide +kernel)) (X.1.2.2.2.2 (.initialized "java/lang/Math") (by decide +kernel)) (X.1.2.2.2.2 (.code Lib.Math.max.name Lib.Math.max.code 2 (some .int)) (by decide +kernel)) (Nat.le_trans (Nat.le_of_ble_eq_true rfl) hRf) (Nat.le_trans (Nat.le_of_ble_eq_true rfl) hRl) hRc hRs dX5_greatestYield_19 ?_
      refine lv_topi (fun x_1 ex_1 => ?_)
      refine lv_istore_n (lv' := [(1, .int x_1), (2, .int k), (0, .ref (G.1 16))]) hx hb dX5_greatestYield_22 rfl hl (by decide) rfl (fun ls hl => ?_)
      obtain ⟨x_2, ex_2⟩ : ∃ y : Int32, y = k + 1 := ⟨_, rfl⟩
      refine lv_iinc (v := x_2) (lv' := [(2, .int x_2), (1, .int x_1), (0, .ref (G.1 16))]) hx hb dX5_greatestYield_23 hl (k := 1) rfl (by rw [ex_2]; rfl) (by decide) rfl (fun ls hl => ?_)
      refine lv_goto (tgt := 4) hx hb dX5_greatestYield_26 (by decide) ?_
      have hw9 := hw
      have hl9 := hl
      obtain rfl := ex_1.symm
      obtain rfl := ex_2.symm
      have el : l_X5_greatestYield (nf + 1) I k gr  = l_X5_greatestYield nf I (k + 1) (if gr < (I 17 k.toNatClampNeg) then (I 17 k.toNatClampNeg) else gr)  := by rw [l_X5_greatestYield]; rw [if_neg c_9]
      exact ih I (k + 1) (if gr < (I 17 k.toNatClampNeg) then (I 17 k.toNatClampNeg) else gr) _ _ _ (c6_inv c_9 hi) (c6_m c_9 hi hm) hw9 (lv_sub hl9 [0, 1, 2] rfl) (fun H locs ls hw hl => kk H locs ls (by rw [el]; exact hw) (by rw [el]; exact hl))
theorem ro_X5_greatestYield : ∀ (nf : Nat) (I : wI) (k : Int32) (gr : Int32) , (l_X5_greatestYield nf I k gr ).1 = I := by
  intro nf
  induction nf with
  | zero => intros; rfl
  | succ nf ih =>
    intro I k gr 
    rw [l_X5_greatestYield]
    repeat' split
    all_goals first | with_reducible rfl | exact ih _ _ _ 
def f_X5_greatestYield (I : wI)  : Int32 := ((l_X5_greatestYield  7 I 0 0).2.2)
set_option maxHeartbeats 4000000 in
set_option maxRecDepth 100000 in
theorem c_X5_greatestYield (l : Launch) (D : va_G) (y : Nat → ClassId) (b : Nat) (z : Nat → Nat) (G : wG) (I : wI) (J : wJ) (hL : w_full G)  (hS : 0 ≤ (I 16 5).toInt ∧ (I 16 5).toInt ≤ 6) : mI l yX5_greatestYield wsX5_greatestYield { frames := 1, cells := 0, slots := 0, locals := 21 } D y b z G I J [.ref (G.1 16)] (fun r u => r = f_X5_greatestYield I ∧ u = (G, I, J)) 0 0 := by
  refine w_enter (by decide) rfl (Nat.le_of_ble_eq_true rfl) rfl ?_
  intro p e s m below meth c ls X hr hlk hnm hw hst hl
  have hx := X.1.1
  have hb := X.1.2.1
  obtain ⟨po_c_X5_greatestYield, epo⟩ : ∃ qpo9 : Int32 → wS → Prop, qpo9 = (fun r u => r = f_X5_greatestYield I ∧ u = (G, I, J)) := ⟨_, rfl⟩
  rw [← epo]
  refine lv_iconst (v := 0) hx hb dX5_greatestYield_0 (by decide) ?_
  refine lv_istore_n (lv' := [(1, .int 0), (0, .ref (G.1 16))]) hx hb dX5_greatestYield_1 rfl hl (by decide) rfl (fun ls hl => ?_)
  refine lv_iconst (v := 0) hx hb dX5_greatestYield_2 (by decide) ?_
  refine lv_istore_n (lv' := [(2, .int 0), (1, .int 0), (0, .ref (G.1 16))]) hx hb dX5_greatestYield_3 rfl hl (by decide) rfl (fun ls hl => ?_)
  refine lp_X5_greatestYield  X hst hL (Nat.le_of_ble_eq_true rfl) (Nat.le_of_ble_eq_true rfl) (Nat.le_of_ble_eq_true rfl) (Nat.le_of_ble_eq_true rfl)   7 I 0 0 _ _ _ (⟨by decide, hS⟩) (c6_0 hS) hw (lv_sub hl [0, 1, 2] rfl) (fun H locs ls hw hl => ?_)
  obtain ⟨Q_1, eQ_1⟩ : ∃ q9 : wI × Int32 × Int32, q9 = l_X5_greatestYield  7 I 0 0 := ⟨_, rfl⟩
  rw [← eQ_1] at hw hl
  rw [show Q_1.1 = I from by rw [eQ_1]; exact ro_X5_greatestYield _ _ _ _ ] at hw
  refine lv_iload_n hx hb dX5_greatestYield_29 rfl (lv_at hl 1 rfl) ?_
  have hp_30 : po_c_X5_greatestYield Q_1.2.2 (G, I, J) := by
      obtain rfl := eQ_1.symm
      rw [epo]
      refine ⟨Eq.symm ?_, rfl⟩
      rfl
  exact w_iret X hr hlk hw hp_30 (Nat.le_of_ble_eq_true rfl) (Nat.le_of_ble_eq_true rfl) dX5_greatestYield_30
set_option maxRecDepth 20000 in
theorem in_X5_keepTried_X5 : ∀ w ∈ u_ws RX5 TX5 8, w ∈ wsX5_keepTried := fun _ h => List.mem_cons_of_mem _ (List.mem_append_right _ h)
def l_X5_keepTried  : Nat → wI → Int32 → Int32 → wI × Int32
  | 0, I, k, bu => (I, k)
  | nf + 1, I, k, bu => (if (I 16 5) ≤ k then (I, k) else (l_X5_keepTried nf (wU I 21 k.toNatClampNeg (I 20 k.toNatClampNeg)) (k + 1) bu))
set_option maxHeartbeats 4000000 in
set_option maxRecDepth 100000 in
theorem lp_X5_keepTried {p : Program} {l : Launch} {e : Env} {R : Room} {s : State} {m : MethodId} {args : Array Value} {below : List Frame} {meth : Method} {c : Code} {cells slots : Nat} {Q : State → Prop} {D : va_G} {y : Nat → ClassId} {b : Nat} {z : Nat → Nat} {G : wG} {J : wJ}  (X : wCx p m c cX5_keepTried 3 s args wsX5_keepTried yX5_keepTried.cls D y b) (hst : St z b s) (hL : w_full G) (hRf : 0 ≤ R.frames) (hRl : 0 ≤ R.locals) (hRc : cells ≤ R.cells) (hRs : slots ≤ R.slots) (bu : Int32)  : ∀ (nf : Nat) (I : wI) (k : Int32) (H : Heap) (locs : List Loc) (ls : Array Slot), (0 ≤ k.toInt ∧ k.toInt ≤ (I 16 5).toInt ∧ (I 16 5).toInt ≤ 6) → (((I 16 5).toInt - k.toInt).toNat < nf) → Wh D y b G I J s H locs → lv_has ls 3 [(2, .int k), (0, .ref (G.1 16)), (1, .int bu)] → (∀ (H : Heap) (locs : List Loc) (ls : Array Slot), Wh D y b G (l_X5_keepTried nf I k bu).1 J s H locs → lv_has ls 3 [(2, .int (l_X5_keepTried nf I k bu).2), (0, .ref (G.1 16)), (1, .int bu)] → W p l e R s m args below meth c H locs cells slots Q (F0 m 33 ls [])) → W p l e R s m args below meth c H locs cells slots Q (F0 m 7 ls []) := by
  have hx := X.1.1
  have hb := X.1.2.1
  intro nf
  induction nf with
  | zero => intro I k H locs ls hi hm; exact absurd hm (by omega)
  | succ nf ih =>
    intro I k H locs ls hi hm hw hl kk
    refine lv_iload_n hx hb dX5_keepTried_7 rfl (lv_at hl 0 rfl) ?_
    refine lv_aload_n hx hb dX5_keepTried_8 rfl (lv_at hl 1 rfl) ?_
    refine w_get X hw 6 5 (hL 16 (by decide)) rfl (by decide) k_X5 in_X5_keepTried_X5 (by decide) (by decide +kernel) rfl (v := .int (I 16 5)) rfl dX5_keepTried_9 ?_
    refine lv_icmp_ge (tgt := 33) hx hb dX5_keepTried_12 (by decide) (fun c_12 => ?_) (fun c_12 => ?_)
    · have hw9 := hw
      have hl9 := hl
      have el : l_X5_keepTried (nf + 1) I k bu = (I, k) := by rw [l_X5_keepTried]; rw [if_pos c_12]
      exact kk _ _ _ (by rw [el]; exact hw9) (by rw [el]; exact (lv_sub hl9 [0, 1, 2] rfl))
    · refine lv_aload_n hx hb dX5_keepTried_15 rfl (lv_at hl 1 rfl) ?_
      refine w_get X hw 6 4 (hL 16 (by decide)) rfl (by decide) k_X5 in_X5_keepTried_X5 (by decide) (by decide +kernel) rfl (v := .ref (G.1 21)) rfl dX5_keepTried_16 ?_
      refine lv_iload_n hx hb dX5_keepTried_19 rfl (lv_at hl 0 rfl) ?_
      refine lv_aload_n hx hb dX5_keepTried_20 rfl (lv_at hl 1 rfl) ?_
      refine w_get X hw 6 3 (hL 16 (by decide)) rfl (by decide) k_X5 in_X5_keepTried_X5 (by decide) (by decide +kernel) rfl (v := .ref (G.1 20)) rfl dX5_keepTried_21 ?_
      refine lv_iload_n hx hb dX5_keepTried_24 rfl (lv_at hl 0 rfl) ?_
      have h_25 : vp_in k 6 := c6_i c_12 hi
      refine w_ild X hw (hL 20 (by decide)) rfl h_25 dX5_keepTried_25 ?_
      refine lv_topi (fun x_1 ex_1 => ?_)
      have h_26 : vp_in k 6 := c6_i c_12 hi
      refine w_ist X hw (hL 21 (by decide)) rfl h_26 dX5_keepTried_26 (fun H locs hw => ?_)
      obtain ⟨x_2, ex_2⟩ : ∃ y : Int32, y = k + 1 := ⟨_, rfl⟩
      refine lv_iinc (v := x_2) (lv' := [(2, .int x_2), (0, .ref (G.1 16)), (1, .int bu)]) hx hb dX5_keepTried_27 hl (k := 0) rfl (by rw [ex_2]; rfl) (by decide) rfl (fun ls hl => ?_)
      refine lv_goto (tgt := 7) hx hb dX5_keepTried_30 (by decide) ?_
      have hw9 := hw
      have hl9 := hl
      obtain rfl := ex_1.symm
      obtain rfl := ex_2.symm
      have el : l_X5_keepTried (nf + 1) I k bu = l_X5_keepTried nf (wU I 21 k.toNatClampNeg (I 20 k.toNatClampNeg)) (k + 1) bu := by rw [l_X5_keepTried]; rw [if_neg c_12]
      exact ih (wU I 21 k.toNatClampNeg (I 20 k.toNatClampNeg)) (k + 1) _ _ _ (c6_inv (st := I 16 5) c_12 hi) (c6_m (st := I 16 5) c_12 hi hm) hw9 (lv_sub hl9 [0, 1, 2] rfl) (fun H locs ls hw hl => kk H locs ls (by rw [el]; exact hw) (by rw [el]; exact hl))
theorem fr_X5_keepTried   : ∀ (nf : Nat) (I : wI) (k : Int32) (bu : Int32) (q9 : Nat) (h21 : q9 ≠ 21), (l_X5_keepTried nf I k bu).1 q9 = I q9 := by
  intro nf
  induction nf with
  | zero => intros; rfl
  | succ nf ih =>
    intro I k bu q9 h21
    rw [l_X5_keepTried]
    repeat' split
    all_goals first | with_reducible rfl | (rw [ih _ _ _ q9 h21]; done) | (rw [ih _ _ _ q9 h21]; simp only [wU_ne _ _ _ h21]) | (simp only [wU_ne _ _ _ h21])
def f_X5_keepTried (I : wI) (bu : Int32) : wI := (l_X5_keepTried  7 (wU I 16 6 bu) 0 bu).1
theorem fr_f_X5_keepTried (I : wI) (bu : Int32) (q9 : Nat) (h16 : q9 ≠ 16) (h21 : q9 ≠ 21) : (f_X5_keepTried I bu) q9 = I q9 := by
  unfold f_X5_keepTried
  repeat' split
  all_goals first | with_reducible rfl | (simp only [wU_ne _ _ _ h16, wU_ne _ _ _ h21, fr_X5_keepTried _ _ _ _ _ h21])
set_option maxHeartbeats 4000000 in
set_option maxRecDepth 100000 in
theorem c_X5_keepTried (l : Launch) (D : va_G) (y : Nat → ClassId) (b : Nat) (z : Nat → Nat) (G : wG) (I : wI) (J : wJ) (hL : w_full G) (bu : Int32) (hS : 0 ≤ (I 16 5).toInt ∧ (I 16 5).toInt ≤ 6) : mV l yX5_keepTried wsX5_keepTried { frames := 0, cells := 0, slots := 0, locals := 0 } D y b z G I J [.ref (G.1 16), .int bu] (fun u => u.2.1 = f_X5_keepTried I bu ∧ u.1 = G ∧ u.2.2 = J) 0 0 := by
  refine w_enter (by decide) rfl (Nat.le_of_ble_eq_true rfl) rfl ?_
  intro p e s m below meth c ls X hr hlk hnm hw hst hl
  have hx := X.1.1
  have hb := X.1.2.1
  obtain ⟨po_c_X5_keepTried, epo⟩ : ∃ qpo9 : wS → Prop, qpo9 = (fun u => u.2.1 = f_X5_keepTried I bu ∧ u.1 = G ∧ u.2.2 = J) := ⟨_, rfl⟩
  rw [← epo]
  refine lv_aload_n hx hb dX5_keepTried_0 rfl (lv_at hl 0 rfl) ?_
  refine lv_iload_n hx hb dX5_keepTried_1 rfl (lv_at hl 1 rfl) ?_
  refine w_put X hw 6 6 (hL 16 (by decide)) rfl (by decide) k_X5 in_X5_keepTried_X5 (by decide) (by decide +kernel) rfl rfl (t := .int) (by decide +kernel) rfl rfl (fun _ => rfl) (fun _ => Nat.le_of_ble_eq_true rfl) dX5_keepTried_2 (fun H locs hw => ?_)
  refine lv_iconst (v := 0) hx hb dX5_keepTried_5 (by decide) ?_
  refine lv_istore_n (lv' := [(2, .int 0), (0, .ref (G.1 16)), (1, .int bu)]) hx hb dX5_keepTried_6 rfl hl (by decide) rfl (fun ls hl => ?_)
  refine lp_X5_keepTried  X hst hL (Nat.le_of_ble_eq_true rfl) (Nat.le_of_ble_eq_true rfl) (Nat.le_of_ble_eq_true rfl) (Nat.le_of_ble_eq_true rfl) bu  7 (wU I 16 6 bu) 0 _ _ _ (⟨by decide, hS⟩) (c6_0 (st := I 16 5) hS) hw (lv_sub hl [0, 1, 2] rfl) (fun H locs ls hw hl => ?_)
  obtain ⟨Q_1, eQ_1⟩ : ∃ q9 : wI × Int32, q9 = l_X5_keepTried  7 (wU I 16 6 bu) 0 bu := ⟨_, rfl⟩
  rw [← eQ_1] at hw hl
  have hp_33 : po_c_X5_keepTried (G, Q_1.1, J) := by
      obtain rfl := eQ_1.symm
      rw [epo]
      refine ⟨Eq.symm ?_, rfl, rfl⟩
      rfl
  exact w_vret X hr hlk hw hp_33 (Nat.le_of_ble_eq_true rfl) (Nat.le_of_ble_eq_true rfl) dX5_keepTried_33
