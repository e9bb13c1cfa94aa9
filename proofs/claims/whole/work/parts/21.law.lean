def f_X1_told (I : wI) (k : Int32) : Int32 := (if k < 0 then (-1) else (if 6 ≤ k then (-1) else (I 4 k.toNatClampNeg)))
set_option maxRecDepth 20000 in
theorem in_X1_told_X1 : ∀ w ∈ u_ws RX1 TX1 1, w ∈ wsX1_told := fun _ h => List.mem_cons_of_mem _ (List.mem_append_right _ h)
set_option maxHeartbeats 4000000 in
set_option maxRecDepth 100000 in
theorem c_X1_told (l : Launch) (D : va_G) (y : Nat → ClassId) (b : Nat) (z : Nat → Nat) (G : wG) (I : wI) (J : wJ) (hL : w_full G) (k : Int32)  : mI l yX1_told wsX1_told { frames := 0, cells := 0, slots := 0, locals := 0 } D y b z G I J [.ref (G.1 3), .int k] (fun r u => r = f_X1_told I k ∧ u = (G, I, J)) 0 0 := by
  refine w_enter (by decide) rfl (Nat.le_of_ble_eq_true rfl) rfl ?_
  intro p e s m below meth c ls X hr hlk hnm hw hst hl
  have hx := X.1.1
  have hb := X.1.2.1
  obtain ⟨po_c_X1_told, epo⟩ : ∃ qpo9 : Int32 → wS → Prop, qpo9 = (fun r u => r = f_X1_told I k ∧ u = (G, I, J)) := ⟨_, rfl⟩
  rw [← epo]
  refine lv_iload_n hx hb dX1_told_0 rfl (lv_at hl 1 rfl) ?_
  refine lv_if_lt (tgt := 22) hx hb dX1_told_1 (by decide) (fun c_1 => ?_) (fun c_1 => ?_)
  · refine lv_iconst (v := -1) hx hb dX1_told_22 (by decide) ?_
    have hp_23 : po_c_X1_told (-1) (G, I, J) := by
        rw [epo]
        refine ⟨Eq.symm ?_, rfl⟩
        unfold f_X1_told; rw [if_pos c_1]
    exact w_iret X hr hlk hw hp_23 (Nat.le_of_ble_eq_true rfl) (Nat.le_of_ble_eq_true rfl) dX1_told_23
  · refine lv_iload_n hx hb dX1_told_4 rfl (lv_at hl 1 rfl) ?_
    refine lv_aload_n hx hb dX1_told_5 rfl (lv_at hl 0 rfl) ?_
    refine w_get X hw 2 0 (hL 3 (by decide)) rfl (by decide) k_X1 in_X1_told_X1 (by decide) (by decide +kernel) rfl (v := .ref (G.1 4)) rfl dX1_told_6 ?_
    refine w_len X hw (hL 4 (by decide)) rfl (by decide) dX1_told_9 ?_
    refine lv_topi (fun n_9 en_9 => ?_)
    have en_9 : n_9 = 6 := by rw [en_9]; rfl
    subst en_9
    refine lv_icmp_ge (tgt := 22) hx hb dX1_told_10 (by decide) (fun c_10 => ?_) (fun c_10 => ?_)
    · refine lv_iconst (v := -1) hx hb dX1_told_22 (by decide) ?_
      have hp_23 : po_c_X1_told (-1) (G, I, J) := by
          rw [epo]
          refine ⟨Eq.symm ?_, rfl⟩
          unfold f_X1_told; rw [if_neg c_1, if_pos c_10]
      exact w_iret X hr hlk hw hp_23 (Nat.le_of_ble_eq_true rfl) (Nat.le_of_ble_eq_true rfl) dX1_told_23
    · refine lv_aload_n hx hb dX1_told_13 rfl (lv_at hl 0 rfl) ?_
      refine w_get X hw 2 0 (hL 3 (by decide)) rfl (by decide) k_X1 in_X1_told_X1 (by decide) (by decide +kernel) rfl (v := .ref (G.1 4)) rfl dX1_told_14 ?_
      refine lv_iload_n hx hb dX1_told_17 rfl (lv_at hl 1 rfl) ?_
      have h_18 : vp_in k 6 := ix_k6 c_1 c_10
      refine w_ild X hw (hL 4 (by decide)) rfl h_18 dX1_told_18 ?_
      refine lv_goto (tgt := 23) hx hb dX1_told_19 (by decide) ?_
      have hp_23 : po_c_X1_told (I 4 k.toNatClampNeg) (G, I, J) := by
          rw [epo]
          refine ⟨Eq.symm ?_, rfl⟩
          unfold f_X1_told; rw [if_neg c_1, if_neg c_10]
      exact w_iret X hr hlk hw hp_23 (Nat.le_of_ble_eq_true rfl) (Nat.le_of_ble_eq_true rfl) dX1_told_23
set_option maxRecDepth 20000 in
theorem in_X1_copyTo_X1 : ∀ w ∈ u_ws RX1 TX1 1, w ∈ wsX1_copyTo := fun _ h => List.mem_cons_of_mem _ (List.mem_append_right _ h)
def l_X1_copyTo  : Nat → wI → Int32 → wI × Int32
  | 0, I, k => (I, k)
  | nf + 1, I, k => (if 6 ≤ k then (I, k) else (if 6 ≤ k then (I, k) else (l_X1_copyTo nf (wU I 6 k.toNatClampNeg (I 4 k.toNatClampNeg)) (k + 1) )))
set_option maxHeartbeats 4000000 in
set_option maxRecDepth 100000 in
theorem lp_X1_copyTo {p : Program} {l : Launch} {e : Env} {R : Room} {s : State} {m : MethodId} {args : Array Value} {below : List Frame} {meth : Method} {c : Code} {cells slots : Nat} {Q : State → Prop} {D : va_G} {y : Nat → ClassId} {b : Nat} {z : Nat → Nat} {G : wG} {J : wJ}  (X : wCx p m c cX1_copyTo 3 s args wsX1_copyTo yX1_copyTo.cls D y b) (hst : St z b s) (hL : w_full G) (hRf : 0 ≤ R.frames) (hRl : 0 ≤ R.locals) (hRc : cells ≤ R.cells) (hRs : slots ≤ R.slots)   : ∀ (nf : Nat) (I : wI) (k : Int32) (H : Heap) (locs : List Loc) (ls : Array Slot), (0 ≤ k.toInt ∧ k.toInt ≤ 6) → ((6 - k.toInt).toNat < nf) → Wh D y b G I J s H locs → lv_has ls 3 [(2, .int k), (0, .ref (G.1 3)), (1, .ref (G.1 6))] → (∀ (H : Heap) (locs : List Loc) (ls : Array Slot), Wh D y b G (l_X1_copyTo nf I k ).1 J s H locs → lv_has ls 3 [(2, .int (l_X1_copyTo nf I k ).2), (0, .ref (G.1 3)), (1, .ref (G.1 6))] → W p l e R s m args below meth c H locs cells slots Q (F0 m 32 ls [])) → W p l e R s m args below meth c H locs cells slots Q (F0 m 2 ls []) := by
  have hx := X.1.1
  have hb := X.1.2.1
  intro nf
  induction nf with
  | zero => intro I k H locs ls hi hm; exact absurd hm (by omega)
  | succ nf ih =>
    intro I k H locs ls hi hm hw hl kk
    refine lv_iload_n hx hb dX1_copyTo_2 rfl (lv_at hl 0 rfl) ?_
    refine lv_aload_n hx hb dX1_copyTo_3 rfl (lv_at hl 1 rfl) ?_
    refine w_get X hw 2 0 (hL 3 (by decide)) rfl (by decide) k_X1 in_X1_copyTo_X1 (by decide) (by decide +kernel) rfl (v := .ref (G.1 4)) rfl dX1_copyTo_4 ?_
    refine w_len X hw (hL 4 (by decide)) rfl (by decide) dX1_copyTo_7 ?_
    refine lv_topi (fun n_7 en_7 => ?_)
    have en_7 : n_7 = 6 := by rw [en_7]; rfl
    subst en_7
    refine lv_icmp_ge (tgt := 32) hx hb dX1_copyTo_8 (by decide) (fun c_8 => ?_) (fun c_8 => ?_)
    · have hw9 := hw
      have hl9 := hl
      have el : l_X1_copyTo (nf + 1) I k  = (I, k) := by rw [l_X1_copyTo]; rw [if_pos c_8]
      exact kk _ _ _ (by rw [el]; exact hw9) (by rw [el]; exact (lv_sub hl9 [0, 1, 2] rfl))
    · refine lv_iload_n hx hb dX1_copyTo_11 rfl (lv_at hl 0 rfl) ?_
      refine lv_aload_n hx hb dX1_copyTo_12 rfl (lv_at hl 2 rfl) ?_
      refine w_len X hw (hL 6 (by decide)) rfl (by decide) dX1_copyTo_13 ?_
      refine lv_topi (fun n_13 en_13 => ?_)
      have en_13 : n_13 = 6 := by rw [en_13]; rfl
      subst en_13
      refine lv_icmp_ge (tgt := 32) hx hb dX1_copyTo_14 (by decide) (fun c_14 => ?_) (fun c_14 => ?_)
      · have hw9 := hw
        have hl9 := hl
        have el : l_X1_copyTo (nf + 1) I k  = (I, k) := by rw [l_X1_copyTo]; rw [if_neg c_8, if_pos c_14]
        exact kk _ _ _ (by rw [el]; exact hw9) (by rw [el]; exact (lv_sub hl9 [0, 1, 2] rfl))
      · refine lv_aload_n hx hb dX1_copyTo_17 rfl (lv_at hl 2 rfl) ?_
        refine lv_iload_n hx hb dX1_copyTo_18 rfl (lv_at hl 0 rfl) ?_
        refine lv_aload_n hx hb dX1_copyTo_19 rfl (lv_at hl 1 rfl) ?_
        refine w_get X hw 2 0 (hL 3 (by decide)) rfl (by decide) k_X1 in_X1_copyTo_X1 (by decide) (by decide +kernel) rfl (v := .ref (G.1 4)) rfl dX1_copyTo_20 ?_
        refine lv_iload_n hx hb dX1_copyTo_23 rfl (lv_at hl 0 rfl) ?_
        have h_24 : vp_in k 6 := cn_i c_8 hi
        refine w_ild X hw (hL 4 (by decide)) rfl h_24 dX1_copyTo_24 ?_
        refine lv_topi (fun x_1 ex_1 => ?_)
        have h_25 : vp_in k 6 := cn_i c_8 hi
        refine w_ist X hw (hL 6 (by decide)) rfl h_25 dX1_copyTo_25 (fun H locs hw => ?_)
        obtain ⟨x_2, ex_2⟩ : ∃ y : Int32, y = k + 1 := ⟨_, rfl⟩
        refine lv_iinc (v := x_2) (lv' := [(2, .int x_2), (0, .ref (G.1 3)), (1, .ref (G.1 6))]) hx hb dX1_copyTo_26 hl (k := 0) rfl (by rw [ex_2]; rfl) (by decide) rfl (fun ls hl => ?_)
        refine lv_goto (tgt := 2) hx hb dX1_copyTo_29 (by decide) ?_
        have hw9 := hw
        have hl9 := hl
        obtain rfl := ex_1.symm
        obtain rfl := ex_2.symm
        have el : l_X1_copyTo (nf + 1) I k  = l_X1_copyTo nf (wU I 6 k.toNatClampNeg (I 4 k.toNatClampNeg)) (k + 1)  := by rw [l_X1_copyTo]; rw [if_neg c_8, if_neg c_14]
        exact ih (wU I 6 k.toNatClampNeg (I 4 k.toNatClampNeg)) (k + 1) _ _ _ (cn_inv c_8 hi) (cn_m c_8 hi hm) hw9 (lv_sub hl9 [0, 1, 2] rfl) (fun H locs ls hw hl => kk H locs ls (by rw [el]; exact hw) (by rw [el]; exact hl))
theorem fr_X1_copyTo   : ∀ (nf : Nat) (I : wI) (k : Int32)  (q9 : Nat) (h6 : q9 ≠ 6), (l_X1_copyTo nf I k ).1 q9 = I q9 := by
  intro nf
  induction nf with
  | zero => intros; rfl
  | succ nf ih =>
    intro I k  q9 h6
    rw [l_X1_copyTo]
    repeat' split
    all_goals first | with_reducible rfl | (rw [ih _ _  q9 h6]; done) | (rw [ih _ _  q9 h6]; simp only [wU_ne _ _ _ h6]) | (simp only [wU_ne _ _ _ h6])
def f_X1_copyTo (I : wI)  : wI := (l_X1_copyTo  7 I 0).1
theorem fr_f_X1_copyTo (I : wI)  (q9 : Nat) (h6 : q9 ≠ 6) : (f_X1_copyTo I) q9 = I q9 := by
  unfold f_X1_copyTo
  repeat' split
  all_goals first | with_reducible rfl | (simp only [wU_ne _ _ _ h6, fr_X1_copyTo _ _ _ _ h6])
set_option maxHeartbeats 4000000 in
set_option maxRecDepth 100000 in
theorem c_X1_copyTo (l : Launch) (D : va_G) (y : Nat → ClassId) (b : Nat) (z : Nat → Nat) (G : wG) (I : wI) (J : wJ) (hL : w_full G)   : mV l yX1_copyTo wsX1_copyTo { frames := 0, cells := 0, slots := 0, locals := 0 } D y b z G I J [.ref (G.1 3), .ref (G.1 6)] (fun u => u.2.1 = f_X1_copyTo I ∧ u.1 = G ∧ u.2.2 = J) 0 0 := by
  refine w_enter (by decide) rfl (Nat.le_of_ble_eq_true rfl) rfl ?_
  intro p e s m below meth c ls X hr hlk hnm hw hst hl
  have hx := X.1.1
  have hb := X.1.2.1
  obtain ⟨po_c_X1_copyTo, epo⟩ : ∃ qpo9 : wS → Prop, qpo9 = (fun u => u.2.1 = f_X1_copyTo I ∧ u.1 = G ∧ u.2.2 = J) := ⟨_, rfl⟩
  rw [← epo]
  refine lv_iconst (v := 0) hx hb dX1_copyTo_0 (by decide) ?_
  refine lv_istore_n (lv' := [(2, .int 0), (0, .ref (G.1 3)), (1, .ref (G.1 6))]) hx hb dX1_copyTo_1 rfl hl (by decide) rfl (fun ls hl => ?_)
  refine lp_X1_copyTo  X hst hL (Nat.le_of_ble_eq_true rfl) (Nat.le_of_ble_eq_true rfl) (Nat.le_of_ble_eq_true rfl) (Nat.le_of_ble_eq_true rfl)   7 I 0 _ _ _ (by decide) (by decide) hw (lv_sub hl [0, 1, 2] rfl) (fun H locs ls hw hl => ?_)
  obtain ⟨Q_1, eQ_1⟩ : ∃ q9 : wI × Int32, q9 = l_X1_copyTo  7 I 0 := ⟨_, rfl⟩
  rw [← eQ_1] at hw hl
  have hp_32 : po_c_X1_copyTo (G, Q_1.1, J) := by
      obtain rfl := eQ_1.symm
      rw [epo]
      refine ⟨Eq.symm ?_, rfl, rfl⟩
      rfl
  exact w_vret X hr hlk hw hp_32 (Nat.le_of_ble_eq_true rfl) (Nat.le_of_ble_eq_true rfl) dX1_copyTo_32
set_option maxRecDepth 20000 in
theorem in_X1_become_X1 : ∀ w ∈ u_ws RX1 TX1 1, w ∈ wsX1_become := fun _ h => List.mem_cons_of_mem _ (List.mem_append_right _ h)
def l_X1_become  : Nat → wI → Int32 → wI × Int32
  | 0, I, k => (I, k)
  | nf + 1, I, k => (if 6 ≤ k then (I, k) else (if 6 ≤ k then (I, k) else (l_X1_become nf (wU I 4 k.toNatClampNeg (I 6 k.toNatClampNeg)) (k + 1) )))
set_option maxHeartbeats 4000000 in
set_option maxRecDepth 100000 in
theorem lp_X1_become {p : Program} {l : Launch} {e : Env} {R : Room} {s : State} {m : MethodId} {args : Array Value} {below : List Frame} {meth : Method} {c : Code} {cells slots : Nat} {Q : State → Prop} {D : va_G} {y : Nat → ClassId} {b : Nat} {z : Nat → Nat} {G : wG} {J : wJ}  (X : wCx p m c cX1_become 3 s args wsX1_become yX1_become.cls D y b) (hst : St z b s) (hL : w_full G) (hRf : 0 ≤ R.frames) (hRl : 0 ≤ R.locals) (hRc : cells ≤ R.cells) (hRs : slots ≤ R.slots)   : ∀ (nf : Nat) (I : wI) (k : Int32) (H : Heap) (locs : List Loc) (ls : Array Slot), (0 ≤ k.toInt ∧ k.toInt ≤ 6) → ((6 - k.toInt).toNat < nf) → Wh D y b G I J s H locs → lv_has ls 3 [(2, .int k), (0, .ref (G.1 3)), (1, .ref (G.1 6))] → (∀ (H : Heap) (locs : List Loc) (ls : Array Slot), Wh D y b G (l_X1_become nf I k ).1 J s H locs → lv_has ls 3 [(2, .int (l_X1_become nf I k ).2), (0, .ref (G.1 3)), (1, .ref (G.1 6))] → W p l e R s m args below meth c H locs cells slots Q (F0 m 32 ls [])) → W p l e R s m args below meth c H locs cells slots Q (F0 m 2 ls []) := by
  have hx := X.1.1
  have hb := X.1.2.1
  intro nf
  induction nf with
  | zero => intro I k H locs ls hi hm; exact absurd hm (by omega)
  | succ nf ih =>
    intro I k H locs ls hi hm hw hl kk
    refine lv_iload_n hx hb dX1_become_2 rfl (lv_at hl 0 rfl) ?_
    refine lv_aload_n hx hb dX1_become_3 rfl (lv_at hl 1 rfl) ?_
    refine w_get X hw 2 0 (hL 3 (by decide)) rfl (by decide) k_X1 in_X1_become_X1 (by decide) (by decide +kernel) rfl (v := .ref (G.1 4)) rfl dX1_become_4 ?_
    refine w_len X hw (hL 4 (by decide)) rfl (by decide) dX1_become_7 ?_
    refine lv_topi (fun n_7 en_7 => ?_)
    have en_7 : n_7 = 6 := by rw [en_7]; rfl
    subst en_7
    refine lv_icmp_ge (tgt := 32) hx hb dX1_become_8 (by decide) (fun c_8 => ?_) (fun c_8 => ?_)
    · have hw9 := hw
      have hl9 := hl
      have el : l_X1_become (nf + 1) I k  = (I, k) := by rw [l_X1_become]; rw [if_pos c_8]
      exact kk _ _ _ (by rw [el]; exact hw9) (by rw [el]; exact (lv_sub hl9 [0, 1, 2] rfl))
    · refine lv_iload_n hx hb dX1_become_11 rfl (lv_at hl 0 rfl) ?_
      refine lv_aload_n hx hb dX1_become_12 rfl (lv_at hl 2 rfl) ?_
      refine w_len X hw (hL 6 (by decide)) rfl (by decide) dX1_become_13 ?_
      refine lv_topi (fun n_13 en_13 => ?_)
      have en_13 : n_13 = 6 := by rw [en_13]; rfl
      subst en_13
      refine lv_icmp_ge (tgt := 32) hx hb dX1_become_14 (by decide) (fun c_14 => ?_) (fun c_14 => ?_)
      · have hw9 := hw
        have hl9 := hl
        have el : l_X1_become (nf + 1) I k  = (I, k) := by rw [l_X1_become]; rw [if_neg c_8, if_pos c_14]
        exact kk _ _ _ (by rw [el]; exact hw9) (by rw [el]; exact (lv_sub hl9 [0, 1, 2] rfl))
      · refine lv_aload_n hx hb dX1_become_17 rfl (lv_at hl 1 rfl) ?_
        refine w_get X hw 2 0 (hL 3 (by decide)) rfl (by decide) k_X1 in_X1_become_X1 (by decide) (by decide +kernel) rfl (v := .ref (G.1 4)) rfl dX1_become_18 ?_
        refine lv_iload_n hx hb dX1_become_21 rfl (lv_at hl 0 rfl) ?_
        refine lv_aload_n hx hb dX1_become_22 rfl (lv_at hl 2 rfl) ?_
        refine lv_iload_n hx hb dX1_become_23 rfl (lv_at hl 0 rfl) ?_
        have h_24 : vp_in k 6 := cn_i c_8 hi
        refine w_ild X hw (hL 6 (by decide)) rfl h_24 dX1_become_24 ?_
        refine lv_topi (fun x_1 ex_1 => ?_)
        have h_25 : vp_in k 6 := cn_i c_8 hi
        refine w_ist X hw (hL 4 (by decide)) rfl h_25 dX1_become_25 (fun H locs hw => ?_)
        obtain ⟨x_2, ex_2⟩ : ∃ y : Int32, y = k + 1 := ⟨_, rfl⟩
        refine lv_iinc (v := x_2) (lv' := [(2, .int x_2), (0, .ref (G.1 3)), (1, .ref (G.1 6))]) hx hb dX1_become_26 hl (k := 0) rfl (by rw [ex_2]; rfl) (by decide) rfl (fun ls hl => ?_)
        refine lv_goto (tgt := 2) hx hb dX1_become_29 (by decide) ?_
        have hw9 := hw
        have hl9 := hl
        obtain rfl := ex_1.symm
        obtain rfl := ex_2.symm
        have el : l_X1_become (nf + 1) I k  = l_X1_become nf (wU I 4 k.toNatClampNeg (I 6 k.toNatClampNeg)) (k + 1)  := by rw [l_X1_become]; rw [if_neg c_8, if_neg c_14]
        exact ih (wU I 4 k.toNatClampNeg (I 6 k.toNatClampNeg)) (k + 1) _ _ _ (cn_inv c_8 hi) (cn_m c_8 hi hm) hw9 (lv_sub hl9 [0, 1, 2] rfl) (fun H locs ls hw hl => kk H locs ls (by rw [el]; exact hw) (by rw [el]; exact hl))
theorem fr_X1_become   : ∀ (nf : Nat) (I : wI) (k : Int32)  (q9 : Nat) (h4 : q9 ≠ 4), (l_X1_become nf I k ).1 q9 = I q9 := by
  intro nf
  induction nf with
  | zero => intros; rfl
  | succ nf ih =>
    intro I k  q9 h4
    rw [l_X1_become]
    repeat' split
    all_goals first | with_reducible rfl | (rw [ih _ _  q9 h4]; done) | (rw [ih _ _  q9 h4]; simp only [wU_ne _ _ _ h4]) | (simp only [wU_ne _ _ _ h4])
def f_X1_become (I : wI)  : wI := (l_X1_become  7 I 0).1
theorem fr_f_X1_become (I : wI)  (q9 : Nat) (h4 : q9 ≠ 4) : (f_X1_become I) q9 = I q9 := by
  unfold f_X1_become
  repeat' split
  all_goals first | with_reducible rfl | (simp only [wU_ne _ _ _ h4, fr_X1_become _ _ _ _ h4])
set_option maxHeartbeats 4000000 in
set_option maxRecDepth 100000 in
theorem c_X1_become (l : Launch) (D : va_G) (y : Nat → ClassId) (b : Nat) (z : Nat → Nat) (G : wG) (I : wI) (J : wJ) (hL : w_full G)   : mV l yX1_become wsX1_become { frames := 0, cells := 0, slots := 0, locals := 0 } D y b z G I J [.ref (G.1 3), .ref (G.1 6)] (fun u => u.2.1 = f_X1_become I ∧ u.1 = G ∧ u.2.2 = J) 0 0 := by
  refine w_enter (by decide) rfl (Nat.le_of_ble_eq_true rfl) rfl ?_
  intro p e s m below meth c ls X hr hlk hnm hw hst hl
  have hx := X.1.1
  have hb := X.1.2.1
  obtain ⟨po_c_X1_become, epo⟩ : ∃ qpo9 : wS → Prop, qpo9 = (fun u => u.2.1 = f_X1_become I ∧ u.1 = G ∧ u.2.2 = J) := ⟨_, rfl⟩
  rw [← epo]
  refine lv_iconst (v := 0) hx hb dX1_become_0 (by decide) ?_
  refine lv_istore_n (lv' := [(2, .int 0), (0, .ref (G.1 3)), (1, .ref (G.1 6))]) hx hb dX1_become_1 rfl hl (by decide) rfl (fun ls hl => ?_)
  refine lp_X1_become  X hst hL (Nat.le_of_ble_eq_true rfl) (Nat.le_of_ble_eq_true rfl) (Nat.le_of_ble_eq_true rfl) (Nat.le_of_ble_eq_true rfl)   7 I 0 _ _ _ (by decide) (by decide) hw (lv_sub hl [0, 1, 2] rfl) (fun H locs ls hw hl => ?_)
  obtain ⟨Q_1, eQ_1⟩ : ∃ q9 : wI × Int32, q9 = l_X1_become  7 I 0 := ⟨_, rfl⟩
  rw [← eQ_1] at hw hl
  have hp_32 : po_c_X1_become (G, Q_1.1, J) := by
      obtain rfl := eQ_1.symm
      rw [epo]
      refine ⟨Eq.symm ?_, rfl, rfl⟩
      rfl
  exact w_vret X hr hlk hw hp_32 (Nat.le_of_ble_eq_true rfl) (Nat.le_of_ble_eq_true rfl) dX1_become_32
