def f_X6_size (I : wI)  : Int32 := (I 1 1)
set_option maxRecDepth 20000 in
theorem in_X6_size_X6 : ∀ w ∈ u_ws RX6 TX6 2, w ∈ wsX6_size := fun _ h => List.mem_cons_of_mem _ (List.mem_append_right _ h)
set_option maxHeartbeats 4000000 in
set_option maxRecDepth 100000 in
theorem c_X6_size (l : Launch) (D : va_G) (y : Nat → ClassId) (b : Nat) (z : Nat → Nat) (G : wG) (I : wI) (J : wJ) (hL : w_full G)   : mI l yX6_size wsX6_size { frames := 0, cells := 0, slots := 0, locals := 0 } D y b z G I J [.ref (G.1 1)] (fun r u => r = f_X6_size I ∧ u = (G, I, J)) 0 0 := by
  refine w_enter (by decide) rfl (Nat.le_of_ble_eq_true rfl) rfl ?_
  intro p e s m below meth c ls X hr hlk hnm hw hst hl
  have hx := X.1.1
  have hb := X.1.2.1
  obtain ⟨po_c_X6_size, epo⟩ : ∃ qpo9 : Int32 → wS → Prop, qpo9 = (fun r u => r = f_X6_size I ∧ u = (G, I, J)) := ⟨_, rfl⟩
  rw [← epo]
  refine lv_aload_n hx hb dX6_size_0 rfl (lv_at hl 0 rfl) ?_
  refine w_get X hw 7 1 (hL 1 (by decide)) rfl (by decide) k_X6 in_X6_size_X6 (by decide) (by decide +kernel) rfl (v := .int (I 1 1)) rfl dX6_size_1 ?_
  have hp_4 : po_c_X6_size (I 1 1) (G, I, J) := by
      rw [epo]
      refine ⟨Eq.symm ?_, rfl⟩
      rfl
  exact w_iret X hr hlk hw hp_4 (Nat.le_of_ble_eq_true rfl) (Nat.le_of_ble_eq_true rfl) dX6_size_4
def f_X6_cutTo (I : wI) (n : Int32) : Int32 × wI := (if n < 0 then (0, I) else (if n ≤ (I 1 1) then (1, (wU I 1 1 n)) else (0, I)))
theorem fr_f_X6_cutTo (I : wI) (n : Int32) (q9 : Nat) (h1 : q9 ≠ 1) : (f_X6_cutTo I n).2 q9 = I q9 := by
  unfold f_X6_cutTo
  repeat' split
  all_goals first | with_reducible rfl | (simp only [wU_ne _ _ _ h1])
set_option maxRecDepth 20000 in
theorem in_X6_cutTo_X6 : ∀ w ∈ u_ws RX6 TX6 2, w ∈ wsX6_cutTo := fun _ h => List.mem_cons_of_mem _ (List.mem_append_right _ h)
set_option maxHeartbeats 4000000 in
set_option maxRecDepth 100000 in
theorem c_X6_cutTo (l : Launch) (D : va_G) (y : Nat → ClassId) (b : Nat) (z : Nat → Nat) (G : wG) (I : wI) (J : wJ) (hL : w_full G) (n : Int32)  : mI l yX6_cutTo wsX6_cutTo { frames := 0, cells := 0, slots := 0, locals := 0 } D y b z G I J [.ref (G.1 1), .int n] (fun r u => (r = (f_X6_cutTo I n).1 ∧ u.2.1 = (f_X6_cutTo I n).2) ∧ u.1 = G ∧ u.2.2 = J) 0 0 := by
  refine w_enter (by decide) rfl (Nat.le_of_ble_eq_true rfl) rfl ?_
  intro p e s m below meth c ls X hr hlk hnm hw hst hl
  have hx := X.1.1
  have hb := X.1.2.1
  obtain ⟨po_c_X6_cutTo, epo⟩ : ∃ qpo9 : Int32 → wS → Prop, qpo9 = (fun r u => (r = (f_X6_cutTo I n).1 ∧ u.2.1 = (f_X6_cutTo I n).2) ∧ u.1 = G ∧ u.2.2 = J) := ⟨_, rfl⟩
  rw [← epo]
  refine lv_iload_n hx hb dX6_cutTo_0 rfl (lv_at hl 1 rfl) ?_
  refine lv_if_lt (tgt := 12) hx hb dX6_cutTo_1 (by decide) (fun c_1 => ?_) (fun c_1 => ?_)
  · refine lv_iconst (v := 0) hx hb dX6_cutTo_12 (by decide) ?_
    have hp_13 : po_c_X6_cutTo 0 (G, I, J) := by
        rw [epo]
        have ef : f_X6_cutTo I n = (0, I) := by unfold f_X6_cutTo; rw [if_pos c_1]
        exact ⟨⟨by rw [ef], by rw [ef]⟩, rfl, rfl⟩
    exact w_zret X hr (by decide) hlk hw hp_13 (Nat.le_of_ble_eq_true rfl) (Nat.le_of_ble_eq_true rfl) dX6_cutTo_13
  · refine lv_iload_n hx hb dX6_cutTo_4 rfl (lv_at hl 1 rfl) ?_
    refine lv_aload_n hx hb dX6_cutTo_5 rfl (lv_at hl 0 rfl) ?_
    refine w_get X hw 7 1 (hL 1 (by decide)) rfl (by decide) k_X6 in_X6_cutTo_X6 (by decide) (by decide +kernel) rfl (v := .int (I 1 1)) rfl dX6_cutTo_6 ?_
    refine lv_icmp_le (tgt := 14) hx hb dX6_cutTo_9 (by decide) (fun c_9 => ?_) (fun c_9 => ?_)
    · refine lv_aload_n hx hb dX6_cutTo_14 rfl (lv_at hl 0 rfl) ?_
      refine lv_iload_n hx hb dX6_cutTo_15 rfl (lv_at hl 1 rfl) ?_
      refine w_put X hw 7 1 (hL 1 (by decide)) rfl (by decide) k_X6 in_X6_cutTo_X6 (by decide) (by decide +kernel) rfl rfl (t := .int) (by decide +kernel) rfl rfl (fun _ => rfl) (fun _ => Nat.le_of_ble_eq_true rfl) dX6_cutTo_16 (fun H locs hw => ?_)
      refine lv_iconst (v := 1) hx hb dX6_cutTo_19 (by decide) ?_
      have hp_20 : po_c_X6_cutTo 1 (G, (wU I 1 1 n), J) := by
          rw [epo]
          have ef : f_X6_cutTo I n = (1, (wU I 1 1 n)) := by unfold f_X6_cutTo; rw [if_neg c_1, if_pos c_9]
          exact ⟨⟨by rw [ef], by rw [ef]⟩, rfl, rfl⟩
      exact w_zret X hr (by decide) hlk hw hp_20 (Nat.le_of_ble_eq_true rfl) (Nat.le_of_ble_eq_true rfl) dX6_cutTo_20
    · refine lv_iconst (v := 0) hx hb dX6_cutTo_12 (by decide) ?_
      have hp_13 : po_c_X6_cutTo 0 (G, I, J) := by
          rw [epo]
          have ef : f_X6_cutTo I n = (0, I) := by unfold f_X6_cutTo; rw [if_neg c_1, if_neg c_9]
          exact ⟨⟨by rw [ef], by rw [ef]⟩, rfl, rfl⟩
      exact w_zret X hr (by decide) hlk hw hp_13 (Nat.le_of_ble_eq_true rfl) (Nat.le_of_ble_eq_true rfl) dX6_cutTo_13
def f_X6_at (I : wI) (q : Int32) : Int32 := (if q < 0 then (-1) else (if (I 1 1) ≤ q then (-1) else ((I 2 q.toNatClampNeg) &&& 255)))
set_option maxRecDepth 20000 in
theorem in_X6_at_X6 : ∀ w ∈ u_ws RX6 TX6 2, w ∈ wsX6_at := fun _ h => List.mem_cons_of_mem _ (List.mem_append_right _ h)
set_option maxHeartbeats 4000000 in
set_option maxRecDepth 100000 in
theorem c_X6_at (l : Launch) (D : va_G) (y : Nat → ClassId) (b : Nat) (z : Nat → Nat) (G : wG) (I : wI) (J : wJ) (hL : w_full G) (q : Int32) (hs : (I 1 1).toInt ≤ 400) : mI l yX6_at wsX6_at { frames := 0, cells := 0, slots := 0, locals := 0 } D y b z G I J [.ref (G.1 1), .int q] (fun r u => r = f_X6_at I q ∧ u = (G, I, J)) 0 0 := by
  refine w_enter (by decide) rfl (Nat.le_of_ble_eq_true rfl) rfl ?_
  intro p e s m below meth c ls X hr hlk hnm hw hst hl
  have hx := X.1.1
  have hb := X.1.2.1
  obtain ⟨po_c_X6_at, epo⟩ : ∃ qpo9 : Int32 → wS → Prop, qpo9 = (fun r u => r = f_X6_at I q ∧ u = (G, I, J)) := ⟨_, rfl⟩
  rw [← epo]
  refine lv_iload_n hx hb dX6_at_0 rfl (lv_at hl 1 rfl) ?_
  refine lv_if_lt (tgt := 25) hx hb dX6_at_1 (by decide) (fun c_1 => ?_) (fun c_1 => ?_)
  · refine lv_iconst (v := -1) hx hb dX6_at_25 (by decide) ?_
    have hp_26 : po_c_X6_at (-1) (G, I, J) := by
        rw [epo]
        refine ⟨Eq.symm ?_, rfl⟩
        unfold f_X6_at; rw [if_pos c_1]
    exact w_iret X hr hlk hw hp_26 (Nat.le_of_ble_eq_true rfl) (Nat.le_of_ble_eq_true rfl) dX6_at_26
  · refine lv_iload_n hx hb dX6_at_4 rfl (lv_at hl 1 rfl) ?_
    refine lv_aload_n hx hb dX6_at_5 rfl (lv_at hl 0 rfl) ?_
    refine w_get X hw 7 1 (hL 1 (by decide)) rfl (by decide) k_X6 in_X6_at_X6 (by decide) (by decide +kernel) rfl (v := .int (I 1 1)) rfl dX6_at_6 ?_
    refine lv_icmp_ge (tgt := 25) hx hb dX6_at_9 (by decide) (fun c_9 => ?_) (fun c_9 => ?_)
    · refine lv_iconst (v := -1) hx hb dX6_at_25 (by decide) ?_
      have hp_26 : po_c_X6_at (-1) (G, I, J) := by
          rw [epo]
          refine ⟨Eq.symm ?_, rfl⟩
          unfold f_X6_at; rw [if_neg c_1, if_pos c_9]
      exact w_iret X hr hlk hw hp_26 (Nat.le_of_ble_eq_true rfl) (Nat.le_of_ble_eq_true rfl) dX6_at_26
    · refine lv_aload_n hx hb dX6_at_12 rfl (lv_at hl 0 rfl) ?_
      refine w_get X hw 7 0 (hL 1 (by decide)) rfl (by decide) k_X6 in_X6_at_X6 (by decide) (by decide +kernel) rfl (v := .ref (G.1 2)) rfl dX6_at_13 ?_
      refine lv_iload_n hx hb dX6_at_16 rfl (lv_at hl 1 rfl) ?_
      have h_17 : vp_in q 400 := ix_tp hs c_1 c_9
      refine w_bld X hw (hL 2 (by decide)) rfl h_17 dX6_at_17 ?_
      refine lv_sipush (v := 255) hx hb dX6_at_18 (by decide) ?_
      refine lv_iand hx hb dX6_at_21 ?_
      refine lv_goto (tgt := 26) hx hb dX6_at_22 (by decide) ?_
      have hp_26 : po_c_X6_at ((I 2 q.toNatClampNeg) &&& 255) (G, I, J) := by
          rw [epo]
          refine ⟨Eq.symm ?_, rfl⟩
          unfold f_X6_at; rw [if_neg c_1, if_neg c_9]
      exact w_iret X hr hlk hw hp_26 (Nat.le_of_ble_eq_true rfl) (Nat.le_of_ble_eq_true rfl) dX6_at_26
set_option maxRecDepth 20000 in
theorem in_X6_append_X6 : ∀ w ∈ u_ws RX6 TX6 2, w ∈ wsX6_append := fun _ h => List.mem_cons_of_mem _ (List.mem_append_right _ h)
set_option maxHeartbeats 4000000 in
set_option maxRecDepth 100000 in
theorem b_X6_append {p : Program} {l : Launch} {e : Env} {R : Room} {s : State} {m : MethodId} {args : Array Value} {below : List Frame} {meth : Method} {c : Code} {cells slots : Nat} {Q : State → Prop} {D : va_G} {y : Nat → ClassId} {b : Nat} {z : Nat → Nat} {G : wG} {J : wJ} (X : wCx p m c cX6_append 3 s args wsX6_append yX6_append.cls D y b) (hst : St z b s) (hL : w_full G) {I : wI} {x sh : Int32} {H : Heap} {locs : List Loc} {ls : Array Slot} (hw : Wh D y b G I J s H locs) (hl : lv_has ls 3 [(2, .int sh), (0, .ref (G.1 1)), (1, .int x)]) (h0 : 0 ≤ sh) (hs : 0 ≤ (I 1 1).toInt ∧ (I 1 1).toInt < 400) (kk : ∀ (H : Heap) (locs : List Loc) (ls : Array Slot) (sh2 : Int32), sh2 = sh + (-8) → Wh D y b G (tp_1 I x sh) J s H locs → lv_has ls 3 [(2, .int sh2), (0, .ref (G.1 1)), (1, .int x)] → W p l e R s m args below meth c H locs cells slots Q (F0 m 3 ls [])) :  W p l e R s m args below meth c H locs cells slots Q (F0 m 3 ls []) := by
  have hx := X.1.1
  have hb := X.1.2.1
  refine lv_iload_n hx hb dX6_append_3 rfl (lv_at hl 0 rfl) ?_
  refine lv_if_lt (tgt := 48) hx hb dX6_append_4 (by decide) (fun c_4 => ?_) (fun c_4 => ?_)
  · exact absurd c_4 (by simp only [i_le, i_lt, i_eq, Int32.reduceToInt] at *; omega)
  · refine lv_aload_n hx hb dX6_append_7 rfl (lv_at hl 1 rfl) ?_
    refine w_get X hw 7 1 (hL 1 (by decide)) rfl (by decide) k_X6 in_X6_append_X6 (by decide) (by decide +kernel) rfl (v := .int (I 1 1)) rfl dX6_append_8 ?_
    refine lv_aload_n hx hb dX6_append_11 rfl (lv_at hl 1 rfl) ?_
    refine w_get X hw 7 0 (hL 1 (by decide)) rfl (by decide) k_X6 in_X6_append_X6 (by decide) (by decide +kernel) rfl (v := .ref (G.1 2)) rfl dX6_append_12 ?_
    refine w_len X hw (hL 2 (by decide)) rfl (by decide) dX6_append_15 ?_
    refine lv_topi (fun n_15 en_15 => ?_)
    have en_15 : n_15 = 400 := by rw [en_15]; rfl
    subst en_15
    refine lv_icmp_ge (tgt := 42) hx hb dX6_append_16 (by decide) (fun c_16 => ?_) (fun c_16 => ?_)
    · exact absurd c_16 (by simp only [i_le, i_lt, i_eq, Int32.reduceToInt] at *; omega)
    · refine lv_aload_n hx hb dX6_append_19 rfl (lv_at hl 1 rfl) ?_
      refine w_get X hw 7 0 (hL 1 (by decide)) rfl (by decide) k_X6 in_X6_append_X6 (by decide) (by decide +kernel) rfl (v := .ref (G.1 2)) rfl dX6_append_20 ?_
      refine lv_aload_n hx hb dX6_append_23 rfl (lv_at hl 1 rfl) ?_
      refine w_get X hw 7 1 (hL 1 (by decide)) rfl (by decide) k_X6 in_X6_append_X6 (by decide) (by decide +kernel) rfl (v := .int (I 1 1)) rfl dX6_append_24 ?_
      refine lv_iload_n hx hb dX6_append_27 rfl (lv_at hl 2 rfl) ?_
      refine lv_iload_n hx hb dX6_append_28 rfl (lv_at hl 0 rfl) ?_
      refine lv_iushr hx hb dX6_append_29 rfl ?_
      refine lv_i2b hx hb dX6_append_30 rfl ?_
      refine lv_topi (fun x_1 ex_1 => ?_)
      have h_31 : vp_in (I 1 1) 400 := by rw [vp_in_iff]; exact hs
      refine w_bst X hw (hL 2 (by decide)) rfl h_31 dX6_append_31 (fun H locs hw => ?_)
      refine lv_aload_n hx hb dX6_append_32 rfl (lv_at hl 1 rfl) ?_
      refine lv_dup hx hb dX6_append_33 rfl ?_
      refine w_get X hw 7 1 (hL 1 (by decide)) rfl (by decide) k_X6 in_X6_append_X6 (by decide) (by decide +kernel) rfl (v := .int (I 1 1)) rfl dX6_append_34 ?_
      refine lv_iconst (v := 1) hx hb dX6_append_37 (by decide) ?_
      refine lv_iadd hx hb dX6_append_38 ?_
      refine lv_topi (fun x_2 ex_2 => ?_)
      refine w_put X hw 7 1 (hL 1 (by decide)) rfl (by decide) k_X6 in_X6_append_X6 (by decide) (by decide +kernel) rfl rfl (t := .int) (by decide +kernel) rfl rfl (fun _ => rfl) (fun _ => Nat.le_of_ble_eq_true rfl) dX6_append_39 (fun H locs hw => ?_)
      obtain ⟨x_3, ex_3⟩ : ∃ y : Int32, y = sh + (-8) := ⟨_, rfl⟩
      refine lv_iinc (v := x_3) (lv' := [(2, .int x_3), (0, .ref (G.1 1)), (1, .int x)]) hx hb dX6_append_42 hl (k := 0) rfl (by rw [ex_3]; rfl) (by decide) rfl (fun ls hl => ?_)
      refine lv_goto (tgt := 3) hx hb dX6_append_45 (by decide) ?_
      subst_vars
      exact kk _ _ _ _ rfl hw hl
set_option maxHeartbeats 4000000 in
set_option maxRecDepth 100000 in
theorem c_X6_append (l : Launch) (D : va_G) (y : Nat → ClassId) (b : Nat) (z : Nat → Nat) (G : wG) (I : wI) (J : wJ) (hL : w_full G) (x : Int32) (hs : 0 ≤ (I 1 1).toInt ∧ (I 1 1).toInt ≤ 396) : mV l yX6_append wsX6_append { frames := 0, cells := 0, slots := 0, locals := 0 } D y b z G I J [.ref (G.1 1), .int x] (fun u => u.2.1 = tp_4 I x ∧ u.1 = G ∧ u.2.2 = J) 0 0 := by
  refine w_enter (by decide) rfl (Nat.le_of_ble_eq_true rfl) rfl ?_
  intro p e s m below meth c ls X hr hlk hnm hw hst hl
  have hx := X.1.1
  have hb := X.1.2.1
  obtain ⟨po_c_X6_append, epo⟩ : ∃ qpo9 : wS → Prop, qpo9 = (fun u => u.2.1 = tp_4 I x ∧ u.1 = G ∧ u.2.2 = J) := ⟨_, rfl⟩
  rw [← epo]
  refine lv_bipush (v := 24) hx hb dX6_append_0 (by decide) ?_
  refine lv_istore_n (lv' := [(2, .int 24), (0, .ref (G.1 1)), (1, .int x)]) hx hb dX6_append_2 rfl hl (by decide) rfl (fun ls hl => ?_)
  have h1 : (1 : Int32).toInt = 1 := rfl
  refine b_X6_append X hst hL hw hl (by decide) ⟨hs.1, by omega⟩ (fun H locs ls s1 e1 hw hl => ?_)
  have f1 : (tp_1 I x 24 1 1).toInt = (I 1 1).toInt + 1 := by rw [tp_1_n, i_add (by rw [h1]; omega) (by rw [h1]; omega), h1]
  refine b_X6_append X hst hL hw hl (by rw [e1]; decide) ⟨by omega, by omega⟩ (fun H locs ls s2 e2 hw hl => ?_)
  rw [e1] at hw e2
  have f2 : (tp_1 (tp_1 I x 24) x (24 + -8) 1 1).toInt = (I 1 1).toInt + 2 := by rw [tp_1_n, i_add (by rw [h1, f1]; omega) (by rw [h1, f1]; omega), h1, f1]; omega
  refine b_X6_append X hst hL hw hl (by rw [e2]; decide) ⟨by omega, by omega⟩ (fun H locs ls s3 e3 hw hl => ?_)
  rw [e2] at hw e3
  have f3 : (tp_1 (tp_1 (tp_1 I x 24) x (24 + -8)) x (24 + -8 + -8) 1 1).toInt = (I 1 1).toInt + 3 := by rw [tp_1_n, i_add (by rw [h1, f2]; omega) (by rw [h1, f2]; omega), h1, f2]; omega
  refine b_X6_append X hst hL hw hl (by rw [e3]; decide) ⟨by omega, by omega⟩ (fun H locs ls s4 e4 hw hl => ?_)
  rw [e3] at hw e4
  have hw : Wh D y b G (tp_4 I x) J s H locs := hw
  have e4 : s4 = -8 := e4
  subst e4
  refine lv_iload_n hx hb dX6_append_3 rfl (lv_at hl 0 rfl) ?_
  refine lv_if_lt (tgt := 48) hx hb dX6_append_4 (by decide) (fun c_4 => ?_) (fun c_4 => absurd (by decide) c_4)
  exact w_vret X hr hlk hw (by rw [epo]; exact ⟨rfl, rfl, rfl⟩) (Nat.le_of_ble_eq_true rfl) (Nat.le_of_ble_eq_true rfl) dX6_append_48
