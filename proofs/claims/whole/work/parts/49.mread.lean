def f_X9_isAt (I : wI) (lo : Int32) (hi2 : Int32) : Int32 := (if (I 22 26) ≤ (I 22 25) then 0 else (if (I 52 (I 22 25).toNatClampNeg) < lo then 0 else (if hi2 < (I 52 (I 22 25).toNatClampNeg) then 0 else 1)))
theorem f_X9_isAt_01 (I : wI) (lo : Int32) (hi2 : Int32) : f_X9_isAt I lo hi2 = 1 ∨ ¬ f_X9_isAt I lo hi2 = 1 ∧ f_X9_isAt I lo hi2 = 0 := by
  unfold f_X9_isAt
  repeat' split
  all_goals first | exact Or.inl rfl | exact Or.inr ⟨by decide, rfl⟩
set_option maxRecDepth 20000 in
theorem in_X9_isAt_X9 : ∀ w ∈ u_ws RX9 TX9 42, w ∈ wsX9_isAt := fun _ h => List.mem_cons_of_mem _ (List.mem_append_right _ h)
set_option maxHeartbeats 4000000 in
set_option maxRecDepth 100000 in
theorem c_X9_isAt (l : Launch) (D : va_G) (y : Nat → ClassId) (b : Nat) (z : Nat → Nat) (G : wG) (I : wI) (J : wJ) (hL : w_full G) (lo : Int32) (hi2 : Int32) (hA : 0 ≤ (I 22 25).toInt) (hE : (I 22 26).toInt ≤ 400) : mI l yX9_isAt wsX9_isAt { frames := 0, cells := 0, slots := 0, locals := 0 } D y b z G I J [.ref (G.1 22), .int lo, .int hi2] (fun r u => r = f_X9_isAt I lo hi2 ∧ u = (G, I, J)) 0 0 := by
  refine w_enter (by decide) rfl (Nat.le_of_ble_eq_true rfl) rfl ?_
  intro p e s m below meth c ls X hr hlk hnm hw hst hl
  have hx := X.1.1
  have hb := X.1.2.1
  obtain ⟨po_c_X9_isAt, epo⟩ : ∃ qpo9 : Int32 → wS → Prop, qpo9 = (fun r u => r = f_X9_isAt I lo hi2 ∧ u = (G, I, J)) := ⟨_, rfl⟩
  rw [← epo]
  refine lv_aload_n hx hb dX9_isAt_0 rfl (lv_at hl 0 rfl) ?_
  refine w_get X hw 10 25 (hL 22 (by decide)) rfl (by decide) k_X9 in_X9_isAt_X9 (by decide) (by decide +kernel) rfl (v := .int (I 22 25)) rfl dX9_isAt_1 ?_
  refine lv_aload_n hx hb dX9_isAt_4 rfl (lv_at hl 0 rfl) ?_
  refine w_get X hw 10 26 (hL 22 (by decide)) rfl (by decide) k_X9 in_X9_isAt_X9 (by decide) (by decide +kernel) rfl (v := .int (I 22 26)) rfl dX9_isAt_5 ?_
  refine lv_icmp_ge (tgt := 41) hx hb dX9_isAt_8 (by decide) (fun c_8 => ?_) (fun c_8 => ?_)
  · refine lv_iconst (v := 0) hx hb dX9_isAt_41 (by decide) ?_
    have hp_42 : po_c_X9_isAt 0 (G, I, J) := by
        rw [epo]
        refine ⟨Eq.symm ?_, rfl⟩
        unfold f_X9_isAt; rw [if_pos c_8]
    exact w_zret X hr (by decide) hlk hw hp_42 (Nat.le_of_ble_eq_true rfl) (Nat.le_of_ble_eq_true rfl) dX9_isAt_42
  · refine lv_aload_n hx hb dX9_isAt_11 rfl (lv_at hl 0 rfl) ?_
    refine w_get X hw 10 22 (hL 22 (by decide)) rfl (by decide) k_X9 in_X9_isAt_X9 (by decide) (by decide +kernel) rfl (v := .ref (G.1 52)) rfl dX9_isAt_12 ?_
    refine lv_aload_n hx hb dX9_isAt_15 rfl (lv_at hl 0 rfl) ?_
    refine w_get X hw 10 25 (hL 22 (by decide)) rfl (by decide) k_X9 in_X9_isAt_X9 (by decide) (by decide +kernel) rfl (v := .int (I 22 25)) rfl dX9_isAt_16 ?_
    have h_19 : vp_in (I 22 25) 400 := ix_at hA hE c_8
    refine w_bld X hw (hL 52 (by decide)) rfl h_19 dX9_isAt_19 ?_
    refine lv_iload_n hx hb dX9_isAt_20 rfl (lv_at hl 1 rfl) ?_
    refine lv_icmp_lt (tgt := 41) hx hb dX9_isAt_21 (by decide) (fun c_21 => ?_) (fun c_21 => ?_)
    · refine lv_iconst (v := 0) hx hb dX9_isAt_41 (by decide) ?_
      have hp_42 : po_c_X9_isAt 0 (G, I, J) := by
          rw [epo]
          refine ⟨Eq.symm ?_, rfl⟩
          unfold f_X9_isAt; rw [if_neg c_8, if_pos c_21]
      exact w_zret X hr (by decide) hlk hw hp_42 (Nat.le_of_ble_eq_true rfl) (Nat.le_of_ble_eq_true rfl) dX9_isAt_42
    · refine lv_aload_n hx hb dX9_isAt_24 rfl (lv_at hl 0 rfl) ?_
      refine w_get X hw 10 22 (hL 22 (by decide)) rfl (by decide) k_X9 in_X9_isAt_X9 (by decide) (by decide +kernel) rfl (v := .ref (G.1 52)) rfl dX9_isAt_25 ?_
      refine lv_aload_n hx hb dX9_isAt_28 rfl (lv_at hl 0 rfl) ?_
      refine w_get X hw 10 25 (hL 22 (by decide)) rfl (by decide) k_X9 in_X9_isAt_X9 (by decide) (by decide +kernel) rfl (v := .int (I 22 25)) rfl dX9_isAt_29 ?_
      have h_32 : vp_in (I 22 25) 400 := ix_at hA hE c_8
      refine w_bld X hw (hL 52 (by decide)) rfl h_32 dX9_isAt_32 ?_
      refine lv_iload_n hx hb dX9_isAt_33 rfl (lv_at hl 2 rfl) ?_
      refine lv_icmp_gt (tgt := 41) hx hb dX9_isAt_34 (by decide) (fun c_34 => ?_) (fun c_34 => ?_)
      · refine lv_iconst (v := 0) hx hb dX9_isAt_41 (by decide) ?_
        have hp_42 : po_c_X9_isAt 0 (G, I, J) := by
            rw [epo]
            refine ⟨Eq.symm ?_, rfl⟩
            unfold f_X9_isAt; rw [if_neg c_8, if_neg c_21, if_pos c_34]
        exact w_zret X hr (by decide) hlk hw hp_42 (Nat.le_of_ble_eq_true rfl) (Nat.le_of_ble_eq_true rfl) dX9_isAt_42
      · refine lv_iconst (v := 1) hx hb dX9_isAt_37 (by decide) ?_
        refine lv_goto (tgt := 42) hx hb dX9_isAt_38 (by decide) ?_
        have hp_42 : po_c_X9_isAt 1 (G, I, J) := by
            rw [epo]
            refine ⟨Eq.symm ?_, rfl⟩
            unfold f_X9_isAt; rw [if_neg c_8, if_neg c_21, if_neg c_34]
        exact w_zret X hr (by decide) hlk hw hp_42 (Nat.le_of_ble_eq_true rfl) (Nat.le_of_ble_eq_true rfl) dX9_isAt_42
theorem at_lt {I : wI} {lo hi2 : Int32} (h : f_X9_isAt I lo hi2 = 1) : ¬ I 22 26 ≤ I 22 25 := by
  revert h
  unfold f_X9_isAt
  split
  · exact fun h => absurd h (by decide)
  · next h => exact fun _ => h
set_option maxRecDepth 20000 in
theorem in_X9_blanks_X9 : ∀ w ∈ u_ws RX9 TX9 42, w ∈ wsX9_blanks := fun _ h => List.mem_cons_of_mem _ (List.mem_append_right _ h)
def l_X9_blanks  : Nat → wI → wI
  | 0, I => (I)
  | nf + 1, I => (if f_X9_isAt I 32 32 = 1 then (l_X9_blanks nf (wU I 22 25 ((I 22 25) + 1))  ) else I)
set_option maxHeartbeats 4000000 in
set_option maxRecDepth 100000 in
theorem lp_X9_blanks {p : Program} {l : Launch} {e : Env} {R : Room} {s : State} {m : MethodId} {args : Array Value} {below : List Frame} {meth : Method} {c : Code} {cells slots : Nat} {Q : State → Prop} {D : va_G} {y : Nat → ClassId} {b : Nat} {z : Nat → Nat} {G : wG} {J : wJ}  (X : wCx p m c cX9_blanks 1 s args wsX9_blanks yX9_blanks.cls D y b) (hst : St z b s) (hL : w_full G) (hRf : 1 ≤ R.frames) (hRl : 22 ≤ R.locals) (hRc : cells ≤ R.cells) (hRs : slots ≤ R.slots)   : ∀ (nf : Nat) (I : wI) (H : Heap) (locs : List Loc) (ls : Array Slot), (0 ≤ (I 22 25).toInt ∧ (I 22 25).toInt ≤ (I 22 26).toInt ∧ (I 22 26).toInt ≤ 400) → (((I 22 26).toInt - (I 22 25).toInt).toNat < nf) → Wh D y b G I J s H locs → lv_has ls 1 [(0, .ref (G.1 22))] → (∀ (H : Heap) (locs : List Loc) (ls : Array Slot), Wh D y b G (l_X9_blanks nf I  ) J s H locs → lv_has ls 1 [(0, .ref (G.1 22))] → W p l e R s m args below meth c H locs cells slots Q (F0 m 24 ls [])) → W p l e R s m args below meth c H locs cells slots Q (F0 m 0 ls []) := by
  have hx := X.1.1
  have hb := X.1.2.1
  intro nf
  induction nf with
  | zero => intro I  H locs ls hi hm; exact absurd hm (by omega)
  | succ nf ih =>
    intro I  H locs ls hi hm hw hl kk
    refine lv_aload_n hx hb dX9_blanks_0 rfl (lv_at hl 0 rfl) ?_
    refine lv_bipush (v := 32) hx hb dX9_blanks_1 (by decide) ?_
    refine lv_bipush (v := 32) hx hb dX9_blanks_3 (by decide) ?_
    refine w_callVi (As := [.int 32, .int 32]) (rest := []) X hw hst hl (c_X9_isAt l D y b z G I J hL 32 32 hi.1 hi.2.2) (cwV 2 X.1.2.2.2.2 gX9_blanks_X9_isAt rfl rfl rfl (by decide +kernel) ⟨Nat.le_trans (Nat.le_of_ble_eq_true rfl) hRf, Nat.le_trans (Nat.le_of_ble_eq_true rfl) hRl⟩) (w_recv X hw (hL 22 (by decide)) rfl (by decide) k_X9) rfl rfl (Nat.le_of_ble_eq_true rfl) dX9_blanks_5 ⟨hRc, hRs⟩ (fun r_5_1 u H locs hp_5 hw => ?_)
    obtain ⟨hp_5, rfl⟩ := hp_5
    dsimp only at hw
    rcases f_X9_isAt_01  I 32 32 with q_5 | ⟨q_5, q0_5⟩
    · rw [q_5] at hp_5
      subst r_5_1
      refine lv_if_eq (tgt := 24) hx hb dX9_blanks_8 (by decide) (fun c_8 => ?_) (fun c_8 => ?_)
      · exact absurd c_8 (by decide)
      · refine lv_aload_n hx hb dX9_blanks_11 rfl (lv_at hl 0 rfl) ?_
        refine lv_dup hx hb dX9_blanks_12 rfl ?_
        refine w_get X hw 10 25 (hL 22 (by decide)) rfl (by decide) k_X9 in_X9_blanks_X9 (by decide) (by decide +kernel) rfl (v := .int (I 22 25)) rfl dX9_blanks_13 ?_
        refine lv_iconst (v := 1) hx hb dX9_blanks_16 (by decide) ?_
        refine lv_iadd hx hb dX9_blanks_17 ?_
        refine lv_topi (fun x_2 ex_2 => ?_)
        refine w_put X hw 10 25 (hL 22 (by decide)) rfl (by decide) k_X9 in_X9_blanks_X9 (by decide) (by decide +kernel) rfl rfl (t := .int) (by decide +kernel) rfl rfl (fun _ => rfl) (fun _ => Nat.le_of_ble_eq_true rfl) dX9_blanks_18 (fun H locs hw => ?_)
        refine lv_goto (tgt := 0) hx hb dX9_blanks_21 (by decide) ?_
        have hw9 := hw
        have hl9 := hl
        obtain rfl := ex_2.symm
        have el : l_X9_blanks (nf + 1) I   = l_X9_blanks nf (wU I 22 25 ((I 22 25) + 1))   := by rw [l_X9_blanks]; rw [if_pos q_5]
        exact ih (wU I 22 25 ((I 22 25) + 1))  _ _ _ (at_inv (a := I 22 25) (e := I 22 26) (at_lt q_5) hi) (at_m (a := I 22 25) (e := I 22 26) (at_lt q_5) hi hm) hw9 (lv_sub hl9 [0] rfl) (fun H locs ls hw hl => kk H locs ls (by rw [el]; exact hw) (hl))
    · rw [q0_5] at hp_5
      subst r_5_1
      refine lv_if_eq (tgt := 24) hx hb dX9_blanks_8 (by decide) (fun c_8 => ?_) (fun c_8 => ?_)
      · have hw9 := hw
        have hl9 := hl
        have el : l_X9_blanks (nf + 1) I   = (I) := by rw [l_X9_blanks]; rw [if_neg q_5]
        exact kk _ _ _ (by rw [el]; exact hw9) ((lv_sub hl9 [0] rfl))
      · exact absurd (by decide) c_8
theorem fr_X9_blanks   : ∀ (nf : Nat) (I : wI)  (q9 : Nat) (h22 : q9 ≠ 22), (l_X9_blanks nf I  ) q9 = I q9 := by
  intro nf
  induction nf with
  | zero => intros; rfl
  | succ nf ih =>
    intro I   q9 h22
    rw [l_X9_blanks]
    repeat' split
    all_goals first | with_reducible rfl | (rw [ih _   q9 h22]; done) | (rw [ih _   q9 h22]; simp only [wU_ne _ _ _ h22]) | (simp only [wU_ne _ _ _ h22])
def f_X9_blanks (I : wI)  : wI := (wU (l_X9_blanks  401 I) 22 27 ((l_X9_blanks  401 I) 22 25))
theorem fr_f_X9_blanks (I : wI)  (q9 : Nat) (h22 : q9 ≠ 22) : (f_X9_blanks I) q9 = I q9 := by
  unfold f_X9_blanks
  repeat' split
  all_goals first | with_reducible rfl | (simp only [wU_ne _ _ _ h22, fr_X9_blanks _ _ _ h22])
set_option maxHeartbeats 4000000 in
set_option maxRecDepth 100000 in
theorem c_X9_blanks (l : Launch) (D : va_G) (y : Nat → ClassId) (b : Nat) (z : Nat → Nat) (G : wG) (I : wI) (J : wJ) (hL : w_full G)  (hi : 0 ≤ (I 22 25).toInt ∧ (I 22 25).toInt ≤ (I 22 26).toInt ∧ (I 22 26).toInt ≤ 400) : mV l yX9_blanks wsX9_blanks { frames := 1, cells := 0, slots := 0, locals := 22 } D y b z G I J [.ref (G.1 22)] (fun u => u.2.1 = f_X9_blanks I ∧ u.1 = G ∧ u.2.2 = J) 0 0 := by
  refine w_enter (by decide) rfl (Nat.le_of_ble_eq_true rfl) rfl ?_
  intro p e s m below meth c ls X hr hlk hnm hw hst hl
  have hx := X.1.1
  have hb := X.1.2.1
  obtain ⟨po_c_X9_blanks, epo⟩ : ∃ qpo9 : wS → Prop, qpo9 = (fun u => u.2.1 = f_X9_blanks I ∧ u.1 = G ∧ u.2.2 = J) := ⟨_, rfl⟩
  rw [← epo]
  refine lp_X9_blanks  X hst hL (Nat.le_of_ble_eq_true rfl) (Nat.le_of_ble_eq_true rfl) (Nat.le_of_ble_eq_true rfl) (Nat.le_of_ble_eq_true rfl)   401 I  _ _ _ (hi) (at_0 hi) hw (lv_sub hl [0] rfl) (fun H locs ls hw hl => ?_)
  obtain ⟨Q_1, eQ_1⟩ : ∃ q9 : wI, q9 = l_X9_blanks  401 I := ⟨_, rfl⟩
  rw [← eQ_1] at hw
  refine lv_aload_n hx hb dX9_blanks_24 rfl (lv_at hl 0 rfl) ?_
  refine lv_aload_n hx hb dX9_blanks_25 rfl (lv_at hl 0 rfl) ?_
  refine w_get X hw 10 25 (hL 22 (by decide)) rfl (by decide) k_X9 in_X9_blanks_X9 (by decide) (by decide +kernel) rfl (v := .int (Q_1 22 25)) rfl dX9_blanks_26 ?_
  refine lv_topi (fun x_2 ex_2 => ?_)
  refine w_put X hw 10 27 (hL 22 (by decide)) rfl (by decide) k_X9 in_X9_blanks_X9 (by decide) (by decide +kernel) rfl rfl (t := .int) (by decide +kernel) rfl rfl (fun _ => rfl) (fun _ => Nat.le_of_ble_eq_true rfl) dX9_blanks_29 (fun H locs hw => ?_)
  have hp_32 : po_c_X9_blanks (G, (wU Q_1 22 27 x_2), J) := by
      obtain rfl := eQ_1.symm
      obtain rfl := ex_2.symm
      rw [epo]
      refine ⟨Eq.symm ?_, rfl, rfl⟩
      rfl
  exact w_vret X hr hlk hw hp_32 (Nat.le_of_ble_eq_true rfl) (Nat.le_of_ble_eq_true rfl) dX9_blanks_32
set_option maxRecDepth 20000 in
theorem in_X9_readClause_X9 : ∀ w ∈ u_ws RX9 TX9 42, w ∈ wsX9_readClause := fun _ h => List.mem_cons_of_mem _ (List.mem_append_right _ h)
def l_X9_rc_w  : Nat → wI → wI
  | 0, I => (I)
  | nf + 1, I => (if f_X9_isAt I 97 122 = 1 then (l_X9_rc_w nf (wU I 22 25 ((I 22 25) + 1))  ) else I)
set_option maxHeartbeats 4000000 in
set_option maxRecDepth 100000 in
theorem lp_X9_rc_w {p : Program} {l : Launch} {e : Env} {R : Room} {s : State} {m : MethodId} {args : Array Value} {below : List Frame} {meth : Method} {c : Code} {cells slots : Nat} {Q : State → Prop} {D : va_G} {y : Nat → ClassId} {b : Nat} {z : Nat → Nat} {G : wG} {J : wJ}  (X : wCx p m c cX9_readClause 3 s args wsX9_readClause yX9_readClause.cls D y b) (hst : St z b s) (hL : w_full G) (hRf : 1 ≤ R.frames) (hRl : 22 ≤ R.locals) (hRc : cells ≤ R.cells) (hRs : slots ≤ R.slots)   : ∀ (nf : Nat) (I : wI) (H : Heap) (locs : List Loc) (ls : Array Slot), (0 ≤ (I 22 25).toInt ∧ (I 22 25).toInt ≤ (I 22 26).toInt ∧ (I 22 26).toInt ≤ 400) → (((I 22 26).toInt - (I 22 25).toInt).toNat < nf) → Wh D y b G I J s H locs → lv_has ls 3 [(0, .ref (G.1 22))] → (∀ (H : Heap) (locs : List Loc) (ls : Array Slot), Wh D y b G (l_X9_rc_w nf I  ) J s H locs → lv_has ls 3 [(0, .ref (G.1 22))] → W p l e R s m args below meth c H locs cells slots Q (F0 m 28 ls [])) → W p l e R s m args below meth c H locs cells slots Q (F0 m 4 ls []) := by
  have hx := X.1.1
  have hb := X.1.2.1
  intro nf
  induction nf with
  | zero => intro I  H locs ls hi hm; exact absurd hm (by omega)
  | succ nf ih =>
    intro I  H locs ls hi hm hw hl kk
    refine lv_aload_n hx hb dX9_readClause_4 rfl (lv_at hl 0 rfl) ?_
    refine lv_bipush (v := 97) hx hb dX9_readClause_5 (by decide) ?_
    refine lv_bipush (v := 122) hx hb dX9_readClause_7 (by decide) ?_
    refine w_callVi (As := [.int 97, .int 122]) (rest := []) X hw hst hl (c_X9_isAt l D y b z G I J hL 97 122 hi.1 hi.2.2) (cwV 2 X.1.2.2.2.2 gX9_readClause_X9_isAt rfl rfl rfl (by decide +kernel) ⟨Nat.le_trans (Nat.le_of_ble_eq_true rfl) hRf, Nat.le_trans (Nat.le_of_ble_eq_true rfl) hRl⟩) (w_recv X hw (hL 22 (by decide)) rfl (by decide) k_X9) rfl rfl (Nat.le_of_ble_eq_true rfl) dX9_readClause_9 ⟨hRc, hRs⟩ (fun r_9_1 u H locs hp_9 hw => ?_)
    obtain ⟨hp_9, rfl⟩ := hp_9
    dsimp only at hw
    rcases f_X9_isAt_01  I 97 122 with q_9 | ⟨q_9, q0_9⟩
    · rw [q_9] at hp_9
      subst r_9_1
      refine lv_if_eq (tgt := 28) hx hb dX9_readClause_12 (by decide) (fun c_12 => ?_) (fun c_12 => ?_)
      · exact absurd c_12 (by decide)
      · refine lv_aload_n hx hb dX9_readClause_15 rfl (lv_at hl 0 rfl) ?_
        refine lv_dup hx hb dX9_readClause_16 rfl ?_
        refine w_get X hw 10 25 (hL 22 (by decide)) rfl (by decide) k_X9 in_X9_readClause_X9 (by decide) (by decide +kernel) rfl (v := .int (I 22 25)) rfl dX9_readClause_17 ?_
        refine lv_iconst (v := 1) hx hb dX9_readClause_20 (by decide) ?_
        refine lv_iadd hx hb dX9_readClause_21 ?_
        refine lv_topi (fun x_2 ex_2 => ?_)
        refine w_put X hw 10 25 (hL 22 (by decide)) rfl (by decide) k_X9 in_X9_readClause_X9 (by decide) (by decide +kernel) rfl rfl (t := .int) (by decide +kernel) rfl rfl (fun _ => rfl) (fun _ => Nat.le_of_ble_eq_true rfl) dX9_readClause_22 (fun H locs hw => ?_)
        refine lv_goto (tgt := 4) hx hb dX9_readClause_25 (by decide) ?_
        have hw9 := hw
        have hl9 := hl
        obtain rfl := ex_2.symm
        have el : l_X9_rc_w (nf + 1) I   = l_X9_rc_w nf (wU I 22 25 ((I 22 25) + 1))   := by rw [l_X9_rc_w]; rw [if_pos q_9]
        exact ih (wU I 22 25 ((I 22 25) + 1))  _ _ _ (at_inv (a := I 22 25) (e := I 22 26) (at_lt q_9) hi) (at_m (a := I 22 25) (e := I 22 26) (at_lt q_9) hi hm) hw9 (lv_sub hl9 [0] rfl) (fun H locs ls hw hl => kk H locs ls (by rw [el]; exact hw) (hl))
    · rw [q0_9] at hp_9
      subst r_9_1
      refine lv_if_eq (tgt := 28) hx hb dX9_readClause_12 (by decide) (fun c_12 => ?_) (fun c_12 => ?_)
      · have hw9 := hw
        have hl9 := hl
        have el : l_X9_rc_w (nf + 1) I   = (I) := by rw [l_X9_rc_w]; rw [if_neg q_9]
        exact kk _ _ _ (by rw [el]; exact hw9) ((lv_sub hl9 [0] rfl))
      · exact absurd (by decide) c_12
theorem fr_X9_rc_w   : ∀ (nf : Nat) (I : wI)  (q9 : Nat) (h22 : q9 ≠ 22), (l_X9_rc_w nf I  ) q9 = I q9 := by
  intro nf
  induction nf with
  | zero => intros; rfl
  | succ nf ih =>
    intro I   q9 h22
    rw [l_X9_rc_w]
    repeat' split
    all_goals first | with_reducible rfl | (rw [ih _   q9 h22]; done) | (rw [ih _   q9 h22]; simp only [wU_ne _ _ _ h22]) | (simp only [wU_ne _ _ _ h22])
def l_X9_rc_n  : Nat → wI → Int32 → Int32 → wI × Int32
  | 0, I, v, w => (I, v)
  | nf + 1, I, v, w => (if f_X9_isAt I 48 57 = 1 then (if 4 ≤ ((I 22 25) - (I 22 27)) then (l_X9_rc_n nf (wU I 22 25 ((I 22 25) + 1)) v w) else (l_X9_rc_n nf (wU I 22 25 ((I 22 25) + 1)) ((((10 : Int32) * v) + (I 52 (I 22 25).toNatClampNeg)) - 48) w)) else (I, v))
set_option maxHeartbeats 4000000 in
set_option maxRecDepth 100000 in
theorem lp_X9_rc_n {p : Program} {l : Launch} {e : Env} {R : Room} {s : State} {m : MethodId} {args : Array Value} {below : List Frame} {meth : Method} {c : Code} {cells slots : Nat} {Q : State → Prop} {D : va_G} {y : Nat → ClassId} {b : Nat} {z : Nat → Nat} {G : wG} {J : wJ}  (X : wCx p m c cX9_readClause 3 s args wsX9_readClause yX9_readClause.cls D y b) (hst : St z b s) (hL : w_full G) (hRf : 1 ≤ R.frames) (hRl : 22 ≤ R.locals) (hRc : cells ≤ R.cells) (hRs : slots ≤ R.slots) (w : Int32)  : ∀ (nf : Nat) (I : wI) (v : Int32) (H : Heap) (locs : List Loc) (ls : Array Slot), (0 ≤ (I 22 25).toInt ∧ (I 22 25).toInt ≤ (I 22 26).toInt ∧ (I 22 26).toInt ≤ 400) → (((I 22 26).toInt - (I 22 25).toInt).toNat < nf) → Wh D y b G I J s H locs → lv_has ls 3 [(2, .int v), (0, .ref (G.1 22)), (1, .int w)] → (∀ (H : Heap) (locs : List Loc) (ls : Array Slot), Wh D y b G (l_X9_rc_n nf I v w).1 J s H locs → lv_has ls 3 [(2, .int (l_X9_rc_n nf I v w).2), (0, .ref (G.1 22)), (1, .int w)] → W p l e R s m args below meth c H locs cells slots Q (F0 m 128 ls [])) → W p l e R s m args below meth c H locs cells slots Q (F0 m 69 ls []) := by
  have hx := X.1.1
  have hb := X.1.2.1
  intro nf
  induction nf with
  | zero => intro I v H locs ls hi hm; exact absurd hm (by omega)
  | succ nf ih =>
    intro I v H locs ls hi hm hw hl kk
    refine lv_aload_n hx hb dX9_readClause_69 rfl (lv_at hl 1 rfl) ?_
    refine lv_bipush (v := 48) hx hb dX9_readClause_70 (by decide) ?_
    refine lv_bipush (v := 57) hx hb dX9_readClause_72 (by decide) ?_
    refine w_callVi (As := [.int 48, .int 57]) (rest := []) X hw hst hl (c_X9_isAt l D y b z G I J hL 48 57 hi.1 hi.2.2) (cwV 2 X.1.2.2.2.2 gX9_readClause_X9_isAt rfl rfl rfl (by decide +kernel) ⟨Nat.le_trans (Nat.le_of_ble_eq_true rfl) hRf, Nat.le_trans (Nat.le_of_ble_eq_true rfl) hRl⟩) (w_recv X hw (hL 22 (by decide)) rfl (by decide) k_X9) rfl rfl (Nat.le_of_ble_eq_true rfl) dX9_readClause_74 ⟨hRc, hRs⟩ (fun r_74_1 u H locs hp_74 hw => ?_)
    obtain ⟨hp_74, rfl⟩ := hp_74
    dsimp only at hw
    rcases f_X9_isAt_01  I 48 57 with q_74 | ⟨q_74, q0_74⟩
    · rw [q_74] at hp_74
      subst r_74_1
      refine lv_if_eq (tgt := 128) hx hb dX9_readClause_77 (by decide) (fun c_77 => ?_) (fun c_77 => ?_)
      · exact absurd c_77 (by decide)
      · refine lv_aload_n hx hb dX9_readClause_80 rfl (lv_at hl 1 rfl) ?_
        refine w_get X hw 10 25 (hL 22 (by decide)) rfl (by decide) k_X9 in_X9_readClause_X9 (by decide) (by decide +kernel) rfl (v := .int (I 22 25)) rfl dX9_readClause_81 ?_
        refine lv_aload_n hx hb dX9_readClause_84 rfl (lv_at hl 1 rfl) ?_
        refine w_get X hw 10 27 (hL 22 (by decide)) rfl (by decide) k_X9 in_X9_readClause_X9 (by decide) (by decide +kernel) rfl (v := .int (I 22 27)) rfl dX9_readClause_85 ?_
        refine lv_isub hx hb dX9_readClause_88 ?_
        refine lv_iconst (v := 4) hx hb dX9_readClause_89 (by decide) ?_
        refine lv_icmp_ge (tgt := 113) hx hb dX9_readClause_90 (by decide) (fun c_90 => ?_) (fun c_90 => ?_)
        · refine lv_iload_n hx hb dX9_readClause_113 rfl (lv_at hl 0 rfl) ?_
          refine lv_istore_n (lv' := [(2, .int v), (0, .ref (G.1 22)), (1, .int w)]) hx hb dX9_readClause_114 rfl hl (by decide) rfl (fun ls hl => ?_)
          refine lv_aload_n hx hb dX9_readClause_115 rfl (lv_at hl 1 rfl) ?_
          refine lv_dup hx hb dX9_readClause_116 rfl ?_
          refine w_get X hw 10 25 (hL 22 (by decide)) rfl (by decide) k_X9 in_X9_readClause_X9 (by decide) (by decide +kernel) rfl (v := .int (I 22 25)) rfl dX9_readClause_117 ?_
          refine lv_iconst (v := 1) hx hb dX9_readClause_120 (by decide) ?_
          refine lv_iadd hx hb dX9_readClause_121 ?_
          refine lv_topi (fun x_2 ex_2 => ?_)
          refine w_put X hw 10 25 (hL 22 (by decide)) rfl (by decide) k_X9 in_X9_readClause_X9 (by decide) (by decide +kernel) rfl rfl (t := .int) (by decide +kernel) rfl rfl (fun _ => rfl) (fun _ => Nat.le_of_ble_eq_true rfl) dX9_readClause_122 (fun H locs hw => ?_)
          refine lv_goto (tgt := 69) hx hb dX9_readClause_125 (by decide) ?_
          have hw9 := hw
          have hl9 := hl
          obtain rfl := ex_2.symm
          have el : l_X9_rc_n (nf + 1) I v w = l_X9_rc_n nf (wU I 22 25 ((I 22 25) + 1)) v w := by rw [l_X9_rc_n]; rw [if_pos q_74, if_pos c_90]
          exact ih (wU I 22 25 ((I 22 25) + 1)) v _ _ _ (at_inv (a := I 22 25) (e := I 22 26) (at_lt q_74) hi) (at_m (a := I 22 25) (e := I 22 26) (at_lt q_74) hi hm) hw9 (lv_sub hl9 [0, 1, 2] rfl) (fun H locs ls hw hl => kk H locs ls (by rw [el]; exact hw) (by rw [el]; exact hl))
        · refine lv_bipush (v := 10) hx hb dX9_readClause_93 (by decide) ?_
          refine lv_iload_n hx hb dX9_readClause_95 rfl (lv_at hl 0 rfl) ?_
          refine lv_imul hx hb dX9_readClause_96 ?_
          refine lv_aload_n hx hb dX9_readClause_97 rfl (lv_at hl 1 rfl) ?_
          refine w_get X hw 10 22 (hL 22 (by decide)) rfl (by decide) k_X9 in_X9_readClause_X9 (by decide) (by decide +kernel) rfl (v := .ref (G.1 52)) rfl dX9_readClause_98 ?_
          refine lv_aload_n hx hb dX9_readClause_101 rfl (lv_at hl 1 rfl) ?_
          refine w_get X hw 10 25 (hL 22 (by decide)) rfl (by decide) k_X9 in_X9_readClause_X9 (by decide) (by decide +kernel) rfl (v := .int (I 22 25)) rfl dX9_readClause_102 ?_
          have h_105 : vp_in (I 22 25) 400 := by have h9 := at_lt q_74; simp only [i_le] at h9; rw [vp_in_iff]; exact ⟨hi.1, at_400 h9 hi⟩
          refine w_bld X hw (hL 52 (by decide)) rfl h_105 dX9_readClause_105 ?_
          refine lv_iadd hx hb dX9_readClause_106 ?_
          refine lv_bipush (v := 48) hx hb dX9_readClause_107 (by decide) ?_
          refine lv_isub hx hb dX9_readClause_109 ?_
          refine lv_goto (tgt := 114) hx hb dX9_readClause_110 (by decide) ?_
          refine lv_topi (fun x_3 ex_3 => ?_)
          refine lv_istore_n (lv' := [(2, .int x_3), (0, .ref (G.1 22)), (1, .int w)]) hx hb dX9_readClause_114 rfl hl (by decide) rfl (fun ls hl => ?_)
          refine lv_aload_n hx hb dX9_readClause_115 rfl (lv_at hl 1 rfl) ?_
          refine lv_dup hx hb dX9_readClause_116 rfl ?_
          refine w_get X hw 10 25 (hL 22 (by decide)) rfl (by decide) k_X9 in_X9_readClause_X9 (by decide) (by decide +kernel) rfl (v := .int (I 22 25)) rfl dX9_readClause_117 ?_
          refine lv_iconst (v := 1) hx hb dX9_readClause_120 (by decide) ?_
          refine lv_iadd hx hb dX9_readClause_121 ?_
          refine lv_topi (fun x_4 ex_4 => ?_)
          refine w_put X hw 10 25 (hL 22 (by decide)) rfl (by decide) k_X9 in_X9_readClause_X9 (by decide) (by decide +kernel) rfl rfl (t := .int) (by decide +kernel) rfl rfl (fun _ => rfl) (fun _ => Nat.le_of_ble_eq_true rfl) dX9_readClause_122 (fun H locs hw => ?_)
          refine lv_goto (tgt := 69) hx hb dX9_readClause_125 (by decide) ?_
          have hw9 := hw
          have hl9 := hl
          obtain rfl := ex_3.symm
          obtain rfl := ex_4.symm
          have el : l_X9_rc_n (nf + 1) I v w = l_X9_rc_n nf (wU I 22 25 ((I 22 25) + 1)) ((((10 : Int32) * v) + (I 52 (I 22 25).toNatClampNeg)) - 48) w := by rw [l_X9_rc_n]; rw [if_pos q_74, if_neg c_90]
          exact ih (wU I 22 25 ((I 22 25) + 1)) ((((10 : Int32) * v) + (I 52 (I 22 25).toNatClampNeg)) - 48) _ _ _ (at_inv (a := I 22 25) (e := I 22 26) (at_lt q_74) hi) (at_m (a := I 22 25) (e := I 22 26) (at_lt q_74) hi hm) hw9 (lv_sub hl9 [0, 1, 2] rfl) (fun H locs ls hw hl => kk H locs ls (by rw [el]; exact hw) (by rw [el]; exact hl))
    · rw [q0_74] at hp_74
      subst r_74_1
      refine lv_if_eq (tgt := 128) hx hb dX9_readClause_77 (by decide) (fun c_77 => ?_) (fun c_77 => ?_)
      · have hw9 := hw
        have hl9 := hl
        have el : l_X9_rc_n (nf + 1) I v w = (I, v) := by rw [l_X9_rc_n]; rw [if_neg q_74]
        exact kk _ _ _ (by rw [el]; exact hw9) (by rw [el]; exact (lv_sub hl9 [0, 1, 2] rfl))
      · exact absurd (by decide) c_77
theorem fr_X9_rc_n   : ∀ (nf : Nat) (I : wI) (v : Int32) (w : Int32) (q9 : Nat) (h22 : q9 ≠ 22), (l_X9_rc_n nf I v w).1 q9 = I q9 := by
  intro nf
  induction nf with
  | zero => intros; rfl
  | succ nf ih =>
    intro I v w q9 h22
    rw [l_X9_rc_n]
    repeat' split
    all_goals first | with_reducible rfl | (rw [ih _ _ _ q9 h22]; done) | (rw [ih _ _ _ q9 h22]; simp only [wU_ne _ _ _ h22]) | (simp only [wU_ne _ _ _ h22])
