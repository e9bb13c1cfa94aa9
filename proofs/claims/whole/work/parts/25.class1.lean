set_option maxRecDepth 20000 in
theorem in_X2_skipBlanks_X2 : ∀ w ∈ u_ws RX2 TX2 4, w ∈ wsX2_skipBlanks := fun _ h => List.mem_cons_of_mem _ (List.mem_append_left _ (List.mem_append_right _ h))
def l_X2_skipBlanks  : Nat → wI → wI
  | 0, I => (I)
  | nf + 1, I => (if (f_X6_size I) ≤ (I 5 3) then I else (if (f_X6_at I (I 5 3)) = 32 then (l_X2_skipBlanks nf (wU I 5 3 ((I 5 3) + 1))  ) else I))
set_option maxHeartbeats 4000000 in
set_option maxRecDepth 100000 in
theorem lp_X2_skipBlanks {p : Program} {l : Launch} {e : Env} {R : Room} {s : State} {m : MethodId} {args : Array Value} {below : List Frame} {meth : Method} {c : Code} {cells slots : Nat} {Q : State → Prop} {D : va_G} {y : Nat → ClassId} {b : Nat} {z : Nat → Nat} {G : wG} {J : wJ}  (X : wCx p m c cX2_skipBlanks 1 s args wsX2_skipBlanks yX2_skipBlanks.cls D y b) (hst : St z b s) (hL : w_full G) (hRf : 1 ≤ R.frames) (hRl : 21 ≤ R.locals) (hRc : cells ≤ R.cells) (hRs : slots ≤ R.slots)   : ∀ (nf : Nat) (I : wI) (H : Heap) (locs : List Loc) (ls : Array Slot), (0 ≤ (I 5 3).toInt ∧ (I 5 3).toInt ≤ (I 1 1).toInt ∧ (I 1 1).toInt ≤ 400) → (((I 1 1).toInt - (I 5 3).toInt).toNat < nf) → Wh D y b G I J s H locs → lv_has ls 1 [(0, .ref (G.1 5))] → (∀ (H : Heap) (locs : List Loc) (ls : Array Slot), Wh D y b G (l_X2_skipBlanks nf I  ) J s H locs → lv_has ls 1 [(0, .ref (G.1 5))] → W p l e R s m args below meth c H locs cells slots Q (F0 m 43 ls [])) → W p l e R s m args below meth c H locs cells slots Q (F0 m 0 ls []) := by
  have hx := X.1.1
  have hb := X.1.2.1
  intro nf
  induction nf with
  | zero => intro I  H locs ls hi hm; exact absurd hm (by omega)
  | succ nf ih =>
    intro I  H locs ls hi hm hw hl kk
    refine lv_aload_n hx hb dX2_skipBlanks_0 rfl (lv_at hl 0 rfl) ?_
    refine w_get X hw 3 3 (hL 5 (by decide)) rfl (by decide) k_X2 in_X2_skipBlanks_X2 (by decide) (by decide +kernel) rfl (v := .int (I 5 3)) rfl dX2_skipBlanks_1 ?_
    refine lv_aload_n hx hb dX2_skipBlanks_4 rfl (lv_at hl 0 rfl) ?_
    refine w_get X hw 3 0 (hL 5 (by decide)) rfl (by decide) k_X2 in_X2_skipBlanks_X2 (by decide) (by decide +kernel) rfl (v := .ref (G.1 1)) rfl dX2_skipBlanks_5 ?_
    refine w_callVi (As := []) (rest := [.int (I 5 3)]) X hw hst hl (c_X6_size l D y b z G I J hL ) (cwV 0 X.1.2.2.2.2 gX2_skipBlanks_X6_size rfl rfl rfl (by decide +kernel) ⟨Nat.le_trans (Nat.le_of_ble_eq_true rfl) hRf, Nat.le_trans (Nat.le_of_ble_eq_true rfl) hRl⟩) (w_recv X hw (hL 1 (by decide)) rfl (by decide) k_X6) rfl rfl (Nat.le_of_ble_eq_true rfl) dX2_skipBlanks_8 ⟨hRc, hRs⟩ (fun r_8_1 u H locs hp_8 hw => ?_)
    obtain ⟨hp_8, rfl⟩ := hp_8
    dsimp only at hw
    refine lv_icmp_ge (tgt := 43) hx hb dX2_skipBlanks_11 (by decide) (fun c_11 => ?_) (fun c_11 => ?_)
    · have hw9 := hw
      have hl9 := hl
      obtain rfl := hp_8.symm
      have el : l_X2_skipBlanks (nf + 1) I   = (I) := by rw [l_X2_skipBlanks]; rw [if_pos c_11]
      exact kk _ _ _ (by rw [el]; exact hw9) ((lv_sub hl9 [0] rfl))
    · refine lv_aload_n hx hb dX2_skipBlanks_14 rfl (lv_at hl 0 rfl) ?_
      refine w_get X hw 3 0 (hL 5 (by decide)) rfl (by decide) k_X2 in_X2_skipBlanks_X2 (by decide) (by decide +kernel) rfl (v := .ref (G.1 1)) rfl dX2_skipBlanks_15 ?_
      refine lv_aload_n hx hb dX2_skipBlanks_18 rfl (lv_at hl 0 rfl) ?_
      refine w_get X hw 3 3 (hL 5 (by decide)) rfl (by decide) k_X2 in_X2_skipBlanks_X2 (by decide) (by decide +kernel) rfl (v := .int (I 5 3)) rfl dX2_skipBlanks_19 ?_
      refine w_callVi (As := [.int (I 5 3)]) (rest := []) X hw hst hl (c_X6_at l D y b z G I J hL (I 5 3) hi.2.2) (cwV 1 X.1.2.2.2.2 gX2_skipBlanks_X6_at rfl rfl rfl (by decide +kernel) ⟨Nat.le_trans (Nat.le_of_ble_eq_true rfl) hRf, Nat.le_trans (Nat.le_of_ble_eq_true rfl) hRl⟩) (w_recv X hw (hL 1 (by decide)) rfl (by decide) k_X6) rfl rfl (Nat.le_of_ble_eq_true rfl) dX2_skipBlanks_22 ⟨hRc, hRs⟩ (fun r_22_2 u H locs hp_22 hw => ?_)
      obtain ⟨hp_22, rfl⟩ := hp_22
      dsimp only at hw
      refine lv_bipush (v := 32) hx hb dX2_skipBlanks_25 (by decide) ?_
      refine lv_icmp_ne (tgt := 43) hx hb dX2_skipBlanks_27 (by decide) (fun c_27 => ?_) (fun c_27 => ?_)
      · have hw9 := hw
        have hl9 := hl
        obtain rfl := hp_8.symm
        obtain rfl := hp_22.symm
        have el : l_X2_skipBlanks (nf + 1) I   = (I) := by rw [l_X2_skipBlanks]; rw [if_neg c_11, if_neg c_27]
        exact kk _ _ _ (by rw [el]; exact hw9) ((lv_sub hl9 [0] rfl))
      · refine lv_aload_n hx hb dX2_skipBlanks_30 rfl (lv_at hl 0 rfl) ?_
        refine lv_dup hx hb dX2_skipBlanks_31 rfl ?_
        refine w_get X hw 3 3 (hL 5 (by decide)) rfl (by decide) k_X2 in_X2_skipBlanks_X2 (by decide) (by decide +kernel) rfl (v := .int (I 5 3)) rfl dX2_skipBlanks_32 ?_
        refine lv_iconst (v := 1) hx hb dX2_skipBlanks_35 (by decide) ?_
        refine lv_iadd hx hb dX2_skipBlanks_36 ?_
        refine lv_topi (fun x_3 ex_3 => ?_)
        refine w_put X hw 3 3 (hL 5 (by decide)) rfl (by decide) k_X2 in_X2_skipBlanks_X2 (by decide) (by decide +kernel) rfl rfl (t := .int) (by decide +kernel) rfl rfl (fun _ => rfl) (fun _ => Nat.le_of_ble_eq_true rfl) dX2_skipBlanks_37 (fun H locs hw => ?_)
        refine lv_goto (tgt := 0) hx hb dX2_skipBlanks_40 (by decide) ?_
        have hw9 := hw
        have hl9 := hl
        obtain rfl := hp_8.symm
        obtain rfl := hp_22.symm
        obtain rfl := ex_3.symm
        have el : l_X2_skipBlanks (nf + 1) I   = l_X2_skipBlanks nf (wU I 5 3 ((I 5 3) + 1))   := by rw [l_X2_skipBlanks]; rw [if_neg c_11, if_pos c_27]
        exact ih (wU I 5 3 ((I 5 3) + 1))  _ _ _ (at_inv (a := I 5 3) (e := I 1 1) c_11 hi) (at_m (a := I 5 3) (e := I 1 1) c_11 hi hm) hw9 (lv_sub hl9 [0] rfl) (fun H locs ls hw hl => kk H locs ls (by rw [el]; exact hw) (hl))
theorem fr_X2_skipBlanks   : ∀ (nf : Nat) (I : wI)  (q9 : Nat) (h5 : q9 ≠ 5), (l_X2_skipBlanks nf I  ) q9 = I q9 := by
  intro nf
  induction nf with
  | zero => intros; rfl
  | succ nf ih =>
    intro I   q9 h5
    rw [l_X2_skipBlanks]
    repeat' split
    all_goals first | with_reducible rfl | (rw [ih _   q9 h5]; done) | (rw [ih _   q9 h5]; simp only [wU_ne _ _ _ h5]) | (simp only [wU_ne _ _ _ h5])
def f_X2_skipBlanks (I : wI)  : wI := (l_X2_skipBlanks  401 I)
theorem fr_f_X2_skipBlanks (I : wI)  (q9 : Nat) (h5 : q9 ≠ 5) : (f_X2_skipBlanks I) q9 = I q9 := by
  unfold f_X2_skipBlanks
  repeat' split
  all_goals first | with_reducible rfl | (simp only [wU_ne _ _ _ h5, fr_X2_skipBlanks _ _ _ h5])
set_option maxHeartbeats 4000000 in
set_option maxRecDepth 100000 in
theorem c_X2_skipBlanks (l : Launch) (D : va_G) (y : Nat → ClassId) (b : Nat) (z : Nat → Nat) (G : wG) (I : wI) (J : wJ) (hL : w_full G)  (hi : 0 ≤ (I 5 3).toInt ∧ (I 5 3).toInt ≤ (I 1 1).toInt ∧ (I 1 1).toInt ≤ 400) : mV l yX2_skipBlanks wsX2_skipBlanks { frames := 1, cells := 0, slots := 0, locals := 21 } D y b z G I J [.ref (G.1 5)] (fun u => u.2.1 = f_X2_skipBlanks I ∧ u.1 = G ∧ u.2.2 = J) 0 0 := by
  refine w_enter (by decide) rfl (Nat.le_of_ble_eq_true rfl) rfl ?_
  intro p e s m below meth c ls X hr hlk hnm hw hst hl
  have hx := X.1.1
  have hb := X.1.2.1
  obtain ⟨po_c_X2_skipBlanks, epo⟩ : ∃ qpo9 : wS → Prop, qpo9 = (fun u => u.2.1 = f_X2_skipBlanks I ∧ u.1 = G ∧ u.2.2 = J) := ⟨_, rfl⟩
  rw [← epo]
  refine lp_X2_skipBlanks  X hst hL (Nat.le_of_ble_eq_true rfl) (Nat.le_of_ble_eq_true rfl) (Nat.le_of_ble_eq_true rfl) (Nat.le_of_ble_eq_true rfl)   401 I  _ _ _ (hi) (at_0 hi) hw (lv_sub hl [0] rfl) (fun H locs ls hw hl => ?_)
  obtain ⟨Q_1, eQ_1⟩ : ∃ q9 : wI, q9 = l_X2_skipBlanks  401 I := ⟨_, rfl⟩
  rw [← eQ_1] at hw
  have hp_43 : po_c_X2_skipBlanks (G, Q_1, J) := by
      obtain rfl := eQ_1.symm
      rw [epo]
      refine ⟨Eq.symm ?_, rfl, rfl⟩
      rfl
  exact w_vret X hr hlk hw hp_43 (Nat.le_of_ble_eq_true rfl) (Nat.le_of_ble_eq_true rfl) dX2_skipBlanks_43
set_option maxRecDepth 20000 in
theorem in_X2_behindRun_X2 : ∀ w ∈ u_ws RX2 TX2 4, w ∈ wsX2_behindRun := fun _ h => List.mem_cons_of_mem _ (List.mem_append_left _ (List.mem_append_right _ h))
def l_X2_behindRun  : Nat → wI → Int32 → Int32 → Int32 → wI × Int32
  | 0, I, k, lo, hi2 => (I, k)
  | nf + 1, I, k, lo, hi2 => (if (f_X6_size I) ≤ k then (I, k) else (if (f_X6_at I k) < lo then (I, k) else (if hi2 < (f_X6_at I k) then (I, k) else (l_X2_behindRun nf I (k + 1) lo hi2))))
set_option maxHeartbeats 4000000 in
set_option maxRecDepth 100000 in
theorem lp_X2_behindRun {p : Program} {l : Launch} {e : Env} {R : Room} {s : State} {m : MethodId} {args : Array Value} {below : List Frame} {meth : Method} {c : Code} {cells slots : Nat} {Q : State → Prop} {D : va_G} {y : Nat → ClassId} {b : Nat} {z : Nat → Nat} {G : wG} {J : wJ}  (X : wCx p m c cX2_behindRun 4 s args wsX2_behindRun yX2_behindRun.cls D y b) (hst : St z b s) (hL : w_full G) (hRf : 1 ≤ R.frames) (hRl : 21 ≤ R.locals) (hRc : cells ≤ R.cells) (hRs : slots ≤ R.slots) (lo : Int32) (hi2 : Int32)  : ∀ (nf : Nat) (I : wI) (k : Int32) (H : Heap) (locs : List Loc) (ls : Array Slot), (0 ≤ k.toInt ∧ k.toInt ≤ (I 1 1).toInt ∧ (I 1 1).toInt ≤ 400) → (((I 1 1).toInt - k.toInt).toNat < nf) → Wh D y b G I J s H locs → lv_has ls 4 [(3, .int k), (0, .ref (G.1 5)), (1, .int lo), (2, .int hi2)] → (∀ (H : Heap) (locs : List Loc) (ls : Array Slot), Wh D y b G (l_X2_behindRun nf I k lo hi2).1 J s H locs → lv_has ls 4 [(3, .int (l_X2_behindRun nf I k lo hi2).2), (0, .ref (G.1 5)), (1, .int lo), (2, .int hi2)] → W p l e R s m args below meth c H locs cells slots Q (F0 m 46 ls [])) → W p l e R s m args below meth c H locs cells slots Q (F0 m 5 ls []) := by
  have hx := X.1.1
  have hb := X.1.2.1
  intro nf
  induction nf with
  | zero => intro I k H locs ls hi hm; exact absurd hm (by omega)
  | succ nf ih =>
    intro I k H locs ls hi hm hw hl kk
    refine lv_iload_n hx hb dX2_behindRun_5 rfl (lv_at hl 0 rfl) ?_
    refine lv_aload_n hx hb dX2_behindRun_6 rfl (lv_at hl 1 rfl) ?_
    refine w_get X hw 3 0 (hL 5 (by decide)) rfl (by decide) k_X2 in_X2_behindRun_X2 (by decide) (by decide +kernel) rfl (v := .ref (G.1 1)) rfl dX2_behindRun_7 ?_
    refine w_callVi (As := []) (rest := [.int k]) X hw hst hl (c_X6_size l D y b z G I J hL ) (cwV 0 X.1.2.2.2.2 gX2_behindRun_X6_size rfl rfl rfl (by decide +kernel) ⟨Nat.le_trans (Nat.le_of_ble_eq_true rfl) hRf, Nat.le_trans (Nat.le_of_ble_eq_true rfl) hRl⟩) (w_recv X hw (hL 1 (by decide)) rfl (by decide) k_X6) rfl rfl (Nat.le_of_ble_eq_true rfl) dX2_behindRun_10 ⟨hRc, hRs⟩ (fun r_10_1 u H locs hp_10 hw => ?_)
    obtain ⟨hp_10, rfl⟩ := hp_10
    dsimp only at hw
    refine lv_icmp_ge (tgt := 46) hx hb dX2_behindRun_13 (by decide) (fun c_13 => ?_) (fun c_13 => ?_)
    · have hw9 := hw
      have hl9 := hl
      obtain rfl := hp_10.symm
      have el : l_X2_behindRun (nf + 1) I k lo hi2 = (I, k) := by rw [l_X2_behindRun]; rw [if_pos c_13]
      exact kk _ _ _ (by rw [el]; exact hw9) (by rw [el]; exact (lv_sub hl9 [0, 1, 2, 3] rfl))
    · refine lv_aload_n hx hb dX2_behindRun_16 rfl (lv_at hl 1 rfl) ?_
      refine w_get X hw 3 0 (hL 5 (by decide)) rfl (by decide) k_X2 in_X2_behindRun_X2 (by decide) (by decide +kernel) rfl (v := .ref (G.1 1)) rfl dX2_behindRun_17 ?_
      refine lv_iload_n hx hb dX2_behindRun_20 rfl (lv_at hl 0 rfl) ?_
      refine w_callVi (As := [.int k]) (rest := []) X hw hst hl (c_X6_at l D y b z G I J hL k hi.2.2) (cwV 1 X.1.2.2.2.2 gX2_behindRun_X6_at rfl rfl rfl (by decide +kernel) ⟨Nat.le_trans (Nat.le_of_ble_eq_true rfl) hRf, Nat.le_trans (Nat.le_of_ble_eq_true rfl) hRl⟩) (w_recv X hw (hL 1 (by decide)) rfl (by decide) k_X6) rfl rfl (Nat.le_of_ble_eq_true rfl) dX2_behindRun_21 ⟨hRc, hRs⟩ (fun r_21_2 u H locs hp_21 hw => ?_)
      obtain ⟨hp_21, rfl⟩ := hp_21
      dsimp only at hw
      refine lv_iload_n hx hb dX2_behindRun_24 rfl (lv_at hl 2 rfl) ?_
      refine lv_icmp_lt (tgt := 46) hx hb dX2_behindRun_25 (by decide) (fun c_25 => ?_) (fun c_25 => ?_)
      · have hw9 := hw
        have hl9 := hl
        obtain rfl := hp_10.symm
        obtain rfl := hp_21.symm
        have el : l_X2_behindRun (nf + 1) I k lo hi2 = (I, k) := by rw [l_X2_behindRun]; rw [if_neg c_13, if_pos c_25]
        exact kk _ _ _ (by rw [el]; exact hw9) (by rw [el]; exact (lv_sub hl9 [0, 1, 2, 3] rfl))
      · refine lv_aload_n hx hb dX2_behindRun_28 rfl (lv_at hl 1 rfl) ?_
        refine w_get X hw 3 0 (hL 5 (by decide)) rfl (by decide) k_X2 in_X2_behindRun_X2 (by decide) (by decide +kernel) rfl (v := .ref (G.1 1)) rfl dX2_behindRun_29 ?_
        refine lv_iload_n hx hb dX2_behindRun_32 rfl (lv_at hl 0 rfl) ?_
        refine w_callVi (As := [.int k]) (rest := []) X hw hst hl (c_X6_at l D y b z G I J hL k hi.2.2) (cwV 1 X.1.2.2.2.2 gX2_behindRun_X6_at rfl rfl rfl (by decide +kernel) ⟨Nat.le_trans (Nat.le_of_ble_eq_true rfl) hRf, Nat.le_trans (Nat.le_of_ble_eq_true rfl) hRl⟩) (w_recv X hw (hL 1 (by decide)) rfl (by decide) k_X6) rfl rfl (Nat.le_of_ble_eq_true rfl) dX2_behindRun_33 ⟨hRc, hRs⟩ (fun r_33_3 u H locs hp_33 hw => ?_)
        obtain ⟨hp_33, rfl⟩ := hp_33
        dsimp only at hw
        refine lv_iload_n hx hb dX2_behindRun_36 rfl (lv_at hl 3 rfl) ?_
        refine lv_icmp_gt (tgt := 46) hx hb dX2_behindRun_37 (by decide) (fun c_37 => ?_) (fun c_37 => ?_)
        · have hw9 := hw
          have hl9 := hl
          obtain rfl := hp_10.symm
          obtain rfl := hp_21.symm
          obtain rfl := hp_33.symm
          have el : l_X2_behindRun (nf + 1) I k lo hi2 = (I, k) := by rw [l_X2_behindRun]; rw [if_neg c_13, if_neg c_25, if_pos c_37]
          exact kk _ _ _ (by rw [el]; exact hw9) (by rw [el]; exact (lv_sub hl9 [0, 1, 2, 3] rfl))
        · obtain ⟨x_4, ex_4⟩ : ∃ y : Int32, y = k + 1 := ⟨_, rfl⟩
          refine lv_iinc (v := x_4) (lv' := [(3, .int x_4), (0, .ref (G.1 5)), (1, .int lo), (2, .int hi2)]) hx hb dX2_behindRun_40 hl (k := 0) rfl (by rw [ex_4]; rfl) (by decide) rfl (fun ls hl => ?_)
          refine lv_goto (tgt := 5) hx hb dX2_behindRun_43 (by decide) ?_
          have hw9 := hw
          have hl9 := hl
          obtain rfl := hp_10.symm
          obtain rfl := hp_21.symm
          obtain rfl := hp_33.symm
          obtain rfl := ex_4.symm
          have el : l_X2_behindRun (nf + 1) I k lo hi2 = l_X2_behindRun nf I (k + 1) lo hi2 := by rw [l_X2_behindRun]; rw [if_neg c_13, if_neg c_25, if_neg c_37]
          exact ih I (k + 1) _ _ _ (at_inv (e := I 1 1) c_13 hi) (at_m (e := I 1 1) c_13 hi hm) hw9 (lv_sub hl9 [0, 1, 2, 3] rfl) (fun H locs ls hw hl => kk H locs ls (by rw [el]; exact hw) (by rw [el]; exact hl))
theorem ro_X2_behindRun : ∀ (nf : Nat) (I : wI) (k : Int32) (lo : Int32) (hi2 : Int32), (l_X2_behindRun nf I k lo hi2).1 = I := by
  intro nf
  induction nf with
  | zero => intros; rfl
  | succ nf ih =>
    intro I k lo hi2
    rw [l_X2_behindRun]
    repeat' split
    all_goals first | with_reducible rfl | exact ih _ _ _ _
def f_X2_behindRun (I : wI) (lo : Int32) (hi2 : Int32) : Int32 := ((l_X2_behindRun  401 I (I 5 3) lo hi2).2)
set_option maxHeartbeats 4000000 in
set_option maxRecDepth 100000 in
theorem c_X2_behindRun (l : Launch) (D : va_G) (y : Nat → ClassId) (b : Nat) (z : Nat → Nat) (G : wG) (I : wI) (J : wJ) (hL : w_full G) (lo : Int32) (hi2 : Int32) (hi : 0 ≤ (I 5 3).toInt ∧ (I 5 3).toInt ≤ (I 1 1).toInt ∧ (I 1 1).toInt ≤ 400) : mI l yX2_behindRun wsX2_behindRun { frames := 1, cells := 0, slots := 0, locals := 21 } D y b z G I J [.ref (G.1 5), .int lo, .int hi2] (fun r u => r = f_X2_behindRun I lo hi2 ∧ u = (G, I, J)) 0 0 := by
  refine w_enter (by decide) rfl (Nat.le_of_ble_eq_true rfl) rfl ?_
  intro p e s m below meth c ls X hr hlk hnm hw hst hl
  have hx := X.1.1
  have hb := X.1.2.1
  obtain ⟨po_c_X2_behindRun, epo⟩ : ∃ qpo9 : Int32 → wS → Prop, qpo9 = (fun r u => r = f_X2_behindRun I lo hi2 ∧ u = (G, I, J)) := ⟨_, rfl⟩
  rw [← epo]
  refine lv_aload_n hx hb dX2_behindRun_0 rfl (lv_at hl 0 rfl) ?_
  refine w_get X hw 3 3 (hL 5 (by decide)) rfl (by decide) k_X2 in_X2_behindRun_X2 (by decide) (by decide +kernel) rfl (v := .int (I 5 3)) rfl dX2_behindRun_1 ?_
  refine lv_topi (fun x_1 ex_1 => ?_)
  refine lv_istore_n (lv' := [(3, .int x_1), (0, .ref (G.1 5)), (1, .int lo), (2, .int hi2)]) hx hb dX2_behindRun_4 rfl hl (by decide) rfl (fun ls hl => ?_)
  refine lp_X2_behindRun  X hst hL (Nat.le_of_ble_eq_true rfl) (Nat.le_of_ble_eq_true rfl) (Nat.le_of_ble_eq_true rfl) (Nat.le_of_ble_eq_true rfl) lo hi2  401 I x_1 _ _ _ (by rw [ex_1]; exact hi) (by rw [ex_1]; exact at_0 hi) hw (lv_sub hl [0, 1, 2, 3] rfl) (fun H locs ls hw hl => ?_)
  obtain ⟨Q_2, eQ_2⟩ : ∃ q9 : wI × Int32, q9 = l_X2_behindRun  401 I x_1 lo hi2 := ⟨_, rfl⟩
  rw [← eQ_2] at hw hl
  rw [show Q_2.1 = I from by rw [eQ_2]; exact ro_X2_behindRun _ _ _ _ _] at hw
  refine lv_iload_n hx hb dX2_behindRun_46 rfl (lv_at hl 0 rfl) ?_
  have hp_47 : po_c_X2_behindRun Q_2.2 (G, I, J) := by
      obtain rfl := ex_1.symm
      obtain rfl := eQ_2.symm
      rw [epo]
      refine ⟨Eq.symm ?_, rfl⟩
      rfl
  exact w_iret X hr hlk hw hp_47 (Nat.le_of_ble_eq_true rfl) (Nat.le_of_ble_eq_true rfl) dX2_behindRun_47
