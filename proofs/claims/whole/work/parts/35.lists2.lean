set_option maxRecDepth 20000 in
theorem in_X8_markedTrees_X7 : ∀ w ∈ u_ws RX7 TX7 10, w ∈ wsX8_markedTrees := fun _ h => List.mem_cons_of_mem _ (List.mem_append_left _ (List.mem_append_right _ h))
set_option maxRecDepth 20000 in
theorem in_X8_markedTrees_X8 : ∀ w ∈ u_ws RX8 TX8 10, w ∈ wsX8_markedTrees := fun _ h => List.mem_cons_of_mem _ (List.mem_append_left _ (List.mem_append_left _ (List.mem_append_right _ h)))
def l_X8_markedTrees  : Nat → wI → Int32 → Int32 → wI × Int32 × Int32
  | 0, I, k, n => (I, k, n)
  | nf + 1, I, k, n => (if (f_Jx4a65c_size_8abf5 I 7) ≤ k then (I, k, n) else (if (I (w_tr k.toNatClampNeg) 5) = 0 then (l_X8_markedTrees nf I (k + 1) n ) else (l_X8_markedTrees nf I (k + 1) (n + 1) )))
set_option maxHeartbeats 4000000 in
set_option maxRecDepth 100000 in
theorem lp_X8_markedTrees {p : Program} {l : Launch} {e : Env} {R : Room} {s : State} {m : MethodId} {args : Array Value} {below : List Frame} {meth : Method} {c : Code} {cells slots : Nat} {Q : State → Prop} {D : va_G} {y : Nat → ClassId} {b : Nat} {z : Nat → Nat} {G : wG} {J : wJ}  (X : wCx p m c cX8_markedTrees 3 s args wsX8_markedTrees yX8_markedTrees.cls D y b) (hst : St z b s) (hL : w_full G) (hRf : 3 ≤ R.frames) (hRl : 64 ≤ R.locals) (hRc : cells ≤ R.cells) (hRs : slots ≤ R.slots)   : ∀ (nf : Nat) (I : wI) (k : Int32) (n : Int32) (H : Heap) (locs : List Loc) (ls : Array Slot), (0 ≤ k.toInt ∧ k.toInt ≤ (I 7 2).toInt ∧ (I 7 2).toInt ≤ 40 ∧ wLT G 7 w_tr (I 7 2).toInt) → (((I 7 2).toInt - k.toInt).toNat < nf) → Wh D y b G I J s H locs → lv_has ls 3 [(2, .int k), (1, .int n), (0, .ref (G.1 0))] → (∀ (H : Heap) (locs : List Loc) (ls : Array Slot), Wh D y b G (l_X8_markedTrees nf I k n ).1 J s H locs → lv_has ls 3 [(2, .int (l_X8_markedTrees nf I k n ).2.1), (1, .int (l_X8_markedTrees nf I k n ).2.2), (0, .ref (G.1 0))] → W p l e R s m args below meth c H locs cells slots Q (F0 m 41 ls [])) → W p l e R s m args below meth c H locs cells slots Q (F0 m 4 ls []) := by
  have hx := X.1.1
  have hb := X.1.2.1
  intro nf
  induction nf with
  | zero => intro I k n H locs ls hi hm; exact absurd hm (by omega)
  | succ nf ih =>
    intro I k n H locs ls hi hm hw hl kk
    refine lv_iload_n hx hb dX8_markedTrees_4 rfl (lv_at hl 0 rfl) ?_
    refine lv_aload_n hx hb dX8_markedTrees_5 rfl (lv_at hl 2 rfl) ?_
    refine w_get X hw 9 3 (hL 0 (by decide)) rfl (by decide) k_X8 in_X8_markedTrees_X8 (by decide) (by decide +kernel) rfl (v := .ref (G.1 7)) rfl dX8_markedTrees_6 ?_
    refine w_callVi (As := []) (rest := [.int k]) X hw hst hl (c_Jx4a65c_size_8abf5 l D y b z G I J hL 7  (hL 7 (by decide)) rfl) (cwV 0 X.1.2.2.2.2 gX8_markedTrees_Jx4a65c_size_8abf5 rfl rfl rfl (by decide +kernel) ⟨Nat.le_trans (Nat.le_of_ble_eq_true rfl) hRf, Nat.le_trans (Nat.le_of_ble_eq_true rfl) hRl⟩) (w_recv X hw (hL 7 (by decide)) rfl (by decide) k_Jx4a65c) rfl rfl (Nat.le_of_ble_eq_true rfl) dX8_markedTrees_9 ⟨hRc, hRs⟩ (fun r_9_1 u H locs hp_9 hw => ?_)
    obtain ⟨hp_9, rfl⟩ := hp_9
    dsimp only at hw
    refine lv_icmp_ge (tgt := 41) hx hb dX8_markedTrees_12 (by decide) (fun c_12 => ?_) (fun c_12 => ?_)
    · have hw9 := hw
      have hl9 := hl
      obtain rfl := hp_9.symm
      have el : l_X8_markedTrees (nf + 1) I k n  = (I, k, n) := by rw [l_X8_markedTrees]; rw [if_pos c_12]
      exact kk _ _ _ (by rw [el]; exact hw9) (by rw [el]; exact (lv_sub hl9 [0, 1, 2] rfl))
    · have hc9 : ¬ I 7 2 ≤ k := by rw [hp_9] at c_12; exact c_12
      have hg9 := ls_k hc9 hi.1
      have he9 := hi.2.2.2 _ hg9.2.2
      refine lv_aload_n hx hb dX8_markedTrees_15 rfl (lv_at hl 2 rfl) ?_
      refine w_get X hw 9 3 (hL 0 (by decide)) rfl (by decide) k_X8 in_X8_markedTrees_X8 (by decide) (by decide +kernel) rfl (v := .ref (G.1 7)) rfl dX8_markedTrees_16 ?_
      refine lv_iload_n hx hb dX8_markedTrees_19 rfl (lv_at hl 0 rfl) ?_
      refine w_callVr (As := [.int k]) (rest := []) X hw hst hl (c_AL_get l D y b z G I J hL 7 (w_tr k.toNatClampNeg) k hg9.1 hg9.2.1 (hL 7 (by decide)) rfl he9.2.2.1 rfl (ls_in hg9.1 he9.2.2.2) he9.2.1) (cwV 1 X.1.2.2.2.2 gX8_markedTrees_Jx4a65c_get_915e3 rfl rfl rfl (by decide +kernel) ⟨Nat.le_trans (Nat.le_of_ble_eq_true rfl) hRf, Nat.le_trans (Nat.le_of_ble_eq_true rfl) hRl⟩) (w_recv X hw (hL 7 (by decide)) rfl (by decide) k_Jx4a65c) rfl rfl (Nat.le_of_ble_eq_true rfl) dX8_markedTrees_20 ⟨hRc, hRs⟩ (fun u H locs hp_20 hw => ?_)
      obtain ⟨ra_20, u⟩ := u
      obtain ⟨hp_20, rfl⟩ := hp_20
      dsimp only at hw
      dsimp only at hp_20
      subst hp_20
      refine w_cast X hw he9.1 (w_kd_tr _) (by decide) k_X7 (by decide +kernel) dX8_markedTrees_23 ?_
      refine w_getN X hw 8 5 he9.1 (w_kd_tr _) (by decide) k_X7 in_X8_markedTrees_X7 (by decide) (hst.1 (RX8, 127, "CorkForest$Tree", "marked", "Z") (by decide)) rfl (v := .int (I (w_tr k.toNatClampNeg) 5)) rfl dX8_markedTrees_26 ?_
      refine lv_if_eq (tgt := 35) hx hb dX8_markedTrees_29 (by decide) (fun c_29 => ?_) (fun c_29 => ?_)
      · obtain ⟨x_3, ex_3⟩ : ∃ y : Int32, y = k + 1 := ⟨_, rfl⟩
        refine lv_iinc (v := x_3) (lv' := [(2, .int x_3), (1, .int n), (0, .ref (G.1 0))]) hx hb dX8_markedTrees_35 hl (k := 0) rfl (by rw [ex_3]; rfl) (by decide) rfl (fun ls hl => ?_)
        refine lv_goto (tgt := 4) hx hb dX8_markedTrees_38 (by decide) ?_
        have hw9 := hw
        have hl9 := hl
        obtain rfl := hp_9.symm
        obtain rfl := ex_3.symm
        have el : l_X8_markedTrees (nf + 1) I k n  = l_X8_markedTrees nf I (k + 1) n  := by rw [l_X8_markedTrees]; rw [if_neg c_12, if_pos c_29]
        exact ih I (k + 1) n _ _ _ (li_inv c_12 hi) (li_m c_12 hi hm) hw9 (lv_sub hl9 [0, 1, 2] rfl) (fun H locs ls hw hl => kk H locs ls (by rw [el]; exact hw) (by rw [el]; exact hl))
      · obtain ⟨x_4, ex_4⟩ : ∃ y : Int32, y = n + 1 := ⟨_, rfl⟩
        refine lv_iinc (v := x_4) (lv' := [(1, .int x_4), (2, .int k), (0, .ref (G.1 0))]) hx hb dX8_markedTrees_32 hl (k := 1) rfl (by rw [ex_4]; rfl) (by decide) rfl (fun ls hl => ?_)
        obtain ⟨x_5, ex_5⟩ : ∃ y : Int32, y = k + 1 := ⟨_, rfl⟩
        refine lv_iinc (v := x_5) (lv' := [(2, .int x_5), (1, .int x_4), (0, .ref (G.1 0))]) hx hb dX8_markedTrees_35 hl (k := 1) rfl (by rw [ex_5]; rfl) (by decide) rfl (fun ls hl => ?_)
        refine lv_goto (tgt := 4) hx hb dX8_markedTrees_38 (by decide) ?_
        have hw9 := hw
        have hl9 := hl
        obtain rfl := hp_9.symm
        obtain rfl := ex_4.symm
        obtain rfl := ex_5.symm
        have el : l_X8_markedTrees (nf + 1) I k n  = l_X8_markedTrees nf I (k + 1) (n + 1)  := by rw [l_X8_markedTrees]; rw [if_neg c_12, if_neg c_29]
        exact ih I (k + 1) (n + 1) _ _ _ (li_inv c_12 hi) (li_m c_12 hi hm) hw9 (lv_sub hl9 [0, 1, 2] rfl) (fun H locs ls hw hl => kk H locs ls (by rw [el]; exact hw) (by rw [el]; exact hl))
theorem ro_X8_markedTrees : ∀ (nf : Nat) (I : wI) (k : Int32) (n : Int32) , (l_X8_markedTrees nf I k n ).1 = I := by
  intro nf
  induction nf with
  | zero => intros; rfl
  | succ nf ih =>
    intro I k n 
    rw [l_X8_markedTrees]
    repeat' split
    all_goals first | with_reducible rfl | exact ih _ _ _ 
def f_X8_markedTrees (I : wI)  : Int32 := ((l_X8_markedTrees  41 I 0 0).2.2)
set_option maxHeartbeats 4000000 in
set_option maxRecDepth 100000 in
theorem c_X8_markedTrees (l : Launch) (D : va_G) (y : Nat → ClassId) (b : Nat) (z : Nat → Nat) (G : wG) (I : wI) (J : wJ) (hL : w_full G)  (hT : 0 ≤ (I 7 2).toInt ∧ (I 7 2).toInt ≤ 40) (hTl : wLT G 7 w_tr (I 7 2).toInt) : mI l yX8_markedTrees wsX8_markedTrees { frames := 3, cells := 0, slots := 0, locals := 64 } D y b z G I J [.ref (G.1 0)] (fun r u => r = f_X8_markedTrees I ∧ u = (G, I, J)) 0 0 := by
  refine w_enter (by decide) rfl (Nat.le_of_ble_eq_true rfl) rfl ?_
  intro p e s m below meth c ls X hr hlk hnm hw hst hl
  have hx := X.1.1
  have hb := X.1.2.1
  obtain ⟨po_c_X8_markedTrees, epo⟩ : ∃ qpo9 : Int32 → wS → Prop, qpo9 = (fun r u => r = f_X8_markedTrees I ∧ u = (G, I, J)) := ⟨_, rfl⟩
  rw [← epo]
  refine lv_iconst (v := 0) hx hb dX8_markedTrees_0 (by decide) ?_
  refine lv_istore_n (lv' := [(1, .int 0), (0, .ref (G.1 0))]) hx hb dX8_markedTrees_1 rfl hl (by decide) rfl (fun ls hl => ?_)
  refine lv_iconst (v := 0) hx hb dX8_markedTrees_2 (by decide) ?_
  refine lv_istore_n (lv' := [(2, .int 0), (1, .int 0), (0, .ref (G.1 0))]) hx hb dX8_markedTrees_3 rfl hl (by decide) rfl (fun ls hl => ?_)
  refine lp_X8_markedTrees  X hst hL (Nat.le_of_ble_eq_true rfl) (Nat.le_of_ble_eq_true rfl) (Nat.le_of_ble_eq_true rfl) (Nat.le_of_ble_eq_true rfl)   41 I 0 0 _ _ _ (⟨by decide, hT.1, hT.2, hTl⟩) (li_0 hT) hw (lv_sub hl [0, 1, 2] rfl) (fun H locs ls hw hl => ?_)
  obtain ⟨Q_1, eQ_1⟩ : ∃ q9 : wI × Int32 × Int32, q9 = l_X8_markedTrees  41 I 0 0 := ⟨_, rfl⟩
  rw [← eQ_1] at hw hl
  rw [show Q_1.1 = I from by rw [eQ_1]; exact ro_X8_markedTrees _ _ _ _ ] at hw
  refine lv_iload_n hx hb dX8_markedTrees_41 rfl (lv_at hl 1 rfl) ?_
  have hp_42 : po_c_X8_markedTrees Q_1.2.2 (G, I, J) := by
      obtain rfl := eQ_1.symm
      rw [epo]
      refine ⟨Eq.symm ?_, rfl⟩
      rfl
  exact w_iret X hr hlk hw hp_42 (Nat.le_of_ble_eq_true rfl) (Nat.le_of_ble_eq_true rfl) dX8_markedTrees_42
set_option maxRecDepth 20000 in
theorem in_X8_soldLots_X8 : ∀ w ∈ u_ws RX8 TX8 10, w ∈ wsX8_soldLots := fun _ h => List.mem_cons_of_mem _ (List.mem_append_left _ (List.mem_append_left _ (List.mem_append_right _ h)))
def l_X8_soldLots  : Nat → wI → Int32 → Int32 → wI × Int32 × Int32
  | 0, I, k, n => (I, k, n)
  | nf + 1, I, k, n => (if (f_Jx4a65c_size_8abf5 I 9) ≤ k then (I, k, n) else (if f_X3_isSold I (w_lt k.toNatClampNeg) = 1 then (l_X8_soldLots nf I (k + 1) (n + 1) ) else (l_X8_soldLots nf I (k + 1) n )))
set_option maxHeartbeats 4000000 in
set_option maxRecDepth 100000 in
theorem lp_X8_soldLots {p : Program} {l : Launch} {e : Env} {R : Room} {s : State} {m : MethodId} {args : Array Value} {below : List Frame} {meth : Method} {c : Code} {cells slots : Nat} {Q : State → Prop} {D : va_G} {y : Nat → ClassId} {b : Nat} {z : Nat → Nat} {G : wG} {J : wJ}  (X : wCx p m c cX8_soldLots 3 s args wsX8_soldLots yX8_soldLots.cls D y b) (hst : St z b s) (hL : w_full G) (hRf : 3 ≤ R.frames) (hRl : 64 ≤ R.locals) (hRc : cells ≤ R.cells) (hRs : slots ≤ R.slots)   : ∀ (nf : Nat) (I : wI) (k : Int32) (n : Int32) (H : Heap) (locs : List Loc) (ls : Array Slot), (0 ≤ k.toInt ∧ k.toInt ≤ (I 9 2).toInt ∧ (I 9 2).toInt ≤ 40 ∧ wLT G 9 w_lt (I 9 2).toInt) → (((I 9 2).toInt - k.toInt).toNat < nf) → Wh D y b G I J s H locs → lv_has ls 3 [(2, .int k), (1, .int n), (0, .ref (G.1 0))] → (∀ (H : Heap) (locs : List Loc) (ls : Array Slot), Wh D y b G (l_X8_soldLots nf I k n ).1 J s H locs → lv_has ls 3 [(2, .int (l_X8_soldLots nf I k n ).2.1), (1, .int (l_X8_soldLots nf I k n ).2.2), (0, .ref (G.1 0))] → W p l e R s m args below meth c H locs cells slots Q (F0 m 41 ls [])) → W p l e R s m args below meth c H locs cells slots Q (F0 m 4 ls []) := by
  have hx := X.1.1
  have hb := X.1.2.1
  intro nf
  induction nf with
  | zero => intro I k n H locs ls hi hm; exact absurd hm (by omega)
  | succ nf ih =>
    intro I k n H locs ls hi hm hw hl kk
    refine lv_iload_n hx hb dX8_soldLots_4 rfl (lv_at hl 0 rfl) ?_
    refine lv_aload_n hx hb dX8_soldLots_5 rfl (lv_at hl 2 rfl) ?_
    refine w_get X hw 9 5 (hL 0 (by decide)) rfl (by decide) k_X8 in_X8_soldLots_X8 (by decide) (by decide +kernel) rfl (v := .ref (G.1 9)) rfl dX8_soldLots_6 ?_
    refine w_callVi (As := []) (rest := [.int k]) X hw hst hl (c_Jx4a65c_size_8abf5 l D y b z G I J hL 9  (hL 9 (by decide)) rfl) (cwV 0 X.1.2.2.2.2 gX8_soldLots_Jx4a65c_size_8abf5 rfl rfl rfl (by decide +kernel) ⟨Nat.le_trans (Nat.le_of_ble_eq_true rfl) hRf, Nat.le_trans (Nat.le_of_ble_eq_true rfl) hRl⟩) (w_recv X hw (hL 9 (by decide)) rfl (by decide) k_Jx4a65c) rfl rfl (Nat.le_of_ble_eq_true rfl) dX8_soldLots_9 ⟨hRc, hRs⟩ (fun r_9_1 u H locs hp_9 hw => ?_)
    obtain ⟨hp_9, rfl⟩ := hp_9
    dsimp only at hw
    refine lv_icmp_ge (tgt := 41) hx hb dX8_soldLots_12 (by decide) (fun c_12 => ?_) (fun c_12 => ?_)
    · have hw9 := hw
      have hl9 := hl
      obtain rfl := hp_9.symm
      have el : l_X8_soldLots (nf + 1) I k n  = (I, k, n) := by rw [l_X8_soldLots]; rw [if_pos c_12]
      exact kk _ _ _ (by rw [el]; exact hw9) (by rw [el]; exact (lv_sub hl9 [0, 1, 2] rfl))
    · have hc9 : ¬ I 9 2 ≤ k := by rw [hp_9] at c_12; exact c_12
      have hg9 := ls_k hc9 hi.1
      have he9 := hi.2.2.2 _ hg9.2.2
      refine lv_aload_n hx hb dX8_soldLots_15 rfl (lv_at hl 2 rfl) ?_
      refine w_get X hw 9 5 (hL 0 (by decide)) rfl (by decide) k_X8 in_X8_soldLots_X8 (by decide) (by decide +kernel) rfl (v := .ref (G.1 9)) rfl dX8_soldLots_16 ?_
      refine lv_iload_n hx hb dX8_soldLots_19 rfl (lv_at hl 0 rfl) ?_
      refine w_callVr (As := [.int k]) (rest := []) X hw hst hl (c_AL_get l D y b z G I J hL 9 (w_lt k.toNatClampNeg) k hg9.1 hg9.2.1 (hL 9 (by decide)) rfl he9.2.2.1 rfl (ls_in hg9.1 he9.2.2.2) he9.2.1) (cwV 1 X.1.2.2.2.2 gX8_soldLots_Jx4a65c_get_915e3 rfl rfl rfl (by decide +kernel) ⟨Nat.le_trans (Nat.le_of_ble_eq_true rfl) hRf, Nat.le_trans (Nat.le_of_ble_eq_true rfl) hRl⟩) (w_recv X hw (hL 9 (by decide)) rfl (by decide) k_Jx4a65c) rfl rfl (Nat.le_of_ble_eq_true rfl) dX8_soldLots_20 ⟨hRc, hRs⟩ (fun u H locs hp_20 hw => ?_)
      obtain ⟨ra_20, u⟩ := u
      obtain ⟨hp_20, rfl⟩ := hp_20
      dsimp only at hw
      dsimp only at hp_20
      subst hp_20
      refine w_cast X hw he9.1 (w_kd_lt _) (by decide) k_X3 (by decide +kernel) dX8_soldLots_23 ?_
      refine w_callVi (As := []) (rest := []) X hw hst hl (c_X3_isSold l D y b z G I J hL (w_lt k.toNatClampNeg)  he9.1 (w_kd_lt _)) (cwV 0 X.1.2.2.2.2 gX8_soldLots_X3_isSold rfl rfl rfl (by decide +kernel) ⟨Nat.le_trans (Nat.le_of_ble_eq_true rfl) hRf, Nat.le_trans (Nat.le_of_ble_eq_true rfl) hRl⟩) (w_recv X hw he9.1 (w_kd_lt _) (by decide) k_X3) rfl rfl (Nat.le_of_ble_eq_true rfl) dX8_soldLots_26 ⟨hRc, hRs⟩ (fun r_26_3 u H locs hp_26 hw => ?_)
      obtain ⟨hp_26, rfl⟩ := hp_26
      dsimp only at hw
      rcases f_X3_isSold_01  I (w_lt k.toNatClampNeg) with q_26 | ⟨q_26, q0_26⟩
      · rw [q_26] at hp_26
        subst r_26_3
        refine lv_if_eq (tgt := 35) hx hb dX8_soldLots_29 (by decide) (fun c_29 => ?_) (fun c_29 => ?_)
        · exact absurd c_29 (by decide)
        · obtain ⟨x_4, ex_4⟩ : ∃ y : Int32, y = n + 1 := ⟨_, rfl⟩
          refine lv_iinc (v := x_4) (lv' := [(1, .int x_4), (2, .int k), (0, .ref (G.1 0))]) hx hb dX8_soldLots_32 hl (k := 1) rfl (by rw [ex_4]; rfl) (by decide) rfl (fun ls hl => ?_)
          obtain ⟨x_5, ex_5⟩ : ∃ y : Int32, y = k + 1 := ⟨_, rfl⟩
          refine lv_iinc (v := x_5) (lv' := [(2, .int x_5), (1, .int x_4), (0, .ref (G.1 0))]) hx hb dX8_soldLots_35 hl (k := 1) rfl (by rw [ex_5]; rfl) (by decide) rfl (fun ls hl => ?_)
          refine lv_goto (tgt := 4) hx hb dX8_soldLots_38 (by decide) ?_
          have hw9 := hw
          have hl9 := hl
          obtain rfl := hp_9.symm
          obtain rfl := ex_4.symm
          obtain rfl := ex_5.symm
          have el : l_X8_soldLots (nf + 1) I k n  = l_X8_soldLots nf I (k + 1) (n + 1)  := by rw [l_X8_soldLots]; rw [if_neg c_12, if_pos q_26]
          exact ih I (k + 1) (n + 1) _ _ _ (li_inv c_12 hi) (li_m c_12 hi hm) hw9 (lv_sub hl9 [0, 1, 2] rfl) (fun H locs ls hw hl => kk H locs ls (by rw [el]; exact hw) (by rw [el]; exact hl))
      · rw [q0_26] at hp_26
        subst r_26_3
        refine lv_if_eq (tgt := 35) hx hb dX8_soldLots_29 (by decide) (fun c_29 => ?_) (fun c_29 => ?_)
        · obtain ⟨x_6, ex_6⟩ : ∃ y : Int32, y = k + 1 := ⟨_, rfl⟩
          refine lv_iinc (v := x_6) (lv' := [(2, .int x_6), (1, .int n), (0, .ref (G.1 0))]) hx hb dX8_soldLots_35 hl (k := 0) rfl (by rw [ex_6]; rfl) (by decide) rfl (fun ls hl => ?_)
          refine lv_goto (tgt := 4) hx hb dX8_soldLots_38 (by decide) ?_
          have hw9 := hw
          have hl9 := hl
          obtain rfl := hp_9.symm
          obtain rfl := ex_6.symm
          have el : l_X8_soldLots (nf + 1) I k n  = l_X8_soldLots nf I (k + 1) n  := by rw [l_X8_soldLots]; rw [if_neg c_12, if_neg q_26]
          exact ih I (k + 1) n _ _ _ (li_inv c_12 hi) (li_m c_12 hi hm) hw9 (lv_sub hl9 [0, 1, 2] rfl) (fun H locs ls hw hl => kk H locs ls (by rw [el]; exact hw) (by rw [el]; exact hl))
        · exact absurd (by decide) c_29
theorem ro_X8_soldLots : ∀ (nf : Nat) (I : wI) (k : Int32) (n : Int32) , (l_X8_soldLots nf I k n ).1 = I := by
  intro nf
  induction nf with
  | zero => intros; rfl
  | succ nf ih =>
    intro I k n 
    rw [l_X8_soldLots]
    repeat' split
    all_goals first | with_reducible rfl | exact ih _ _ _ 
def f_X8_soldLots (I : wI)  : Int32 := ((l_X8_soldLots  41 I 0 0).2.2)
set_option maxHeartbeats 4000000 in
set_option maxRecDepth 100000 in
theorem c_X8_soldLots (l : Launch) (D : va_G) (y : Nat → ClassId) (b : Nat) (z : Nat → Nat) (G : wG) (I : wI) (J : wJ) (hL : w_full G)  (hN : 0 ≤ (I 9 2).toInt ∧ (I 9 2).toInt ≤ 40) (hNl : wLT G 9 w_lt (I 9 2).toInt) : mI l yX8_soldLots wsX8_soldLots { frames := 3, cells := 0, slots := 0, locals := 64 } D y b z G I J [.ref (G.1 0)] (fun r u => r = f_X8_soldLots I ∧ u = (G, I, J)) 0 0 := by
  refine w_enter (by decide) rfl (Nat.le_of_ble_eq_true rfl) rfl ?_
  intro p e s m below meth c ls X hr hlk hnm hw hst hl
  have hx := X.1.1
  have hb := X.1.2.1
  obtain ⟨po_c_X8_soldLots, epo⟩ : ∃ qpo9 : Int32 → wS → Prop, qpo9 = (fun r u => r = f_X8_soldLots I ∧ u = (G, I, J)) := ⟨_, rfl⟩
  rw [← epo]
  refine lv_iconst (v := 0) hx hb dX8_soldLots_0 (by decide) ?_
  refine lv_istore_n (lv' := [(1, .int 0), (0, .ref (G.1 0))]) hx hb dX8_soldLots_1 rfl hl (by decide) rfl (fun ls hl => ?_)
  refine lv_iconst (v := 0) hx hb dX8_soldLots_2 (by decide) ?_
  refine lv_istore_n (lv' := [(2, .int 0), (1, .int 0), (0, .ref (G.1 0))]) hx hb dX8_soldLots_3 rfl hl (by decide) rfl (fun ls hl => ?_)
  refine lp_X8_soldLots  X hst hL (Nat.le_of_ble_eq_true rfl) (Nat.le_of_ble_eq_true rfl) (Nat.le_of_ble_eq_true rfl) (Nat.le_of_ble_eq_true rfl)   41 I 0 0 _ _ _ (⟨by decide, hN.1, hN.2, hNl⟩) (li_0 hN) hw (lv_sub hl [0, 1, 2] rfl) (fun H locs ls hw hl => ?_)
  obtain ⟨Q_1, eQ_1⟩ : ∃ q9 : wI × Int32 × Int32, q9 = l_X8_soldLots  41 I 0 0 := ⟨_, rfl⟩
  rw [← eQ_1] at hw hl
  rw [show Q_1.1 = I from by rw [eQ_1]; exact ro_X8_soldLots _ _ _ _ ] at hw
  refine lv_iload_n hx hb dX8_soldLots_41 rfl (lv_at hl 1 rfl) ?_
  have hp_42 : po_c_X8_soldLots Q_1.2.2 (G, I, J) := by
      obtain rfl := eQ_1.symm
      rw [epo]
      refine ⟨Eq.symm ?_, rfl⟩
      rfl
  exact w_iret X hr hlk hw hp_42 (Nat.le_of_ble_eq_true rfl) (Nat.le_of_ble_eq_true rfl) dX8_soldLots_42
