def f_X3_take (I : wI) (n : Nat) (p2 : Nat) : wI := (wU (wU I n 2 ((I n 2) + 1)) n 3 (((wU I n 2 ((I n 2) + 1)) n 3) + (f_X4_weight (wU I n 2 ((I n 2) + 1)) p2)))
set_option maxRecDepth 20000 in
theorem in_X3_take_X3 : ∀ w ∈ u_ws RX3 TX3 6, w ∈ wsX3_take := fun _ h => List.mem_cons_of_mem _ (List.mem_append_left _ (List.mem_append_right _ h))
set_option maxHeartbeats 4000000 in
set_option maxRecDepth 100000 in
theorem c_X3_take (l : Launch) (D : va_G) (y : Nat → ClassId) (b : Nat) (z : Nat → Nat) (G : wG) (I : wI) (J : wJ) (hL : w_full G) (n : Nat) (p2 : Nat) (hn : n ∈ G.2.1) (hk : w_kd n = 4) (hp : p2 ∈ G.2.1) (hkp : w_kd p2 = 5) : mV l yX3_take wsX3_take { frames := 1, cells := 0, slots := 0, locals := 20 } D y b z G I J [.ref (G.1 n), .ref (G.1 p2)] (fun u => u.2.1 = f_X3_take I n p2 ∧ u.1 = G ∧ u.2.2 = J) 0 0 := by
  refine w_enter (by decide) rfl (Nat.le_of_ble_eq_true rfl) rfl ?_
  intro p e s m below meth c ls X hr hlk hnm hw hst hl
  have hx := X.1.1
  have hb := X.1.2.1
  obtain ⟨po_c_X3_take, epo⟩ : ∃ qpo9 : wS → Prop, qpo9 = (fun u => u.2.1 = f_X3_take I n p2 ∧ u.1 = G ∧ u.2.2 = J) := ⟨_, rfl⟩
  rw [← epo]
  refine lv_aload_n hx hb dX3_take_0 rfl (lv_at hl 0 rfl) ?_
  refine lv_dup hx hb dX3_take_1 rfl ?_
  refine w_get X hw 4 2 hn hk (by decide) k_X3 in_X3_take_X3 (by decide) (by decide +kernel) rfl (v := .int (I n 2)) rfl dX3_take_2 ?_
  refine lv_iconst (v := 1) hx hb dX3_take_5 (by decide) ?_
  refine lv_iadd hx hb dX3_take_6 ?_
  refine lv_topi (fun x_1 ex_1 => ?_)
  refine w_put X hw 4 2 hn hk (by decide) k_X3 in_X3_take_X3 (by decide) (by decide +kernel) rfl rfl (t := .int) (by decide +kernel) rfl rfl (fun _ => rfl) (fun _ => Nat.le_of_ble_eq_true rfl) dX3_take_7 (fun H locs hw => ?_)
  refine lv_aload_n hx hb dX3_take_10 rfl (lv_at hl 0 rfl) ?_
  refine lv_dup hx hb dX3_take_11 rfl ?_
  refine w_get X hw 4 3 hn hk (by decide) k_X3 in_X3_take_X3 (by decide) (by decide +kernel) rfl (v := .int ((wU I n 2 x_1) n 3)) rfl dX3_take_12 ?_
  refine lv_aload_n hx hb dX3_take_15 rfl (lv_at hl 1 rfl) ?_
  refine w_callVi (As := []) (rest := [.int ((wU I n 2 x_1) n 3), .ref (G.1 n)]) X hw hst hl (c_X4_weight l D y b z G (wU I n 2 x_1) J hL p2  hp hkp) (cwV 0 X.1.2.2.2.2 gX3_take_X4_weight rfl rfl rfl (by decide +kernel) ⟨Nat.le_of_ble_eq_true rfl, Nat.le_of_ble_eq_true rfl⟩) (w_recv X hw hp hkp (by decide) k_X4) rfl rfl (Nat.le_of_ble_eq_true rfl) dX3_take_16 ⟨Nat.le_of_ble_eq_true rfl, Nat.le_of_ble_eq_true rfl⟩ (fun r_16_2 u H locs hp_16 hw => ?_)
  obtain ⟨hp_16, rfl⟩ := hp_16
  dsimp only at hw
  refine lv_iadd hx hb dX3_take_19 ?_
  refine lv_topi (fun x_3 ex_3 => ?_)
  refine w_put X hw 4 3 hn hk (by decide) k_X3 in_X3_take_X3 (by decide) (by decide +kernel) rfl rfl (t := .int) (by decide +kernel) rfl rfl (fun _ => rfl) (fun _ => Nat.le_of_ble_eq_true rfl) dX3_take_20 (fun H locs hw => ?_)
  have hp_23 : po_c_X3_take (G, (wU (wU I n 2 x_1) n 3 x_3), J) := by
      obtain rfl := ex_1.symm
      obtain rfl := hp_16.symm
      obtain rfl := ex_3.symm
      rw [epo]
      refine ⟨Eq.symm ?_, rfl, rfl⟩
      rfl
  exact w_vret X hr hlk hw hp_23 (Nat.le_of_ble_eq_true rfl) (Nat.le_of_ble_eq_true rfl) dX3_take_23
set_option maxRecDepth 20000 in
theorem in_X3_goToGreatestBid_X3 : ∀ w ∈ u_ws RX3 TX3 6, w ∈ wsX3_goToGreatestBid := fun _ h => List.mem_cons_of_mem _ (List.mem_append_right _ h)
def l_X3_gb  : Nat → wI → Int32 → Int32 → Int32 → Nat → wI × Int32 × Int32 × Int32
  | 0, I, k, gr, se, n => (I, k, gr, se)
  | nf + 1, I, k, gr, se, n => (if 8 ≤ k then (I, k, gr, se) else (if (I (n + 1) k.toNatClampNeg) ≤ gr then (if (I (n + 1) k.toNatClampNeg) ≤ se then (l_X3_gb nf I (k + 1) gr se n) else (l_X3_gb nf I (k + 1) gr (I (n + 1) k.toNatClampNeg) n)) else (l_X3_gb nf (wU I n 4 k) (k + 1) (I (n + 1) k.toNatClampNeg) gr n)))
set_option maxHeartbeats 4000000 in
set_option maxRecDepth 100000 in
theorem lp_X3_gb {p : Program} {l : Launch} {e : Env} {R : Room} {s : State} {m : MethodId} {args : Array Value} {below : List Frame} {meth : Method} {c : Code} {cells slots : Nat} {Q : State → Prop} {D : va_G} {y : Nat → ClassId} {b : Nat} {z : Nat → Nat} {G : wG} {J : wJ}  (X : wCx p m c cX3_goToGreatestBid 4 s args wsX3_goToGreatestBid yX3_goToGreatestBid.cls D y b) (hst : St z b s) (hL : w_full G) (hRf : 0 ≤ R.frames) (hRl : 0 ≤ R.locals) (hRc : cells ≤ R.cells) (hRs : slots ≤ R.slots) (n : Nat) (hn : n ∈ G.2.1) (hk : w_kd n = 4) (hn1 : n + 1 ∈ G.2.1) (hk1 : w_kd (n + 1) = 12) (hl1 : w_ln (n + 1) = 8) : ∀ (nf : Nat) (I : wI) (k : Int32) (gr : Int32) (se : Int32) (H : Heap) (locs : List Loc) (ls : Array Slot), (0 ≤ k.toInt ∧ k.toInt ≤ 8) → ((8 - k.toInt).toNat < nf) → Wh D y b G I J s H locs → lv_has ls 4 [(3, .int k), (1, .int gr), (2, .int se), (0, .ref (G.1 n))] → (∀ (H : Heap) (locs : List Loc) (ls : Array Slot), Wh D y b G (l_X3_gb nf I k gr se n).1 J s H locs → lv_has ls 4 [(3, .int (l_X3_gb nf I k gr se n).2.1), (1, .int (l_X3_gb nf I k gr se n).2.2.1), (2, .int (l_X3_gb nf I k gr se n).2.2.2), (0, .ref (G.1 n))] → W p l e R s m args below meth c H locs cells slots Q (F0 m 65 ls [])) → W p l e R s m args below meth c H locs cells slots Q (F0 m 6 ls []) := by
  have hx := X.1.1
  have hb := X.1.2.1
  intro nf
  induction nf with
  | zero => intro I k gr se H locs ls hi hm; exact absurd hm (by omega)
  | succ nf ih =>
    intro I k gr se H locs ls hi hm hw hl kk
    refine lv_iload_n hx hb dX3_goToGreatestBid_6 rfl (lv_at hl 0 rfl) ?_
    refine lv_aload_n hx hb dX3_goToGreatestBid_7 rfl (lv_at hl 3 rfl) ?_
    refine w_get X hw 4 1 hn hk (by decide) k_X3 in_X3_goToGreatestBid_X3 (by decide) (by decide +kernel) rfl (v := .ref (G.1 (n + 1))) rfl dX3_goToGreatestBid_8 ?_
    refine w_len X hw hn1 hk1 (by decide) dX3_goToGreatestBid_11 ?_
    refine lv_topi (fun n_11 en_11 => ?_)
    have en_11 : n_11 = 8 := by rw [en_11, hl1]; rfl
    subst en_11
    refine lv_icmp_ge (tgt := 65) hx hb dX3_goToGreatestBid_12 (by decide) (fun c_12 => ?_) (fun c_12 => ?_)
    · have hw9 := hw
      have hl9 := hl
      have el : l_X3_gb (nf + 1) I k gr se n = (I, k, gr, se) := by rw [l_X3_gb]; rw [if_pos c_12]
      exact kk _ _ _ (by rw [el]; exact hw9) (by rw [el]; exact (lv_sub hl9 [0, 1, 2, 3] rfl))
    · refine lv_aload_n hx hb dX3_goToGreatestBid_15 rfl (lv_at hl 3 rfl) ?_
      refine w_get X hw 4 1 hn hk (by decide) k_X3 in_X3_goToGreatestBid_X3 (by decide) (by decide +kernel) rfl (v := .ref (G.1 (n + 1))) rfl dX3_goToGreatestBid_16 ?_
      refine lv_iload_n hx hb dX3_goToGreatestBid_19 rfl (lv_at hl 0 rfl) ?_
      have h_20 : vp_in k (w_ln (n + 1)) := by rw [hl1]; exact c8_i c_12 hi
      refine w_ild X hw hn1 hk1 h_20 dX3_goToGreatestBid_20 ?_
      refine lv_iload_n hx hb dX3_goToGreatestBid_21 rfl (lv_at hl 1 rfl) ?_
      refine lv_icmp_le (tgt := 42) hx hb dX3_goToGreatestBid_22 (by decide) (fun c_22 => ?_) (fun c_22 => ?_)
      · refine lv_aload_n hx hb dX3_goToGreatestBid_42 rfl (lv_at hl 3 rfl) ?_
        refine w_get X hw 4 1 hn hk (by decide) k_X3 in_X3_goToGreatestBid_X3 (by decide) (by decide +kernel) rfl (v := .ref (G.1 (n + 1))) rfl dX3_goToGreatestBid_43 ?_
        refine lv_iload_n hx hb dX3_goToGreatestBid_46 rfl (lv_at hl 0 rfl) ?_
        have h_47 : vp_in k (w_ln (n + 1)) := by rw [hl1]; exact c8_i c_12 hi
        refine w_ild X hw hn1 hk1 h_47 dX3_goToGreatestBid_47 ?_
        refine lv_iload_n hx hb dX3_goToGreatestBid_48 rfl (lv_at hl 2 rfl) ?_
        refine lv_icmp_le (tgt := 59) hx hb dX3_goToGreatestBid_49 (by decide) (fun c_49 => ?_) (fun c_49 => ?_)
        · obtain ⟨x_1, ex_1⟩ : ∃ y : Int32, y = k + 1 := ⟨_, rfl⟩
          refine lv_iinc (v := x_1) (lv' := [(3, .int x_1), (1, .int gr), (2, .int se), (0, .ref (G.1 n))]) hx hb dX3_goToGreatestBid_59 hl (k := 0) rfl (by rw [ex_1]; rfl) (by decide) rfl (fun ls hl => ?_)
          refine lv_goto (tgt := 6) hx hb dX3_goToGreatestBid_62 (by decide) ?_
          have hw9 := hw
          have hl9 := hl
          obtain rfl := ex_1.symm
          have el : l_X3_gb (nf + 1) I k gr se n = l_X3_gb nf I (k + 1) gr se n := by rw [l_X3_gb]; rw [if_neg c_12, if_pos c_22, if_pos c_49]
          exact ih I (k + 1) gr se _ _ _ (c8_inv c_12 hi) (c8_m c_12 hi hm) hw9 (lv_sub hl9 [0, 1, 2, 3] rfl) (fun H locs ls hw hl => kk H locs ls (by rw [el]; exact hw) (by rw [el]; exact hl))
        · refine lv_aload_n hx hb dX3_goToGreatestBid_52 rfl (lv_at hl 3 rfl) ?_
          refine w_get X hw 4 1 hn hk (by decide) k_X3 in_X3_goToGreatestBid_X3 (by decide) (by decide +kernel) rfl (v := .ref (G.1 (n + 1))) rfl dX3_goToGreatestBid_53 ?_
          refine lv_iload_n hx hb dX3_goToGreatestBid_56 rfl (lv_at hl 0 rfl) ?_
          have h_57 : vp_in k (w_ln (n + 1)) := by rw [hl1]; exact c8_i c_12 hi
          refine w_ild X hw hn1 hk1 h_57 dX3_goToGreatestBid_57 ?_
          refine lv_topi (fun x_2 ex_2 => ?_)
          refine lv_istore_n (lv' := [(2, .int x_2), (3, .int k), (1, .int gr), (0, .ref (G.1 n))]) hx hb dX3_goToGreatestBid_58 rfl hl (by decide) rfl (fun ls hl => ?_)
          obtain ⟨x_3, ex_3⟩ : ∃ y : Int32, y = k + 1 := ⟨_, rfl⟩
          refine lv_iinc (v := x_3) (lv' := [(3, .int x_3), (2, .int x_2), (1, .int gr), (0, .ref (G.1 n))]) hx hb dX3_goToGreatestBid_59 hl (k := 1) rfl (by rw [ex_3]; rfl) (by decide) rfl (fun ls hl => ?_)
          refine lv_goto (tgt := 6) hx hb dX3_goToGreatestBid_62 (by decide) ?_
          have hw9 := hw
          have hl9 := hl
          obtain rfl := ex_2.symm
          obtain rfl := ex_3.symm
          have el : l_X3_gb (nf + 1) I k gr se n = l_X3_gb nf I (k + 1) gr (I (n + 1) k.toNatClampNeg) n := by rw [l_X3_gb]; rw [if_neg c_12, if_pos c_22, if_neg c_49]
          exact ih I (k + 1) gr (I (n + 1) k.toNatClampNeg) _ _ _ (c8_inv c_12 hi) (c8_m c_12 hi hm) hw9 (lv_sub hl9 [0, 2, 1, 3] rfl) (fun H locs ls hw hl => kk H locs ls (by rw [el]; exact hw) (by rw [el]; exact hl))
      · refine lv_iload_n hx hb dX3_goToGreatestBid_25 rfl (lv_at hl 1 rfl) ?_
        refine lv_istore_n (lv' := [(2, .int gr), (3, .int k), (1, .int gr), (0, .ref (G.1 n))]) hx hb dX3_goToGreatestBid_26 rfl hl (by decide) rfl (fun ls hl => ?_)
        refine lv_aload_n hx hb dX3_goToGreatestBid_27 rfl (lv_at hl 3 rfl) ?_
        refine w_get X hw 4 1 hn hk (by decide) k_X3 in_X3_goToGreatestBid_X3 (by decide) (by decide +kernel) rfl (v := .ref (G.1 (n + 1))) rfl dX3_goToGreatestBid_28 ?_
        refine lv_iload_n hx hb dX3_goToGreatestBid_31 rfl (lv_at hl 1 rfl) ?_
        have h_32 : vp_in k (w_ln (n + 1)) := by rw [hl1]; exact c8_i c_12 hi
        refine w_ild X hw hn1 hk1 h_32 dX3_goToGreatestBid_32 ?_
        refine lv_topi (fun x_4 ex_4 => ?_)
        refine lv_istore_n (lv' := [(1, .int x_4), (2, .int gr), (3, .int k), (0, .ref (G.1 n))]) hx hb dX3_goToGreatestBid_33 rfl hl (by decide) rfl (fun ls hl => ?_)
        refine lv_aload_n hx hb dX3_goToGreatestBid_34 rfl (lv_at hl 3 rfl) ?_
        refine lv_iload_n hx hb dX3_goToGreatestBid_35 rfl (lv_at hl 2 rfl) ?_
        refine w_put X hw 4 4 hn hk (by decide) k_X3 in_X3_goToGreatestBid_X3 (by decide) (by decide +kernel) rfl rfl (t := .int) (by decide +kernel) rfl rfl (fun _ => rfl) (fun _ => Nat.le_of_ble_eq_true rfl) dX3_goToGreatestBid_36 (fun H locs hw => ?_)
        refine lv_goto (tgt := 59) hx hb dX3_goToGreatestBid_39 (by decide) ?_
        obtain ⟨x_5, ex_5⟩ : ∃ y : Int32, y = k + 1 := ⟨_, rfl⟩
        refine lv_iinc (v := x_5) (lv' := [(3, .int x_5), (1, .int x_4), (2, .int gr), (0, .ref (G.1 n))]) hx hb dX3_goToGreatestBid_59 hl (k := 2) rfl (by rw [ex_5]; rfl) (by decide) rfl (fun ls hl => ?_)
        refine lv_goto (tgt := 6) hx hb dX3_goToGreatestBid_62 (by decide) ?_
        have hw9 := hw
        have hl9 := hl
        obtain rfl := ex_4.symm
        obtain rfl := ex_5.symm
        have el : l_X3_gb (nf + 1) I k gr se n = l_X3_gb nf (wU I n 4 k) (k + 1) (I (n + 1) k.toNatClampNeg) gr n := by rw [l_X3_gb]; rw [if_neg c_12, if_neg c_22]
        exact ih (wU I n 4 k) (k + 1) (I (n + 1) k.toNatClampNeg) gr _ _ _ (c8_inv c_12 hi) (c8_m c_12 hi hm) hw9 (lv_sub hl9 [0, 1, 2, 3] rfl) (fun H locs ls hw hl => kk H locs ls (by rw [el]; exact hw) (by rw [el]; exact hl))
def f_X3_goToGreatestBid (I : wI) (n : Nat) : wI := (if f_X3_isSold (l_X3_gb  9 I 0 (-1) (-1) n).1 n = 1 then (if (l_X3_gb  9 I 0 (-1) (-1) n).2.2.2 = (-1) then (wU (l_X3_gb  9 I 0 (-1) (-1) n).1 n 5 ((l_X3_gb  9 I 0 (-1) (-1) n).1 n 0)) else (wU (l_X3_gb  9 I 0 (-1) (-1) n).1 n 5 (l_X3_gb  9 I 0 (-1) (-1) n).2.2.2)) else (l_X3_gb  9 I 0 (-1) (-1) n).1)
set_option maxHeartbeats 4000000 in
set_option maxRecDepth 100000 in
theorem c_X3_goToGreatestBid (l : Launch) (D : va_G) (y : Nat → ClassId) (b : Nat) (z : Nat → Nat) (G : wG) (I : wI) (J : wJ) (hL : w_full G) (n : Nat) (hn : n ∈ G.2.1) (hk : w_kd n = 4) (hn1 : n + 1 ∈ G.2.1) (hk1 : w_kd (n + 1) = 12) (hl1 : w_ln (n + 1) = 8) : mV l yX3_goToGreatestBid wsX3_goToGreatestBid { frames := 1, cells := 0, slots := 0, locals := 20 } D y b z G I J [.ref (G.1 n)] (fun u => u.2.1 = f_X3_goToGreatestBid I n ∧ u.1 = G ∧ u.2.2 = J) 0 0 := by
  refine w_enter (by decide) rfl (Nat.le_of_ble_eq_true rfl) rfl ?_
  intro p e s m below meth c ls X hr hlk hnm hw hst hl
  have hx := X.1.1
  have hb := X.1.2.1
  obtain ⟨po_c_X3_goToGreatestBid, epo⟩ : ∃ qpo9 : wS → Prop, qpo9 = (fun u => u.2.1 = f_X3_goToGreatestBid I n ∧ u.1 = G ∧ u.2.2 = J) := ⟨_, rfl⟩
  rw [← epo]
  refine lv_iconst (v := -1) hx hb dX3_goToGreatestBid_0 (by decide) ?_
  refine lv_istore_n (lv' := [(1, .int (-1)), (0, .ref (G.1 n))]) hx hb dX3_goToGreatestBid_1 rfl hl (by decide) rfl (fun ls hl => ?_)
  refine lv_iconst (v := -1) hx hb dX3_goToGreatestBid_2 (by decide) ?_
  refine lv_istore_n (lv' := [(2, .int (-1)), (1, .int (-1)), (0, .ref (G.1 n))]) hx hb dX3_goToGreatestBid_3 rfl hl (by decide) rfl (fun ls hl => ?_)
  refine lv_iconst (v := 0) hx hb dX3_goToGreatestBid_4 (by decide) ?_
  refine lv_istore_n (lv' := [(3, .int 0), (2, .int (-1)), (1, .int (-1)), (0, .ref (G.1 n))]) hx hb dX3_goToGreatestBid_5 rfl hl (by decide) rfl (fun ls hl => ?_)
  refine lp_X3_gb  X hst hL (Nat.le_of_ble_eq_true rfl) (Nat.le_of_ble_eq_true rfl) (Nat.le_of_ble_eq_true rfl) (Nat.le_of_ble_eq_true rfl) n hn hk hn1 hk1 hl1 9 I 0 (-1) (-1) _ _ _ (by decide) (by decide) hw (lv_sub hl [0, 2, 1, 3] rfl) (fun H locs ls hw hl => ?_)
  obtain ⟨Q_1, eQ_1⟩ : ∃ q9 : wI × Int32 × Int32 × Int32, q9 = l_X3_gb  9 I 0 (-1) (-1) n := ⟨_, rfl⟩
  rw [← eQ_1] at hw hl
  refine lv_aload_n hx hb dX3_goToGreatestBid_65 rfl (lv_at hl 3 rfl) ?_
  refine w_callVi (As := []) (rest := []) X hw hst hl (c_X3_isSold l D y b z G Q_1.1 J hL n  hn hk) (cwV 0 X.1.2.2.2.2 gX3_goToGreatestBid_X3_isSold rfl rfl rfl (by decide +kernel) ⟨Nat.le_of_ble_eq_true rfl, Nat.le_of_ble_eq_true rfl⟩) (w_recv X hw hn hk (by decide) k_X3) rfl rfl (Nat.le_of_ble_eq_true rfl) dX3_goToGreatestBid_66 ⟨Nat.le_of_ble_eq_true rfl, Nat.le_of_ble_eq_true rfl⟩ (fun r_66_2 u H locs hp_66 hw => ?_)
  obtain ⟨hp_66, rfl⟩ := hp_66
  dsimp only at hw
  rcases f_X3_isSold_01  Q_1.1 n with q_66 | ⟨q_66, q0_66⟩
  · rw [q_66] at hp_66
    subst r_66_2
    refine lv_if_eq (tgt := 89) hx hb dX3_goToGreatestBid_69 (by decide) (fun c_69 => ?_) (fun c_69 => ?_)
    · exact absurd c_69 (by decide)
    · refine lv_aload_n hx hb dX3_goToGreatestBid_72 rfl (lv_at hl 3 rfl) ?_
      refine lv_iload_n hx hb dX3_goToGreatestBid_73 rfl (lv_at hl 2 rfl) ?_
      refine lv_iconst (v := -1) hx hb dX3_goToGreatestBid_74 (by decide) ?_
      refine lv_icmp_ne (tgt := 85) hx hb dX3_goToGreatestBid_75 (by decide) (fun c_75 => ?_) (fun c_75 => ?_)
      · refine lv_iload_n hx hb dX3_goToGreatestBid_85 rfl (lv_at hl 2 rfl) ?_
        refine lv_topi (fun x_3 ex_3 => ?_)
        refine w_put X hw 4 5 hn hk (by decide) k_X3 in_X3_goToGreatestBid_X3 (by decide) (by decide +kernel) rfl rfl (t := .int) (by decide +kernel) rfl rfl (fun _ => rfl) (fun _ => Nat.le_of_ble_eq_true rfl) dX3_goToGreatestBid_86 (fun H locs hw => ?_)
        have hp_89 : po_c_X3_goToGreatestBid (G, (wU Q_1.1 n 5 x_3), J) := by
            obtain rfl := eQ_1.symm
            obtain rfl := ex_3.symm
            rw [epo]
            refine ⟨Eq.symm ?_, rfl, rfl⟩
            unfold f_X3_goToGreatestBid; rw [if_pos q_66, if_neg c_75]
        exact w_vret X hr hlk hw hp_89 (Nat.le_of_ble_eq_true rfl) (Nat.le_of_ble_eq_true rfl) dX3_goToGreatestBid_89
      · refine lv_aload_n hx hb dX3_goToGreatestBid_78 rfl (lv_at hl 3 rfl) ?_
        refine w_get X hw 4 0 hn hk (by decide) k_X3 in_X3_goToGreatestBid_X3 (by decide) (by decide +kernel) rfl (v := .int (Q_1.1 n 0)) rfl dX3_goToGreatestBid_79 ?_
        refine lv_goto (tgt := 86) hx hb dX3_goToGreatestBid_82 (by decide) ?_
        refine lv_topi (fun x_4 ex_4 => ?_)
        refine w_put X hw 4 5 hn hk (by decide) k_X3 in_X3_goToGreatestBid_X3 (by decide) (by decide +kernel) rfl rfl (t := .int) (by decide +kernel) rfl rfl (fun _ => rfl) (fun _ => Nat.le_of_ble_eq_true rfl) dX3_goToGreatestBid_86 (fun H locs hw => ?_)
        have hp_89 : po_c_X3_goToGreatestBid (G, (wU Q_1.1 n 5 x_4), J) := by
            obtain rfl := eQ_1.symm
            obtain rfl := ex_4.symm
            rw [epo]
            refine ⟨Eq.symm ?_, rfl, rfl⟩
            unfold f_X3_goToGreatestBid; rw [if_pos q_66, if_pos c_75]
        exact w_vret X hr hlk hw hp_89 (Nat.le_of_ble_eq_true rfl) (Nat.le_of_ble_eq_true rfl) dX3_goToGreatestBid_89
  · rw [q0_66] at hp_66
    subst r_66_2
    refine lv_if_eq (tgt := 89) hx hb dX3_goToGreatestBid_69 (by decide) (fun c_69 => ?_) (fun c_69 => ?_)
    · have hp_89 : po_c_X3_goToGreatestBid (G, Q_1.1, J) := by
          obtain rfl := eQ_1.symm
          rw [epo]
          refine ⟨Eq.symm ?_, rfl, rfl⟩
          unfold f_X3_goToGreatestBid; rw [if_neg q_66]
      exact w_vret X hr hlk hw hp_89 (Nat.le_of_ble_eq_true rfl) (Nat.le_of_ble_eq_true rfl) dX3_goToGreatestBid_89
    · exact absurd (by decide) c_69
