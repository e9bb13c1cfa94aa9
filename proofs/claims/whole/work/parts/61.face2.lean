theorem la_lt {n m : Int32} (h0 : ¬ n < 0) (h1 : n < m) : (n.toNatClampNeg : Int) < m.toInt := by
  simp only [i_lt, i_cl, Int32.reduceToInt] at *
  omega
set_option maxRecDepth 20000 in
theorem in_X8_treeAt_X8 : ∀ w ∈ u_ws RX8 TX8 10, w ∈ wsX8_treeAt := fun _ h => List.mem_cons_of_mem _ (List.mem_append_left _ (List.mem_append_left _ (List.mem_append_right _ h)))
set_option maxRecDepth 20000 in
theorem inx_X8_treeAt_IOE : ∀ w ∈ (vx_atS RX8 290 "java/lang/IndexOutOfBoundsException" w_ns).filter goodWord, w ∈ wsX8_treeAt := fun _ h => List.mem_cons_of_mem _ (List.mem_append_right _ h)
set_option maxHeartbeats 4000000 in
set_option maxRecDepth 100000 in
theorem c_X8_treeAt (l : Launch) (D : va_G) (y : Nat → ClassId) (b : Nat) (z : Nat → Nat) (G : wG) (I : wI) (J : wJ) (hL : w_full G) (hls : l.stackTraces = false) (n : Int32) (hT : 0 ≤ (I 7 2).toInt ∧ (I 7 2).toInt ≤ 40) (hTl : wLT G 7 w_tr (I 7 2).toInt) : xR l yX8_treeAt wsX8_treeAt { frames := 6, cells := 1, slots := 6, locals := 82 } D y b z G I J [.ref (G.1 0), .int n] (fun u => (u.1 = G.1 (w_tr n.toNatClampNeg) ∧ (¬ n < 0 ∧ n < I 7 2)) ∧ u.2 = (G, I, J)) (fun u => (u.1 = "java/lang/IndexOutOfBoundsException" ∧ ¬ (¬ n < 0 ∧ n < I 7 2)) ∧ u.2 = (G, I, J)) 1 6 := by
  refine w_xenter (by decide) rfl (Nat.le_of_ble_eq_true rfl) rfl ?_
  intro p e s m below meth c ls X hr hlk hnm hw hst hout hl
  have hx := X.1.1
  have hb := X.1.2.1
  obtain ⟨px_c_X8_treeAt, epx⟩ : ∃ qpx9 : wX → Prop, qpx9 = (fun u => (u.1 = "java/lang/IndexOutOfBoundsException" ∧ ¬ (¬ n < 0 ∧ n < I 7 2)) ∧ u.2 = (G, I, J)) := ⟨_, rfl⟩
  rw [← epx]
  obtain ⟨po_c_X8_treeAt, epo⟩ : ∃ qpo9 : Nat × wS → Prop, qpo9 = (fun u => (u.1 = G.1 (w_tr n.toNatClampNeg) ∧ (¬ n < 0 ∧ n < I 7 2)) ∧ u.2 = (G, I, J)) := ⟨_, rfl⟩
  rw [← epo]
  refine lv_iload_n hx hb dX8_treeAt_0 rfl (lv_at hl 1 rfl) ?_
  refine lv_if_lt (tgt := 15) hx hb dX8_treeAt_1 (by decide) (fun c_1 => ?_) (fun c_1 => ?_)
  · have hp_15 : px_c_X8_treeAt ("java/lang/IndexOutOfBoundsException", G, I, J) := by rw [epx]; exact ⟨⟨rfl, fun q => q.1 c_1⟩, rfl⟩
    exact w_throwW (text := "no such tree") X hw hst hls hout hlk hl (by decide +kernel) (by decide +kernel) (by decide +kernel) (by decide) inx_X8_treeAt_IOE xg_IOE2 (by decide) xg_IOE3 dX8_treeAt_15 dX8_treeAt_18 dX8_treeAt_19 dX8_treeAt_22 dX8_treeAt_25 (Nat.le_of_ble_eq_true rfl) (Nat.le_of_ble_eq_true rfl) (Nat.le_of_ble_eq_true rfl) (Nat.le_of_ble_eq_true rfl) hp_15 (Nat.le_of_ble_eq_true rfl) (Nat.le_of_ble_eq_true rfl)
  · refine lv_iload_n hx hb dX8_treeAt_4 rfl (lv_at hl 1 rfl) ?_
    refine lv_aload_n hx hb dX8_treeAt_5 rfl (lv_at hl 0 rfl) ?_
    refine w_get X hw 9 3 (hL 0 (by decide)) rfl (by decide) k_X8 in_X8_treeAt_X8 (by decide) (by decide +kernel) rfl (v := .ref (G.1 7)) rfl dX8_treeAt_6 ?_
    refine w_callVi (As := []) (rest := [.int n]) X hw hst hl (c_Jx4a65c_size_8abf5 l D y b z G I J hL 7  (hL 7 (by decide)) rfl) (cwV 0 X.1.2.2.2.2 gX8_treeAt_Jx4a65c_size_8abf5 rfl rfl rfl (by decide +kernel) ⟨Nat.le_of_ble_eq_true rfl, Nat.le_of_ble_eq_true rfl⟩) (w_recv X hw (hL 7 (by decide)) rfl (by decide) k_Jx4a65c) rfl rfl (Nat.le_of_ble_eq_true rfl) dX8_treeAt_9 ⟨Nat.le_of_ble_eq_true rfl, Nat.le_of_ble_eq_true rfl⟩ (fun r_9_1 u H locs hp_9 hw => ?_)
    obtain ⟨hp_9, rfl⟩ := hp_9
    dsimp only at hw
    refine lv_icmp_lt (tgt := 26) hx hb dX8_treeAt_12 (by decide) (fun c_12 => ?_) (fun c_12 => ?_)
    · have c9 : n < I 7 2 := by rw [hp_9] at c_12; exact c_12
      have he9 := hTl _ (la_lt c_1 c9)
      refine lv_aload_n hx hb dX8_treeAt_26 rfl (lv_at hl 0 rfl) ?_
      refine w_get X hw 9 3 (hL 0 (by decide)) rfl (by decide) k_X8 in_X8_treeAt_X8 (by decide) (by decide +kernel) rfl (v := .ref (G.1 7)) rfl dX8_treeAt_27 ?_
      refine lv_iload_n hx hb dX8_treeAt_30 rfl (lv_at hl 1 rfl) ?_
      refine w_callVr (As := [.int n]) (rest := []) X hw hst hl (c_AL_get l D y b z G I J hL 7 (w_tr n.toNatClampNeg) n c_1 c9 (hL 7 (by decide)) rfl he9.2.2.1 rfl (ls_in c_1 he9.2.2.2) he9.2.1) (cwV 1 X.1.2.2.2.2 gX8_treeAt_Jx4a65c_get_915e3 rfl rfl rfl (by decide +kernel) ⟨Nat.le_of_ble_eq_true rfl, Nat.le_of_ble_eq_true rfl⟩) (w_recv X hw (hL 7 (by decide)) rfl (by decide) k_Jx4a65c) rfl rfl (Nat.le_of_ble_eq_true rfl) dX8_treeAt_31 ⟨Nat.le_of_ble_eq_true rfl, Nat.le_of_ble_eq_true rfl⟩ (fun u H locs hp_31 hw => ?_)
      obtain ⟨ra_31, u⟩ := u
      obtain ⟨hp_31, rfl⟩ := hp_31
      dsimp only at hw
      dsimp only at hp_31
      subst hp_31
      refine w_cast X hw he9.1 (w_kd_tr _) (by decide) k_X7 (by decide +kernel) dX8_treeAt_34 ?_
      have hp_37 : po_c_X8_treeAt (G.1 (w_tr n.toNatClampNeg), G, I, J) := by rw [epo]; exact ⟨⟨rfl, c_1, c9⟩, rfl⟩
      exact vx_ret (w_aret X hr (Or.inl ⟨_, rfl⟩) hlk hw hp_37 (Nat.le_of_ble_eq_true rfl) (Nat.le_of_ble_eq_true rfl) dX8_treeAt_37)
    · have hp_15 : px_c_X8_treeAt ("java/lang/IndexOutOfBoundsException", G, I, J) := by rw [epx]; exact ⟨⟨rfl, fun q => c_12 (by rw [hp_9]; exact q.2)⟩, rfl⟩
      exact w_throwW (text := "no such tree") X hw hst hls hout hlk hl (by decide +kernel) (by decide +kernel) (by decide +kernel) (by decide) inx_X8_treeAt_IOE xg_IOE2 (by decide) xg_IOE3 dX8_treeAt_15 dX8_treeAt_18 dX8_treeAt_19 dX8_treeAt_22 dX8_treeAt_25 (Nat.le_of_ble_eq_true rfl) (Nat.le_of_ble_eq_true rfl) (Nat.le_of_ble_eq_true rfl) (Nat.le_of_ble_eq_true rfl) hp_15 (Nat.le_of_ble_eq_true rfl) (Nat.le_of_ble_eq_true rfl)
set_option maxRecDepth 20000 in
theorem in_X8_plankAt_X8 : ∀ w ∈ u_ws RX8 TX8 10, w ∈ wsX8_plankAt := fun _ h => List.mem_cons_of_mem _ (List.mem_append_left _ (List.mem_append_left _ (List.mem_append_right _ h)))
set_option maxRecDepth 20000 in
theorem inx_X8_plankAt_IOE : ∀ w ∈ (vx_atS RX8 290 "java/lang/IndexOutOfBoundsException" w_ns).filter goodWord, w ∈ wsX8_plankAt := fun _ h => List.mem_cons_of_mem _ (List.mem_append_right _ h)
set_option maxHeartbeats 4000000 in
set_option maxRecDepth 100000 in
theorem c_X8_plankAt (l : Launch) (D : va_G) (y : Nat → ClassId) (b : Nat) (z : Nat → Nat) (G : wG) (I : wI) (J : wJ) (hL : w_full G) (hls : l.stackTraces = false) (n : Int32) (hP : 0 ≤ (I 8 2).toInt ∧ (I 8 2).toInt ≤ 200) (hTl : wLT G 8 w_pk (I 8 2).toInt) : xR l yX8_plankAt wsX8_plankAt { frames := 6, cells := 1, slots := 6, locals := 82 } D y b z G I J [.ref (G.1 0), .int n] (fun u => (u.1 = G.1 (w_pk n.toNatClampNeg) ∧ (¬ n < 0 ∧ n < I 8 2)) ∧ u.2 = (G, I, J)) (fun u => (u.1 = "java/lang/IndexOutOfBoundsException" ∧ ¬ (¬ n < 0 ∧ n < I 8 2)) ∧ u.2 = (G, I, J)) 1 6 := by
  refine w_xenter (by decide) rfl (Nat.le_of_ble_eq_true rfl) rfl ?_
  intro p e s m below meth c ls X hr hlk hnm hw hst hout hl
  have hx := X.1.1
  have hb := X.1.2.1
  obtain ⟨px_c_X8_plankAt, epx⟩ : ∃ qpx9 : wX → Prop, qpx9 = (fun u => (u.1 = "java/lang/IndexOutOfBoundsException" ∧ ¬ (¬ n < 0 ∧ n < I 8 2)) ∧ u.2 = (G, I, J)) := ⟨_, rfl⟩
  rw [← epx]
  obtain ⟨po_c_X8_plankAt, epo⟩ : ∃ qpo9 : Nat × wS → Prop, qpo9 = (fun u => (u.1 = G.1 (w_pk n.toNatClampNeg) ∧ (¬ n < 0 ∧ n < I 8 2)) ∧ u.2 = (G, I, J)) := ⟨_, rfl⟩
  rw [← epo]
  refine lv_iload_n hx hb dX8_plankAt_0 rfl (lv_at hl 1 rfl) ?_
  refine lv_if_lt (tgt := 15) hx hb dX8_plankAt_1 (by decide) (fun c_1 => ?_) (fun c_1 => ?_)
  · have hp_15 : px_c_X8_plankAt ("java/lang/IndexOutOfBoundsException", G, I, J) := by rw [epx]; exact ⟨⟨rfl, fun q => q.1 c_1⟩, rfl⟩
    exact w_throwW (text := "no such plank") X hw hst hls hout hlk hl (by decide +kernel) (by decide +kernel) (by decide +kernel) (by decide) inx_X8_plankAt_IOE xg_IOE2 (by decide) xg_IOE3 dX8_plankAt_15 dX8_plankAt_18 dX8_plankAt_19 dX8_plankAt_22 dX8_plankAt_25 (Nat.le_of_ble_eq_true rfl) (Nat.le_of_ble_eq_true rfl) (Nat.le_of_ble_eq_true rfl) (Nat.le_of_ble_eq_true rfl) hp_15 (Nat.le_of_ble_eq_true rfl) (Nat.le_of_ble_eq_true rfl)
  · refine lv_iload_n hx hb dX8_plankAt_4 rfl (lv_at hl 1 rfl) ?_
    refine lv_aload_n hx hb dX8_plankAt_5 rfl (lv_at hl 0 rfl) ?_
    refine w_get X hw 9 4 (hL 0 (by decide)) rfl (by decide) k_X8 in_X8_plankAt_X8 (by decide) (by decide +kernel) rfl (v := .ref (G.1 8)) rfl dX8_plankAt_6 ?_
    refine w_callVi (As := []) (rest := [.int n]) X hw hst hl (c_Jx4a65c_size_8abf5 l D y b z G I J hL 8  (hL 8 (by decide)) rfl) (cwV 0 X.1.2.2.2.2 gX8_plankAt_Jx4a65c_size_8abf5 rfl rfl rfl (by decide +kernel) ⟨Nat.le_of_ble_eq_true rfl, Nat.le_of_ble_eq_true rfl⟩) (w_recv X hw (hL 8 (by decide)) rfl (by decide) k_Jx4a65c) rfl rfl (Nat.le_of_ble_eq_true rfl) dX8_plankAt_9 ⟨Nat.le_of_ble_eq_true rfl, Nat.le_of_ble_eq_true rfl⟩ (fun r_9_1 u H locs hp_9 hw => ?_)
    obtain ⟨hp_9, rfl⟩ := hp_9
    dsimp only at hw
    refine lv_icmp_lt (tgt := 26) hx hb dX8_plankAt_12 (by decide) (fun c_12 => ?_) (fun c_12 => ?_)
    · have c9 : n < I 8 2 := by rw [hp_9] at c_12; exact c_12
      have he9 := hTl _ (la_lt c_1 c9)
      refine lv_aload_n hx hb dX8_plankAt_26 rfl (lv_at hl 0 rfl) ?_
      refine w_get X hw 9 4 (hL 0 (by decide)) rfl (by decide) k_X8 in_X8_plankAt_X8 (by decide) (by decide +kernel) rfl (v := .ref (G.1 8)) rfl dX8_plankAt_27 ?_
      refine lv_iload_n hx hb dX8_plankAt_30 rfl (lv_at hl 1 rfl) ?_
      refine w_callVr (As := [.int n]) (rest := []) X hw hst hl (c_AL_get l D y b z G I J hL 8 (w_pk n.toNatClampNeg) n c_1 c9 (hL 8 (by decide)) rfl he9.2.2.1 rfl (ls_in c_1 he9.2.2.2) he9.2.1) (cwV 1 X.1.2.2.2.2 gX8_plankAt_Jx4a65c_get_915e3 rfl rfl rfl (by decide +kernel) ⟨Nat.le_of_ble_eq_true rfl, Nat.le_of_ble_eq_true rfl⟩) (w_recv X hw (hL 8 (by decide)) rfl (by decide) k_Jx4a65c) rfl rfl (Nat.le_of_ble_eq_true rfl) dX8_plankAt_31 ⟨Nat.le_of_ble_eq_true rfl, Nat.le_of_ble_eq_true rfl⟩ (fun u H locs hp_31 hw => ?_)
      obtain ⟨ra_31, u⟩ := u
      obtain ⟨hp_31, rfl⟩ := hp_31
      dsimp only at hw
      dsimp only at hp_31
      subst hp_31
      refine w_cast X hw he9.1 (w_kd_pk _) (by decide) k_X4 (by decide +kernel) dX8_plankAt_34 ?_
      have hp_37 : po_c_X8_plankAt (G.1 (w_pk n.toNatClampNeg), G, I, J) := by rw [epo]; exact ⟨⟨rfl, c_1, c9⟩, rfl⟩
      exact vx_ret (w_aret X hr (Or.inl ⟨_, rfl⟩) hlk hw hp_37 (Nat.le_of_ble_eq_true rfl) (Nat.le_of_ble_eq_true rfl) dX8_plankAt_37)
    · have hp_15 : px_c_X8_plankAt ("java/lang/IndexOutOfBoundsException", G, I, J) := by rw [epx]; exact ⟨⟨rfl, fun q => c_12 (by rw [hp_9]; exact q.2)⟩, rfl⟩
      exact w_throwW (text := "no such plank") X hw hst hls hout hlk hl (by decide +kernel) (by decide +kernel) (by decide +kernel) (by decide) inx_X8_plankAt_IOE xg_IOE2 (by decide) xg_IOE3 dX8_plankAt_15 dX8_plankAt_18 dX8_plankAt_19 dX8_plankAt_22 dX8_plankAt_25 (Nat.le_of_ble_eq_true rfl) (Nat.le_of_ble_eq_true rfl) (Nat.le_of_ble_eq_true rfl) (Nat.le_of_ble_eq_true rfl) hp_15 (Nat.le_of_ble_eq_true rfl) (Nat.le_of_ble_eq_true rfl)
set_option maxRecDepth 20000 in
theorem in_X8_lotAt_X8 : ∀ w ∈ u_ws RX8 TX8 10, w ∈ wsX8_lotAt := fun _ h => List.mem_cons_of_mem _ (List.mem_append_left _ (List.mem_append_left _ (List.mem_append_right _ h)))
set_option maxRecDepth 20000 in
theorem inx_X8_lotAt_IOE : ∀ w ∈ (vx_atS RX8 290 "java/lang/IndexOutOfBoundsException" w_ns).filter goodWord, w ∈ wsX8_lotAt := fun _ h => List.mem_cons_of_mem _ (List.mem_append_right _ h)
set_option maxHeartbeats 4000000 in
set_option maxRecDepth 100000 in
theorem c_X8_lotAt (l : Launch) (D : va_G) (y : Nat → ClassId) (b : Nat) (z : Nat → Nat) (G : wG) (I : wI) (J : wJ) (hL : w_full G) (hls : l.stackTraces = false) (n : Int32) (hN : 0 ≤ (I 9 2).toInt ∧ (I 9 2).toInt ≤ 40) (hTl : wLT G 9 w_lt (I 9 2).toInt) : xR l yX8_lotAt wsX8_lotAt { frames := 6, cells := 1, slots := 6, locals := 82 } D y b z G I J [.ref (G.1 0), .int n] (fun u => (u.1 = G.1 (w_lt n.toNatClampNeg) ∧ (¬ n < 0 ∧ n < I 9 2)) ∧ u.2 = (G, I, J)) (fun u => (u.1 = "java/lang/IndexOutOfBoundsException" ∧ ¬ (¬ n < 0 ∧ n < I 9 2)) ∧ u.2 = (G, I, J)) 1 6 := by
  refine w_xenter (by decide) rfl (Nat.le_of_ble_eq_true rfl) rfl ?_
  intro p e s m below meth c ls X hr hlk hnm hw hst hout hl
  have hx := X.1.1
  have hb := X.1.2.1
  obtain ⟨px_c_X8_lotAt, epx⟩ : ∃ qpx9 : wX → Prop, qpx9 = (fun u => (u.1 = "java/lang/IndexOutOfBoundsException" ∧ ¬ (¬ n < 0 ∧ n < I 9 2)) ∧ u.2 = (G, I, J)) := ⟨_, rfl⟩
  rw [← epx]
  obtain ⟨po_c_X8_lotAt, epo⟩ : ∃ qpo9 : Nat × wS → Prop, qpo9 = (fun u => (u.1 = G.1 (w_lt n.toNatClampNeg) ∧ (¬ n < 0 ∧ n < I 9 2)) ∧ u.2 = (G, I, J)) := ⟨_, rfl⟩
  rw [← epo]
  refine lv_iload_n hx hb dX8_lotAt_0 rfl (lv_at hl 1 rfl) ?_
  refine lv_if_lt (tgt := 15) hx hb dX8_lotAt_1 (by decide) (fun c_1 => ?_) (fun c_1 => ?_)
  · have hp_15 : px_c_X8_lotAt ("java/lang/IndexOutOfBoundsException", G, I, J) := by rw [epx]; exact ⟨⟨rfl, fun q => q.1 c_1⟩, rfl⟩
    exact w_throwW (text := "no such lot") X hw hst hls hout hlk hl (by decide +kernel) (by decide +kernel) (by decide +kernel) (by decide) inx_X8_lotAt_IOE xg_IOE2 (by decide) xg_IOE3 dX8_lotAt_15 dX8_lotAt_18 dX8_lotAt_19 dX8_lotAt_22 dX8_lotAt_25 (Nat.le_of_ble_eq_true rfl) (Nat.le_of_ble_eq_true rfl) (Nat.le_of_ble_eq_true rfl) (Nat.le_of_ble_eq_true rfl) hp_15 (Nat.le_of_ble_eq_true rfl) (Nat.le_of_ble_eq_true rfl)
  · refine lv_iload_n hx hb dX8_lotAt_4 rfl (lv_at hl 1 rfl) ?_
    refine lv_aload_n hx hb dX8_lotAt_5 rfl (lv_at hl 0 rfl) ?_
    refine w_get X hw 9 5 (hL 0 (by decide)) rfl (by decide) k_X8 in_X8_lotAt_X8 (by decide) (by decide +kernel) rfl (v := .ref (G.1 9)) rfl dX8_lotAt_6 ?_
    refine w_callVi (As := []) (rest := [.int n]) X hw hst hl (c_Jx4a65c_size_8abf5 l D y b z G I J hL 9  (hL 9 (by decide)) rfl) (cwV 0 X.1.2.2.2.2 gX8_lotAt_Jx4a65c_size_8abf5 rfl rfl rfl (by decide +kernel) ⟨Nat.le_of_ble_eq_true rfl, Nat.le_of_ble_eq_true rfl⟩) (w_recv X hw (hL 9 (by decide)) rfl (by decide) k_Jx4a65c) rfl rfl (Nat.le_of_ble_eq_true rfl) dX8_lotAt_9 ⟨Nat.le_of_ble_eq_true rfl, Nat.le_of_ble_eq_true rfl⟩ (fun r_9_1 u H locs hp_9 hw => ?_)
    obtain ⟨hp_9, rfl⟩ := hp_9
    dsimp only at hw
    refine lv_icmp_lt (tgt := 26) hx hb dX8_lotAt_12 (by decide) (fun c_12 => ?_) (fun c_12 => ?_)
    · have c9 : n < I 9 2 := by rw [hp_9] at c_12; exact c_12
      have he9 := hTl _ (la_lt c_1 c9)
      refine lv_aload_n hx hb dX8_lotAt_26 rfl (lv_at hl 0 rfl) ?_
      refine w_get X hw 9 5 (hL 0 (by decide)) rfl (by decide) k_X8 in_X8_lotAt_X8 (by decide) (by decide +kernel) rfl (v := .ref (G.1 9)) rfl dX8_lotAt_27 ?_
      refine lv_iload_n hx hb dX8_lotAt_30 rfl (lv_at hl 1 rfl) ?_
      refine w_callVr (As := [.int n]) (rest := []) X hw hst hl (c_AL_get l D y b z G I J hL 9 (w_lt n.toNatClampNeg) n c_1 c9 (hL 9 (by decide)) rfl he9.2.2.1 rfl (ls_in c_1 he9.2.2.2) he9.2.1) (cwV 1 X.1.2.2.2.2 gX8_lotAt_Jx4a65c_get_915e3 rfl rfl rfl (by decide +kernel) ⟨Nat.le_of_ble_eq_true rfl, Nat.le_of_ble_eq_true rfl⟩) (w_recv X hw (hL 9 (by decide)) rfl (by decide) k_Jx4a65c) rfl rfl (Nat.le_of_ble_eq_true rfl) dX8_lotAt_31 ⟨Nat.le_of_ble_eq_true rfl, Nat.le_of_ble_eq_true rfl⟩ (fun u H locs hp_31 hw => ?_)
      obtain ⟨ra_31, u⟩ := u
      obtain ⟨hp_31, rfl⟩ := hp_31
      dsimp only at hw
      dsimp only at hp_31
      subst hp_31
      refine w_cast X hw he9.1 (w_kd_lt _) (by decide) k_X3 (by decide +kernel) dX8_lotAt_34 ?_
      have hp_37 : po_c_X8_lotAt (G.1 (w_lt n.toNatClampNeg), G, I, J) := by rw [epo]; exact ⟨⟨rfl, c_1, c9⟩, rfl⟩
      exact vx_ret (w_aret X hr (Or.inl ⟨_, rfl⟩) hlk hw hp_37 (Nat.le_of_ble_eq_true rfl) (Nat.le_of_ble_eq_true rfl) dX8_lotAt_37)
    · have hp_15 : px_c_X8_lotAt ("java/lang/IndexOutOfBoundsException", G, I, J) := by rw [epx]; exact ⟨⟨rfl, fun q => c_12 (by rw [hp_9]; exact q.2)⟩, rfl⟩
      exact w_throwW (text := "no such lot") X hw hst hls hout hlk hl (by decide +kernel) (by decide +kernel) (by decide +kernel) (by decide) inx_X8_lotAt_IOE xg_IOE2 (by decide) xg_IOE3 dX8_lotAt_15 dX8_lotAt_18 dX8_lotAt_19 dX8_lotAt_22 dX8_lotAt_25 (Nat.le_of_ble_eq_true rfl) (Nat.le_of_ble_eq_true rfl) (Nat.le_of_ble_eq_true rfl) (Nat.le_of_ble_eq_true rfl) hp_15 (Nat.le_of_ble_eq_true rfl) (Nat.le_of_ble_eq_true rfl)
def f_X8_says (I : wI) (k : Int32) : Int32 × Int32 × wI := (if k < 0 then (4, 0, I) else (if k < 6 then (0, (f_X1_told I k), I) else (4, 0, I)))
set_option maxRecDepth 20000 in
theorem in_X8_says_X8 : ∀ w ∈ u_ws RX8 TX8 10, w ∈ wsX8_says := fun _ h => List.mem_cons_of_mem _ (List.mem_append_left _ (List.mem_append_left _ (List.mem_append_right _ h)))
set_option maxRecDepth 20000 in
theorem inx_X8_says_NSE : ∀ w ∈ (vx_atS RX8 118 "java/util/NoSuchElementException" w_ns).filter goodWord, w ∈ wsX8_says := fun _ h => List.mem_cons_of_mem _ (List.mem_append_right _ h)
set_option maxHeartbeats 4000000 in
set_option maxRecDepth 100000 in
theorem c_X8_says (l : Launch) (D : va_G) (y : Nat → ClassId) (b : Nat) (z : Nat → Nat) (G : wG) (I : wI) (J : wJ) (hL : w_full G) (hls : l.stackTraces = false) (k : Int32)  : xI l yX8_says wsX8_says { frames := 6, cells := 1, slots := 6, locals := 82 } D y b z G I J [.ref (G.1 0), .int k] (fun r u => ((f_X8_says I k).1 = 0 ∧ r = (f_X8_says I k).2.1 ∧ u.2.1 = (f_X8_says I k).2.2) ∧ u.1 = G ∧ u.2.2 = J) (fun u => (¬ (f_X8_says I k).1 = 0 ∧ u.1 = w_xn (f_X8_says I k).1 ∧ u.2.2.1 = (f_X8_says I k).2.2) ∧ u.2.1 = G ∧ u.2.2.2 = J) 1 6 := by
  refine w_xenter (by decide) rfl (Nat.le_of_ble_eq_true rfl) rfl ?_
  intro p e s m below meth c ls X hr hlk hnm hw hst hout hl
  have hx := X.1.1
  have hb := X.1.2.1
  obtain ⟨px_c_X8_says, epx⟩ : ∃ qpx9 : wX → Prop, qpx9 = (fun u => (¬ (f_X8_says I k).1 = 0 ∧ u.1 = w_xn (f_X8_says I k).1 ∧ u.2.2.1 = (f_X8_says I k).2.2) ∧ u.2.1 = G ∧ u.2.2.2 = J) := ⟨_, rfl⟩
  rw [← epx]
  obtain ⟨po_c_X8_says, epo⟩ : ∃ qpo9 : Int32 → wS → Prop, qpo9 = (fun r u => ((f_X8_says I k).1 = 0 ∧ r = (f_X8_says I k).2.1 ∧ u.2.1 = (f_X8_says I k).2.2) ∧ u.1 = G ∧ u.2.2 = J) := ⟨_, rfl⟩
  rw [← epo]
  refine lv_iload_n hx hb dX8_says_0 rfl (lv_at hl 1 rfl) ?_
  refine lv_if_lt (tgt := 10) hx hb dX8_says_1 (by decide) (fun c_1 => ?_) (fun c_1 => ?_)
  · have hp_10 : px_c_X8_says ("java/util/NoSuchElementException", G, I, J) := by
        rw [epx]
        have ef : f_X8_says I k = (4, 0, I) := by unfold f_X8_says; rw [if_pos c_1]
        exact ⟨⟨by rw [ef]; exact (by decide : ¬ (4 : Int32) = 0), by rw [ef]; exact xn_4.symm, by rw [ef]⟩, rfl, rfl⟩
    exact w_throwS (text := "the law has no such clause") X hw hst hls hout hlk hl (by decide +kernel) (by decide +kernel) (by decide +kernel) (by decide) inx_X8_says_NSE xg_NSE2 (by decide) xg_NSE3 dX8_says_10 dX8_says_13 dX8_says_14 dX8_says_16 dX8_says_19 (Nat.le_of_ble_eq_true rfl) (Nat.le_of_ble_eq_true rfl) (Nat.le_of_ble_eq_true rfl) (Nat.le_of_ble_eq_true rfl) hp_10 (Nat.le_of_ble_eq_true rfl) (Nat.le_of_ble_eq_true rfl)
  · refine lv_iload_n hx hb dX8_says_4 rfl (lv_at hl 1 rfl) ?_
    refine lv_bipush (v := 6) hx hb dX8_says_5 (by decide) ?_
    refine lv_icmp_lt (tgt := 20) hx hb dX8_says_7 (by decide) (fun c_7 => ?_) (fun c_7 => ?_)
    · refine lv_aload_n hx hb dX8_says_20 rfl (lv_at hl 0 rfl) ?_
      refine w_get X hw 9 1 (hL 0 (by decide)) rfl (by decide) k_X8 in_X8_says_X8 (by decide) (by decide +kernel) rfl (v := .ref (G.1 3)) rfl dX8_says_21 ?_
      refine lv_iload_n hx hb dX8_says_24 rfl (lv_at hl 1 rfl) ?_
      refine w_callVi (As := [.int k]) (rest := []) X hw hst hl (c_X1_told l D y b z G I J hL k) (cwV 1 X.1.2.2.2.2 gX8_says_X1_told rfl rfl rfl (by decide +kernel) ⟨Nat.le_of_ble_eq_true rfl, Nat.le_of_ble_eq_true rfl⟩) (w_recv X hw (hL 3 (by decide)) rfl (by decide) k_X1) rfl rfl (Nat.le_of_ble_eq_true rfl) dX8_says_25 ⟨Nat.le_of_ble_eq_true rfl, Nat.le_of_ble_eq_true rfl⟩ (fun r_25_1 u H locs hp_25 hw => ?_)
      obtain ⟨hp_25, rfl⟩ := hp_25
      dsimp only at hw
      have hp_28 : po_c_X8_says r_25_1 (G, I, J) := by
          obtain rfl := hp_25.symm
          rw [epo]
          have ef : f_X8_says I k = (0, (f_X1_told I k), I) := by unfold f_X8_says; rw [if_neg c_1, if_pos c_7]
          exact ⟨⟨by rw [ef], by rw [ef], by rw [ef]⟩, rfl, rfl⟩
      exact vx_ret (w_iret X hr hlk hw hp_28 (Nat.le_of_ble_eq_true rfl) (Nat.le_of_ble_eq_true rfl) dX8_says_28)
    · have hp_10 : px_c_X8_says ("java/util/NoSuchElementException", G, I, J) := by
          rw [epx]
          have ef : f_X8_says I k = (4, 0, I) := by unfold f_X8_says; rw [if_neg c_1, if_neg c_7]
          exact ⟨⟨by rw [ef]; exact (by decide : ¬ (4 : Int32) = 0), by rw [ef]; exact xn_4.symm, by rw [ef]⟩, rfl, rfl⟩
      exact w_throwS (text := "the law has no such clause") X hw hst hls hout hlk hl (by decide +kernel) (by decide +kernel) (by decide +kernel) (by decide) inx_X8_says_NSE xg_NSE2 (by decide) xg_NSE3 dX8_says_10 dX8_says_13 dX8_says_14 dX8_says_16 dX8_says_19 (Nat.le_of_ble_eq_true rfl) (Nat.le_of_ble_eq_true rfl) (Nat.le_of_ble_eq_true rfl) (Nat.le_of_ble_eq_true rfl) hp_10 (Nat.le_of_ble_eq_true rfl) (Nat.le_of_ble_eq_true rfl)
