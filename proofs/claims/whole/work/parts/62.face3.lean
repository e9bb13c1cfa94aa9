theorem ap_n {I : wI} {x : Int32} (hs : 0 ≤ (I 1 1).toInt ∧ (I 1 1).toInt ≤ 396) : (tp_4 I x 1 1).toInt = (I 1 1).toInt + 4 := by
  have h1 : (1 : Int32).toInt = 1 := rfl
  unfold tp_4
  rw [tp_1_n, tp_1_n, tp_1_n, tp_1_n]
  have e1 : (I 1 1 + 1).toInt = (I 1 1).toInt + 1 := i_inc (by omega)
  have e2 : (I 1 1 + 1 + 1).toInt = (I 1 1).toInt + 2 := by rw [i_inc (by omega)]; omega
  have e3 : (I 1 1 + 1 + 1 + 1).toInt = (I 1 1).toInt + 3 := by rw [i_inc (by omega)]; omega
  rw [i_inc (by omega)]; omega
theorem fd_0 {n : Int32} (hs : 0 ≤ n.toInt ∧ n.toInt ≤ 400) (hc : n + 20 ≤ 400) : 0 ≤ n.toInt ∧ n.toInt ≤ 380 := by
  have h20 : (20 : Int32).toInt = 20 := rfl
  simp only [i_le, Int32.reduceToInt] at hc
  rw [i_add (by rw [h20]; omega) (by rw [h20]; omega), h20] at hc
  omega
theorem fd_1 {I I' : wI} {x : Int32} {b : Int} (e : I' = tp_4 I x) (hb : b ≤ 396) (hs : 0 ≤ (I 1 1).toInt ∧ (I 1 1).toInt ≤ b) : 0 ≤ (I' 1 1).toInt ∧ (I' 1 1).toInt ≤ b + 4 := by
  rw [e, ap_n ⟨hs.1, by omega⟩]; omega
theorem gr_ne {I : wI} {n q : Nat} (h : q ≠ n) (yr rn : Int32) : f_X7_grow I n yr rn q = I q := by
  unfold f_X7_grow
  repeat' split
  all_goals simp only [wU_ne _ _ _ h]
theorem tr_ne {q : Nat} (h : q < 100) (k : Nat) : q ≠ w_tr k := by unfold w_tr; omega
def f_X8_feed (I : wI) (a1 : Int32) (a2 : Int32) (a3 : Int32) (a4 : Int32) (a5 : Int32) : Int32 × wI := (if ((f_X6_size I) + 20) ≤ 400 then ((f_X6_size (tp_4 (tp_4 (tp_4 (tp_4 (tp_4 I a1) a2) a3) a4) a5)), (tp_4 (tp_4 (tp_4 (tp_4 (tp_4 I a1) a2) a3) a4) a5)) else ((-1), I))
set_option maxRecDepth 20000 in
theorem in_X8_feed_X8 : ∀ w ∈ u_ws RX8 TX8 10, w ∈ wsX8_feed := fun _ h => List.mem_cons_of_mem _ (List.mem_append_left _ (List.mem_append_right _ h))
set_option maxHeartbeats 4000000 in
set_option maxRecDepth 100000 in
theorem c_X8_feed (l : Launch) (D : va_G) (y : Nat → ClassId) (b : Nat) (z : Nat → Nat) (G : wG) (I : wI) (J : wJ) (hL : w_full G) (a1 : Int32) (a2 : Int32) (a3 : Int32) (a4 : Int32) (a5 : Int32) (hs : 0 ≤ (I 1 1).toInt ∧ (I 1 1).toInt ≤ 400) : mI l yX8_feed wsX8_feed { frames := 1, cells := 0, slots := 0, locals := 22 } D y b z G I J [.ref (G.1 0), .int a1, .int a2, .int a3, .int a4, .int a5] (fun r u => (r = (f_X8_feed I a1 a2 a3 a4 a5).1 ∧ u.2.1 = (f_X8_feed I a1 a2 a3 a4 a5).2) ∧ u.1 = G ∧ u.2.2 = J) 0 0 := by
  refine w_enter (by decide) rfl (Nat.le_of_ble_eq_true rfl) rfl ?_
  intro p e s m below meth c ls X hr hlk hnm hw hst hl
  have hx := X.1.1
  have hb := X.1.2.1
  obtain ⟨po_c_X8_feed, epo⟩ : ∃ qpo9 : Int32 → wS → Prop, qpo9 = (fun r u => (r = (f_X8_feed I a1 a2 a3 a4 a5).1 ∧ u.2.1 = (f_X8_feed I a1 a2 a3 a4 a5).2) ∧ u.1 = G ∧ u.2.2 = J) := ⟨_, rfl⟩
  rw [← epo]
  refine lv_aload_n hx hb dX8_feed_0 rfl (lv_at hl 0 rfl) ?_
  refine w_get X hw 9 0 (hL 0 (by decide)) rfl (by decide) k_X8 in_X8_feed_X8 (by decide) (by decide +kernel) rfl (v := .ref (G.1 1)) rfl dX8_feed_1 ?_
  refine w_callVi (As := []) (rest := []) X hw hst hl (c_X6_size l D y b z G I J hL ) (cwV 0 X.1.2.2.2.2 gX8_feed_X6_size rfl rfl rfl (by decide +kernel) ⟨Nat.le_of_ble_eq_true rfl, Nat.le_of_ble_eq_true rfl⟩) (w_recv X hw (hL 1 (by decide)) rfl (by decide) k_X6) rfl rfl (Nat.le_of_ble_eq_true rfl) dX8_feed_4 ⟨Nat.le_of_ble_eq_true rfl, Nat.le_of_ble_eq_true rfl⟩ (fun r_4_1 u H locs hp_4 hw => ?_)
  obtain ⟨hp_4, rfl⟩ := hp_4
  dsimp only at hw
  refine lv_bipush (v := 20) hx hb dX8_feed_7 (by decide) ?_
  refine lv_iadd hx hb dX8_feed_9 ?_
  refine lv_sipush (v := 400) hx hb dX8_feed_10 (by decide) ?_
  refine lv_icmp_le (tgt := 18) hx hb dX8_feed_13 (by decide) (fun c_13 => ?_) (fun c_13 => ?_)
  · have s0 := fd_0 hs (by have h := c_13; rw [hp_4] at h; exact h)
    refine lv_aload_n hx hb dX8_feed_18 rfl (lv_at hl 0 rfl) ?_
    refine w_get X hw 9 0 (hL 0 (by decide)) rfl (by decide) k_X8 in_X8_feed_X8 (by decide) (by decide +kernel) rfl (v := .ref (G.1 1)) rfl dX8_feed_19 ?_
    refine lv_iload_n hx hb dX8_feed_22 rfl (lv_at hl 1 rfl) ?_
    refine w_callVv (As := [.int a1]) (rest := []) X hw hst hl (c_X6_append l D y b z G I J hL a1 ⟨s0.1, by omega⟩) (cwV 1 X.1.2.2.2.2 gX8_feed_X6_append rfl rfl rfl (by decide +kernel) ⟨Nat.le_of_ble_eq_true rfl, Nat.le_of_ble_eq_true rfl⟩) (w_recv X hw (hL 1 (by decide)) rfl (by decide) k_X6) rfl rfl (Nat.le_of_ble_eq_true rfl) dX8_feed_23 ⟨Nat.le_of_ble_eq_true rfl, Nat.le_of_ble_eq_true rfl⟩ (fun u H locs hp_23 hw => ?_)
    obtain ⟨G_23_2, I_23_2, J_23_2⟩ := u
    dsimp only at hw hp_23
    obtain ⟨hI_23_2, eG_23, eJ_23⟩ := hp_23
    subst G_23_2 J_23_2
    have s1 := fd_1 hI_23_2 (by decide) s0
    refine lv_aload_n hx hb dX8_feed_26 rfl (lv_at hl 0 rfl) ?_
    refine w_get X hw 9 0 (hL 0 (by decide)) rfl (by decide) k_X8 in_X8_feed_X8 (by decide) (by decide +kernel) rfl (v := .ref (G.1 1)) rfl dX8_feed_27 ?_
    refine lv_iload_n hx hb dX8_feed_30 rfl (lv_at hl 2 rfl) ?_
    refine w_callVv (As := [.int a2]) (rest := []) X hw hst hl (c_X6_append l D y b z G I_23_2 J hL a2 ⟨s1.1, by omega⟩) (cwV 1 X.1.2.2.2.2 gX8_feed_X6_append rfl rfl rfl (by decide +kernel) ⟨Nat.le_of_ble_eq_true rfl, Nat.le_of_ble_eq_true rfl⟩) (w_recv X hw (hL 1 (by decide)) rfl (by decide) k_X6) rfl rfl (Nat.le_of_ble_eq_true rfl) dX8_feed_31 ⟨Nat.le_of_ble_eq_true rfl, Nat.le_of_ble_eq_true rfl⟩ (fun u H locs hp_31 hw => ?_)
    obtain ⟨G_31_3, I_31_3, J_31_3⟩ := u
    dsimp only at hw hp_31
    obtain ⟨hI_31_3, eG_31, eJ_31⟩ := hp_31
    subst G_31_3 J_31_3
    have s2 := fd_1 hI_31_3 (by decide) s1
    refine lv_aload_n hx hb dX8_feed_34 rfl (lv_at hl 0 rfl) ?_
    refine w_get X hw 9 0 (hL 0 (by decide)) rfl (by decide) k_X8 in_X8_feed_X8 (by decide) (by decide +kernel) rfl (v := .ref (G.1 1)) rfl dX8_feed_35 ?_
    refine lv_iload_n hx hb dX8_feed_38 rfl (lv_at hl 3 rfl) ?_
    refine w_callVv (As := [.int a3]) (rest := []) X hw hst hl (c_X6_append l D y b z G I_31_3 J hL a3 ⟨s2.1, by omega⟩) (cwV 1 X.1.2.2.2.2 gX8_feed_X6_append rfl rfl rfl (by decide +kernel) ⟨Nat.le_of_ble_eq_true rfl, Nat.le_of_ble_eq_true rfl⟩) (w_recv X hw (hL 1 (by decide)) rfl (by decide) k_X6) rfl rfl (Nat.le_of_ble_eq_true rfl) dX8_feed_39 ⟨Nat.le_of_ble_eq_true rfl, Nat.le_of_ble_eq_true rfl⟩ (fun u H locs hp_39 hw => ?_)
    obtain ⟨G_39_4, I_39_4, J_39_4⟩ := u
    dsimp only at hw hp_39
    obtain ⟨hI_39_4, eG_39, eJ_39⟩ := hp_39
    subst G_39_4 J_39_4
    have s3 := fd_1 hI_39_4 (by decide) s2
    refine lv_aload_n hx hb dX8_feed_42 rfl (lv_at hl 0 rfl) ?_
    refine w_get X hw 9 0 (hL 0 (by decide)) rfl (by decide) k_X8 in_X8_feed_X8 (by decide) (by decide +kernel) rfl (v := .ref (G.1 1)) rfl dX8_feed_43 ?_
    refine lv_iload hx hb dX8_feed_46 (lv_at hl 4 rfl) ?_
    refine w_callVv (As := [.int a4]) (rest := []) X hw hst hl (c_X6_append l D y b z G I_39_4 J hL a4 ⟨s3.1, by omega⟩) (cwV 1 X.1.2.2.2.2 gX8_feed_X6_append rfl rfl rfl (by decide +kernel) ⟨Nat.le_of_ble_eq_true rfl, Nat.le_of_ble_eq_true rfl⟩) (w_recv X hw (hL 1 (by decide)) rfl (by decide) k_X6) rfl rfl (Nat.le_of_ble_eq_true rfl) dX8_feed_48 ⟨Nat.le_of_ble_eq_true rfl, Nat.le_of_ble_eq_true rfl⟩ (fun u H locs hp_48 hw => ?_)
    obtain ⟨G_48_5, I_48_5, J_48_5⟩ := u
    dsimp only at hw hp_48
    obtain ⟨hI_48_5, eG_48, eJ_48⟩ := hp_48
    subst G_48_5 J_48_5
    have s4 := fd_1 hI_48_5 (by decide) s3
    refine lv_aload_n hx hb dX8_feed_51 rfl (lv_at hl 0 rfl) ?_
    refine w_get X hw 9 0 (hL 0 (by decide)) rfl (by decide) k_X8 in_X8_feed_X8 (by decide) (by decide +kernel) rfl (v := .ref (G.1 1)) rfl dX8_feed_52 ?_
    refine lv_iload hx hb dX8_feed_55 (lv_at hl 5 rfl) ?_
    refine w_callVv (As := [.int a5]) (rest := []) X hw hst hl (c_X6_append l D y b z G I_48_5 J hL a5 ⟨s4.1, by omega⟩) (cwV 1 X.1.2.2.2.2 gX8_feed_X6_append rfl rfl rfl (by decide +kernel) ⟨Nat.le_of_ble_eq_true rfl, Nat.le_of_ble_eq_true rfl⟩) (w_recv X hw (hL 1 (by decide)) rfl (by decide) k_X6) rfl rfl (Nat.le_of_ble_eq_true rfl) dX8_feed_57 ⟨Nat.le_of_ble_eq_true rfl, Nat.le_of_ble_eq_true rfl⟩ (fun u H locs hp_57 hw => ?_)
    obtain ⟨G_57_6, I_57_6, J_57_6⟩ := u
    dsimp only at hw hp_57
    obtain ⟨hI_57_6, eG_57, eJ_57⟩ := hp_57
    subst G_57_6 J_57_6
    refine lv_aload_n hx hb dX8_feed_60 rfl (lv_at hl 0 rfl) ?_
    refine w_get X hw 9 0 (hL 0 (by decide)) rfl (by decide) k_X8 in_X8_feed_X8 (by decide) (by decide +kernel) rfl (v := .ref (G.1 1)) rfl dX8_feed_61 ?_
    refine w_callVi (As := []) (rest := []) X hw hst hl (c_X6_size l D y b z G I_57_6 J hL ) (cwV 0 X.1.2.2.2.2 gX8_feed_X6_size rfl rfl rfl (by decide +kernel) ⟨Nat.le_of_ble_eq_true rfl, Nat.le_of_ble_eq_true rfl⟩) (w_recv X hw (hL 1 (by decide)) rfl (by decide) k_X6) rfl rfl (Nat.le_of_ble_eq_true rfl) dX8_feed_64 ⟨Nat.le_of_ble_eq_true rfl, Nat.le_of_ble_eq_true rfl⟩ (fun r_64_7 u H locs hp_64 hw => ?_)
    obtain ⟨hp_64, rfl⟩ := hp_64
    dsimp only at hw
    have hp_67 : po_c_X8_feed r_64_7 (G, I_57_6, J) := by
        obtain rfl := hp_4.symm
        obtain rfl := hI_23_2.symm
        obtain rfl := hI_31_3.symm
        obtain rfl := hI_39_4.symm
        obtain rfl := hI_48_5.symm
        obtain rfl := hI_57_6.symm
        obtain rfl := hp_64.symm
        rw [epo]
        have ef : f_X8_feed I a1 a2 a3 a4 a5 = ((f_X6_size (tp_4 (tp_4 (tp_4 (tp_4 (tp_4 I a1) a2) a3) a4) a5)), (tp_4 (tp_4 (tp_4 (tp_4 (tp_4 I a1) a2) a3) a4) a5)) := by unfold f_X8_feed; rw [if_pos c_13]
        exact ⟨⟨by rw [ef], by rw [ef]⟩, rfl, rfl⟩
    exact w_iret X hr hlk hw hp_67 (Nat.le_of_ble_eq_true rfl) (Nat.le_of_ble_eq_true rfl) dX8_feed_67
  · refine lv_iconst (v := -1) hx hb dX8_feed_16 (by decide) ?_
    have hp_17 : po_c_X8_feed (-1) (G, I, J) := by
        obtain rfl := hp_4.symm
        rw [epo]
        have ef : f_X8_feed I a1 a2 a3 a4 a5 = ((-1), I) := by unfold f_X8_feed; rw [if_neg c_13]
        exact ⟨⟨by rw [ef], by rw [ef]⟩, rfl, rfl⟩
    exact w_iret X hr hlk hw hp_17 (Nat.le_of_ble_eq_true rfl) (Nat.le_of_ble_eq_true rfl) dX8_feed_17
set_option maxRecDepth 20000 in
theorem in_X8_passYear_X8 : ∀ w ∈ u_ws RX8 TX8 10, w ∈ wsX8_passYear := fun _ h => List.mem_cons_of_mem _ (List.mem_append_left _ (List.mem_append_left _ (List.mem_append_right _ h)))
def l_X8_passYear  : Nat → wI → Int32 → Int32 → wI × Int32
  | 0, I, k, rain => (I, k)
  | nf + 1, I, k, rain => (if (f_Jx4a65c_size_8abf5 I 7) ≤ k then (I, k) else (l_X8_passYear nf (f_X7_grow I (w_tr k.toNatClampNeg) (I 0 8) rain) (k + 1) rain))
set_option maxHeartbeats 4000000 in
set_option maxRecDepth 100000 in
theorem lp_X8_passYear {p : Program} {l : Launch} {e : Env} {R : Room} {s : State} {m : MethodId} {args : Array Value} {below : List Frame} {meth : Method} {c : Code} {cells slots : Nat} {Q : State → Prop} {D : va_G} {y : Nat → ClassId} {b : Nat} {z : Nat → Nat} {G : wG} {J : wJ}  (X : wCx p m c cX8_passYear 3 s args wsX8_passYear yX8_passYear.cls D y b) (hst : St z b s) (hL : w_full G) (hRf : 3 ≤ R.frames) (hRl : 64 ≤ R.locals) (hRc : cells ≤ R.cells) (hRs : slots ≤ R.slots) (rain : Int32)  : ∀ (nf : Nat) (I : wI) (k : Int32) (H : Heap) (locs : List Loc) (ls : Array Slot), (0 ≤ k.toInt ∧ k.toInt ≤ (I 7 2).toInt ∧ (I 7 2).toInt ≤ 40 ∧ wLT G 7 w_tr (I 7 2).toInt) → (((I 7 2).toInt - k.toInt).toNat < nf) → Wh D y b G I J s H locs → lv_has ls 3 [(2, .int k), (0, .ref (G.1 0)), (1, .int rain)] → (∀ (H : Heap) (locs : List Loc) (ls : Array Slot), Wh D y b G (l_X8_passYear nf I k rain).1 J s H locs → lv_has ls 3 [(2, .int (l_X8_passYear nf I k rain).2), (0, .ref (G.1 0)), (1, .int rain)] → W p l e R s m args below meth c H locs cells slots Q (F0 m 48 ls [])) → W p l e R s m args below meth c H locs cells slots Q (F0 m 12 ls []) := by
  have hx := X.1.1
  have hb := X.1.2.1
  intro nf
  induction nf with
  | zero => intro I k H locs ls hi hm; exact absurd hm (by omega)
  | succ nf ih =>
    intro I k H locs ls hi hm hw hl kk
    refine lv_iload_n hx hb dX8_passYear_12 rfl (lv_at hl 0 rfl) ?_
    refine lv_aload_n hx hb dX8_passYear_13 rfl (lv_at hl 1 rfl) ?_
    refine w_get X hw 9 3 (hL 0 (by decide)) rfl (by decide) k_X8 in_X8_passYear_X8 (by decide) (by decide +kernel) rfl (v := .ref (G.1 7)) rfl dX8_passYear_14 ?_
    refine w_callVi (As := []) (rest := [.int k]) X hw hst hl (c_Jx4a65c_size_8abf5 l D y b z G I J hL 7  (hL 7 (by decide)) rfl) (cwV 0 X.1.2.2.2.2 gX8_passYear_Jx4a65c_size_8abf5 rfl rfl rfl (by decide +kernel) ⟨Nat.le_trans (Nat.le_of_ble_eq_true rfl) hRf, Nat.le_trans (Nat.le_of_ble_eq_true rfl) hRl⟩) (w_recv X hw (hL 7 (by decide)) rfl (by decide) k_Jx4a65c) rfl rfl (Nat.le_of_ble_eq_true rfl) dX8_passYear_17 ⟨hRc, hRs⟩ (fun r_17_1 u H locs hp_17 hw => ?_)
    obtain ⟨hp_17, rfl⟩ := hp_17
    dsimp only at hw
    refine lv_icmp_ge (tgt := 48) hx hb dX8_passYear_20 (by decide) (fun c_20 => ?_) (fun c_20 => ?_)
    · have hw9 := hw
      have hl9 := hl
      obtain rfl := hp_17.symm
      have el : l_X8_passYear (nf + 1) I k rain = (I, k) := by rw [l_X8_passYear]; rw [if_pos c_20]
      exact kk _ _ _ (by rw [el]; exact hw9) (by rw [el]; exact (lv_sub hl9 [0, 1, 2] rfl))
    · have hc9 : ¬ I 7 2 ≤ k := by rw [hp_17] at c_20; exact c_20
      have hg9 := ls_k hc9 hi.1
      have he9 := hi.2.2.2 _ hg9.2.2
      refine lv_aload_n hx hb dX8_passYear_23 rfl (lv_at hl 1 rfl) ?_
      refine w_get X hw 9 3 (hL 0 (by decide)) rfl (by decide) k_X8 in_X8_passYear_X8 (by decide) (by decide +kernel) rfl (v := .ref (G.1 7)) rfl dX8_passYear_24 ?_
      refine lv_iload_n hx hb dX8_passYear_27 rfl (lv_at hl 0 rfl) ?_
      refine w_callVr (As := [.int k]) (rest := []) X hw hst hl (c_AL_get l D y b z G I J hL 7 (w_tr k.toNatClampNeg) k hg9.1 hg9.2.1 (hL 7 (by decide)) rfl he9.2.2.1 rfl (ls_in hg9.1 he9.2.2.2) he9.2.1) (cwV 1 X.1.2.2.2.2 gX8_passYear_Jx4a65c_get_915e3 rfl rfl rfl (by decide +kernel) ⟨Nat.le_trans (Nat.le_of_ble_eq_true rfl) hRf, Nat.le_trans (Nat.le_of_ble_eq_true rfl) hRl⟩) (w_recv X hw (hL 7 (by decide)) rfl (by decide) k_Jx4a65c) rfl rfl (Nat.le_of_ble_eq_true rfl) dX8_passYear_28 ⟨hRc, hRs⟩ (fun u H locs hp_28 hw => ?_)
      obtain ⟨ra_28, u⟩ := u
      obtain ⟨hp_28, rfl⟩ := hp_28
      dsimp only at hw
      dsimp only at hp_28
      subst hp_28
      refine w_cast X hw he9.1 (w_kd_tr _) (by decide) k_X7 (by decide +kernel) dX8_passYear_31 ?_
      refine lv_aload_n hx hb dX8_passYear_34 rfl (lv_at hl 1 rfl) ?_
      refine w_get X hw 9 8 (hL 0 (by decide)) rfl (by decide) k_X8 in_X8_passYear_X8 (by decide) (by decide +kernel) rfl (v := .int (I 0 8)) rfl dX8_passYear_35 ?_
      refine lv_iload_n hx hb dX8_passYear_38 rfl (lv_at hl 2 rfl) ?_
      refine w_callVv (As := [.int (I 0 8), .int rain]) (rest := []) X hw hst hl (c_X7_grow l D y b z G I J hL (w_tr k.toNatClampNeg) (I 0 8) rain he9.1 (w_kd_tr _)) (cwV 2 X.1.2.2.2.2 gX8_passYear_X7_grow rfl rfl rfl (by decide +kernel) ⟨Nat.le_trans (Nat.le_of_ble_eq_true rfl) hRf, Nat.le_trans (Nat.le_of_ble_eq_true rfl) hRl⟩) (w_recv X hw he9.1 (w_kd_tr _) (by decide) k_X7) rfl rfl (Nat.le_of_ble_eq_true rfl) dX8_passYear_39 ⟨hRc, hRs⟩ (fun u H locs hp_39 hw => ?_)
      obtain ⟨G_39_3, I_39_3, J_39_3⟩ := u
      dsimp only at hw hp_39
      obtain ⟨hI_39_3, eG_39, eJ_39⟩ := hp_39
      subst G_39_3 J_39_3
      obtain ⟨x_4, ex_4⟩ : ∃ y : Int32, y = k + 1 := ⟨_, rfl⟩
      refine lv_iinc (v := x_4) (lv' := [(2, .int x_4), (0, .ref (G.1 0)), (1, .int rain)]) hx hb dX8_passYear_42 hl (k := 0) rfl (by rw [ex_4]; rfl) (by decide) rfl (fun ls hl => ?_)
      refine lv_goto (tgt := 12) hx hb dX8_passYear_45 (by decide) ?_
      have hw9 := hw
      have hl9 := hl
      obtain rfl := hp_17.symm
      obtain rfl := hI_39_3.symm
      obtain rfl := ex_4.symm
      have el : l_X8_passYear (nf + 1) I k rain = l_X8_passYear nf (f_X7_grow I (w_tr k.toNatClampNeg) (I 0 8) rain) (k + 1) rain := by rw [l_X8_passYear]; rw [if_neg c_20]
      exact ih (f_X7_grow I (w_tr k.toNatClampNeg) (I 0 8) rain) (k + 1) _ _ _ (by rw [gr_ne (tr_ne (by decide) _)]; exact li_inv c_20 hi) (by rw [gr_ne (tr_ne (by decide) _)]; exact li_m c_20 hi hm) hw9 (lv_sub hl9 [0, 1, 2] rfl) (fun H locs ls hw hl => kk H locs ls (by rw [el]; exact hw) (by rw [el]; exact hl))
def f_X8_passYear (I : wI) (rain : Int32) : wI := (l_X8_passYear  41 (wU I 0 8 ((I 0 8) + 1)) 0 rain).1
set_option maxHeartbeats 4000000 in
set_option maxRecDepth 100000 in
theorem c_X8_passYear (l : Launch) (D : va_G) (y : Nat → ClassId) (b : Nat) (z : Nat → Nat) (G : wG) (I : wI) (J : wJ) (hL : w_full G) (rain : Int32) (hT : 0 ≤ (I 7 2).toInt ∧ (I 7 2).toInt ≤ 40) (hTl : wLT G 7 w_tr (I 7 2).toInt) : mV l yX8_passYear wsX8_passYear { frames := 3, cells := 0, slots := 0, locals := 64 } D y b z G I J [.ref (G.1 0), .int rain] (fun u => u.2.1 = f_X8_passYear I rain ∧ u.1 = G ∧ u.2.2 = J) 0 0 := by
  refine w_enter (by decide) rfl (Nat.le_of_ble_eq_true rfl) rfl ?_
  intro p e s m below meth c ls X hr hlk hnm hw hst hl
  have hx := X.1.1
  have hb := X.1.2.1
  obtain ⟨po_c_X8_passYear, epo⟩ : ∃ qpo9 : wS → Prop, qpo9 = (fun u => u.2.1 = f_X8_passYear I rain ∧ u.1 = G ∧ u.2.2 = J) := ⟨_, rfl⟩
  rw [← epo]
  refine lv_aload_n hx hb dX8_passYear_0 rfl (lv_at hl 0 rfl) ?_
  refine lv_dup hx hb dX8_passYear_1 rfl ?_
  refine w_get X hw 9 8 (hL 0 (by decide)) rfl (by decide) k_X8 in_X8_passYear_X8 (by decide) (by decide +kernel) rfl (v := .int (I 0 8)) rfl dX8_passYear_2 ?_
  refine lv_iconst (v := 1) hx hb dX8_passYear_5 (by decide) ?_
  refine lv_iadd hx hb dX8_passYear_6 ?_
  refine lv_topi (fun x_1 ex_1 => ?_)
  refine w_put X hw 9 8 (hL 0 (by decide)) rfl (by decide) k_X8 in_X8_passYear_X8 (by decide) (by decide +kernel) rfl rfl (t := .int) (by decide +kernel) rfl rfl (fun _ => rfl) (fun _ => Nat.le_of_ble_eq_true rfl) dX8_passYear_7 (fun H locs hw => ?_)
  refine lv_iconst (v := 0) hx hb dX8_passYear_10 (by decide) ?_
  refine lv_istore_n (lv' := [(2, .int 0), (0, .ref (G.1 0)), (1, .int rain)]) hx hb dX8_passYear_11 rfl hl (by decide) rfl (fun ls hl => ?_)
  refine lp_X8_passYear  X hst hL (Nat.le_of_ble_eq_true rfl) (Nat.le_of_ble_eq_true rfl) (Nat.le_of_ble_eq_true rfl) (Nat.le_of_ble_eq_true rfl) rain  41 (wU I 0 8 x_1) 0 _ _ _ (⟨by decide, hT.1, hT.2, hTl⟩) (li_0 hT) hw (lv_sub hl [0, 1, 2] rfl) (fun H locs ls hw hl => ?_)
  obtain ⟨Q_2, eQ_2⟩ : ∃ q9 : wI × Int32, q9 = l_X8_passYear  41 (wU I 0 8 x_1) 0 rain := ⟨_, rfl⟩
  rw [← eQ_2] at hw hl
  have hp_48 : po_c_X8_passYear (G, Q_2.1, J) := by
      obtain rfl := ex_1.symm
      obtain rfl := eQ_2.symm
      rw [epo]
      refine ⟨Eq.symm ?_, rfl, rfl⟩
      rfl
  exact w_vret X hr hlk hw hp_48 (Nat.le_of_ble_eq_true rfl) (Nat.le_of_ble_eq_true rfl) dX8_passYear_48
theorem py_l {q : Nat} (h : q < 100) : ∀ (nf : Nat) (I : wI) (k rain : Int32), (l_X8_passYear nf I k rain).1 q = I q := by
  intro nf
  induction nf with
  | zero => intros; rfl
  | succ nf ih =>
    intro I k rain
    rw [l_X8_passYear]
    split
    · rfl
    · rw [ih, gr_ne (tr_ne h _)]
theorem py_q {q : Nat} (h : q < 100) (h0 : q ≠ 0) (I : wI) (rain : Int32) : f_X8_passYear I rain q = I q := by
  unfold f_X8_passYear
  rw [py_l h, wU_ne _ _ _ h0]
theorem yr_inv {k n : Int32} (h : ¬ n ≤ k) (hi : 0 ≤ k.toInt ∧ k.toInt ≤ n.toInt) : 0 ≤ (k + 1).toInt ∧ (k + 1).toInt ≤ n.toInt := by
  have hn := i_bd n
  simp only [i_le] at h; rw [i_inc (by omega)]; omega
theorem yr_m {k n : Int32} {nf : Nat} (h : ¬ n ≤ k) (hm : (n.toInt - k.toInt).toNat < nf + 1) : (n.toInt - (k + 1).toInt).toNat < nf := by
  have hn := i_bd n
  simp only [i_le] at h; rw [i_inc (by omega)]; omega
def l_X8_years  : Nat → wI → Int32 → Int32 → Int32 → wI × Int32
  | 0, I, k, n, rain => (I, k)
  | nf + 1, I, k, n, rain => (if n ≤ k then (I, k) else (l_X8_years nf (f_X8_passYear I rain) (k + 1) n rain))
set_option maxHeartbeats 4000000 in
set_option maxRecDepth 100000 in
theorem lp_X8_years {p : Program} {l : Launch} {e : Env} {R : Room} {s : State} {m : MethodId} {args : Array Value} {below : List Frame} {meth : Method} {c : Code} {cells slots : Nat} {Q : State → Prop} {D : va_G} {y : Nat → ClassId} {b : Nat} {z : Nat → Nat} {G : wG} {J : wJ}  (X : wCx p m c cX8_years 4 s args wsX8_years yX8_years.cls D y b) (hst : St z b s) (hL : w_full G) (hRf : 4 ≤ R.frames) (hRl : 86 ≤ R.locals) (hRc : cells ≤ R.cells) (hRs : slots ≤ R.slots) (n : Int32) (rain : Int32)  : ∀ (nf : Nat) (I : wI) (k : Int32) (H : Heap) (locs : List Loc) (ls : Array Slot), ((0 ≤ k.toInt ∧ k.toInt ≤ n.toInt) ∧ (0 ≤ (I 7 2).toInt ∧ (I 7 2).toInt ≤ 40) ∧ wLT G 7 w_tr (I 7 2).toInt) → ((n.toInt - k.toInt).toNat < nf) → Wh D y b G I J s H locs → lv_has ls 4 [(3, .int k), (0, .ref (G.1 0)), (1, .int n), (2, .int rain)] → (∀ (H : Heap) (locs : List Loc) (ls : Array Slot), Wh D y b G (l_X8_years nf I k n rain).1 J s H locs → lv_has ls 4 [(3, .int (l_X8_years nf I k n rain).2), (0, .ref (G.1 0)), (1, .int n), (2, .int rain)] → W p l e R s m args below meth c H locs cells slots Q (F0 m 59 ls [])) → W p l e R s m args below meth c H locs cells slots Q (F0 m 43 ls []) := by
  have hx := X.1.1
  have hb := X.1.2.1
  intro nf
  induction nf with
  | zero => intro I k H locs ls hi hm; exact absurd hm (by omega)
  | succ nf ih =>
    intro I k H locs ls hi hm hw hl kk
    refine lv_iload_n hx hb dX8_years_43 rfl (lv_at hl 0 rfl) ?_
    refine lv_iload_n hx hb dX8_years_44 rfl (lv_at hl 2 rfl) ?_
    refine lv_icmp_ge (tgt := 59) hx hb dX8_years_45 (by decide) (fun c_45 => ?_) (fun c_45 => ?_)
    · have hw9 := hw
      have hl9 := hl
      have el : l_X8_years (nf + 1) I k n rain = (I, k) := by rw [l_X8_years]; rw [if_pos c_45]
      exact kk _ _ _ (by rw [el]; exact hw9) (by rw [el]; exact (lv_sub hl9 [0, 1, 2, 3] rfl))
    · refine lv_aload_n hx hb dX8_years_48 rfl (lv_at hl 1 rfl) ?_
      refine lv_iload_n hx hb dX8_years_49 rfl (lv_at hl 3 rfl) ?_
      refine w_callVv (As := [.int rain]) (rest := []) X hw hst hl (c_X8_passYear l D y b z G I J hL rain hi.2.1 hi.2.2) (cwV 1 X.1.2.2.2.2 gX8_years_X8_passYear rfl rfl rfl (by decide +kernel) ⟨Nat.le_trans (Nat.le_of_ble_eq_true rfl) hRf, Nat.le_trans (Nat.le_of_ble_eq_true rfl) hRl⟩) (w_recv X hw (hL 0 (by decide)) rfl (by decide) k_X8) rfl rfl (Nat.le_of_ble_eq_true rfl) dX8_years_50 ⟨hRc, hRs⟩ (fun u H locs hp_50 hw => ?_)
      obtain ⟨G_50_1, I_50_1, J_50_1⟩ := u
      dsimp only at hw hp_50
      obtain ⟨hI_50_1, eG_50, eJ_50⟩ := hp_50
      subst G_50_1 J_50_1
      obtain ⟨x_2, ex_2⟩ : ∃ y : Int32, y = k + 1 := ⟨_, rfl⟩
      refine lv_iinc (v := x_2) (lv' := [(3, .int x_2), (0, .ref (G.1 0)), (1, .int n), (2, .int rain)]) hx hb dX8_years_53 hl (k := 0) rfl (by rw [ex_2]; rfl) (by decide) rfl (fun ls hl => ?_)
      refine lv_goto (tgt := 43) hx hb dX8_years_56 (by decide) ?_
      have hw9 := hw
      have hl9 := hl
      obtain rfl := hI_50_1.symm
      obtain rfl := ex_2.symm
      have el : l_X8_years (nf + 1) I k n rain = l_X8_years nf (f_X8_passYear I rain) (k + 1) n rain := by rw [l_X8_years]; rw [if_neg c_45]
      exact ih (f_X8_passYear I rain) (k + 1) _ _ _ (by rw [py_q (by decide) (by decide)]; exact ⟨yr_inv c_45 hi.1, hi.2⟩) (yr_m c_45 hm) hw9 (lv_sub hl9 [0, 1, 2, 3] rfl) (fun H locs ls hw hl => kk H locs ls (by rw [el]; exact hw) (by rw [el]; exact hl))
theorem yr_0 {n : Int32} (h0 : ¬ n < 0) (h1 : n ≤ 50) : (0 ≤ (0 : Int32).toInt ∧ (0 : Int32).toInt ≤ n.toInt) ∧ (n.toInt - (0 : Int32).toInt).toNat < 51 := by
  simp only [i_le, i_lt, Int32.reduceToInt] at *
  omega
def f_X8_years (I : wI) (n : Int32) (rain : Int32) : Int32 × Int32 × wI := (if n < 0 then (1, 0, I) else (if n ≤ 50 then (if rain < 0 then (1, 0, I) else (if rain ≤ 200 then (0, (l_X8_years  51 I 0 n rain).1 0 8, (l_X8_years  51 I 0 n rain).1) else (1, 0, I))) else (1, 0, I)))
set_option maxRecDepth 20000 in
theorem in_X8_years_X8 : ∀ w ∈ u_ws RX8 TX8 10, w ∈ wsX8_years := fun _ h => List.mem_cons_of_mem _ (List.mem_append_left _ (List.mem_append_left _ (List.mem_append_left _ (List.mem_append_right _ h))))
set_option maxRecDepth 20000 in
theorem inx_X8_years_IAE : ∀ w ∈ (vx_atS RX8 82 "java/lang/IllegalArgumentException" w_ns).filter goodWord, w ∈ wsX8_years := fun _ h => List.mem_cons_of_mem _ (List.mem_append_right _ h)
set_option maxHeartbeats 4000000 in
set_option maxRecDepth 100000 in
theorem c_X8_years (l : Launch) (D : va_G) (y : Nat → ClassId) (b : Nat) (z : Nat → Nat) (G : wG) (I : wI) (J : wJ) (hL : w_full G) (hls : l.stackTraces = false) (n : Int32) (rain : Int32) (hT : 0 ≤ (I 7 2).toInt ∧ (I 7 2).toInt ≤ 40) (hTl : wLT G 7 w_tr (I 7 2).toInt) : xI l yX8_years wsX8_years { frames := 6, cells := 1, slots := 6, locals := 86 } D y b z G I J [.ref (G.1 0), .int n, .int rain] (fun r u => ((f_X8_years I n rain).1 = 0 ∧ r = (f_X8_years I n rain).2.1 ∧ u.2.1 = (f_X8_years I n rain).2.2) ∧ u.1 = G ∧ u.2.2 = J) (fun u => (¬ (f_X8_years I n rain).1 = 0 ∧ u.1 = w_xn (f_X8_years I n rain).1 ∧ u.2.2.1 = (f_X8_years I n rain).2.2) ∧ u.2.1 = G ∧ u.2.2.2 = J) 1 6 := by
  refine w_xenter (by decide) rfl (Nat.le_of_ble_eq_true rfl) rfl ?_
  intro p e s m below meth c ls X hr hlk hnm hw hst hout hl
  have hx := X.1.1
  have hb := X.1.2.1
  obtain ⟨px_c_X8_years, epx⟩ : ∃ qpx9 : wX → Prop, qpx9 = (fun u => (¬ (f_X8_years I n rain).1 = 0 ∧ u.1 = w_xn (f_X8_years I n rain).1 ∧ u.2.2.1 = (f_X8_years I n rain).2.2) ∧ u.2.1 = G ∧ u.2.2.2 = J) := ⟨_, rfl⟩
  rw [← epx]
  obtain ⟨po_c_X8_years, epo⟩ : ∃ qpo9 : Int32 → wS → Prop, qpo9 = (fun r u => ((f_X8_years I n rain).1 = 0 ∧ r = (f_X8_years I n rain).2.1 ∧ u.2.1 = (f_X8_years I n rain).2.2) ∧ u.1 = G ∧ u.2.2 = J) := ⟨_, rfl⟩
  rw [← epo]
  refine lv_iload_n hx hb dX8_years_0 rfl (lv_at hl 1 rfl) ?_
  refine lv_if_lt (tgt := 10) hx hb dX8_years_1 (by decide) (fun c_1 => ?_) (fun c_1 => ?_)
  · have hp_10 : px_c_X8_years ("java/lang/IllegalArgumentException", G, I, J) := by
        rw [epx]
        have ef : f_X8_years I n rain = (1, 0, I) := by unfold f_X8_years; rw [if_pos c_1]
        exact ⟨⟨by rw [ef]; exact (by decide : ¬ (1 : Int32) = 0), by rw [ef]; exact xn_1.symm, by rw [ef]⟩, rfl, rfl⟩
    exact w_throwS (text := "no such number of years") X hw hst hls hout hlk hl (by decide +kernel) (by decide +kernel) (by decide +kernel) (by decide) inx_X8_years_IAE xg_IAE2 (by decide) xg_IAE3 dX8_years_10 dX8_years_13 dX8_years_14 dX8_years_16 dX8_years_19 (Nat.le_of_ble_eq_true rfl) (Nat.le_of_ble_eq_true rfl) (Nat.le_of_ble_eq_true rfl) (Nat.le_of_ble_eq_true rfl) hp_10 (Nat.le_of_ble_eq_true rfl) (Nat.le_of_ble_eq_true rfl)
  · refine lv_iload_n hx hb dX8_years_4 rfl (lv_at hl 1 rfl) ?_
    refine lv_bipush (v := 50) hx hb dX8_years_5 (by decide) ?_
    refine lv_icmp_le (tgt := 20) hx hb dX8_years_7 (by decide) (fun c_7 => ?_) (fun c_7 => ?_)
    · refine lv_iload_n hx hb dX8_years_20 rfl (lv_at hl 2 rfl) ?_
      refine lv_if_lt (tgt := 31) hx hb dX8_years_21 (by decide) (fun c_21 => ?_) (fun c_21 => ?_)
      · have hp_31 : px_c_X8_years ("java/lang/IllegalArgumentException", G, I, J) := by
            rw [epx]
            have ef : f_X8_years I n rain = (1, 0, I) := by unfold f_X8_years; rw [if_neg c_1, if_pos c_7, if_pos c_21]
            exact ⟨⟨by rw [ef]; exact (by decide : ¬ (1 : Int32) = 0), by rw [ef]; exact xn_1.symm, by rw [ef]⟩, rfl, rfl⟩
        exact w_throwS (text := "no such rain") X hw hst hls hout hlk hl (by decide +kernel) (by decide +kernel) (by decide +kernel) (by decide) inx_X8_years_IAE xg_IAE2 (by decide) xg_IAE3 dX8_years_31 dX8_years_34 dX8_years_35 dX8_years_37 dX8_years_40 (Nat.le_of_ble_eq_true rfl) (Nat.le_of_ble_eq_true rfl) (Nat.le_of_ble_eq_true rfl) (Nat.le_of_ble_eq_true rfl) hp_31 (Nat.le_of_ble_eq_true rfl) (Nat.le_of_ble_eq_true rfl)
      · refine lv_iload_n hx hb dX8_years_24 rfl (lv_at hl 2 rfl) ?_
        refine lv_sipush (v := 200) hx hb dX8_years_25 (by decide) ?_
        refine lv_icmp_le (tgt := 41) hx hb dX8_years_28 (by decide) (fun c_28 => ?_) (fun c_28 => ?_)
        · refine lv_iconst (v := 0) hx hb dX8_years_41 (by decide) ?_
          refine lv_istore_n (lv' := [(3, .int 0), (0, .ref (G.1 0)), (1, .int n), (2, .int rain)]) hx hb dX8_years_42 rfl hl (by decide) rfl (fun ls hl => ?_)
          refine lp_X8_years  X hst hL (Nat.le_of_ble_eq_true rfl) (Nat.le_of_ble_eq_true rfl) (Nat.le_of_ble_eq_true rfl) (Nat.le_of_ble_eq_true rfl) n rain  51 I 0 _ _ _ (⟨(yr_0 c_1 c_7).1, hT, hTl⟩) ((yr_0 c_1 c_7).2) hw (lv_sub hl [0, 1, 2, 3] rfl) (fun H locs ls hw hl => ?_)
          obtain ⟨Q_1, eQ_1⟩ : ∃ q9 : wI × Int32, q9 = l_X8_years  51 I 0 n rain := ⟨_, rfl⟩
          rw [← eQ_1] at hw hl
          refine lv_aload_n hx hb dX8_years_59 rfl (lv_at hl 1 rfl) ?_
          refine w_get X hw 9 8 (hL 0 (by decide)) rfl (by decide) k_X8 in_X8_years_X8 (by decide) (by decide +kernel) rfl (v := .int (Q_1.1 0 8)) rfl dX8_years_60 ?_
          have hp_63 : po_c_X8_years (Q_1.1 0 8) (G, Q_1.1, J) := by
              obtain rfl := eQ_1.symm
              rw [epo]
              have ef : f_X8_years I n rain = (0, (l_X8_years  51 I 0 n rain).1 0 8, (l_X8_years  51 I 0 n rain).1) := by unfold f_X8_years; rw [if_neg c_1, if_pos c_7, if_neg c_21, if_pos c_28]
              exact ⟨⟨by rw [ef], by rw [ef], by rw [ef]⟩, rfl, rfl⟩
          exact vx_ret (w_iret X hr hlk hw hp_63 (Nat.le_of_ble_eq_true rfl) (Nat.le_of_ble_eq_true rfl) dX8_years_63)
        · have hp_31 : px_c_X8_years ("java/lang/IllegalArgumentException", G, I, J) := by
              rw [epx]
              have ef : f_X8_years I n rain = (1, 0, I) := by unfold f_X8_years; rw [if_neg c_1, if_pos c_7, if_neg c_21, if_neg c_28]
              exact ⟨⟨by rw [ef]; exact (by decide : ¬ (1 : Int32) = 0), by rw [ef]; exact xn_1.symm, by rw [ef]⟩, rfl, rfl⟩
          exact w_throwS (text := "no such rain") X hw hst hls hout hlk hl (by decide +kernel) (by decide +kernel) (by decide +kernel) (by decide) inx_X8_years_IAE xg_IAE2 (by decide) xg_IAE3 dX8_years_31 dX8_years_34 dX8_years_35 dX8_years_37 dX8_years_40 (Nat.le_of_ble_eq_true rfl) (Nat.le_of_ble_eq_true rfl) (Nat.le_of_ble_eq_true rfl) (Nat.le_of_ble_eq_true rfl) hp_31 (Nat.le_of_ble_eq_true rfl) (Nat.le_of_ble_eq_true rfl)
    · have hp_10 : px_c_X8_years ("java/lang/IllegalArgumentException", G, I, J) := by
          rw [epx]
          have ef : f_X8_years I n rain = (1, 0, I) := by unfold f_X8_years; rw [if_neg c_1, if_neg c_7]
          exact ⟨⟨by rw [ef]; exact (by decide : ¬ (1 : Int32) = 0), by rw [ef]; exact xn_1.symm, by rw [ef]⟩, rfl, rfl⟩
      exact w_throwS (text := "no such number of years") X hw hst hls hout hlk hl (by decide +kernel) (by decide +kernel) (by decide +kernel) (by decide) inx_X8_years_IAE xg_IAE2 (by decide) xg_IAE3 dX8_years_10 dX8_years_13 dX8_years_14 dX8_years_16 dX8_years_19 (Nat.le_of_ble_eq_true rfl) (Nat.le_of_ble_eq_true rfl) (Nat.le_of_ble_eq_true rfl) (Nat.le_of_ble_eq_true rfl) hp_10 (Nat.le_of_ble_eq_true rfl) (Nat.le_of_ble_eq_true rfl)
def f_X8_law (I : wI)  : Int32 × Int32 × wI := (if ((f_X2_readText I).1) = (-1) then (1, 0, (wU ((f_X6_cutTo ((f_X2_readText I).2) 0).2) 0 9 (f_X2_place ((f_X6_cutTo ((f_X2_readText I).2) 0).2)))) else (0, ((f_X2_readText I).1), (wU ((f_X6_cutTo ((f_X2_readText I).2) 0).2) 0 9 (-1))))
theorem fr_f_X8_law (I : wI)  (q9 : Nat) (h0 : q9 ≠ 0) (h1 : q9 ≠ 1) (h4 : q9 ≠ 4) (h5 : q9 ≠ 5) (h6 : q9 ≠ 6) : (f_X8_law I).2.2 q9 = I q9 := by
  unfold f_X8_law
  repeat' split
  all_goals first | with_reducible rfl | (simp only [wU_ne _ _ _ h0, wU_ne _ _ _ h1, wU_ne _ _ _ h4, wU_ne _ _ _ h5, wU_ne _ _ _ h6, fr_f_X2_readText _ _ h4 h5 h6, fr_f_X6_cutTo _ _ _ h1])
set_option maxRecDepth 20000 in
theorem in_X8_law_X8 : ∀ w ∈ u_ws RX8 TX8 10, w ∈ wsX8_law := fun _ h => List.mem_cons_of_mem _ (List.mem_append_left _ (List.mem_append_left _ (List.mem_append_left _ (List.mem_append_left _ (List.mem_append_right _ h)))))
set_option maxRecDepth 20000 in
theorem inx_X8_law_IAE : ∀ w ∈ (vx_atS RX8 82 "java/lang/IllegalArgumentException" w_ns).filter goodWord, w ∈ wsX8_law := fun _ h => List.mem_cons_of_mem _ (List.mem_append_right _ h)
set_option maxHeartbeats 4000000 in
set_option maxRecDepth 100000 in
theorem c_X8_law (l : Launch) (D : va_G) (y : Nat → ClassId) (b : Nat) (z : Nat → Nat) (G : wG) (I : wI) (J : wJ) (hL : w_full G) (hls : l.stackTraces = false)  (hs : 0 ≤ (I 1 1).toInt ∧ (I 1 1).toInt ≤ 400) : xI l yX8_law wsX8_law { frames := 8, cells := 1, slots := 6, locals := 175 } D y b z G I J [.ref (G.1 0)] (fun r u => ((f_X8_law I).1 = 0 ∧ r = (f_X8_law I).2.1 ∧ u.2.1 = (f_X8_law I).2.2) ∧ u.1 = G ∧ u.2.2 = J) (fun u => (¬ (f_X8_law I).1 = 0 ∧ u.1 = w_xn (f_X8_law I).1 ∧ u.2.2.1 = (f_X8_law I).2.2) ∧ u.2.1 = G ∧ u.2.2.2 = J) 1 6 := by
  refine w_xenter (by decide) rfl (Nat.le_of_ble_eq_true rfl) rfl ?_
  intro p e s m below meth c ls X hr hlk hnm hw hst hout hl
  have hx := X.1.1
  have hb := X.1.2.1
  obtain ⟨px_c_X8_law, epx⟩ : ∃ qpx9 : wX → Prop, qpx9 = (fun u => (¬ (f_X8_law I).1 = 0 ∧ u.1 = w_xn (f_X8_law I).1 ∧ u.2.2.1 = (f_X8_law I).2.2) ∧ u.2.1 = G ∧ u.2.2.2 = J) := ⟨_, rfl⟩
  rw [← epx]
  obtain ⟨po_c_X8_law, epo⟩ : ∃ qpo9 : Int32 → wS → Prop, qpo9 = (fun r u => ((f_X8_law I).1 = 0 ∧ r = (f_X8_law I).2.1 ∧ u.2.1 = (f_X8_law I).2.2) ∧ u.1 = G ∧ u.2.2 = J) := ⟨_, rfl⟩
  rw [← epo]
  refine lv_aload_n hx hb dX8_law_0 rfl (lv_at hl 0 rfl) ?_
  refine w_get X hw 9 2 (hL 0 (by decide)) rfl (by decide) k_X8 in_X8_law_X8 (by decide) (by decide +kernel) rfl (v := .ref (G.1 5)) rfl dX8_law_1 ?_
  refine w_callVi (As := []) (rest := []) X hw hst hl (c_X2_readText l D y b z G I J hL hs) (cwV 0 X.1.2.2.2.2 gX8_law_X2_readText rfl rfl rfl (by decide +kernel) ⟨Nat.le_of_ble_eq_true rfl, Nat.le_of_ble_eq_true rfl⟩) (w_recv X hw (hL 5 (by decide)) rfl (by decide) k_X2) rfl rfl (Nat.le_of_ble_eq_true rfl) dX8_law_4 ⟨Nat.le_of_ble_eq_true rfl, Nat.le_of_ble_eq_true rfl⟩ (fun r_4_1 u H locs hp_4 hw => ?_)
  obtain ⟨G_4_1, I_4_1, J_4_1⟩ := u
  dsimp only at hw hp_4
  obtain ⟨⟨hp_4, hI_4_1⟩, eG_4, eJ_4⟩ := hp_4
  subst G_4_1 J_4_1
  refine lv_istore_n (lv' := [(1, .int r_4_1), (0, .ref (G.1 0))]) hx hb dX8_law_7 rfl hl (by decide) rfl (fun ls hl => ?_)
  refine lv_aload_n hx hb dX8_law_8 rfl (lv_at hl 1 rfl) ?_
  refine w_get X hw 9 0 (hL 0 (by decide)) rfl (by decide) k_X8 in_X8_law_X8 (by decide) (by decide +kernel) rfl (v := .ref (G.1 1)) rfl dX8_law_9 ?_
  refine lv_iconst (v := 0) hx hb dX8_law_12 (by decide) ?_
  refine w_callVi (As := [.int 0]) (rest := []) X hw hst hl (c_X6_cutTo l D y b z G I_4_1 J hL 0) (cwV 1 X.1.2.2.2.2 gX8_law_X6_cutTo rfl rfl rfl (by decide +kernel) ⟨Nat.le_of_ble_eq_true rfl, Nat.le_of_ble_eq_true rfl⟩) (w_recv X hw (hL 1 (by decide)) rfl (by decide) k_X6) rfl rfl (Nat.le_of_ble_eq_true rfl) dX8_law_13 ⟨Nat.le_of_ble_eq_true rfl, Nat.le_of_ble_eq_true rfl⟩ (fun r_13_2 u H locs hp_13 hw => ?_)
  obtain ⟨G_13_2, I_13_2, J_13_2⟩ := u
  dsimp only at hw hp_13
  obtain ⟨⟨hp_13, hI_13_2⟩, eG_13, eJ_13⟩ := hp_13
  subst G_13_2 J_13_2
  refine lv_pop hx hb dX8_law_16 rfl ?_
  refine lv_iload_n hx hb dX8_law_17 rfl (lv_at hl 0 rfl) ?_
  refine lv_iconst (v := -1) hx hb dX8_law_18 (by decide) ?_
  refine lv_icmp_ne (tgt := 43) hx hb dX8_law_19 (by decide) (fun c_19 => ?_) (fun c_19 => ?_)
  · refine lv_aload_n hx hb dX8_law_43 rfl (lv_at hl 1 rfl) ?_
    refine lv_iconst (v := -1) hx hb dX8_law_44 (by decide) ?_
    refine w_put X hw 9 9 (hL 0 (by decide)) rfl (by decide) k_X8 in_X8_law_X8 (by decide) (by decide +kernel) rfl rfl (t := .int) (by decide +kernel) rfl rfl (fun _ => rfl) (fun _ => Nat.le_of_ble_eq_true rfl) dX8_law_45 (fun H locs hw => ?_)
    refine lv_iload_n hx hb dX8_law_48 rfl (lv_at hl 0 rfl) ?_
    have hp_49 : po_c_X8_law r_4_1 (G, (wU I_13_2 0 9 (-1)), J) := by
        obtain rfl := hI_4_1.symm
        obtain rfl := hp_4.symm
        obtain rfl := hI_13_2.symm
        obtain rfl := hp_13.symm
        rw [epo]
        have ef : f_X8_law I = (0, ((f_X2_readText I).1), (wU ((f_X6_cutTo ((f_X2_readText I).2) 0).2) 0 9 (-1))) := by unfold f_X8_law; rw [if_neg c_19]
        exact ⟨⟨by rw [ef], by rw [ef], by rw [ef]⟩, rfl, rfl⟩
    exact vx_ret (w_iret X hr hlk hw hp_49 (Nat.le_of_ble_eq_true rfl) (Nat.le_of_ble_eq_true rfl) dX8_law_49)
  · refine lv_aload_n hx hb dX8_law_22 rfl (lv_at hl 1 rfl) ?_
    refine lv_aload_n hx hb dX8_law_23 rfl (lv_at hl 1 rfl) ?_
    refine w_get X hw 9 2 (hL 0 (by decide)) rfl (by decide) k_X8 in_X8_law_X8 (by decide) (by decide +kernel) rfl (v := .ref (G.1 5)) rfl dX8_law_24 ?_
    refine w_callVi (As := []) (rest := [.ref (G.1 0)]) X hw hst hl (c_X2_place l D y b z G I_13_2 J hL ) (cwV 0 X.1.2.2.2.2 gX8_law_X2_place rfl rfl rfl (by decide +kernel) ⟨Nat.le_of_ble_eq_true rfl, Nat.le_of_ble_eq_true rfl⟩) (w_recv X hw (hL 5 (by decide)) rfl (by decide) k_X2) rfl rfl (Nat.le_of_ble_eq_true rfl) dX8_law_27 ⟨Nat.le_of_ble_eq_true rfl, Nat.le_of_ble_eq_true rfl⟩ (fun r_27_3 u H locs hp_27 hw => ?_)
    obtain ⟨hp_27, rfl⟩ := hp_27
    dsimp only at hw
    refine w_put X hw 9 9 (hL 0 (by decide)) rfl (by decide) k_X8 in_X8_law_X8 (by decide) (by decide +kernel) rfl rfl (t := .int) (by decide +kernel) rfl rfl (fun _ => rfl) (fun _ => Nat.le_of_ble_eq_true rfl) dX8_law_30 (fun H locs hw => ?_)
    have hp_33 : px_c_X8_law ("java/lang/IllegalArgumentException", G, (wU I_13_2 0 9 r_27_3), J) := by
        obtain rfl := hI_4_1.symm
        obtain rfl := hp_4.symm
        obtain rfl := hI_13_2.symm
        obtain rfl := hp_13.symm
        obtain rfl := hp_27.symm
        rw [epx]
        have ef : f_X8_law I = (1, 0, (wU ((f_X6_cutTo ((f_X2_readText I).2) 0).2) 0 9 (f_X2_place ((f_X6_cutTo ((f_X2_readText I).2) 0).2)))) := by unfold f_X8_law; rw [if_pos c_19]
        exact ⟨⟨by rw [ef]; exact (by decide : ¬ (1 : Int32) = 0), by rw [ef]; exact xn_1.symm, by rw [ef]⟩, rfl, rfl⟩
    exact w_throwS (text := "the text is wrong") X hw hst hls hout hlk hl (by decide +kernel) (by decide +kernel) (by decide +kernel) (by decide) inx_X8_law_IAE xg_IAE2 (by decide) xg_IAE3 dX8_law_33 dX8_law_36 dX8_law_37 dX8_law_39 dX8_law_42 (Nat.le_of_ble_eq_true rfl) (Nat.le_of_ble_eq_true rfl) (Nat.le_of_ble_eq_true rfl) (Nat.le_of_ble_eq_true rfl) hp_33 (Nat.le_of_ble_eq_true rfl) (Nat.le_of_ble_eq_true rfl)
def f_X8_mark (I : wI) (n : Int32) : Int32 × Int32 × wI := (if ¬ n < 0 ∧ n < I 7 2 then (if (I (w_tr n.toNatClampNeg) 5) = 0 then (0, 1, (wU I (w_tr n.toNatClampNeg) 5 1)) else (0, 0, (wU I (w_tr n.toNatClampNeg) 5 1))) else (3, 0, I))
set_option maxRecDepth 20000 in
theorem in_X8_mark_X7 : ∀ w ∈ u_ws RX7 TX7 10, w ∈ wsX8_mark := fun _ h => List.mem_cons_of_mem _ (List.mem_append_left _ (List.mem_append_left _ (List.mem_append_left _ (List.mem_append_right _ h))))
set_option maxHeartbeats 4000000 in
set_option maxRecDepth 100000 in
theorem c_X8_mark (l : Launch) (D : va_G) (y : Nat → ClassId) (b : Nat) (z : Nat → Nat) (G : wG) (I : wI) (J : wJ) (hL : w_full G) (hls : l.stackTraces = false) (n : Int32) (hT : 0 ≤ (I 7 2).toInt ∧ (I 7 2).toInt ≤ 40) (hTl : wLT G 7 w_tr (I 7 2).toInt) : xI l yX8_mark wsX8_mark { frames := 7, cells := 1, slots := 6, locals := 103 } D y b z G I J [.ref (G.1 0), .int n] (fun r u => ((f_X8_mark I n).1 = 0 ∧ r = (f_X8_mark I n).2.1 ∧ u.2.1 = (f_X8_mark I n).2.2) ∧ u.1 = G ∧ u.2.2 = J) (fun u => (¬ (f_X8_mark I n).1 = 0 ∧ u.1 = w_xn (f_X8_mark I n).1 ∧ u.2.2.1 = (f_X8_mark I n).2.2) ∧ u.2.1 = G ∧ u.2.2.2 = J) 1 6 := by
  refine w_xenter (by decide) rfl (Nat.le_of_ble_eq_true rfl) rfl ?_
  intro p e s m below meth c ls X hr hlk hnm hw hst hout hl
  have hx := X.1.1
  have hb := X.1.2.1
  obtain ⟨px_c_X8_mark, epx⟩ : ∃ qpx9 : wX → Prop, qpx9 = (fun u => (¬ (f_X8_mark I n).1 = 0 ∧ u.1 = w_xn (f_X8_mark I n).1 ∧ u.2.2.1 = (f_X8_mark I n).2.2) ∧ u.2.1 = G ∧ u.2.2.2 = J) := ⟨_, rfl⟩
  rw [← epx]
  obtain ⟨po_c_X8_mark, epo⟩ : ∃ qpo9 : Int32 → wS → Prop, qpo9 = (fun r u => ((f_X8_mark I n).1 = 0 ∧ r = (f_X8_mark I n).2.1 ∧ u.2.1 = (f_X8_mark I n).2.2) ∧ u.1 = G ∧ u.2.2 = J) := ⟨_, rfl⟩
  rw [← epo]
  refine lv_aload_n hx hb dX8_mark_0 rfl (lv_at hl 0 rfl) ?_
  refine lv_iload_n hx hb dX8_mark_1 rfl (lv_at hl 1 rfl) ?_
  refine w_xcallVr (As := [.int n]) (rest := []) X hw hst hl (c_X8_treeAt l D y b z G I J hL hls n hT hTl) (cwV 1 X.1.2.2.2.2 gX8_mark_X8_treeAt rfl rfl rfl (by decide +kernel) ⟨Nat.le_of_ble_eq_true rfl, Nat.le_of_ble_eq_true rfl⟩) (w_recv X hw (hL 0 (by decide)) rfl (by decide) k_X8) rfl rfl (Nat.le_of_ble_eq_true rfl) dX8_mark_2 ⟨Nat.le_of_ble_eq_true rfl, Nat.le_of_ble_eq_true rfl⟩ hout hlk (Nat.le_of_ble_eq_true rfl) (Nat.le_of_ble_eq_true rfl) (fun u hu => ?_) (fun u H locs hp_2 hw => ?_)
  · obtain ⟨uE, uS⟩ := u
    obtain ⟨⟨hE, q_2⟩, hS⟩ := hu
    dsimp only at hE hS
    subst hE hS
    exact (by
        rw [epx]
        have ef : f_X8_mark I n = (3, 0, I) := by unfold f_X8_mark; rw [if_neg q_2]
        exact ⟨⟨by rw [ef]; exact (by decide : ¬ (3 : Int32) = 0), by rw [ef]; exact xn_3.symm, by rw [ef]⟩, rfl, rfl⟩)
  · obtain ⟨ra_2, u⟩ := u
    obtain ⟨⟨hp_2, q_2⟩, rfl⟩ := hp_2
    dsimp only at hw hp_2
    subst hp_2
    have he_2 := hTl _ (la_lt q_2.1 q_2.2)
    refine lv_astore_n (lv' := [(2, .ref (G.1 (w_tr n.toNatClampNeg))), (0, .ref (G.1 0)), (1, .int n)]) hx hb dX8_mark_5 rfl hl (by decide) rfl (fun ls hl => ?_)
    refine lv_aload_n hx hb dX8_mark_6 rfl (lv_at hl 0 rfl) ?_
    refine w_getN X hw 8 5 he_2.1 (w_kd_tr _) (by decide) k_X7 in_X8_mark_X7 (by decide) (hst.1 (RX8, 127, "CorkForest$Tree", "marked", "Z") (by decide)) rfl (v := .int (I (w_tr n.toNatClampNeg) 5)) rfl dX8_mark_7 ?_
    refine lv_topi (fun x_2 ex_2 => ?_)
    refine lv_istore_n (lv' := [(3, .int x_2), (2, .ref (G.1 (w_tr n.toNatClampNeg))), (0, .ref (G.1 0)), (1, .int n)]) hx hb dX8_mark_10 rfl hl (by decide) rfl (fun ls hl => ?_)
    refine lv_aload_n hx hb dX8_mark_11 rfl (lv_at hl 1 rfl) ?_
    refine lv_iconst (v := 1) hx hb dX8_mark_12 (by decide) ?_
    refine w_putN X hw 8 5 he_2.1 (w_kd_tr _) (by decide) k_X7 in_X8_mark_X7 (by decide) (hst.1 (RX8, 127, "CorkForest$Tree", "marked", "Z") (by decide)) rfl rfl (t := .boolean) (by decide +kernel) (by decide) (by decide) (fun _ => rfl) (fun _ => Nat.le_of_ble_eq_true rfl) dX8_mark_13 (fun H locs hw => ?_)
    refine lv_iload_n hx hb dX8_mark_16 rfl (lv_at hl 0 rfl) ?_
    refine lv_if_ne (tgt := 24) hx hb dX8_mark_17 (by decide) (fun c_17 => ?_) (fun c_17 => ?_)
    · refine lv_iconst (v := 0) hx hb dX8_mark_24 (by decide) ?_
      have hp_25 : po_c_X8_mark 0 (G, (wU I (w_tr n.toNatClampNeg) 5 1), J) := by
          obtain rfl := ex_2.symm
          rw [epo]
          have ef : f_X8_mark I n = (0, 0, (wU I (w_tr n.toNatClampNeg) 5 1)) := by unfold f_X8_mark; rw [if_pos q_2, if_neg c_17]
          exact ⟨⟨by rw [ef], by rw [ef], by rw [ef]⟩, rfl, rfl⟩
      exact vx_ret (w_zret X hr (by decide) hlk hw hp_25 (Nat.le_of_ble_eq_true rfl) (Nat.le_of_ble_eq_true rfl) dX8_mark_25)
    · refine lv_iconst (v := 1) hx hb dX8_mark_20 (by decide) ?_
      refine lv_goto (tgt := 25) hx hb dX8_mark_21 (by decide) ?_
      have hp_25 : po_c_X8_mark 1 (G, (wU I (w_tr n.toNatClampNeg) 5 1), J) := by
          obtain rfl := ex_2.symm
          rw [epo]
          have ef : f_X8_mark I n = (0, 1, (wU I (w_tr n.toNatClampNeg) 5 1)) := by unfold f_X8_mark; rw [if_pos q_2, if_pos c_17]
          exact ⟨⟨by rw [ef], by rw [ef], by rw [ef]⟩, rfl, rfl⟩
      exact vx_ret (w_zret X hr (by decide) hlk hw hp_25 (Nat.le_of_ble_eq_true rfl) (Nat.le_of_ble_eq_true rfl) dX8_mark_25)
def f_X8_wound (I : wI) (n : Int32) : Int32 × Int32 × wI := (if ¬ n < 0 ∧ n < I 7 2 then (0, (wU I (w_tr n.toNatClampNeg) 4 ((I 0 8) + (f_X1_told I 4))) (w_tr n.toNatClampNeg) 4, (wU I (w_tr n.toNatClampNeg) 4 ((I 0 8) + (f_X1_told I 4)))) else (3, 0, I))
set_option maxRecDepth 20000 in
theorem in_X8_wound_X7 : ∀ w ∈ u_ws RX7 TX7 10, w ∈ wsX8_wound := fun _ h => List.mem_cons_of_mem _ (List.mem_append_left _ (List.mem_append_left _ (List.mem_append_left _ (List.mem_append_right _ h))))
set_option maxRecDepth 20000 in
theorem in_X8_wound_X8 : ∀ w ∈ u_ws RX8 TX8 10, w ∈ wsX8_wound := fun _ h => List.mem_cons_of_mem _ (List.mem_append_left _ (List.mem_append_left _ (List.mem_append_left _ (List.mem_append_left _ (List.mem_append_right _ h)))))
set_option maxHeartbeats 4000000 in
set_option maxRecDepth 100000 in
theorem c_X8_wound (l : Launch) (D : va_G) (y : Nat → ClassId) (b : Nat) (z : Nat → Nat) (G : wG) (I : wI) (J : wJ) (hL : w_full G) (hls : l.stackTraces = false) (n : Int32) (hT : 0 ≤ (I 7 2).toInt ∧ (I 7 2).toInt ≤ 40) (hTl : wLT G 7 w_tr (I 7 2).toInt) : xI l yX8_wound wsX8_wound { frames := 7, cells := 1, slots := 6, locals := 103 } D y b z G I J [.ref (G.1 0), .int n] (fun r u => ((f_X8_wound I n).1 = 0 ∧ r = (f_X8_wound I n).2.1 ∧ u.2.1 = (f_X8_wound I n).2.2) ∧ u.1 = G ∧ u.2.2 = J) (fun u => (¬ (f_X8_wound I n).1 = 0 ∧ u.1 = w_xn (f_X8_wound I n).1 ∧ u.2.2.1 = (f_X8_wound I n).2.2) ∧ u.2.1 = G ∧ u.2.2.2 = J) 1 6 := by
  refine w_xenter (by decide) rfl (Nat.le_of_ble_eq_true rfl) rfl ?_
  intro p e s m below meth c ls X hr hlk hnm hw hst hout hl
  have hx := X.1.1
  have hb := X.1.2.1
  obtain ⟨px_c_X8_wound, epx⟩ : ∃ qpx9 : wX → Prop, qpx9 = (fun u => (¬ (f_X8_wound I n).1 = 0 ∧ u.1 = w_xn (f_X8_wound I n).1 ∧ u.2.2.1 = (f_X8_wound I n).2.2) ∧ u.2.1 = G ∧ u.2.2.2 = J) := ⟨_, rfl⟩
  rw [← epx]
  obtain ⟨po_c_X8_wound, epo⟩ : ∃ qpo9 : Int32 → wS → Prop, qpo9 = (fun r u => ((f_X8_wound I n).1 = 0 ∧ r = (f_X8_wound I n).2.1 ∧ u.2.1 = (f_X8_wound I n).2.2) ∧ u.1 = G ∧ u.2.2 = J) := ⟨_, rfl⟩
  rw [← epo]
  refine lv_aload_n hx hb dX8_wound_0 rfl (lv_at hl 0 rfl) ?_
  refine lv_iload_n hx hb dX8_wound_1 rfl (lv_at hl 1 rfl) ?_
  refine w_xcallVr (As := [.int n]) (rest := []) X hw hst hl (c_X8_treeAt l D y b z G I J hL hls n hT hTl) (cwV 1 X.1.2.2.2.2 gX8_wound_X8_treeAt rfl rfl rfl (by decide +kernel) ⟨Nat.le_of_ble_eq_true rfl, Nat.le_of_ble_eq_true rfl⟩) (w_recv X hw (hL 0 (by decide)) rfl (by decide) k_X8) rfl rfl (Nat.le_of_ble_eq_true rfl) dX8_wound_2 ⟨Nat.le_of_ble_eq_true rfl, Nat.le_of_ble_eq_true rfl⟩ hout hlk (Nat.le_of_ble_eq_true rfl) (Nat.le_of_ble_eq_true rfl) (fun u hu => ?_) (fun u H locs hp_2 hw => ?_)
  · obtain ⟨uE, uS⟩ := u
    obtain ⟨⟨hE, q_2⟩, hS⟩ := hu
    dsimp only at hE hS
    subst hE hS
    exact (by
        rw [epx]
        have ef : f_X8_wound I n = (3, 0, I) := by unfold f_X8_wound; rw [if_neg q_2]
        exact ⟨⟨by rw [ef]; exact (by decide : ¬ (3 : Int32) = 0), by rw [ef]; exact xn_3.symm, by rw [ef]⟩, rfl, rfl⟩)
  · obtain ⟨ra_2, u⟩ := u
    obtain ⟨⟨hp_2, q_2⟩, rfl⟩ := hp_2
    dsimp only at hw hp_2
    subst hp_2
    have he_2 := hTl _ (la_lt q_2.1 q_2.2)
    refine lv_astore_n (lv' := [(2, .ref (G.1 (w_tr n.toNatClampNeg))), (0, .ref (G.1 0)), (1, .int n)]) hx hb dX8_wound_5 rfl hl (by decide) rfl (fun ls hl => ?_)
    refine lv_aload_n hx hb dX8_wound_6 rfl (lv_at hl 0 rfl) ?_
    refine lv_aload_n hx hb dX8_wound_7 rfl (lv_at hl 1 rfl) ?_
    refine w_get X hw 9 8 (hL 0 (by decide)) rfl (by decide) k_X8 in_X8_wound_X8 (by decide) (by decide +kernel) rfl (v := .int (I 0 8)) rfl dX8_wound_8 ?_
    refine lv_aload_n hx hb dX8_wound_11 rfl (lv_at hl 1 rfl) ?_
    refine w_get X hw 9 1 (hL 0 (by decide)) rfl (by decide) k_X8 in_X8_wound_X8 (by decide) (by decide +kernel) rfl (v := .ref (G.1 3)) rfl dX8_wound_12 ?_
    refine lv_iconst (v := 4) hx hb dX8_wound_15 (by decide) ?_
    refine w_callVi (As := [.int 4]) (rest := [.int (I 0 8), .ref (G.1 (w_tr n.toNatClampNeg))]) X hw hst hl (c_X1_told l D y b z G I J hL 4) (cwV 1 X.1.2.2.2.2 gX8_wound_X1_told rfl rfl rfl (by decide +kernel) ⟨Nat.le_of_ble_eq_true rfl, Nat.le_of_ble_eq_true rfl⟩) (w_recv X hw (hL 3 (by decide)) rfl (by decide) k_X1) rfl rfl (Nat.le_of_ble_eq_true rfl) dX8_wound_16 ⟨Nat.le_of_ble_eq_true rfl, Nat.le_of_ble_eq_true rfl⟩ (fun r_16_2 u H locs hp_16 hw => ?_)
    obtain ⟨hp_16, rfl⟩ := hp_16
    dsimp only at hw
    refine lv_iadd hx hb dX8_wound_19 ?_
    refine lv_topi (fun x_3 ex_3 => ?_)
    refine w_putN X hw 8 4 he_2.1 (w_kd_tr _) (by decide) k_X7 in_X8_wound_X7 (by decide) (hst.1 (RX8, 152, "CorkForest$Tree", "rests", "I") (by decide)) rfl rfl (t := .int) (by decide +kernel) rfl rfl (fun _ => rfl) (fun _ => Nat.le_of_ble_eq_true rfl) dX8_wound_20 (fun H locs hw => ?_)
    refine lv_aload_n hx hb dX8_wound_23 rfl (lv_at hl 0 rfl) ?_
    refine w_getN X hw 8 4 he_2.1 (w_kd_tr _) (by decide) k_X7 in_X8_wound_X7 (by decide) (hst.1 (RX8, 152, "CorkForest$Tree", "rests", "I") (by decide)) rfl (v := .int ((wU I (w_tr n.toNatClampNeg) 4 x_3) (w_tr n.toNatClampNeg) 4)) rfl dX8_wound_24 ?_
    have hp_27 : po_c_X8_wound ((wU I (w_tr n.toNatClampNeg) 4 x_3) (w_tr n.toNatClampNeg) 4) (G, (wU I (w_tr n.toNatClampNeg) 4 x_3), J) := by
        obtain rfl := hp_16.symm
        obtain rfl := ex_3.symm
        rw [epo]
        have ef : f_X8_wound I n = (0, (wU I (w_tr n.toNatClampNeg) 4 ((I 0 8) + (f_X1_told I 4))) (w_tr n.toNatClampNeg) 4, (wU I (w_tr n.toNatClampNeg) 4 ((I 0 8) + (f_X1_told I 4)))) := by unfold f_X8_wound; rw [if_pos q_2]
        exact ⟨⟨by rw [ef], by rw [ef], by rw [ef]⟩, rfl, rfl⟩
    exact vx_ret (w_iret X hr hlk hw hp_27 (Nat.le_of_ble_eq_true rfl) (Nat.le_of_ble_eq_true rfl) dX8_wound_27)
def f_X8_fire (I : wI) (n : Int32) : Int32 × Int32 × wI := (if ¬ n < 0 ∧ n < I 7 2 then (0, ((f_X7_loseBarkToFire I (w_tr n.toNatClampNeg) (I 0 8)).1), ((f_X7_loseBarkToFire I (w_tr n.toNatClampNeg) (I 0 8)).2)) else (3, 0, I))
set_option maxRecDepth 20000 in
theorem in_X8_fire_X8 : ∀ w ∈ u_ws RX8 TX8 10, w ∈ wsX8_fire := fun _ h => List.mem_cons_of_mem _ (List.mem_append_left _ (List.mem_append_left _ (List.mem_append_left _ (List.mem_append_right _ h))))
set_option maxHeartbeats 4000000 in
set_option maxRecDepth 100000 in
theorem c_X8_fire (l : Launch) (D : va_G) (y : Nat → ClassId) (b : Nat) (z : Nat → Nat) (G : wG) (I : wI) (J : wJ) (hL : w_full G) (hls : l.stackTraces = false) (n : Int32) (hT : 0 ≤ (I 7 2).toInt ∧ (I 7 2).toInt ≤ 40) (hTl : wLT G 7 w_tr (I 7 2).toInt) : xI l yX8_fire wsX8_fire { frames := 7, cells := 1, slots := 6, locals := 103 } D y b z G I J [.ref (G.1 0), .int n] (fun r u => ((f_X8_fire I n).1 = 0 ∧ r = (f_X8_fire I n).2.1 ∧ u.2.1 = (f_X8_fire I n).2.2) ∧ u.1 = G ∧ u.2.2 = J) (fun u => (¬ (f_X8_fire I n).1 = 0 ∧ u.1 = w_xn (f_X8_fire I n).1 ∧ u.2.2.1 = (f_X8_fire I n).2.2) ∧ u.2.1 = G ∧ u.2.2.2 = J) 1 6 := by
  refine w_xenter (by decide) rfl (Nat.le_of_ble_eq_true rfl) rfl ?_
  intro p e s m below meth c ls X hr hlk hnm hw hst hout hl
  have hx := X.1.1
  have hb := X.1.2.1
  obtain ⟨px_c_X8_fire, epx⟩ : ∃ qpx9 : wX → Prop, qpx9 = (fun u => (¬ (f_X8_fire I n).1 = 0 ∧ u.1 = w_xn (f_X8_fire I n).1 ∧ u.2.2.1 = (f_X8_fire I n).2.2) ∧ u.2.1 = G ∧ u.2.2.2 = J) := ⟨_, rfl⟩
  rw [← epx]
  obtain ⟨po_c_X8_fire, epo⟩ : ∃ qpo9 : Int32 → wS → Prop, qpo9 = (fun r u => ((f_X8_fire I n).1 = 0 ∧ r = (f_X8_fire I n).2.1 ∧ u.2.1 = (f_X8_fire I n).2.2) ∧ u.1 = G ∧ u.2.2 = J) := ⟨_, rfl⟩
  rw [← epo]
  refine lv_aload_n hx hb dX8_fire_0 rfl (lv_at hl 0 rfl) ?_
  refine lv_iload_n hx hb dX8_fire_1 rfl (lv_at hl 1 rfl) ?_
  refine w_xcallVr (As := [.int n]) (rest := []) X hw hst hl (c_X8_treeAt l D y b z G I J hL hls n hT hTl) (cwV 1 X.1.2.2.2.2 gX8_fire_X8_treeAt rfl rfl rfl (by decide +kernel) ⟨Nat.le_of_ble_eq_true rfl, Nat.le_of_ble_eq_true rfl⟩) (w_recv X hw (hL 0 (by decide)) rfl (by decide) k_X8) rfl rfl (Nat.le_of_ble_eq_true rfl) dX8_fire_2 ⟨Nat.le_of_ble_eq_true rfl, Nat.le_of_ble_eq_true rfl⟩ hout hlk (Nat.le_of_ble_eq_true rfl) (Nat.le_of_ble_eq_true rfl) (fun u hu => ?_) (fun u H locs hp_2 hw => ?_)
  · obtain ⟨uE, uS⟩ := u
    obtain ⟨⟨hE, q_2⟩, hS⟩ := hu
    dsimp only at hE hS
    subst hE hS
    exact (by
        rw [epx]
        have ef : f_X8_fire I n = (3, 0, I) := by unfold f_X8_fire; rw [if_neg q_2]
        exact ⟨⟨by rw [ef]; exact (by decide : ¬ (3 : Int32) = 0), by rw [ef]; exact xn_3.symm, by rw [ef]⟩, rfl, rfl⟩)
  · obtain ⟨ra_2, u⟩ := u
    obtain ⟨⟨hp_2, q_2⟩, rfl⟩ := hp_2
    dsimp only at hw hp_2
    subst hp_2
    have he_2 := hTl _ (la_lt q_2.1 q_2.2)
    refine lv_aload_n hx hb dX8_fire_5 rfl (lv_at hl 0 rfl) ?_
    refine w_get X hw 9 8 (hL 0 (by decide)) rfl (by decide) k_X8 in_X8_fire_X8 (by decide) (by decide +kernel) rfl (v := .int (I 0 8)) rfl dX8_fire_6 ?_
    refine w_callVi (As := [.int (I 0 8)]) (rest := []) X hw hst hl (c_X7_loseBarkToFire l D y b z G I J hL (w_tr n.toNatClampNeg) (I 0 8) he_2.1 (w_kd_tr _)) (cwV 1 X.1.2.2.2.2 gX8_fire_X7_loseBarkToFire rfl rfl rfl (by decide +kernel) ⟨Nat.le_of_ble_eq_true rfl, Nat.le_of_ble_eq_true rfl⟩) (w_recv X hw he_2.1 (w_kd_tr _) (by decide) k_X7) rfl rfl (Nat.le_of_ble_eq_true rfl) dX8_fire_9 ⟨Nat.le_of_ble_eq_true rfl, Nat.le_of_ble_eq_true rfl⟩ (fun r_9_2 u H locs hp_9 hw => ?_)
    obtain ⟨G_9_2, I_9_2, J_9_2⟩ := u
    dsimp only at hw hp_9
    obtain ⟨⟨hp_9, hI_9_2⟩, eG_9, eJ_9⟩ := hp_9
    subst G_9_2 J_9_2
    have hp_12 : po_c_X8_fire r_9_2 (G, I_9_2, J) := by
        obtain rfl := hI_9_2.symm
        obtain rfl := hp_9.symm
        rw [epo]
        have ef : f_X8_fire I n = (0, ((f_X7_loseBarkToFire I (w_tr n.toNatClampNeg) (I 0 8)).1), ((f_X7_loseBarkToFire I (w_tr n.toNatClampNeg) (I 0 8)).2)) := by unfold f_X8_fire; rw [if_pos q_2]
        exact ⟨⟨by rw [ef], by rw [ef], by rw [ef]⟩, rfl, rfl⟩
    exact vx_ret (w_iret X hr hlk hw hp_12 (Nat.le_of_ble_eq_true rfl) (Nat.le_of_ble_eq_true rfl) dX8_fire_12)
def f_X8_look (I : wI) (n : Int32) (wh : Int32) : Int32 × Int32 × wI := (if ¬ n < 0 ∧ n < I 7 2 then (if wh = 0 then (0, I (w_tr n.toNatClampNeg) 0, I) else (if wh = 1 then (0, I (w_tr n.toNatClampNeg) 1, I) else (if wh = 2 then (0, I (w_tr n.toNatClampNeg) 2, I) else (if wh = 3 then (0, I (w_tr n.toNatClampNeg) 3, I) else (if wh = 4 then (0, I (w_tr n.toNatClampNeg) 4, I) else (if wh = 5 then (if (I (w_tr n.toNatClampNeg) 5) = 0 then (0, 0, I) else (0, 1, I)) else (if wh = 6 then (0, I (w_tr n.toNatClampNeg) 6, I) else (if wh = 7 then (0, I (w_tr n.toNatClampNeg) 7, I) else (if wh = 8 then (0, I (w_tr n.toNatClampNeg) 8, I) else (if wh = 9 then (0, I (w_tr n.toNatClampNeg) 9, I) else (4, 0, I))))))))))) else (3, 0, I))
set_option maxRecDepth 20000 in
theorem in_X8_look_X7 : ∀ w ∈ u_ws RX7 TX7 10, w ∈ wsX8_look := fun _ h => List.mem_cons_of_mem _ (List.mem_append_left _ (List.mem_append_left _ (List.mem_append_left _ (List.mem_append_left _ (List.mem_append_right _ h)))))
set_option maxRecDepth 20000 in
theorem inx_X8_look_NSE : ∀ w ∈ (vx_atS RX8 118 "java/util/NoSuchElementException" w_ns).filter goodWord, w ∈ wsX8_look := fun _ h => List.mem_cons_of_mem _ (List.mem_append_left _ (List.mem_append_right _ h))
set_option maxHeartbeats 4000000 in
set_option maxRecDepth 100000 in
theorem c_X8_look (l : Launch) (D : va_G) (y : Nat → ClassId) (b : Nat) (z : Nat → Nat) (G : wG) (I : wI) (J : wJ) (hL : w_full G) (hls : l.stackTraces = false) (n : Int32) (wh : Int32) (hT : 0 ≤ (I 7 2).toInt ∧ (I 7 2).toInt ≤ 40) (hTl : wLT G 7 w_tr (I 7 2).toInt) : xI l yX8_look wsX8_look { frames := 7, cells := 2, slots := 12, locals := 103 } D y b z G I J [.ref (G.1 0), .int n, .int wh] (fun r u => ((f_X8_look I n wh).1 = 0 ∧ r = (f_X8_look I n wh).2.1 ∧ u.2.1 = (f_X8_look I n wh).2.2) ∧ u.1 = G ∧ u.2.2 = J) (fun u => (¬ (f_X8_look I n wh).1 = 0 ∧ u.1 = w_xn (f_X8_look I n wh).1 ∧ u.2.2.1 = (f_X8_look I n wh).2.2) ∧ u.2.1 = G ∧ u.2.2.2 = J) 2 12 := by
  refine w_xenter (by decide) rfl (Nat.le_of_ble_eq_true rfl) rfl ?_
  intro p e s m below meth c ls X hr hlk hnm hw hst hout hl
  have hx := X.1.1
  have hb := X.1.2.1
  obtain ⟨px_c_X8_look, epx⟩ : ∃ qpx9 : wX → Prop, qpx9 = (fun u => (¬ (f_X8_look I n wh).1 = 0 ∧ u.1 = w_xn (f_X8_look I n wh).1 ∧ u.2.2.1 = (f_X8_look I n wh).2.2) ∧ u.2.1 = G ∧ u.2.2.2 = J) := ⟨_, rfl⟩
  rw [← epx]
  obtain ⟨po_c_X8_look, epo⟩ : ∃ qpo9 : Int32 → wS → Prop, qpo9 = (fun r u => ((f_X8_look I n wh).1 = 0 ∧ r = (f_X8_look I n wh).2.1 ∧ u.2.1 = (f_X8_look I n wh).2.2) ∧ u.1 = G ∧ u.2.2 = J) := ⟨_, rfl⟩
  rw [← epo]
  refine lv_aload_n hx hb dX8_look_0 rfl (lv_at hl 0 rfl) ?_
  refine lv_iload_n hx hb dX8_look_1 rfl (lv_at hl 1 rfl) ?_
  refine w_xcallVr (As := [.int n]) (rest := []) X hw hst hl (c_X8_treeAt l D y b z G I J hL hls n hT hTl) (cwV 1 X.1.2.2.2.2 gX8_look_X8_treeAt rfl rfl rfl (by decide +kernel) ⟨Nat.le_of_ble_eq_true rfl, Nat.le_of_ble_eq_true rfl⟩) (w_recv X hw (hL 0 (by decide)) rfl (by decide) k_X8) rfl rfl (Nat.le_of_ble_eq_true rfl) dX8_look_2 ⟨Nat.le_of_ble_eq_true rfl, Nat.le_of_ble_eq_true rfl⟩ hout hlk (Nat.le_of_ble_eq_true rfl) (Nat.le_of_ble_eq_true rfl) (fun u hu => ?_) (fun u H locs hp_2 hw => ?_)
  · obtain ⟨uE, uS⟩ := u
    obtain ⟨⟨hE, q_2⟩, hS⟩ := hu
    dsimp only at hE hS
    subst hE hS
    exact (by
        rw [epx]
        have ef : f_X8_look I n wh = (3, 0, I) := by unfold f_X8_look; rw [if_neg q_2]
        exact ⟨⟨by rw [ef]; exact (by decide : ¬ (3 : Int32) = 0), by rw [ef]; exact xn_3.symm, by rw [ef]⟩, rfl, rfl⟩)
  · obtain ⟨ra_2, u⟩ := u
    obtain ⟨⟨hp_2, q_2⟩, rfl⟩ := hp_2
    dsimp only at hw hp_2
    subst hp_2
    have he_2 := hTl _ (la_lt q_2.1 q_2.2)
    refine lv_astore_n (lv' := [(3, .ref (G.1 (w_tr n.toNatClampNeg))), (0, .ref (G.1 0)), (1, .int n), (2, .int wh)]) hx hb dX8_look_5 rfl hl (by decide) rfl (fun ls hl => ?_)
    refine lv_iload_n hx hb dX8_look_6 rfl (lv_at hl 3 rfl) ?_
    by_cases s_7_0 : wh = 0
    · refine lv_tableIn (tgt := 60) hx hb dX8_look_7 (by rw [s_7_0]; decide) (by rw [s_7_0]; decide) (by rw [s_7_0]; rfl) (by decide) ?_
      refine lv_aload_n hx hb dX8_look_60 rfl (lv_at hl 0 rfl) ?_
      refine w_getN X hw 8 0 he_2.1 (w_kd_tr _) (by decide) k_X7 in_X8_look_X7 (by decide) (hst.1 (RX8, 139, "CorkForest$Tree", "girth", "I") (by decide)) rfl (v := .int (I (w_tr n.toNatClampNeg) 0)) rfl dX8_look_61 ?_
      have hp_64 : po_c_X8_look (I (w_tr n.toNatClampNeg) 0) (G, I, J) := by
          rw [epo]
          have ef : f_X8_look I n wh = (0, I (w_tr n.toNatClampNeg) 0, I) := by unfold f_X8_look; rw [if_pos q_2, if_pos s_7_0]
          exact ⟨⟨by rw [ef], by rw [ef], by rw [ef]⟩, rfl, rfl⟩
      exact vx_ret (w_iret X hr hlk hw hp_64 (Nat.le_of_ble_eq_true rfl) (Nat.le_of_ble_eq_true rfl) dX8_look_64)
    by_cases s_7_1 : wh = 1
    · refine lv_tableIn (tgt := 65) hx hb dX8_look_7 (by rw [s_7_1]; decide) (by rw [s_7_1]; decide) (by rw [s_7_1]; rfl) (by decide) ?_
      refine lv_aload_n hx hb dX8_look_65 rfl (lv_at hl 0 rfl) ?_
      refine w_getN X hw 8 1 he_2.1 (w_kd_tr _) (by decide) k_X7 in_X8_look_X7 (by decide) (hst.1 (RX8, 142, "CorkForest$Tree", "bark", "I") (by decide)) rfl (v := .int (I (w_tr n.toNatClampNeg) 1)) rfl dX8_look_66 ?_
      have hp_69 : po_c_X8_look (I (w_tr n.toNatClampNeg) 1) (G, I, J) := by
          rw [epo]
          have ef : f_X8_look I n wh = (0, I (w_tr n.toNatClampNeg) 1, I) := by unfold f_X8_look; rw [if_pos q_2, if_neg s_7_0, if_pos s_7_1]
          exact ⟨⟨by rw [ef], by rw [ef], by rw [ef]⟩, rfl, rfl⟩
      exact vx_ret (w_iret X hr hlk hw hp_69 (Nat.le_of_ble_eq_true rfl) (Nat.le_of_ble_eq_true rfl) dX8_look_69)
    by_cases s_7_2 : wh = 2
    · refine lv_tableIn (tgt := 70) hx hb dX8_look_7 (by rw [s_7_2]; decide) (by rw [s_7_2]; decide) (by rw [s_7_2]; rfl) (by decide) ?_
      refine lv_aload_n hx hb dX8_look_70 rfl (lv_at hl 0 rfl) ?_
      refine w_getN X hw 8 2 he_2.1 (w_kd_tr _) (by decide) k_X7 in_X8_look_X7 (by decide) (hst.1 (RX8, 158, "CorkForest$Tree", "stripped", "I") (by decide)) rfl (v := .int (I (w_tr n.toNatClampNeg) 2)) rfl dX8_look_71 ?_
      have hp_74 : po_c_X8_look (I (w_tr n.toNatClampNeg) 2) (G, I, J) := by
          rw [epo]
          have ef : f_X8_look I n wh = (0, I (w_tr n.toNatClampNeg) 2, I) := by unfold f_X8_look; rw [if_pos q_2, if_neg s_7_0, if_neg s_7_1, if_pos s_7_2]
          exact ⟨⟨by rw [ef], by rw [ef], by rw [ef]⟩, rfl, rfl⟩
      exact vx_ret (w_iret X hr hlk hw hp_74 (Nat.le_of_ble_eq_true rfl) (Nat.le_of_ble_eq_true rfl) dX8_look_74)
    by_cases s_7_3 : wh = 3
    · refine lv_tableIn (tgt := 75) hx hb dX8_look_7 (by rw [s_7_3]; decide) (by rw [s_7_3]; decide) (by rw [s_7_3]; rfl) (by decide) ?_
      refine lv_aload_n hx hb dX8_look_75 rfl (lv_at hl 0 rfl) ?_
      refine w_getN X hw 8 3 he_2.1 (w_kd_tr _) (by decide) k_X7 in_X8_look_X7 (by decide) (hst.1 (RX8, 161, "CorkForest$Tree", "high", "I") (by decide)) rfl (v := .int (I (w_tr n.toNatClampNeg) 3)) rfl dX8_look_76 ?_
      have hp_79 : po_c_X8_look (I (w_tr n.toNatClampNeg) 3) (G, I, J) := by
          rw [epo]
          have ef : f_X8_look I n wh = (0, I (w_tr n.toNatClampNeg) 3, I) := by unfold f_X8_look; rw [if_pos q_2, if_neg s_7_0, if_neg s_7_1, if_neg s_7_2, if_pos s_7_3]
          exact ⟨⟨by rw [ef], by rw [ef], by rw [ef]⟩, rfl, rfl⟩
      exact vx_ret (w_iret X hr hlk hw hp_79 (Nat.le_of_ble_eq_true rfl) (Nat.le_of_ble_eq_true rfl) dX8_look_79)
    by_cases s_7_4 : wh = 4
    · refine lv_tableIn (tgt := 80) hx hb dX8_look_7 (by rw [s_7_4]; decide) (by rw [s_7_4]; decide) (by rw [s_7_4]; rfl) (by decide) ?_
      refine lv_aload_n hx hb dX8_look_80 rfl (lv_at hl 0 rfl) ?_
      refine w_getN X hw 8 4 he_2.1 (w_kd_tr _) (by decide) k_X7 in_X8_look_X7 (by decide) (hst.1 (RX8, 152, "CorkForest$Tree", "rests", "I") (by decide)) rfl (v := .int (I (w_tr n.toNatClampNeg) 4)) rfl dX8_look_81 ?_
      have hp_84 : po_c_X8_look (I (w_tr n.toNatClampNeg) 4) (G, I, J) := by
          rw [epo]
          have ef : f_X8_look I n wh = (0, I (w_tr n.toNatClampNeg) 4, I) := by unfold f_X8_look; rw [if_pos q_2, if_neg s_7_0, if_neg s_7_1, if_neg s_7_2, if_neg s_7_3, if_pos s_7_4]
          exact ⟨⟨by rw [ef], by rw [ef], by rw [ef]⟩, rfl, rfl⟩
      exact vx_ret (w_iret X hr hlk hw hp_84 (Nat.le_of_ble_eq_true rfl) (Nat.le_of_ble_eq_true rfl) dX8_look_84)
    by_cases s_7_5 : wh = 5
    · refine lv_tableIn (tgt := 85) hx hb dX8_look_7 (by rw [s_7_5]; decide) (by rw [s_7_5]; decide) (by rw [s_7_5]; rfl) (by decide) ?_
      refine lv_aload_n hx hb dX8_look_85 rfl (lv_at hl 0 rfl) ?_
      refine w_getN X hw 8 5 he_2.1 (w_kd_tr _) (by decide) k_X7 in_X8_look_X7 (by decide) (hst.1 (RX8, 127, "CorkForest$Tree", "marked", "Z") (by decide)) rfl (v := .int (I (w_tr n.toNatClampNeg) 5)) rfl dX8_look_86 ?_
      refine lv_if_eq (tgt := 96) hx hb dX8_look_89 (by decide) (fun c_89 => ?_) (fun c_89 => ?_)
      · refine lv_iconst (v := 0) hx hb dX8_look_96 (by decide) ?_
        have hp_97 : po_c_X8_look 0 (G, I, J) := by
            rw [epo]
            have ef : f_X8_look I n wh = (0, 0, I) := by unfold f_X8_look; rw [if_pos q_2, if_neg s_7_0, if_neg s_7_1, if_neg s_7_2, if_neg s_7_3, if_neg s_7_4, if_pos s_7_5, if_pos c_89]
            exact ⟨⟨by rw [ef], by rw [ef], by rw [ef]⟩, rfl, rfl⟩
        exact vx_ret (w_iret X hr hlk hw hp_97 (Nat.le_of_ble_eq_true rfl) (Nat.le_of_ble_eq_true rfl) dX8_look_97)
      · refine lv_iconst (v := 1) hx hb dX8_look_92 (by decide) ?_
        refine lv_goto (tgt := 97) hx hb dX8_look_93 (by decide) ?_
        have hp_97 : po_c_X8_look 1 (G, I, J) := by
            rw [epo]
            have ef : f_X8_look I n wh = (0, 1, I) := by unfold f_X8_look; rw [if_pos q_2, if_neg s_7_0, if_neg s_7_1, if_neg s_7_2, if_neg s_7_3, if_neg s_7_4, if_pos s_7_5, if_neg c_89]
            exact ⟨⟨by rw [ef], by rw [ef], by rw [ef]⟩, rfl, rfl⟩
        exact vx_ret (w_iret X hr hlk hw hp_97 (Nat.le_of_ble_eq_true rfl) (Nat.le_of_ble_eq_true rfl) dX8_look_97)
    by_cases s_7_6 : wh = 6
    · refine lv_tableIn (tgt := 98) hx hb dX8_look_7 (by rw [s_7_6]; decide) (by rw [s_7_6]; decide) (by rw [s_7_6]; rfl) (by decide) ?_
      refine lv_aload_n hx hb dX8_look_98 rfl (lv_at hl 0 rfl) ?_
      refine w_getN X hw 8 6 he_2.1 (w_kd_tr _) (by decide) k_X7 in_X8_look_X7 (by decide) (hst.1 (RX8, 164, "CorkForest$Tree", "grown", "I") (by decide)) rfl (v := .int (I (w_tr n.toNatClampNeg) 6)) rfl dX8_look_99 ?_
      have hp_102 : po_c_X8_look (I (w_tr n.toNatClampNeg) 6) (G, I, J) := by
          rw [epo]
          have ef : f_X8_look I n wh = (0, I (w_tr n.toNatClampNeg) 6, I) := by unfold f_X8_look; rw [if_pos q_2, if_neg s_7_0, if_neg s_7_1, if_neg s_7_2, if_neg s_7_3, if_neg s_7_4, if_neg s_7_5, if_pos s_7_6]
          exact ⟨⟨by rw [ef], by rw [ef], by rw [ef]⟩, rfl, rfl⟩
      exact vx_ret (w_iret X hr hlk hw hp_102 (Nat.le_of_ble_eq_true rfl) (Nat.le_of_ble_eq_true rfl) dX8_look_102)
    by_cases s_7_7 : wh = 7
    · refine lv_tableIn (tgt := 103) hx hb dX8_look_7 (by rw [s_7_7]; decide) (by rw [s_7_7]; decide) (by rw [s_7_7]; rfl) (by decide) ?_
      refine lv_aload_n hx hb dX8_look_103 rfl (lv_at hl 0 rfl) ?_
      refine w_getN X hw 8 7 he_2.1 (w_kd_tr _) (by decide) k_X7 in_X8_look_X7 (by decide) (hst.1 (RX8, 167, "CorkForest$Tree", "inPlanks", "I") (by decide)) rfl (v := .int (I (w_tr n.toNatClampNeg) 7)) rfl dX8_look_104 ?_
      have hp_107 : po_c_X8_look (I (w_tr n.toNatClampNeg) 7) (G, I, J) := by
          rw [epo]
          have ef : f_X8_look I n wh = (0, I (w_tr n.toNatClampNeg) 7, I) := by unfold f_X8_look; rw [if_pos q_2, if_neg s_7_0, if_neg s_7_1, if_neg s_7_2, if_neg s_7_3, if_neg s_7_4, if_neg s_7_5, if_neg s_7_6, if_pos s_7_7]
          exact ⟨⟨by rw [ef], by rw [ef], by rw [ef]⟩, rfl, rfl⟩
      exact vx_ret (w_iret X hr hlk hw hp_107 (Nat.le_of_ble_eq_true rfl) (Nat.le_of_ble_eq_true rfl) dX8_look_107)
    by_cases s_7_8 : wh = 8
    · refine lv_tableIn (tgt := 108) hx hb dX8_look_7 (by rw [s_7_8]; decide) (by rw [s_7_8]; decide) (by rw [s_7_8]; rfl) (by decide) ?_
      refine lv_aload_n hx hb dX8_look_108 rfl (lv_at hl 0 rfl) ?_
      refine w_getN X hw 8 8 he_2.1 (w_kd_tr _) (by decide) k_X7 in_X8_look_X7 (by decide) (hst.1 (RX8, 170, "CorkForest$Tree", "burnt", "I") (by decide)) rfl (v := .int (I (w_tr n.toNatClampNeg) 8)) rfl dX8_look_109 ?_
      have hp_112 : po_c_X8_look (I (w_tr n.toNatClampNeg) 8) (G, I, J) := by
          rw [epo]
          have ef : f_X8_look I n wh = (0, I (w_tr n.toNatClampNeg) 8, I) := by unfold f_X8_look; rw [if_pos q_2, if_neg s_7_0, if_neg s_7_1, if_neg s_7_2, if_neg s_7_3, if_neg s_7_4, if_neg s_7_5, if_neg s_7_6, if_neg s_7_7, if_pos s_7_8]
          exact ⟨⟨by rw [ef], by rw [ef], by rw [ef]⟩, rfl, rfl⟩
      exact vx_ret (w_iret X hr hlk hw hp_112 (Nat.le_of_ble_eq_true rfl) (Nat.le_of_ble_eq_true rfl) dX8_look_112)
    by_cases s_7_9 : wh = 9
    · refine lv_tableIn (tgt := 113) hx hb dX8_look_7 (by rw [s_7_9]; decide) (by rw [s_7_9]; decide) (by rw [s_7_9]; rfl) (by decide) ?_
      refine lv_aload_n hx hb dX8_look_113 rfl (lv_at hl 0 rfl) ?_
      refine w_getN X hw 8 9 he_2.1 (w_kd_tr _) (by decide) k_X7 in_X8_look_X7 (by decide) (hst.1 (RX8, 173, "CorkForest$Tree", "shed", "I") (by decide)) rfl (v := .int (I (w_tr n.toNatClampNeg) 9)) rfl dX8_look_114 ?_
      have hp_117 : po_c_X8_look (I (w_tr n.toNatClampNeg) 9) (G, I, J) := by
          rw [epo]
          have ef : f_X8_look I n wh = (0, I (w_tr n.toNatClampNeg) 9, I) := by unfold f_X8_look; rw [if_pos q_2, if_neg s_7_0, if_neg s_7_1, if_neg s_7_2, if_neg s_7_3, if_neg s_7_4, if_neg s_7_5, if_neg s_7_6, if_neg s_7_7, if_neg s_7_8, if_pos s_7_9]
          exact ⟨⟨by rw [ef], by rw [ef], by rw [ef]⟩, rfl, rfl⟩
      exact vx_ret (w_iret X hr hlk hw hp_117 (Nat.le_of_ble_eq_true rfl) (Nat.le_of_ble_eq_true rfl) dX8_look_117)
    refine lv_tableOut (tgt := 118) hx hb dX8_look_7 (sw_out wh 0 9 (fun j h1 h2 => by
      rcases (show j = 0 ∨ j = 1 ∨ j = 2 ∨ j = 3 ∨ j = 4 ∨ j = 5 ∨ j = 6 ∨ j = 7 ∨ j = 8 ∨ j = 9 by omega) with rfl | rfl | rfl | rfl | rfl | rfl | rfl | rfl | rfl | rfl
      · exact lv_neT s_7_0 (by decide)
      · exact lv_neT s_7_1 (by decide)
      · exact lv_neT s_7_2 (by decide)
      · exact lv_neT s_7_3 (by decide)
      · exact lv_neT s_7_4 (by decide)
      · exact lv_neT s_7_5 (by decide)
      · exact lv_neT s_7_6 (by decide)
      · exact lv_neT s_7_7 (by decide)
      · exact lv_neT s_7_8 (by decide)
      · exact lv_neT s_7_9 (by decide))) (by decide) ?_
    have hp_118 : px_c_X8_look ("java/util/NoSuchElementException", G, I, J) := by
        rw [epx]
        have ef : f_X8_look I n wh = (4, 0, I) := by unfold f_X8_look; rw [if_pos q_2, if_neg s_7_0, if_neg s_7_1, if_neg s_7_2, if_neg s_7_3, if_neg s_7_4, if_neg s_7_5, if_neg s_7_6, if_neg s_7_7, if_neg s_7_8, if_neg s_7_9]
        exact ⟨⟨by rw [ef]; exact (by decide : ¬ (4 : Int32) = 0), by rw [ef]; exact xn_4.symm, by rw [ef]⟩, rfl, rfl⟩
    exact w_throwS (text := "a tree has no such thing") X hw hst hls hout hlk hl (by decide +kernel) (by decide +kernel) (by decide +kernel) (by decide) inx_X8_look_NSE xg_NSE2 (by decide) xg_NSE3 dX8_look_118 dX8_look_121 dX8_look_122 dX8_look_124 dX8_look_127 (Nat.le_of_ble_eq_true rfl) (Nat.le_of_ble_eq_true rfl) (Nat.le_of_ble_eq_true rfl) (Nat.le_of_ble_eq_true rfl) hp_118 (Nat.le_of_ble_eq_true rfl) (Nat.le_of_ble_eq_true rfl)
def f_X8_plank (I : wI) (n : Int32) (wh : Int32) : Int32 × Int32 × wI := (if ¬ n < 0 ∧ n < I 8 2 then (if wh = 0 then (0, I (w_pk n.toNatClampNeg) 0, I) else (if wh = 1 then (0, I (w_pk n.toNatClampNeg) 1, I) else (if wh = 2 then (0, I (w_pk n.toNatClampNeg) 2, I) else (if wh = 3 then (0, I (w_pk n.toNatClampNeg) 3, I) else (if wh = 4 then (0, I (w_pk n.toNatClampNeg) 4, I) else (if wh = 5 then (0, I (w_pk n.toNatClampNeg) 5, I) else (4, 0, I))))))) else (3, 0, I))
set_option maxRecDepth 20000 in
theorem in_X8_plank_X4 : ∀ w ∈ u_ws RX4 TX4 6, w ∈ wsX8_plank := fun _ h => List.mem_cons_of_mem _ (List.mem_append_left _ (List.mem_append_left _ (List.mem_append_left _ (List.mem_append_left _ (List.mem_append_right _ h)))))
set_option maxRecDepth 20000 in
theorem inx_X8_plank_NSE : ∀ w ∈ (vx_atS RX8 118 "java/util/NoSuchElementException" w_ns).filter goodWord, w ∈ wsX8_plank := fun _ h => List.mem_cons_of_mem _ (List.mem_append_left _ (List.mem_append_right _ h))
set_option maxHeartbeats 4000000 in
set_option maxRecDepth 100000 in
theorem c_X8_plank (l : Launch) (D : va_G) (y : Nat → ClassId) (b : Nat) (z : Nat → Nat) (G : wG) (I : wI) (J : wJ) (hL : w_full G) (hls : l.stackTraces = false) (n : Int32) (wh : Int32) (hP : 0 ≤ (I 8 2).toInt ∧ (I 8 2).toInt ≤ 200) (hPl : wLT G 8 w_pk (I 8 2).toInt) : xI l yX8_plank wsX8_plank { frames := 7, cells := 2, slots := 12, locals := 103 } D y b z G I J [.ref (G.1 0), .int n, .int wh] (fun r u => ((f_X8_plank I n wh).1 = 0 ∧ r = (f_X8_plank I n wh).2.1 ∧ u.2.1 = (f_X8_plank I n wh).2.2) ∧ u.1 = G ∧ u.2.2 = J) (fun u => (¬ (f_X8_plank I n wh).1 = 0 ∧ u.1 = w_xn (f_X8_plank I n wh).1 ∧ u.2.2.1 = (f_X8_plank I n wh).2.2) ∧ u.2.1 = G ∧ u.2.2.2 = J) 2 12 := by
  refine w_xenter (by decide) rfl (Nat.le_of_ble_eq_true rfl) rfl ?_
  intro p e s m below meth c ls X hr hlk hnm hw hst hout hl
  have hx := X.1.1
  have hb := X.1.2.1
  obtain ⟨px_c_X8_plank, epx⟩ : ∃ qpx9 : wX → Prop, qpx9 = (fun u => (¬ (f_X8_plank I n wh).1 = 0 ∧ u.1 = w_xn (f_X8_plank I n wh).1 ∧ u.2.2.1 = (f_X8_plank I n wh).2.2) ∧ u.2.1 = G ∧ u.2.2.2 = J) := ⟨_, rfl⟩
  rw [← epx]
  obtain ⟨po_c_X8_plank, epo⟩ : ∃ qpo9 : Int32 → wS → Prop, qpo9 = (fun r u => ((f_X8_plank I n wh).1 = 0 ∧ r = (f_X8_plank I n wh).2.1 ∧ u.2.1 = (f_X8_plank I n wh).2.2) ∧ u.1 = G ∧ u.2.2 = J) := ⟨_, rfl⟩
  rw [← epo]
  refine lv_aload_n hx hb dX8_plank_0 rfl (lv_at hl 0 rfl) ?_
  refine lv_iload_n hx hb dX8_plank_1 rfl (lv_at hl 1 rfl) ?_
  refine w_xcallVr (As := [.int n]) (rest := []) X hw hst hl (c_X8_plankAt l D y b z G I J hL hls n hP hPl) (cwV 1 X.1.2.2.2.2 gX8_plank_X8_plankAt rfl rfl rfl (by decide +kernel) ⟨Nat.le_of_ble_eq_true rfl, Nat.le_of_ble_eq_true rfl⟩) (w_recv X hw (hL 0 (by decide)) rfl (by decide) k_X8) rfl rfl (Nat.le_of_ble_eq_true rfl) dX8_plank_2 ⟨Nat.le_of_ble_eq_true rfl, Nat.le_of_ble_eq_true rfl⟩ hout hlk (Nat.le_of_ble_eq_true rfl) (Nat.le_of_ble_eq_true rfl) (fun u hu => ?_) (fun u H locs hp_2 hw => ?_)
  · obtain ⟨uE, uS⟩ := u
    obtain ⟨⟨hE, q_2⟩, hS⟩ := hu
    dsimp only at hE hS
    subst hE hS
    exact (by
        rw [epx]
        have ef : f_X8_plank I n wh = (3, 0, I) := by unfold f_X8_plank; rw [if_neg q_2]
        exact ⟨⟨by rw [ef]; exact (by decide : ¬ (3 : Int32) = 0), by rw [ef]; exact xn_3.symm, by rw [ef]⟩, rfl, rfl⟩)
  · obtain ⟨ra_2, u⟩ := u
    obtain ⟨⟨hp_2, q_2⟩, rfl⟩ := hp_2
    dsimp only at hw hp_2
    subst hp_2
    have he_2 := hPl _ (la_lt q_2.1 q_2.2)
    refine lv_astore_n (lv' := [(3, .ref (G.1 (w_pk n.toNatClampNeg))), (0, .ref (G.1 0)), (1, .int n), (2, .int wh)]) hx hb dX8_plank_5 rfl hl (by decide) rfl (fun ls hl => ?_)
    refine lv_iload_n hx hb dX8_plank_6 rfl (lv_at hl 3 rfl) ?_
    by_cases s_7_0 : wh = 0
    · refine lv_tableIn (tgt := 44) hx hb dX8_plank_7 (by rw [s_7_0]; decide) (by rw [s_7_0]; decide) (by rw [s_7_0]; rfl) (by decide) ?_
      refine lv_aload_n hx hb dX8_plank_44 rfl (lv_at hl 0 rfl) ?_
      refine w_getN X hw 5 0 he_2.1 (w_kd_pk _) (by decide) k_X4 in_X8_plank_X4 (by decide) (hst.1 (RX8, 182, "CorkForest$Plank", "tree", "I") (by decide)) rfl (v := .int (I (w_pk n.toNatClampNeg) 0)) rfl dX8_plank_45 ?_
      have hp_48 : po_c_X8_plank (I (w_pk n.toNatClampNeg) 0) (G, I, J) := by
          rw [epo]
          have ef : f_X8_plank I n wh = (0, I (w_pk n.toNatClampNeg) 0, I) := by unfold f_X8_plank; rw [if_pos q_2, if_pos s_7_0]
          exact ⟨⟨by rw [ef], by rw [ef], by rw [ef]⟩, rfl, rfl⟩
      exact vx_ret (w_iret X hr hlk hw hp_48 (Nat.le_of_ble_eq_true rfl) (Nat.le_of_ble_eq_true rfl) dX8_plank_48)
    by_cases s_7_1 : wh = 1
    · refine lv_tableIn (tgt := 49) hx hb dX8_plank_7 (by rw [s_7_1]; decide) (by rw [s_7_1]; decide) (by rw [s_7_1]; rfl) (by decide) ?_
      refine lv_aload_n hx hb dX8_plank_49 rfl (lv_at hl 0 rfl) ?_
      refine w_getN X hw 5 1 he_2.1 (w_kd_pk _) (by decide) k_X4 in_X8_plank_X4 (by decide) (hst.1 (RX8, 185, "CorkForest$Plank", "year", "I") (by decide)) rfl (v := .int (I (w_pk n.toNatClampNeg) 1)) rfl dX8_plank_50 ?_
      have hp_53 : po_c_X8_plank (I (w_pk n.toNatClampNeg) 1) (G, I, J) := by
          rw [epo]
          have ef : f_X8_plank I n wh = (0, I (w_pk n.toNatClampNeg) 1, I) := by unfold f_X8_plank; rw [if_pos q_2, if_neg s_7_0, if_pos s_7_1]
          exact ⟨⟨by rw [ef], by rw [ef], by rw [ef]⟩, rfl, rfl⟩
      exact vx_ret (w_iret X hr hlk hw hp_53 (Nat.le_of_ble_eq_true rfl) (Nat.le_of_ble_eq_true rfl) dX8_plank_53)
    by_cases s_7_2 : wh = 2
    · refine lv_tableIn (tgt := 54) hx hb dX8_plank_7 (by rw [s_7_2]; decide) (by rw [s_7_2]; decide) (by rw [s_7_2]; rfl) (by decide) ?_
      refine lv_aload_n hx hb dX8_plank_54 rfl (lv_at hl 0 rfl) ?_
      refine w_getN X hw 5 2 he_2.1 (w_kd_pk _) (by decide) k_X4 in_X8_plank_X4 (by decide) (hst.1 (RX8, 186, "CorkForest$Plank", "high", "I") (by decide)) rfl (v := .int (I (w_pk n.toNatClampNeg) 2)) rfl dX8_plank_55 ?_
      have hp_58 : po_c_X8_plank (I (w_pk n.toNatClampNeg) 2) (G, I, J) := by
          rw [epo]
          have ef : f_X8_plank I n wh = (0, I (w_pk n.toNatClampNeg) 2, I) := by unfold f_X8_plank; rw [if_pos q_2, if_neg s_7_0, if_neg s_7_1, if_pos s_7_2]
          exact ⟨⟨by rw [ef], by rw [ef], by rw [ef]⟩, rfl, rfl⟩
      exact vx_ret (w_iret X hr hlk hw hp_58 (Nat.le_of_ble_eq_true rfl) (Nat.le_of_ble_eq_true rfl) dX8_plank_58)
    by_cases s_7_3 : wh = 3
    · refine lv_tableIn (tgt := 59) hx hb dX8_plank_7 (by rw [s_7_3]; decide) (by rw [s_7_3]; decide) (by rw [s_7_3]; rfl) (by decide) ?_
      refine lv_aload_n hx hb dX8_plank_59 rfl (lv_at hl 0 rfl) ?_
      refine w_getN X hw 5 3 he_2.1 (w_kd_pk _) (by decide) k_X4 in_X8_plank_X4 (by decide) (hst.1 (RX8, 187, "CorkForest$Plank", "wide", "I") (by decide)) rfl (v := .int (I (w_pk n.toNatClampNeg) 3)) rfl dX8_plank_60 ?_
      have hp_63 : po_c_X8_plank (I (w_pk n.toNatClampNeg) 3) (G, I, J) := by
          rw [epo]
          have ef : f_X8_plank I n wh = (0, I (w_pk n.toNatClampNeg) 3, I) := by unfold f_X8_plank; rw [if_pos q_2, if_neg s_7_0, if_neg s_7_1, if_neg s_7_2, if_pos s_7_3]
          exact ⟨⟨by rw [ef], by rw [ef], by rw [ef]⟩, rfl, rfl⟩
      exact vx_ret (w_iret X hr hlk hw hp_63 (Nat.le_of_ble_eq_true rfl) (Nat.le_of_ble_eq_true rfl) dX8_plank_63)
    by_cases s_7_4 : wh = 4
    · refine lv_tableIn (tgt := 64) hx hb dX8_plank_7 (by rw [s_7_4]; decide) (by rw [s_7_4]; decide) (by rw [s_7_4]; rfl) (by decide) ?_
      refine lv_aload_n hx hb dX8_plank_64 rfl (lv_at hl 0 rfl) ?_
      refine w_getN X hw 5 4 he_2.1 (w_kd_pk _) (by decide) k_X4 in_X8_plank_X4 (by decide) (hst.1 (RX8, 190, "CorkForest$Plank", "thick", "I") (by decide)) rfl (v := .int (I (w_pk n.toNatClampNeg) 4)) rfl dX8_plank_65 ?_
      have hp_68 : po_c_X8_plank (I (w_pk n.toNatClampNeg) 4) (G, I, J) := by
          rw [epo]
          have ef : f_X8_plank I n wh = (0, I (w_pk n.toNatClampNeg) 4, I) := by unfold f_X8_plank; rw [if_pos q_2, if_neg s_7_0, if_neg s_7_1, if_neg s_7_2, if_neg s_7_3, if_pos s_7_4]
          exact ⟨⟨by rw [ef], by rw [ef], by rw [ef]⟩, rfl, rfl⟩
      exact vx_ret (w_iret X hr hlk hw hp_68 (Nat.le_of_ble_eq_true rfl) (Nat.le_of_ble_eq_true rfl) dX8_plank_68)
    by_cases s_7_5 : wh = 5
    · refine lv_tableIn (tgt := 69) hx hb dX8_plank_7 (by rw [s_7_5]; decide) (by rw [s_7_5]; decide) (by rw [s_7_5]; rfl) (by decide) ?_
      refine lv_aload_n hx hb dX8_plank_69 rfl (lv_at hl 0 rfl) ?_
      refine w_getN X hw 5 5 he_2.1 (w_kd_pk _) (by decide) k_X4 in_X8_plank_X4 (by decide) (hst.1 (RX8, 193, "CorkForest$Plank", "lot", "I") (by decide)) rfl (v := .int (I (w_pk n.toNatClampNeg) 5)) rfl dX8_plank_70 ?_
      have hp_73 : po_c_X8_plank (I (w_pk n.toNatClampNeg) 5) (G, I, J) := by
          rw [epo]
          have ef : f_X8_plank I n wh = (0, I (w_pk n.toNatClampNeg) 5, I) := by unfold f_X8_plank; rw [if_pos q_2, if_neg s_7_0, if_neg s_7_1, if_neg s_7_2, if_neg s_7_3, if_neg s_7_4, if_pos s_7_5]
          exact ⟨⟨by rw [ef], by rw [ef], by rw [ef]⟩, rfl, rfl⟩
      exact vx_ret (w_iret X hr hlk hw hp_73 (Nat.le_of_ble_eq_true rfl) (Nat.le_of_ble_eq_true rfl) dX8_plank_73)
    refine lv_tableOut (tgt := 74) hx hb dX8_plank_7 (sw_out wh 0 5 (fun j h1 h2 => by
      rcases (show j = 0 ∨ j = 1 ∨ j = 2 ∨ j = 3 ∨ j = 4 ∨ j = 5 by omega) with rfl | rfl | rfl | rfl | rfl | rfl
      · exact lv_neT s_7_0 (by decide)
      · exact lv_neT s_7_1 (by decide)
      · exact lv_neT s_7_2 (by decide)
      · exact lv_neT s_7_3 (by decide)
      · exact lv_neT s_7_4 (by decide)
      · exact lv_neT s_7_5 (by decide))) (by decide) ?_
    have hp_74 : px_c_X8_plank ("java/util/NoSuchElementException", G, I, J) := by
        rw [epx]
        have ef : f_X8_plank I n wh = (4, 0, I) := by unfold f_X8_plank; rw [if_pos q_2, if_neg s_7_0, if_neg s_7_1, if_neg s_7_2, if_neg s_7_3, if_neg s_7_4, if_neg s_7_5]
        exact ⟨⟨by rw [ef]; exact (by decide : ¬ (4 : Int32) = 0), by rw [ef]; exact xn_4.symm, by rw [ef]⟩, rfl, rfl⟩
    exact w_throwS (text := "a plank has no such thing") X hw hst hls hout hlk hl (by decide +kernel) (by decide +kernel) (by decide +kernel) (by decide) inx_X8_plank_NSE xg_NSE2 (by decide) xg_NSE3 dX8_plank_74 dX8_plank_77 dX8_plank_78 dX8_plank_80 dX8_plank_83 (Nat.le_of_ble_eq_true rfl) (Nat.le_of_ble_eq_true rfl) (Nat.le_of_ble_eq_true rfl) (Nat.le_of_ble_eq_true rfl) hp_74 (Nat.le_of_ble_eq_true rfl) (Nat.le_of_ble_eq_true rfl)
def f_X8_offer (I : wI) (n : Int32) (wh : Int32) : Int32 × Int32 × wI := (if ¬ n < 0 ∧ n < I 9 2 then (if wh = 0 then (0, I (w_lt n.toNatClampNeg) 0, I) else (if wh = 1 then (0, I (w_lt n.toNatClampNeg) 2, I) else (if wh = 2 then (0, I (w_lt n.toNatClampNeg) 3, I) else (if wh = 3 then (0, I (w_lt n.toNatClampNeg) 4, I) else (if wh = 4 then (0, I (w_lt n.toNatClampNeg) 5, I) else (4, 0, I)))))) else (3, 0, I))
set_option maxRecDepth 20000 in
theorem in_X8_offer_X3 : ∀ w ∈ u_ws RX3 TX3 6, w ∈ wsX8_offer := fun _ h => List.mem_cons_of_mem _ (List.mem_append_left _ (List.mem_append_left _ (List.mem_append_left _ (List.mem_append_left _ (List.mem_append_right _ h)))))
set_option maxRecDepth 20000 in
theorem inx_X8_offer_NSE : ∀ w ∈ (vx_atS RX8 118 "java/util/NoSuchElementException" w_ns).filter goodWord, w ∈ wsX8_offer := fun _ h => List.mem_cons_of_mem _ (List.mem_append_left _ (List.mem_append_right _ h))
set_option maxHeartbeats 4000000 in
set_option maxRecDepth 100000 in
theorem c_X8_offer (l : Launch) (D : va_G) (y : Nat → ClassId) (b : Nat) (z : Nat → Nat) (G : wG) (I : wI) (J : wJ) (hL : w_full G) (hls : l.stackTraces = false) (n : Int32) (wh : Int32) (hN : 0 ≤ (I 9 2).toInt ∧ (I 9 2).toInt ≤ 40) (hNl : wLT G 9 w_lt (I 9 2).toInt) : xI l yX8_offer wsX8_offer { frames := 7, cells := 2, slots := 12, locals := 103 } D y b z G I J [.ref (G.1 0), .int n, .int wh] (fun r u => ((f_X8_offer I n wh).1 = 0 ∧ r = (f_X8_offer I n wh).2.1 ∧ u.2.1 = (f_X8_offer I n wh).2.2) ∧ u.1 = G ∧ u.2.2 = J) (fun u => (¬ (f_X8_offer I n wh).1 = 0 ∧ u.1 = w_xn (f_X8_offer I n wh).1 ∧ u.2.2.1 = (f_X8_offer I n wh).2.2) ∧ u.2.1 = G ∧ u.2.2.2 = J) 2 12 := by
  refine w_xenter (by decide) rfl (Nat.le_of_ble_eq_true rfl) rfl ?_
  intro p e s m below meth c ls X hr hlk hnm hw hst hout hl
  have hx := X.1.1
  have hb := X.1.2.1
  obtain ⟨px_c_X8_offer, epx⟩ : ∃ qpx9 : wX → Prop, qpx9 = (fun u => (¬ (f_X8_offer I n wh).1 = 0 ∧ u.1 = w_xn (f_X8_offer I n wh).1 ∧ u.2.2.1 = (f_X8_offer I n wh).2.2) ∧ u.2.1 = G ∧ u.2.2.2 = J) := ⟨_, rfl⟩
  rw [← epx]
  obtain ⟨po_c_X8_offer, epo⟩ : ∃ qpo9 : Int32 → wS → Prop, qpo9 = (fun r u => ((f_X8_offer I n wh).1 = 0 ∧ r = (f_X8_offer I n wh).2.1 ∧ u.2.1 = (f_X8_offer I n wh).2.2) ∧ u.1 = G ∧ u.2.2 = J) := ⟨_, rfl⟩
  rw [← epo]
  refine lv_aload_n hx hb dX8_offer_0 rfl (lv_at hl 0 rfl) ?_
  refine lv_iload_n hx hb dX8_offer_1 rfl (lv_at hl 1 rfl) ?_
  refine w_xcallVr (As := [.int n]) (rest := []) X hw hst hl (c_X8_lotAt l D y b z G I J hL hls n hN hNl) (cwV 1 X.1.2.2.2.2 gX8_offer_X8_lotAt rfl rfl rfl (by decide +kernel) ⟨Nat.le_of_ble_eq_true rfl, Nat.le_of_ble_eq_true rfl⟩) (w_recv X hw (hL 0 (by decide)) rfl (by decide) k_X8) rfl rfl (Nat.le_of_ble_eq_true rfl) dX8_offer_2 ⟨Nat.le_of_ble_eq_true rfl, Nat.le_of_ble_eq_true rfl⟩ hout hlk (Nat.le_of_ble_eq_true rfl) (Nat.le_of_ble_eq_true rfl) (fun u hu => ?_) (fun u H locs hp_2 hw => ?_)
  · obtain ⟨uE, uS⟩ := u
    obtain ⟨⟨hE, q_2⟩, hS⟩ := hu
    dsimp only at hE hS
    subst hE hS
    exact (by
        rw [epx]
        have ef : f_X8_offer I n wh = (3, 0, I) := by unfold f_X8_offer; rw [if_neg q_2]
        exact ⟨⟨by rw [ef]; exact (by decide : ¬ (3 : Int32) = 0), by rw [ef]; exact xn_3.symm, by rw [ef]⟩, rfl, rfl⟩)
  · obtain ⟨ra_2, u⟩ := u
    obtain ⟨⟨hp_2, q_2⟩, rfl⟩ := hp_2
    dsimp only at hw hp_2
    subst hp_2
    have he_2 := hNl _ (la_lt q_2.1 q_2.2)
    refine lv_astore_n (lv' := [(3, .ref (G.1 (w_lt n.toNatClampNeg))), (0, .ref (G.1 0)), (1, .int n), (2, .int wh)]) hx hb dX8_offer_5 rfl hl (by decide) rfl (fun ls hl => ?_)
    refine lv_iload_n hx hb dX8_offer_6 rfl (lv_at hl 3 rfl) ?_
    by_cases s_7_0 : wh = 0
    · refine lv_tableIn (tgt := 40) hx hb dX8_offer_7 (by rw [s_7_0]; decide) (by rw [s_7_0]; decide) (by rw [s_7_0]; rfl) (by decide) ?_
      refine lv_aload_n hx hb dX8_offer_40 rfl (lv_at hl 0 rfl) ?_
      refine w_getN X hw 4 0 he_2.1 (w_kd_lt _) (by decide) k_X3 in_X8_offer_X3 (by decide) (hst.1 (RX8, 222, "CorkForest$Lot", "floor", "I") (by decide)) rfl (v := .int (I (w_lt n.toNatClampNeg) 0)) rfl dX8_offer_41 ?_
      have hp_44 : po_c_X8_offer (I (w_lt n.toNatClampNeg) 0) (G, I, J) := by
          rw [epo]
          have ef : f_X8_offer I n wh = (0, I (w_lt n.toNatClampNeg) 0, I) := by unfold f_X8_offer; rw [if_pos q_2, if_pos s_7_0]
          exact ⟨⟨by rw [ef], by rw [ef], by rw [ef]⟩, rfl, rfl⟩
      exact vx_ret (w_iret X hr hlk hw hp_44 (Nat.le_of_ble_eq_true rfl) (Nat.le_of_ble_eq_true rfl) dX8_offer_44)
    by_cases s_7_1 : wh = 1
    · refine lv_tableIn (tgt := 45) hx hb dX8_offer_7 (by rw [s_7_1]; decide) (by rw [s_7_1]; decide) (by rw [s_7_1]; rfl) (by decide) ?_
      refine lv_aload_n hx hb dX8_offer_45 rfl (lv_at hl 0 rfl) ?_
      refine w_getN X hw 4 2 he_2.1 (w_kd_lt _) (by decide) k_X3 in_X8_offer_X3 (by decide) (hst.1 (RX8, 235, "CorkForest$Lot", "boards", "I") (by decide)) rfl (v := .int (I (w_lt n.toNatClampNeg) 2)) rfl dX8_offer_46 ?_
      have hp_49 : po_c_X8_offer (I (w_lt n.toNatClampNeg) 2) (G, I, J) := by
          rw [epo]
          have ef : f_X8_offer I n wh = (0, I (w_lt n.toNatClampNeg) 2, I) := by unfold f_X8_offer; rw [if_pos q_2, if_neg s_7_0, if_pos s_7_1]
          exact ⟨⟨by rw [ef], by rw [ef], by rw [ef]⟩, rfl, rfl⟩
      exact vx_ret (w_iret X hr hlk hw hp_49 (Nat.le_of_ble_eq_true rfl) (Nat.le_of_ble_eq_true rfl) dX8_offer_49)
    by_cases s_7_2 : wh = 2
    · refine lv_tableIn (tgt := 50) hx hb dX8_offer_7 (by rw [s_7_2]; decide) (by rw [s_7_2]; decide) (by rw [s_7_2]; rfl) (by decide) ?_
      refine lv_aload_n hx hb dX8_offer_50 rfl (lv_at hl 0 rfl) ?_
      refine w_getN X hw 4 3 he_2.1 (w_kd_lt _) (by decide) k_X3 in_X8_offer_X3 (by decide) (hst.1 (RX8, 238, "CorkForest$Lot", "weight", "I") (by decide)) rfl (v := .int (I (w_lt n.toNatClampNeg) 3)) rfl dX8_offer_51 ?_
      have hp_54 : po_c_X8_offer (I (w_lt n.toNatClampNeg) 3) (G, I, J) := by
          rw [epo]
          have ef : f_X8_offer I n wh = (0, I (w_lt n.toNatClampNeg) 3, I) := by unfold f_X8_offer; rw [if_pos q_2, if_neg s_7_0, if_neg s_7_1, if_pos s_7_2]
          exact ⟨⟨by rw [ef], by rw [ef], by rw [ef]⟩, rfl, rfl⟩
      exact vx_ret (w_iret X hr hlk hw hp_54 (Nat.le_of_ble_eq_true rfl) (Nat.le_of_ble_eq_true rfl) dX8_offer_54)
    by_cases s_7_3 : wh = 3
    · refine lv_tableIn (tgt := 55) hx hb dX8_offer_7 (by rw [s_7_3]; decide) (by rw [s_7_3]; decide) (by rw [s_7_3]; rfl) (by decide) ?_
      refine lv_aload_n hx hb dX8_offer_55 rfl (lv_at hl 0 rfl) ?_
      refine w_getN X hw 4 4 he_2.1 (w_kd_lt _) (by decide) k_X3 in_X8_offer_X3 (by decide) (hst.1 (RX8, 232, "CorkForest$Lot", "buyer", "I") (by decide)) rfl (v := .int (I (w_lt n.toNatClampNeg) 4)) rfl dX8_offer_56 ?_
      have hp_59 : po_c_X8_offer (I (w_lt n.toNatClampNeg) 4) (G, I, J) := by
          rw [epo]
          have ef : f_X8_offer I n wh = (0, I (w_lt n.toNatClampNeg) 4, I) := by unfold f_X8_offer; rw [if_pos q_2, if_neg s_7_0, if_neg s_7_1, if_neg s_7_2, if_pos s_7_3]
          exact ⟨⟨by rw [ef], by rw [ef], by rw [ef]⟩, rfl, rfl⟩
      exact vx_ret (w_iret X hr hlk hw hp_59 (Nat.le_of_ble_eq_true rfl) (Nat.le_of_ble_eq_true rfl) dX8_offer_59)
    by_cases s_7_4 : wh = 4
    · refine lv_tableIn (tgt := 60) hx hb dX8_offer_7 (by rw [s_7_4]; decide) (by rw [s_7_4]; decide) (by rw [s_7_4]; rfl) (by decide) ?_
      refine lv_aload_n hx hb dX8_offer_60 rfl (lv_at hl 0 rfl) ?_
      refine w_getN X hw 4 5 he_2.1 (w_kd_lt _) (by decide) k_X3 in_X8_offer_X3 (by decide) (hst.1 (RX8, 241, "CorkForest$Lot", "price", "I") (by decide)) rfl (v := .int (I (w_lt n.toNatClampNeg) 5)) rfl dX8_offer_61 ?_
      have hp_64 : po_c_X8_offer (I (w_lt n.toNatClampNeg) 5) (G, I, J) := by
          rw [epo]
          have ef : f_X8_offer I n wh = (0, I (w_lt n.toNatClampNeg) 5, I) := by unfold f_X8_offer; rw [if_pos q_2, if_neg s_7_0, if_neg s_7_1, if_neg s_7_2, if_neg s_7_3, if_pos s_7_4]
          exact ⟨⟨by rw [ef], by rw [ef], by rw [ef]⟩, rfl, rfl⟩
      exact vx_ret (w_iret X hr hlk hw hp_64 (Nat.le_of_ble_eq_true rfl) (Nat.le_of_ble_eq_true rfl) dX8_offer_64)
    refine lv_tableOut (tgt := 65) hx hb dX8_offer_7 (sw_out wh 0 4 (fun j h1 h2 => by
      rcases (show j = 0 ∨ j = 1 ∨ j = 2 ∨ j = 3 ∨ j = 4 by omega) with rfl | rfl | rfl | rfl | rfl
      · exact lv_neT s_7_0 (by decide)
      · exact lv_neT s_7_1 (by decide)
      · exact lv_neT s_7_2 (by decide)
      · exact lv_neT s_7_3 (by decide)
      · exact lv_neT s_7_4 (by decide))) (by decide) ?_
    have hp_65 : px_c_X8_offer ("java/util/NoSuchElementException", G, I, J) := by
        rw [epx]
        have ef : f_X8_offer I n wh = (4, 0, I) := by unfold f_X8_offer; rw [if_pos q_2, if_neg s_7_0, if_neg s_7_1, if_neg s_7_2, if_neg s_7_3, if_neg s_7_4]
        exact ⟨⟨by rw [ef]; exact (by decide : ¬ (4 : Int32) = 0), by rw [ef]; exact xn_4.symm, by rw [ef]⟩, rfl, rfl⟩
    exact w_throwS (text := "a lot has no such thing") X hw hst hls hout hlk hl (by decide +kernel) (by decide +kernel) (by decide +kernel) (by decide) inx_X8_offer_NSE xg_NSE2 (by decide) xg_NSE3 dX8_offer_65 dX8_offer_68 dX8_offer_69 dX8_offer_71 dX8_offer_74 (Nat.le_of_ble_eq_true rfl) (Nat.le_of_ble_eq_true rfl) (Nat.le_of_ble_eq_true rfl) (Nat.le_of_ble_eq_true rfl) hp_65 (Nat.le_of_ble_eq_true rfl) (Nat.le_of_ble_eq_true rfl)
def f_X8_put (I : wI) (lo : Int32) (q : Int32) : Int32 × Int32 × wI := (if ¬ lo < 0 ∧ lo < I 9 2 then (if ¬ q < 0 ∧ q < I 8 2 then (if (I (w_pk q.toNatClampNeg) 5) = (-1) then (if f_X3_isSold I (w_lt lo.toNatClampNeg) = 1 then (0, 0, I) else (0, 1, (f_X3_take (wU I (w_pk q.toNatClampNeg) 5 lo) (w_lt lo.toNatClampNeg) (w_pk q.toNatClampNeg)))) else (0, 0, I)) else (3, 0, I)) else (3, 0, I))
set_option maxRecDepth 20000 in
theorem in_X8_put_X4 : ∀ w ∈ u_ws RX4 TX4 6, w ∈ wsX8_put := fun _ h => List.mem_cons_of_mem _ (List.mem_append_left _ (List.mem_append_left _ (List.mem_append_left _ (List.mem_append_left _ (List.mem_append_right _ h)))))
set_option maxHeartbeats 4000000 in
set_option maxRecDepth 100000 in
theorem c_X8_put (l : Launch) (D : va_G) (y : Nat → ClassId) (b : Nat) (z : Nat → Nat) (G : wG) (I : wI) (J : wJ) (hL : w_full G) (hls : l.stackTraces = false) (lo : Int32) (q : Int32) (hN : 0 ≤ (I 9 2).toInt ∧ (I 9 2).toInt ≤ 40) (hNl : wLT G 9 w_lt (I 9 2).toInt) (hP : 0 ≤ (I 8 2).toInt ∧ (I 8 2).toInt ≤ 200) (hPl : wLT G 8 w_pk (I 8 2).toInt) : xI l yX8_put wsX8_put { frames := 7, cells := 2, slots := 12, locals := 103 } D y b z G I J [.ref (G.1 0), .int lo, .int q] (fun r u => ((f_X8_put I lo q).1 = 0 ∧ r = (f_X8_put I lo q).2.1 ∧ u.2.1 = (f_X8_put I lo q).2.2) ∧ u.1 = G ∧ u.2.2 = J) (fun u => (¬ (f_X8_put I lo q).1 = 0 ∧ u.1 = w_xn (f_X8_put I lo q).1 ∧ u.2.2.1 = (f_X8_put I lo q).2.2) ∧ u.2.1 = G ∧ u.2.2.2 = J) 2 12 := by
  refine w_xenter (by decide) rfl (Nat.le_of_ble_eq_true rfl) rfl ?_
  intro p e s m below meth c ls X hr hlk hnm hw hst hout hl
  have hx := X.1.1
  have hb := X.1.2.1
  obtain ⟨px_c_X8_put, epx⟩ : ∃ qpx9 : wX → Prop, qpx9 = (fun u => (¬ (f_X8_put I lo q).1 = 0 ∧ u.1 = w_xn (f_X8_put I lo q).1 ∧ u.2.2.1 = (f_X8_put I lo q).2.2) ∧ u.2.1 = G ∧ u.2.2.2 = J) := ⟨_, rfl⟩
  rw [← epx]
  obtain ⟨po_c_X8_put, epo⟩ : ∃ qpo9 : Int32 → wS → Prop, qpo9 = (fun r u => ((f_X8_put I lo q).1 = 0 ∧ r = (f_X8_put I lo q).2.1 ∧ u.2.1 = (f_X8_put I lo q).2.2) ∧ u.1 = G ∧ u.2.2 = J) := ⟨_, rfl⟩
  rw [← epo]
  refine lv_aload_n hx hb dX8_put_0 rfl (lv_at hl 0 rfl) ?_
  refine lv_iload_n hx hb dX8_put_1 rfl (lv_at hl 1 rfl) ?_
  refine w_xcallVr (As := [.int lo]) (rest := []) X hw hst hl (c_X8_lotAt l D y b z G I J hL hls lo hN hNl) (cwV 1 X.1.2.2.2.2 gX8_put_X8_lotAt rfl rfl rfl (by decide +kernel) ⟨Nat.le_of_ble_eq_true rfl, Nat.le_of_ble_eq_true rfl⟩) (w_recv X hw (hL 0 (by decide)) rfl (by decide) k_X8) rfl rfl (Nat.le_of_ble_eq_true rfl) dX8_put_2 ⟨Nat.le_of_ble_eq_true rfl, Nat.le_of_ble_eq_true rfl⟩ hout hlk (Nat.le_of_ble_eq_true rfl) (Nat.le_of_ble_eq_true rfl) (fun u hu => ?_) (fun u H locs hp_2 hw => ?_)
  · obtain ⟨uE, uS⟩ := u
    obtain ⟨⟨hE, q_2⟩, hS⟩ := hu
    dsimp only at hE hS
    subst hE hS
    exact (by
        rw [epx]
        have ef : f_X8_put I lo q = (3, 0, I) := by unfold f_X8_put; rw [if_neg q_2]
        exact ⟨⟨by rw [ef]; exact (by decide : ¬ (3 : Int32) = 0), by rw [ef]; exact xn_3.symm, by rw [ef]⟩, rfl, rfl⟩)
  · obtain ⟨ra_2, u⟩ := u
    obtain ⟨⟨hp_2, q_2⟩, rfl⟩ := hp_2
    dsimp only at hw hp_2
    subst hp_2
    have he_2 := hNl _ (la_lt q_2.1 q_2.2)
    refine lv_astore_n (lv' := [(3, .ref (G.1 (w_lt lo.toNatClampNeg))), (0, .ref (G.1 0)), (1, .int lo), (2, .int q)]) hx hb dX8_put_5 rfl hl (by decide) rfl (fun ls hl => ?_)
    refine lv_aload_n hx hb dX8_put_6 rfl (lv_at hl 1 rfl) ?_
    refine lv_iload_n hx hb dX8_put_7 rfl (lv_at hl 3 rfl) ?_
    refine w_xcallVr (As := [.int q]) (rest := []) X hw hst hl (c_X8_plankAt l D y b z G I J hL hls q hP hPl) (cwV 1 X.1.2.2.2.2 gX8_put_X8_plankAt rfl rfl rfl (by decide +kernel) ⟨Nat.le_of_ble_eq_true rfl, Nat.le_of_ble_eq_true rfl⟩) (w_recv X hw (hL 0 (by decide)) rfl (by decide) k_X8) rfl rfl (Nat.le_of_ble_eq_true rfl) dX8_put_8 ⟨Nat.le_of_ble_eq_true rfl, Nat.le_of_ble_eq_true rfl⟩ hout hlk (Nat.le_of_ble_eq_true rfl) (Nat.le_of_ble_eq_true rfl) (fun u hu => ?_) (fun u H locs hp_8 hw => ?_)
    · obtain ⟨uE, uS⟩ := u
      obtain ⟨⟨hE, q_8⟩, hS⟩ := hu
      dsimp only at hE hS
      subst hE hS
      exact (by
          rw [epx]
          have ef : f_X8_put I lo q = (3, 0, I) := by unfold f_X8_put; rw [if_pos q_2, if_neg q_8]
          exact ⟨⟨by rw [ef]; exact (by decide : ¬ (3 : Int32) = 0), by rw [ef]; exact xn_3.symm, by rw [ef]⟩, rfl, rfl⟩)
    · obtain ⟨ra_8, u⟩ := u
      obtain ⟨⟨hp_8, q_8⟩, rfl⟩ := hp_8
      dsimp only at hw hp_8
      subst hp_8
      have he_8 := hPl _ (la_lt q_8.1 q_8.2)
      refine lv_astore (lv' := [(4, .ref (G.1 (w_pk q.toNatClampNeg))), (3, .ref (G.1 (w_lt lo.toNatClampNeg))), (0, .ref (G.1 0)), (1, .int lo), (2, .int q)]) hx hb dX8_put_11 hl (by decide) rfl (fun ls hl => ?_)
      refine lv_aload hx hb dX8_put_13 (lv_at hl 0 rfl) ?_
      refine w_getN X hw 5 5 he_8.1 (w_kd_pk _) (by decide) k_X4 in_X8_put_X4 (by decide) (hst.1 (RX8, 193, "CorkForest$Plank", "lot", "I") (by decide)) rfl (v := .int (I (w_pk q.toNatClampNeg) 5)) rfl dX8_put_15 ?_
      refine lv_iconst (v := -1) hx hb dX8_put_18 (by decide) ?_
      refine lv_icmp_ne (tgt := 29) hx hb dX8_put_19 (by decide) (fun c_19 => ?_) (fun c_19 => ?_)
      · refine lv_iconst (v := 0) hx hb dX8_put_29 (by decide) ?_
        have hp_30 : po_c_X8_put 0 (G, I, J) := by
            rw [epo]
            have ef : f_X8_put I lo q = (0, 0, I) := by unfold f_X8_put; rw [if_pos q_2, if_pos q_8, if_neg c_19]
            exact ⟨⟨by rw [ef], by rw [ef], by rw [ef]⟩, rfl, rfl⟩
        exact vx_ret (w_zret X hr (by decide) hlk hw hp_30 (Nat.le_of_ble_eq_true rfl) (Nat.le_of_ble_eq_true rfl) dX8_put_30)
      · refine lv_aload_n hx hb dX8_put_22 rfl (lv_at hl 1 rfl) ?_
        refine w_callVi (As := []) (rest := []) X hw hst hl (c_X3_isSold l D y b z G I J hL (w_lt lo.toNatClampNeg)  he_2.1 (w_kd_lt _)) (cwV 0 X.1.2.2.2.2 gX8_put_X3_isSold rfl rfl rfl (by decide +kernel) ⟨Nat.le_of_ble_eq_true rfl, Nat.le_of_ble_eq_true rfl⟩) (w_recv X hw he_2.1 (w_kd_lt _) (by decide) k_X3) rfl rfl (Nat.le_of_ble_eq_true rfl) dX8_put_23 ⟨Nat.le_of_ble_eq_true rfl, Nat.le_of_ble_eq_true rfl⟩ (fun r_23_3 u H locs hp_23 hw => ?_)
        obtain ⟨hp_23, rfl⟩ := hp_23
        dsimp only at hw
        rcases f_X3_isSold_01  I (w_lt lo.toNatClampNeg) with q_23 | ⟨q_23, q0_23⟩
        · rw [q_23] at hp_23
          subst r_23_3
          refine lv_if_eq (tgt := 31) hx hb dX8_put_26 (by decide) (fun c_26 => ?_) (fun c_26 => ?_)
          · exact absurd c_26 (by decide)
          · refine lv_iconst (v := 0) hx hb dX8_put_29 (by decide) ?_
            have hp_30 : po_c_X8_put 0 (G, I, J) := by
                rw [epo]
                have ef : f_X8_put I lo q = (0, 0, I) := by unfold f_X8_put; rw [if_pos q_2, if_pos q_8, if_pos c_19, if_pos q_23]
                exact ⟨⟨by rw [ef], by rw [ef], by rw [ef]⟩, rfl, rfl⟩
            exact vx_ret (w_zret X hr (by decide) hlk hw hp_30 (Nat.le_of_ble_eq_true rfl) (Nat.le_of_ble_eq_true rfl) dX8_put_30)
        · rw [q0_23] at hp_23
          subst r_23_3
          refine lv_if_eq (tgt := 31) hx hb dX8_put_26 (by decide) (fun c_26 => ?_) (fun c_26 => ?_)
          · refine lv_aload hx hb dX8_put_31 (lv_at hl 0 rfl) ?_
            refine lv_iload_n hx hb dX8_put_33 rfl (lv_at hl 3 rfl) ?_
            refine w_putN X hw 5 5 he_8.1 (w_kd_pk _) (by decide) k_X4 in_X8_put_X4 (by decide) (hst.1 (RX8, 193, "CorkForest$Plank", "lot", "I") (by decide)) rfl rfl (t := .int) (by decide +kernel) rfl rfl (fun _ => rfl) (fun _ => Nat.le_of_ble_eq_true rfl) dX8_put_34 (fun H locs hw => ?_)
            refine lv_aload_n hx hb dX8_put_37 rfl (lv_at hl 1 rfl) ?_
            refine lv_aload hx hb dX8_put_38 (lv_at hl 0 rfl) ?_
            refine w_callVv (As := [.ref (G.1 (w_pk q.toNatClampNeg))]) (rest := []) X hw hst hl (c_X3_take l D y b z G (wU I (w_pk q.toNatClampNeg) 5 lo) J hL (w_lt lo.toNatClampNeg) (w_pk q.toNatClampNeg) he_2.1 (w_kd_lt _) he_8.1 (w_kd_pk _)) (cwV 1 X.1.2.2.2.2 gX8_put_X3_take rfl rfl rfl (by decide +kernel) ⟨Nat.le_of_ble_eq_true rfl, Nat.le_of_ble_eq_true rfl⟩) (w_recv X hw he_2.1 (w_kd_lt _) (by decide) k_X3) rfl rfl (Nat.le_of_ble_eq_true rfl) dX8_put_40 ⟨Nat.le_of_ble_eq_true rfl, Nat.le_of_ble_eq_true rfl⟩ (fun u H locs hp_40 hw => ?_)
            obtain ⟨G_40_4, I_40_4, J_40_4⟩ := u
            dsimp only at hw hp_40
            obtain ⟨hI_40_4, eG_40, eJ_40⟩ := hp_40
            subst G_40_4 J_40_4
            refine lv_iconst (v := 1) hx hb dX8_put_43 (by decide) ?_
            have hp_44 : po_c_X8_put 1 (G, I_40_4, J) := by
                obtain rfl := hI_40_4.symm
                rw [epo]
                have ef : f_X8_put I lo q = (0, 1, (f_X3_take (wU I (w_pk q.toNatClampNeg) 5 lo) (w_lt lo.toNatClampNeg) (w_pk q.toNatClampNeg))) := by unfold f_X8_put; rw [if_pos q_2, if_pos q_8, if_pos c_19, if_neg q_23]
                exact ⟨⟨by rw [ef], by rw [ef], by rw [ef]⟩, rfl, rfl⟩
            exact vx_ret (w_zret X hr (by decide) hlk hw hp_44 (Nat.le_of_ble_eq_true rfl) (Nat.le_of_ble_eq_true rfl) dX8_put_44)
          · exact absurd (by decide) c_26
theorem bd_8 {k : Int32} (j : Nat) (h0 : ¬ k < 0) (h1 : k < 8) : vp_in k (w_ln (w_lt j + 1)) := by
  rw [show w_ln (w_lt j + 1) = 8 from w_ln_bd j, vp_in_iff]
  simp only [i_lt, Int32.reduceToInt] at *
  omega
def f_X8_bid (I : wI) (lo : Int32) (bd : Int32) (mo : Int32) : Int32 × Int32 × wI := (if ¬ lo < 0 ∧ lo < I 9 2 then (if bd < 0 then (1, 0, I) else (if bd < 8 then (if mo < 0 then (1, 0, I) else (if mo ≤ 1000000 then (if f_X3_isSold I (w_lt lo.toNatClampNeg) = 1 then (0, 0, I) else (if (I (w_lt lo.toNatClampNeg) 0) ≤ mo then (0, 1, (wU I (w_lt lo.toNatClampNeg + 1) bd.toNatClampNeg mo)) else (0, 0, I))) else (1, 0, I))) else (1, 0, I))) else (3, 0, I))
set_option maxRecDepth 20000 in
theorem in_X8_bid_X3 : ∀ w ∈ u_ws RX3 TX3 6, w ∈ wsX8_bid := fun _ h => List.mem_cons_of_mem _ (List.mem_append_left _ (List.mem_append_left _ (List.mem_append_left _ (List.mem_append_left _ (List.mem_append_right _ h)))))
set_option maxRecDepth 20000 in
theorem inx_X8_bid_IAE : ∀ w ∈ (vx_atS RX8 82 "java/lang/IllegalArgumentException" w_ns).filter goodWord, w ∈ wsX8_bid := fun _ h => List.mem_cons_of_mem _ (List.mem_append_left _ (List.mem_append_right _ h))
set_option maxHeartbeats 4000000 in
set_option maxRecDepth 100000 in
theorem c_X8_bid (l : Launch) (D : va_G) (y : Nat → ClassId) (b : Nat) (z : Nat → Nat) (G : wG) (I : wI) (J : wJ) (hL : w_full G) (hls : l.stackTraces = false) (lo : Int32) (bd : Int32) (mo : Int32) (hN : 0 ≤ (I 9 2).toInt ∧ (I 9 2).toInt ≤ 40) (hNl : wLT G 9 w_lt (I 9 2).toInt) (hNb : ∀ i : Nat, (i : Int) < (I 9 2).toInt → w_bd i ∈ G.2.1) : xI l yX8_bid wsX8_bid { frames := 7, cells := 2, slots := 12, locals := 103 } D y b z G I J [.ref (G.1 0), .int lo, .int bd, .int mo] (fun r u => ((f_X8_bid I lo bd mo).1 = 0 ∧ r = (f_X8_bid I lo bd mo).2.1 ∧ u.2.1 = (f_X8_bid I lo bd mo).2.2) ∧ u.1 = G ∧ u.2.2 = J) (fun u => (¬ (f_X8_bid I lo bd mo).1 = 0 ∧ u.1 = w_xn (f_X8_bid I lo bd mo).1 ∧ u.2.2.1 = (f_X8_bid I lo bd mo).2.2) ∧ u.2.1 = G ∧ u.2.2.2 = J) 2 12 := by
  refine w_xenter (by decide) rfl (Nat.le_of_ble_eq_true rfl) rfl ?_
  intro p e s m below meth c ls X hr hlk hnm hw hst hout hl
  have hx := X.1.1
  have hb := X.1.2.1
  obtain ⟨px_c_X8_bid, epx⟩ : ∃ qpx9 : wX → Prop, qpx9 = (fun u => (¬ (f_X8_bid I lo bd mo).1 = 0 ∧ u.1 = w_xn (f_X8_bid I lo bd mo).1 ∧ u.2.2.1 = (f_X8_bid I lo bd mo).2.2) ∧ u.2.1 = G ∧ u.2.2.2 = J) := ⟨_, rfl⟩
  rw [← epx]
  obtain ⟨po_c_X8_bid, epo⟩ : ∃ qpo9 : Int32 → wS → Prop, qpo9 = (fun r u => ((f_X8_bid I lo bd mo).1 = 0 ∧ r = (f_X8_bid I lo bd mo).2.1 ∧ u.2.1 = (f_X8_bid I lo bd mo).2.2) ∧ u.1 = G ∧ u.2.2 = J) := ⟨_, rfl⟩
  rw [← epo]
  refine lv_aload_n hx hb dX8_bid_0 rfl (lv_at hl 0 rfl) ?_
  refine lv_iload_n hx hb dX8_bid_1 rfl (lv_at hl 1 rfl) ?_
  refine w_xcallVr (As := [.int lo]) (rest := []) X hw hst hl (c_X8_lotAt l D y b z G I J hL hls lo hN hNl) (cwV 1 X.1.2.2.2.2 gX8_bid_X8_lotAt rfl rfl rfl (by decide +kernel) ⟨Nat.le_of_ble_eq_true rfl, Nat.le_of_ble_eq_true rfl⟩) (w_recv X hw (hL 0 (by decide)) rfl (by decide) k_X8) rfl rfl (Nat.le_of_ble_eq_true rfl) dX8_bid_2 ⟨Nat.le_of_ble_eq_true rfl, Nat.le_of_ble_eq_true rfl⟩ hout hlk (Nat.le_of_ble_eq_true rfl) (Nat.le_of_ble_eq_true rfl) (fun u hu => ?_) (fun u H locs hp_2 hw => ?_)
  · obtain ⟨uE, uS⟩ := u
    obtain ⟨⟨hE, q_2⟩, hS⟩ := hu
    dsimp only at hE hS
    subst hE hS
    exact (by
        rw [epx]
        have ef : f_X8_bid I lo bd mo = (3, 0, I) := by unfold f_X8_bid; rw [if_neg q_2]
        exact ⟨⟨by rw [ef]; exact (by decide : ¬ (3 : Int32) = 0), by rw [ef]; exact xn_3.symm, by rw [ef]⟩, rfl, rfl⟩)
  · obtain ⟨ra_2, u⟩ := u
    obtain ⟨⟨hp_2, q_2⟩, rfl⟩ := hp_2
    dsimp only at hw hp_2
    subst hp_2
    have he_2 := hNl _ (la_lt q_2.1 q_2.2)
    refine lv_astore (lv' := [(4, .ref (G.1 (w_lt lo.toNatClampNeg))), (0, .ref (G.1 0)), (1, .int lo), (2, .int bd), (3, .int mo)]) hx hb dX8_bid_5 hl (by decide) rfl (fun ls hl => ?_)
    refine lv_iload_n hx hb dX8_bid_7 rfl (lv_at hl 3 rfl) ?_
    refine lv_if_lt (tgt := 17) hx hb dX8_bid_8 (by decide) (fun c_8 => ?_) (fun c_8 => ?_)
    · have hp_17 : px_c_X8_bid ("java/lang/IllegalArgumentException", G, I, J) := by
          rw [epx]
          have ef : f_X8_bid I lo bd mo = (1, 0, I) := by unfold f_X8_bid; rw [if_pos q_2, if_pos c_8]
          exact ⟨⟨by rw [ef]; exact (by decide : ¬ (1 : Int32) = 0), by rw [ef]; exact xn_1.symm, by rw [ef]⟩, rfl, rfl⟩
      exact w_throwS (text := "no such bidder") X hw hst hls hout hlk hl (by decide +kernel) (by decide +kernel) (by decide +kernel) (by decide) inx_X8_bid_IAE xg_IAE2 (by decide) xg_IAE3 dX8_bid_17 dX8_bid_20 dX8_bid_21 dX8_bid_23 dX8_bid_26 (Nat.le_of_ble_eq_true rfl) (Nat.le_of_ble_eq_true rfl) (Nat.le_of_ble_eq_true rfl) (Nat.le_of_ble_eq_true rfl) hp_17 (Nat.le_of_ble_eq_true rfl) (Nat.le_of_ble_eq_true rfl)
    · refine lv_iload_n hx hb dX8_bid_11 rfl (lv_at hl 3 rfl) ?_
      refine lv_bipush (v := 8) hx hb dX8_bid_12 (by decide) ?_
      refine lv_icmp_lt (tgt := 27) hx hb dX8_bid_14 (by decide) (fun c_14 => ?_) (fun c_14 => ?_)
      · refine lv_iload_n hx hb dX8_bid_27 rfl (lv_at hl 4 rfl) ?_
        refine lv_if_lt (tgt := 37) hx hb dX8_bid_28 (by decide) (fun c_28 => ?_) (fun c_28 => ?_)
        · have hp_37 : px_c_X8_bid ("java/lang/IllegalArgumentException", G, I, J) := by
              rw [epx]
              have ef : f_X8_bid I lo bd mo = (1, 0, I) := by unfold f_X8_bid; rw [if_pos q_2, if_neg c_8, if_pos c_14, if_pos c_28]
              exact ⟨⟨by rw [ef]; exact (by decide : ¬ (1 : Int32) = 0), by rw [ef]; exact xn_1.symm, by rw [ef]⟩, rfl, rfl⟩
          exact w_throwS (text := "no such money") X hw hst hls hout hlk hl (by decide +kernel) (by decide +kernel) (by decide +kernel) (by decide) inx_X8_bid_IAE xg_IAE2 (by decide) xg_IAE3 dX8_bid_37 dX8_bid_40 dX8_bid_41 dX8_bid_43 dX8_bid_46 (Nat.le_of_ble_eq_true rfl) (Nat.le_of_ble_eq_true rfl) (Nat.le_of_ble_eq_true rfl) (Nat.le_of_ble_eq_true rfl) hp_37 (Nat.le_of_ble_eq_true rfl) (Nat.le_of_ble_eq_true rfl)
        · refine lv_iload_n hx hb dX8_bid_31 rfl (lv_at hl 4 rfl) ?_
          refine lv_ldc (v := 1000000) hx hb X.1.2.2.2.1 (X.1.2.2.2.2 (.constant RX8 198 1000000) (by decide +kernel)) dX8_bid_32 ?_
          refine lv_icmp_le (tgt := 47) hx hb dX8_bid_34 (by decide) (fun c_34 => ?_) (fun c_34 => ?_)
          · refine lv_aload hx hb dX8_bid_47 (lv_at hl 0 rfl) ?_
            refine w_callVi (As := []) (rest := []) X hw hst hl (c_X3_isSold l D y b z G I J hL (w_lt lo.toNatClampNeg)  he_2.1 (w_kd_lt _)) (cwV 0 X.1.2.2.2.2 gX8_bid_X3_isSold rfl rfl rfl (by decide +kernel) ⟨Nat.le_of_ble_eq_true rfl, Nat.le_of_ble_eq_true rfl⟩) (w_recv X hw he_2.1 (w_kd_lt _) (by decide) k_X3) rfl rfl (Nat.le_of_ble_eq_true rfl) dX8_bid_49 ⟨Nat.le_of_ble_eq_true rfl, Nat.le_of_ble_eq_true rfl⟩ (fun r_49_2 u H locs hp_49 hw => ?_)
            obtain ⟨hp_49, rfl⟩ := hp_49
            dsimp only at hw
            rcases f_X3_isSold_01  I (w_lt lo.toNatClampNeg) with q_49 | ⟨q_49, q0_49⟩
            · rw [q_49] at hp_49
              subst r_49_2
              refine lv_if_ne (tgt := 64) hx hb dX8_bid_52 (by decide) (fun c_52 => ?_) (fun c_52 => ?_)
              · refine lv_iconst (v := 0) hx hb dX8_bid_64 (by decide) ?_
                have hp_65 : po_c_X8_bid 0 (G, I, J) := by
                    rw [epo]
                    have ef : f_X8_bid I lo bd mo = (0, 0, I) := by unfold f_X8_bid; rw [if_pos q_2, if_neg c_8, if_pos c_14, if_neg c_28, if_pos c_34, if_pos q_49]
                    exact ⟨⟨by rw [ef], by rw [ef], by rw [ef]⟩, rfl, rfl⟩
                exact vx_ret (w_zret X hr (by decide) hlk hw hp_65 (Nat.le_of_ble_eq_true rfl) (Nat.le_of_ble_eq_true rfl) dX8_bid_65)
              · exact absurd c_52 (by decide)
            · rw [q0_49] at hp_49
              subst r_49_2
              refine lv_if_ne (tgt := 64) hx hb dX8_bid_52 (by decide) (fun c_52 => ?_) (fun c_52 => ?_)
              · exact absurd (by decide) c_52
              · refine lv_iload_n hx hb dX8_bid_55 rfl (lv_at hl 4 rfl) ?_
                refine lv_aload hx hb dX8_bid_56 (lv_at hl 0 rfl) ?_
                refine w_getN X hw 4 0 he_2.1 (w_kd_lt _) (by decide) k_X3 in_X8_bid_X3 (by decide) (hst.1 (RX8, 222, "CorkForest$Lot", "floor", "I") (by decide)) rfl (v := .int (I (w_lt lo.toNatClampNeg) 0)) rfl dX8_bid_58 ?_
                refine lv_icmp_ge (tgt := 66) hx hb dX8_bid_61 (by decide) (fun c_61 => ?_) (fun c_61 => ?_)
                · refine lv_aload hx hb dX8_bid_66 (lv_at hl 0 rfl) ?_
                  refine w_getN X hw 4 1 he_2.1 (w_kd_lt _) (by decide) k_X3 in_X8_bid_X3 (by decide) (hst.1 (RX8, 225, "CorkForest$Lot", "bids", "[I") (by decide)) rfl (v := .ref (G.1 (w_lt lo.toNatClampNeg + 1))) rfl dX8_bid_68 ?_
                  refine lv_iload_n hx hb dX8_bid_71 rfl (lv_at hl 3 rfl) ?_
                  refine lv_iload_n hx hb dX8_bid_72 rfl (lv_at hl 4 rfl) ?_
                  have h_73 : vp_in bd (w_ln (w_lt lo.toNatClampNeg + 1)) := bd_8 _ c_8 c_14
                  refine w_ist X hw (hNb _ (la_lt q_2.1 q_2.2)) (w_kd_bd _) h_73 dX8_bid_73 (fun H locs hw => ?_)
                  refine lv_iconst (v := 1) hx hb dX8_bid_74 (by decide) ?_
                  have hp_75 : po_c_X8_bid 1 (G, (wU I (w_lt lo.toNatClampNeg + 1) bd.toNatClampNeg mo), J) := by
                      rw [epo]
                      have ef : f_X8_bid I lo bd mo = (0, 1, (wU I (w_lt lo.toNatClampNeg + 1) bd.toNatClampNeg mo)) := by unfold f_X8_bid; rw [if_pos q_2, if_neg c_8, if_pos c_14, if_neg c_28, if_pos c_34, if_neg q_49, if_pos c_61]
                      exact ⟨⟨by rw [ef], by rw [ef], by rw [ef]⟩, rfl, rfl⟩
                  exact vx_ret (w_zret X hr (by decide) hlk hw hp_75 (Nat.le_of_ble_eq_true rfl) (Nat.le_of_ble_eq_true rfl) dX8_bid_75)
                · refine lv_iconst (v := 0) hx hb dX8_bid_64 (by decide) ?_
                  have hp_65 : po_c_X8_bid 0 (G, I, J) := by
                      rw [epo]
                      have ef : f_X8_bid I lo bd mo = (0, 0, I) := by unfold f_X8_bid; rw [if_pos q_2, if_neg c_8, if_pos c_14, if_neg c_28, if_pos c_34, if_neg q_49, if_neg c_61]
                      exact ⟨⟨by rw [ef], by rw [ef], by rw [ef]⟩, rfl, rfl⟩
                  exact vx_ret (w_zret X hr (by decide) hlk hw hp_65 (Nat.le_of_ble_eq_true rfl) (Nat.le_of_ble_eq_true rfl) dX8_bid_65)
          · have hp_37 : px_c_X8_bid ("java/lang/IllegalArgumentException", G, I, J) := by
                rw [epx]
                have ef : f_X8_bid I lo bd mo = (1, 0, I) := by unfold f_X8_bid; rw [if_pos q_2, if_neg c_8, if_pos c_14, if_neg c_28, if_neg c_34]
                exact ⟨⟨by rw [ef]; exact (by decide : ¬ (1 : Int32) = 0), by rw [ef]; exact xn_1.symm, by rw [ef]⟩, rfl, rfl⟩
            exact w_throwS (text := "no such money") X hw hst hls hout hlk hl (by decide +kernel) (by decide +kernel) (by decide +kernel) (by decide) inx_X8_bid_IAE xg_IAE2 (by decide) xg_IAE3 dX8_bid_37 dX8_bid_40 dX8_bid_41 dX8_bid_43 dX8_bid_46 (Nat.le_of_ble_eq_true rfl) (Nat.le_of_ble_eq_true rfl) (Nat.le_of_ble_eq_true rfl) (Nat.le_of_ble_eq_true rfl) hp_37 (Nat.le_of_ble_eq_true rfl) (Nat.le_of_ble_eq_true rfl)
      · have hp_17 : px_c_X8_bid ("java/lang/IllegalArgumentException", G, I, J) := by
            rw [epx]
            have ef : f_X8_bid I lo bd mo = (1, 0, I) := by unfold f_X8_bid; rw [if_pos q_2, if_neg c_8, if_neg c_14]
            exact ⟨⟨by rw [ef]; exact (by decide : ¬ (1 : Int32) = 0), by rw [ef]; exact xn_1.symm, by rw [ef]⟩, rfl, rfl⟩
        exact w_throwS (text := "no such bidder") X hw hst hls hout hlk hl (by decide +kernel) (by decide +kernel) (by decide +kernel) (by decide) inx_X8_bid_IAE xg_IAE2 (by decide) xg_IAE3 dX8_bid_17 dX8_bid_20 dX8_bid_21 dX8_bid_23 dX8_bid_26 (Nat.le_of_ble_eq_true rfl) (Nat.le_of_ble_eq_true rfl) (Nat.le_of_ble_eq_true rfl) (Nat.le_of_ble_eq_true rfl) hp_17 (Nat.le_of_ble_eq_true rfl) (Nat.le_of_ble_eq_true rfl)
def f_X8_sell (I : wI) (lo : Int32) : Int32 × Int32 × wI := (if ¬ lo < 0 ∧ lo < I 9 2 then (if f_X3_isSold I (w_lt lo.toNatClampNeg) = 1 then (0, (-1), I) else (0, (f_X3_goToGreatestBid I (w_lt lo.toNatClampNeg)) (w_lt lo.toNatClampNeg) 4, (f_X3_goToGreatestBid I (w_lt lo.toNatClampNeg)))) else (3, 0, I))
set_option maxRecDepth 20000 in
theorem in_X8_sell_X3 : ∀ w ∈ u_ws RX3 TX3 6, w ∈ wsX8_sell := fun _ h => List.mem_cons_of_mem _ (List.mem_append_left _ (List.mem_append_left _ (List.mem_append_left _ (List.mem_append_right _ h))))
set_option maxHeartbeats 4000000 in
set_option maxRecDepth 100000 in
theorem c_X8_sell (l : Launch) (D : va_G) (y : Nat → ClassId) (b : Nat) (z : Nat → Nat) (G : wG) (I : wI) (J : wJ) (hL : w_full G) (hls : l.stackTraces = false) (lo : Int32) (hN : 0 ≤ (I 9 2).toInt ∧ (I 9 2).toInt ≤ 40) (hNl : wLT G 9 w_lt (I 9 2).toInt) (hNb : ∀ i : Nat, (i : Int) < (I 9 2).toInt → w_bd i ∈ G.2.1) : xI l yX8_sell wsX8_sell { frames := 7, cells := 1, slots := 6, locals := 103 } D y b z G I J [.ref (G.1 0), .int lo] (fun r u => ((f_X8_sell I lo).1 = 0 ∧ r = (f_X8_sell I lo).2.1 ∧ u.2.1 = (f_X8_sell I lo).2.2) ∧ u.1 = G ∧ u.2.2 = J) (fun u => (¬ (f_X8_sell I lo).1 = 0 ∧ u.1 = w_xn (f_X8_sell I lo).1 ∧ u.2.2.1 = (f_X8_sell I lo).2.2) ∧ u.2.1 = G ∧ u.2.2.2 = J) 1 6 := by
  refine w_xenter (by decide) rfl (Nat.le_of_ble_eq_true rfl) rfl ?_
  intro p e s m below meth c ls X hr hlk hnm hw hst hout hl
  have hx := X.1.1
  have hb := X.1.2.1
  obtain ⟨px_c_X8_sell, epx⟩ : ∃ qpx9 : wX → Prop, qpx9 = (fun u => (¬ (f_X8_sell I lo).1 = 0 ∧ u.1 = w_xn (f_X8_sell I lo).1 ∧ u.2.2.1 = (f_X8_sell I lo).2.2) ∧ u.2.1 = G ∧ u.2.2.2 = J) := ⟨_, rfl⟩
  rw [← epx]
  obtain ⟨po_c_X8_sell, epo⟩ : ∃ qpo9 : Int32 → wS → Prop, qpo9 = (fun r u => ((f_X8_sell I lo).1 = 0 ∧ r = (f_X8_sell I lo).2.1 ∧ u.2.1 = (f_X8_sell I lo).2.2) ∧ u.1 = G ∧ u.2.2 = J) := ⟨_, rfl⟩
  rw [← epo]
  refine lv_aload_n hx hb dX8_sell_0 rfl (lv_at hl 0 rfl) ?_
  refine lv_iload_n hx hb dX8_sell_1 rfl (lv_at hl 1 rfl) ?_
  refine w_xcallVr (As := [.int lo]) (rest := []) X hw hst hl (c_X8_lotAt l D y b z G I J hL hls lo hN hNl) (cwV 1 X.1.2.2.2.2 gX8_sell_X8_lotAt rfl rfl rfl (by decide +kernel) ⟨Nat.le_of_ble_eq_true rfl, Nat.le_of_ble_eq_true rfl⟩) (w_recv X hw (hL 0 (by decide)) rfl (by decide) k_X8) rfl rfl (Nat.le_of_ble_eq_true rfl) dX8_sell_2 ⟨Nat.le_of_ble_eq_true rfl, Nat.le_of_ble_eq_true rfl⟩ hout hlk (Nat.le_of_ble_eq_true rfl) (Nat.le_of_ble_eq_true rfl) (fun u hu => ?_) (fun u H locs hp_2 hw => ?_)
  · obtain ⟨uE, uS⟩ := u
    obtain ⟨⟨hE, q_2⟩, hS⟩ := hu
    dsimp only at hE hS
    subst hE hS
    exact (by
        rw [epx]
        have ef : f_X8_sell I lo = (3, 0, I) := by unfold f_X8_sell; rw [if_neg q_2]
        exact ⟨⟨by rw [ef]; exact (by decide : ¬ (3 : Int32) = 0), by rw [ef]; exact xn_3.symm, by rw [ef]⟩, rfl, rfl⟩)
  · obtain ⟨ra_2, u⟩ := u
    obtain ⟨⟨hp_2, q_2⟩, rfl⟩ := hp_2
    dsimp only at hw hp_2
    subst hp_2
    have he_2 := hNl _ (la_lt q_2.1 q_2.2)
    refine lv_astore_n (lv' := [(2, .ref (G.1 (w_lt lo.toNatClampNeg))), (0, .ref (G.1 0)), (1, .int lo)]) hx hb dX8_sell_5 rfl hl (by decide) rfl (fun ls hl => ?_)
    refine lv_aload_n hx hb dX8_sell_6 rfl (lv_at hl 0 rfl) ?_
    refine w_callVi (As := []) (rest := []) X hw hst hl (c_X3_isSold l D y b z G I J hL (w_lt lo.toNatClampNeg)  he_2.1 (w_kd_lt _)) (cwV 0 X.1.2.2.2.2 gX8_sell_X3_isSold rfl rfl rfl (by decide +kernel) ⟨Nat.le_of_ble_eq_true rfl, Nat.le_of_ble_eq_true rfl⟩) (w_recv X hw he_2.1 (w_kd_lt _) (by decide) k_X3) rfl rfl (Nat.le_of_ble_eq_true rfl) dX8_sell_7 ⟨Nat.le_of_ble_eq_true rfl, Nat.le_of_ble_eq_true rfl⟩ (fun r_7_2 u H locs hp_7 hw => ?_)
    obtain ⟨hp_7, rfl⟩ := hp_7
    dsimp only at hw
    rcases f_X3_isSold_01  I (w_lt lo.toNatClampNeg) with q_7 | ⟨q_7, q0_7⟩
    · rw [q_7] at hp_7
      subst r_7_2
      refine lv_if_eq (tgt := 15) hx hb dX8_sell_10 (by decide) (fun c_10 => ?_) (fun c_10 => ?_)
      · exact absurd c_10 (by decide)
      · refine lv_iconst (v := -1) hx hb dX8_sell_13 (by decide) ?_
        have hp_14 : po_c_X8_sell (-1) (G, I, J) := by
            rw [epo]
            have ef : f_X8_sell I lo = (0, (-1), I) := by unfold f_X8_sell; rw [if_pos q_2, if_pos q_7]
            exact ⟨⟨by rw [ef], by rw [ef], by rw [ef]⟩, rfl, rfl⟩
        exact vx_ret (w_iret X hr hlk hw hp_14 (Nat.le_of_ble_eq_true rfl) (Nat.le_of_ble_eq_true rfl) dX8_sell_14)
    · rw [q0_7] at hp_7
      subst r_7_2
      refine lv_if_eq (tgt := 15) hx hb dX8_sell_10 (by decide) (fun c_10 => ?_) (fun c_10 => ?_)
      · refine lv_aload_n hx hb dX8_sell_15 rfl (lv_at hl 0 rfl) ?_
        refine w_callVv (As := []) (rest := []) X hw hst hl (c_X3_goToGreatestBid l D y b z G I J hL (w_lt lo.toNatClampNeg) he_2.1 (w_kd_lt _) (hNb _ (la_lt q_2.1 q_2.2)) (w_kd_bd _) (w_ln_bd _)) (cwV 0 X.1.2.2.2.2 gX8_sell_X3_goToGreatestBid rfl rfl rfl (by decide +kernel) ⟨Nat.le_of_ble_eq_true rfl, Nat.le_of_ble_eq_true rfl⟩) (w_recv X hw he_2.1 (w_kd_lt _) (by decide) k_X3) rfl rfl (Nat.le_of_ble_eq_true rfl) dX8_sell_16 ⟨Nat.le_of_ble_eq_true rfl, Nat.le_of_ble_eq_true rfl⟩ (fun u H locs hp_16 hw => ?_)
        obtain ⟨G_16_3, I_16_3, J_16_3⟩ := u
        dsimp only at hw hp_16
        obtain ⟨hI_16_3, eG_16, eJ_16⟩ := hp_16
        subst G_16_3 J_16_3
        refine lv_aload_n hx hb dX8_sell_19 rfl (lv_at hl 0 rfl) ?_
        refine w_getN X hw 4 4 he_2.1 (w_kd_lt _) (by decide) k_X3 in_X8_sell_X3 (by decide) (hst.1 (RX8, 232, "CorkForest$Lot", "buyer", "I") (by decide)) rfl (v := .int (I_16_3 (w_lt lo.toNatClampNeg) 4)) rfl dX8_sell_20 ?_
        have hp_23 : po_c_X8_sell (I_16_3 (w_lt lo.toNatClampNeg) 4) (G, I_16_3, J) := by
            obtain rfl := hI_16_3.symm
            rw [epo]
            have ef : f_X8_sell I lo = (0, (f_X3_goToGreatestBid I (w_lt lo.toNatClampNeg)) (w_lt lo.toNatClampNeg) 4, (f_X3_goToGreatestBid I (w_lt lo.toNatClampNeg))) := by unfold f_X8_sell; rw [if_pos q_2, if_neg q_7]
            exact ⟨⟨by rw [ef], by rw [ef], by rw [ef]⟩, rfl, rfl⟩
        exact vx_ret (w_iret X hr hlk hw hp_23 (Nat.le_of_ble_eq_true rfl) (Nat.le_of_ble_eq_true rfl) dX8_sell_23)
      · exact absurd (by decide) c_10
def f_X8_sort (I : wI) (si : Int32) (wo : Int32) (fl : Int32) : Int32 × Int32 × wI := (if si < 1 then (1, 0, I) else (if si ≤ 12 then (if wo < 0 then (1, 0, I) else (if wo ≤ 1000 then (if fl < 0 then (1, 0, I) else (if fl ≤ 12 then (0, ((f_X0_addSort I si wo fl).1), ((f_X0_addSort I si wo fl).2)) else (1, 0, I))) else (1, 0, I))) else (1, 0, I)))
theorem fr_f_X8_sort (I : wI) (si : Int32) (wo : Int32) (fl : Int32) (q9 : Nat) (h10 : q9 ≠ 10) (h11 : q9 ≠ 11) (h12 : q9 ≠ 12) (h13 : q9 ≠ 13) : (f_X8_sort I si wo fl).2.2 q9 = I q9 := by
  unfold f_X8_sort
  repeat' split
  all_goals first | with_reducible rfl | (simp only [wU_ne _ _ _ h10, wU_ne _ _ _ h11, wU_ne _ _ _ h12, wU_ne _ _ _ h13, fr_f_X0_addSort _ _ _ _ _ h10 h11 h12 h13])
set_option maxRecDepth 20000 in
theorem in_X8_sort_X8 : ∀ w ∈ u_ws RX8 TX8 10, w ∈ wsX8_sort := fun _ h => List.mem_cons_of_mem _ (List.mem_append_left _ (List.mem_append_left _ (List.mem_append_right _ h)))
set_option maxRecDepth 20000 in
theorem inx_X8_sort_IAE : ∀ w ∈ (vx_atS RX8 82 "java/lang/IllegalArgumentException" w_ns).filter goodWord, w ∈ wsX8_sort := fun _ h => List.mem_cons_of_mem _ (List.mem_append_right _ h)
set_option maxHeartbeats 4000000 in
set_option maxRecDepth 100000 in
theorem c_X8_sort (l : Launch) (D : va_G) (y : Nat → ClassId) (b : Nat) (z : Nat → Nat) (G : wG) (I : wI) (J : wJ) (hL : w_full G) (hls : l.stackTraces = false) (si : Int32) (wo : Int32) (fl : Int32) (hB : 0 ≤ (I 10 5).toInt) : xI l yX8_sort wsX8_sort { frames := 6, cells := 1, slots := 6, locals := 82 } D y b z G I J [.ref (G.1 0), .int si, .int wo, .int fl] (fun r u => ((f_X8_sort I si wo fl).1 = 0 ∧ r = (f_X8_sort I si wo fl).2.1 ∧ u.2.1 = (f_X8_sort I si wo fl).2.2) ∧ u.1 = G ∧ u.2.2 = J) (fun u => (¬ (f_X8_sort I si wo fl).1 = 0 ∧ u.1 = w_xn (f_X8_sort I si wo fl).1 ∧ u.2.2.1 = (f_X8_sort I si wo fl).2.2) ∧ u.2.1 = G ∧ u.2.2.2 = J) 1 6 := by
  refine w_xenter (by decide) rfl (Nat.le_of_ble_eq_true rfl) rfl ?_
  intro p e s m below meth c ls X hr hlk hnm hw hst hout hl
  have hx := X.1.1
  have hb := X.1.2.1
  obtain ⟨px_c_X8_sort, epx⟩ : ∃ qpx9 : wX → Prop, qpx9 = (fun u => (¬ (f_X8_sort I si wo fl).1 = 0 ∧ u.1 = w_xn (f_X8_sort I si wo fl).1 ∧ u.2.2.1 = (f_X8_sort I si wo fl).2.2) ∧ u.2.1 = G ∧ u.2.2.2 = J) := ⟨_, rfl⟩
  rw [← epx]
  obtain ⟨po_c_X8_sort, epo⟩ : ∃ qpo9 : Int32 → wS → Prop, qpo9 = (fun r u => ((f_X8_sort I si wo fl).1 = 0 ∧ r = (f_X8_sort I si wo fl).2.1 ∧ u.2.1 = (f_X8_sort I si wo fl).2.2) ∧ u.1 = G ∧ u.2.2 = J) := ⟨_, rfl⟩
  rw [← epo]
  refine lv_iload_n hx hb dX8_sort_0 rfl (lv_at hl 1 rfl) ?_
  refine lv_iconst (v := 1) hx hb dX8_sort_1 (by decide) ?_
  refine lv_icmp_lt (tgt := 11) hx hb dX8_sort_2 (by decide) (fun c_2 => ?_) (fun c_2 => ?_)
  · have hp_11 : px_c_X8_sort ("java/lang/IllegalArgumentException", G, I, J) := by
        rw [epx]
        have ef : f_X8_sort I si wo fl = (1, 0, I) := by unfold f_X8_sort; rw [if_pos c_2]
        exact ⟨⟨by rw [ef]; exact (by decide : ¬ (1 : Int32) = 0), by rw [ef]; exact xn_1.symm, by rw [ef]⟩, rfl, rfl⟩
    exact w_throwS (text := "no such size") X hw hst hls hout hlk hl (by decide +kernel) (by decide +kernel) (by decide +kernel) (by decide) inx_X8_sort_IAE xg_IAE2 (by decide) xg_IAE3 dX8_sort_11 dX8_sort_14 dX8_sort_15 dX8_sort_17 dX8_sort_20 (Nat.le_of_ble_eq_true rfl) (Nat.le_of_ble_eq_true rfl) (Nat.le_of_ble_eq_true rfl) (Nat.le_of_ble_eq_true rfl) hp_11 (Nat.le_of_ble_eq_true rfl) (Nat.le_of_ble_eq_true rfl)
  · refine lv_iload_n hx hb dX8_sort_5 rfl (lv_at hl 1 rfl) ?_
    refine lv_bipush (v := 12) hx hb dX8_sort_6 (by decide) ?_
    refine lv_icmp_le (tgt := 21) hx hb dX8_sort_8 (by decide) (fun c_8 => ?_) (fun c_8 => ?_)
    · refine lv_iload_n hx hb dX8_sort_21 rfl (lv_at hl 2 rfl) ?_
      refine lv_if_lt (tgt := 32) hx hb dX8_sort_22 (by decide) (fun c_22 => ?_) (fun c_22 => ?_)
      · have hp_32 : px_c_X8_sort ("java/lang/IllegalArgumentException", G, I, J) := by
            rw [epx]
            have ef : f_X8_sort I si wo fl = (1, 0, I) := by unfold f_X8_sort; rw [if_neg c_2, if_pos c_8, if_pos c_22]
            exact ⟨⟨by rw [ef]; exact (by decide : ¬ (1 : Int32) = 0), by rw [ef]; exact xn_1.symm, by rw [ef]⟩, rfl, rfl⟩
        exact w_throwS (text := "no such worth") X hw hst hls hout hlk hl (by decide +kernel) (by decide +kernel) (by decide +kernel) (by decide) inx_X8_sort_IAE xg_IAE2 (by decide) xg_IAE3 dX8_sort_32 dX8_sort_35 dX8_sort_36 dX8_sort_38 dX8_sort_41 (Nat.le_of_ble_eq_true rfl) (Nat.le_of_ble_eq_true rfl) (Nat.le_of_ble_eq_true rfl) (Nat.le_of_ble_eq_true rfl) hp_32 (Nat.le_of_ble_eq_true rfl) (Nat.le_of_ble_eq_true rfl)
      · refine lv_iload_n hx hb dX8_sort_25 rfl (lv_at hl 2 rfl) ?_
        refine lv_sipush (v := 1000) hx hb dX8_sort_26 (by decide) ?_
        refine lv_icmp_le (tgt := 42) hx hb dX8_sort_29 (by decide) (fun c_29 => ?_) (fun c_29 => ?_)
        · refine lv_iload_n hx hb dX8_sort_42 rfl (lv_at hl 3 rfl) ?_
          refine lv_if_lt (tgt := 52) hx hb dX8_sort_43 (by decide) (fun c_43 => ?_) (fun c_43 => ?_)
          · have hp_52 : px_c_X8_sort ("java/lang/IllegalArgumentException", G, I, J) := by
                rw [epx]
                have ef : f_X8_sort I si wo fl = (1, 0, I) := by unfold f_X8_sort; rw [if_neg c_2, if_pos c_8, if_neg c_22, if_pos c_29, if_pos c_43]
                exact ⟨⟨by rw [ef]; exact (by decide : ¬ (1 : Int32) = 0), by rw [ef]; exact xn_1.symm, by rw [ef]⟩, rfl, rfl⟩
            exact w_throwW (text := "no such number of flaws") X hw hst hls hout hlk hl (by decide +kernel) (by decide +kernel) (by decide +kernel) (by decide) inx_X8_sort_IAE xg_IAE2 (by decide) xg_IAE3 dX8_sort_52 dX8_sort_55 dX8_sort_56 dX8_sort_59 dX8_sort_62 (Nat.le_of_ble_eq_true rfl) (Nat.le_of_ble_eq_true rfl) (Nat.le_of_ble_eq_true rfl) (Nat.le_of_ble_eq_true rfl) hp_52 (Nat.le_of_ble_eq_true rfl) (Nat.le_of_ble_eq_true rfl)
          · refine lv_iload_n hx hb dX8_sort_46 rfl (lv_at hl 3 rfl) ?_
            refine lv_bipush (v := 12) hx hb dX8_sort_47 (by decide) ?_
            refine lv_icmp_le (tgt := 63) hx hb dX8_sort_49 (by decide) (fun c_49 => ?_) (fun c_49 => ?_)
            · refine lv_aload_n hx hb dX8_sort_63 rfl (lv_at hl 0 rfl) ?_
              refine w_get X hw 9 6 (hL 0 (by decide)) rfl (by decide) k_X8 in_X8_sort_X8 (by decide) (by decide +kernel) rfl (v := .ref (G.1 10)) rfl dX8_sort_64 ?_
              refine lv_iload_n hx hb dX8_sort_67 rfl (lv_at hl 1 rfl) ?_
              refine lv_iload_n hx hb dX8_sort_68 rfl (lv_at hl 2 rfl) ?_
              refine lv_iload_n hx hb dX8_sort_69 rfl (lv_at hl 3 rfl) ?_
              refine w_callVi (As := [.int si, .int wo, .int fl]) (rest := []) X hw hst hl (c_X0_addSort l D y b z G I J hL si wo fl hB) (cwV 3 X.1.2.2.2.2 gX8_sort_X0_addSort rfl rfl rfl (by decide +kernel) ⟨Nat.le_of_ble_eq_true rfl, Nat.le_of_ble_eq_true rfl⟩) (w_recv X hw (hL 10 (by decide)) rfl (by decide) k_X0) rfl rfl (Nat.le_of_ble_eq_true rfl) dX8_sort_70 ⟨Nat.le_of_ble_eq_true rfl, Nat.le_of_ble_eq_true rfl⟩ (fun r_70_1 u H locs hp_70 hw => ?_)
              obtain ⟨G_70_1, I_70_1, J_70_1⟩ := u
              dsimp only at hw hp_70
              obtain ⟨⟨hp_70, hI_70_1⟩, eG_70, eJ_70⟩ := hp_70
              subst G_70_1 J_70_1
              have hp_73 : po_c_X8_sort r_70_1 (G, I_70_1, J) := by
                  obtain rfl := hI_70_1.symm
                  obtain rfl := hp_70.symm
                  rw [epo]
                  have ef : f_X8_sort I si wo fl = (0, ((f_X0_addSort I si wo fl).1), ((f_X0_addSort I si wo fl).2)) := by unfold f_X8_sort; rw [if_neg c_2, if_pos c_8, if_neg c_22, if_pos c_29, if_neg c_43, if_pos c_49]
                  exact ⟨⟨by rw [ef], by rw [ef], by rw [ef]⟩, rfl, rfl⟩
              exact vx_ret (w_iret X hr hlk hw hp_73 (Nat.le_of_ble_eq_true rfl) (Nat.le_of_ble_eq_true rfl) dX8_sort_73)
            · have hp_52 : px_c_X8_sort ("java/lang/IllegalArgumentException", G, I, J) := by
                  rw [epx]
                  have ef : f_X8_sort I si wo fl = (1, 0, I) := by unfold f_X8_sort; rw [if_neg c_2, if_pos c_8, if_neg c_22, if_pos c_29, if_neg c_43, if_neg c_49]
                  exact ⟨⟨by rw [ef]; exact (by decide : ¬ (1 : Int32) = 0), by rw [ef]; exact xn_1.symm, by rw [ef]⟩, rfl, rfl⟩
              exact w_throwW (text := "no such number of flaws") X hw hst hls hout hlk hl (by decide +kernel) (by decide +kernel) (by decide +kernel) (by decide) inx_X8_sort_IAE xg_IAE2 (by decide) xg_IAE3 dX8_sort_52 dX8_sort_55 dX8_sort_56 dX8_sort_59 dX8_sort_62 (Nat.le_of_ble_eq_true rfl) (Nat.le_of_ble_eq_true rfl) (Nat.le_of_ble_eq_true rfl) (Nat.le_of_ble_eq_true rfl) hp_52 (Nat.le_of_ble_eq_true rfl) (Nat.le_of_ble_eq_true rfl)
        · have hp_32 : px_c_X8_sort ("java/lang/IllegalArgumentException", G, I, J) := by
              rw [epx]
              have ef : f_X8_sort I si wo fl = (1, 0, I) := by unfold f_X8_sort; rw [if_neg c_2, if_pos c_8, if_neg c_22, if_neg c_29]
              exact ⟨⟨by rw [ef]; exact (by decide : ¬ (1 : Int32) = 0), by rw [ef]; exact xn_1.symm, by rw [ef]⟩, rfl, rfl⟩
          exact w_throwS (text := "no such worth") X hw hst hls hout hlk hl (by decide +kernel) (by decide +kernel) (by decide +kernel) (by decide) inx_X8_sort_IAE xg_IAE2 (by decide) xg_IAE3 dX8_sort_32 dX8_sort_35 dX8_sort_36 dX8_sort_38 dX8_sort_41 (Nat.le_of_ble_eq_true rfl) (Nat.le_of_ble_eq_true rfl) (Nat.le_of_ble_eq_true rfl) (Nat.le_of_ble_eq_true rfl) hp_32 (Nat.le_of_ble_eq_true rfl) (Nat.le_of_ble_eq_true rfl)
    · have hp_11 : px_c_X8_sort ("java/lang/IllegalArgumentException", G, I, J) := by
          rw [epx]
          have ef : f_X8_sort I si wo fl = (1, 0, I) := by unfold f_X8_sort; rw [if_neg c_2, if_neg c_8]
          exact ⟨⟨by rw [ef]; exact (by decide : ¬ (1 : Int32) = 0), by rw [ef]; exact xn_1.symm, by rw [ef]⟩, rfl, rfl⟩
      exact w_throwS (text := "no such size") X hw hst hls hout hlk hl (by decide +kernel) (by decide +kernel) (by decide +kernel) (by decide) inx_X8_sort_IAE xg_IAE2 (by decide) xg_IAE3 dX8_sort_11 dX8_sort_14 dX8_sort_15 dX8_sort_17 dX8_sort_20 (Nat.le_of_ble_eq_true rfl) (Nat.le_of_ble_eq_true rfl) (Nat.le_of_ble_eq_true rfl) (Nat.le_of_ble_eq_true rfl) hp_11 (Nat.le_of_ble_eq_true rfl) (Nat.le_of_ble_eq_true rfl)
def f_X8_stand (I : wI) (he : Int32) (ye : Int32) : Int32 × Int32 × wI := (if he < 0 then (1, 0, I) else (if he ≤ 1000000 then (if ye < 1 then (1, 0, I) else (if ye ≤ 511 then (0, ((f_X5_addStand I he ye).1), ((f_X5_addStand I he ye).2)) else (1, 0, I))) else (1, 0, I)))
theorem fr_f_X8_stand (I : wI) (he : Int32) (ye : Int32) (q9 : Nat) (h16 : q9 ≠ 16) (h17 : q9 ≠ 17) (h18 : q9 ≠ 18) : (f_X8_stand I he ye).2.2 q9 = I q9 := by
  unfold f_X8_stand
  repeat' split
  all_goals first | with_reducible rfl | (simp only [wU_ne _ _ _ h16, wU_ne _ _ _ h17, wU_ne _ _ _ h18, fr_f_X5_addStand _ _ _ _ h16 h17 h18])
set_option maxRecDepth 20000 in
theorem in_X8_stand_X8 : ∀ w ∈ u_ws RX8 TX8 10, w ∈ wsX8_stand := fun _ h => List.mem_cons_of_mem _ (List.mem_append_left _ (List.mem_append_left _ (List.mem_append_right _ h)))
set_option maxRecDepth 20000 in
theorem inx_X8_stand_IAE : ∀ w ∈ (vx_atS RX8 82 "java/lang/IllegalArgumentException" w_ns).filter goodWord, w ∈ wsX8_stand := fun _ h => List.mem_cons_of_mem _ (List.mem_append_right _ h)
set_option maxHeartbeats 4000000 in
set_option maxRecDepth 100000 in
theorem c_X8_stand (l : Launch) (D : va_G) (y : Nat → ClassId) (b : Nat) (z : Nat → Nat) (G : wG) (I : wI) (J : wJ) (hL : w_full G) (hls : l.stackTraces = false) (he : Int32) (ye : Int32) (hB : 0 ≤ (I 16 5).toInt) : xI l yX8_stand wsX8_stand { frames := 6, cells := 1, slots := 6, locals := 82 } D y b z G I J [.ref (G.1 0), .int he, .int ye] (fun r u => ((f_X8_stand I he ye).1 = 0 ∧ r = (f_X8_stand I he ye).2.1 ∧ u.2.1 = (f_X8_stand I he ye).2.2) ∧ u.1 = G ∧ u.2.2 = J) (fun u => (¬ (f_X8_stand I he ye).1 = 0 ∧ u.1 = w_xn (f_X8_stand I he ye).1 ∧ u.2.2.1 = (f_X8_stand I he ye).2.2) ∧ u.2.1 = G ∧ u.2.2.2 = J) 1 6 := by
  refine w_xenter (by decide) rfl (Nat.le_of_ble_eq_true rfl) rfl ?_
  intro p e s m below meth c ls X hr hlk hnm hw hst hout hl
  have hx := X.1.1
  have hb := X.1.2.1
  obtain ⟨px_c_X8_stand, epx⟩ : ∃ qpx9 : wX → Prop, qpx9 = (fun u => (¬ (f_X8_stand I he ye).1 = 0 ∧ u.1 = w_xn (f_X8_stand I he ye).1 ∧ u.2.2.1 = (f_X8_stand I he ye).2.2) ∧ u.2.1 = G ∧ u.2.2.2 = J) := ⟨_, rfl⟩
  rw [← epx]
  obtain ⟨po_c_X8_stand, epo⟩ : ∃ qpo9 : Int32 → wS → Prop, qpo9 = (fun r u => ((f_X8_stand I he ye).1 = 0 ∧ r = (f_X8_stand I he ye).2.1 ∧ u.2.1 = (f_X8_stand I he ye).2.2) ∧ u.1 = G ∧ u.2.2 = J) := ⟨_, rfl⟩
  rw [← epo]
  refine lv_iload_n hx hb dX8_stand_0 rfl (lv_at hl 1 rfl) ?_
  refine lv_if_lt (tgt := 10) hx hb dX8_stand_1 (by decide) (fun c_1 => ?_) (fun c_1 => ?_)
  · have hp_10 : px_c_X8_stand ("java/lang/IllegalArgumentException", G, I, J) := by
        rw [epx]
        have ef : f_X8_stand I he ye = (1, 0, I) := by unfold f_X8_stand; rw [if_pos c_1]
        exact ⟨⟨by rw [ef]; exact (by decide : ¬ (1 : Int32) = 0), by rw [ef]; exact xn_1.symm, by rw [ef]⟩, rfl, rfl⟩
    exact w_throwW (text := "no such yield") X hw hst hls hout hlk hl (by decide +kernel) (by decide +kernel) (by decide +kernel) (by decide) inx_X8_stand_IAE xg_IAE2 (by decide) xg_IAE3 dX8_stand_10 dX8_stand_13 dX8_stand_14 dX8_stand_17 dX8_stand_20 (Nat.le_of_ble_eq_true rfl) (Nat.le_of_ble_eq_true rfl) (Nat.le_of_ble_eq_true rfl) (Nat.le_of_ble_eq_true rfl) hp_10 (Nat.le_of_ble_eq_true rfl) (Nat.le_of_ble_eq_true rfl)
  · refine lv_iload_n hx hb dX8_stand_4 rfl (lv_at hl 1 rfl) ?_
    refine lv_ldc (v := 1000000) hx hb X.1.2.2.2.1 (X.1.2.2.2.2 (.constant RX8 198 1000000) (by decide +kernel)) dX8_stand_5 ?_
    refine lv_icmp_le (tgt := 21) hx hb dX8_stand_7 (by decide) (fun c_7 => ?_) (fun c_7 => ?_)
    · refine lv_iload_n hx hb dX8_stand_21 rfl (lv_at hl 2 rfl) ?_
      refine lv_iconst (v := 1) hx hb dX8_stand_22 (by decide) ?_
      refine lv_icmp_lt (tgt := 33) hx hb dX8_stand_23 (by decide) (fun c_23 => ?_) (fun c_23 => ?_)
      · have hp_33 : px_c_X8_stand ("java/lang/IllegalArgumentException", G, I, J) := by
            rw [epx]
            have ef : f_X8_stand I he ye = (1, 0, I) := by unfold f_X8_stand; rw [if_neg c_1, if_pos c_7, if_pos c_23]
            exact ⟨⟨by rw [ef]; exact (by decide : ¬ (1 : Int32) = 0), by rw [ef]; exact xn_1.symm, by rw [ef]⟩, rfl, rfl⟩
        exact w_throwW (text := "no such set of years") X hw hst hls hout hlk hl (by decide +kernel) (by decide +kernel) (by decide +kernel) (by decide) inx_X8_stand_IAE xg_IAE2 (by decide) xg_IAE3 dX8_stand_33 dX8_stand_36 dX8_stand_37 dX8_stand_40 dX8_stand_43 (Nat.le_of_ble_eq_true rfl) (Nat.le_of_ble_eq_true rfl) (Nat.le_of_ble_eq_true rfl) (Nat.le_of_ble_eq_true rfl) hp_33 (Nat.le_of_ble_eq_true rfl) (Nat.le_of_ble_eq_true rfl)
      · refine lv_iload_n hx hb dX8_stand_26 rfl (lv_at hl 2 rfl) ?_
        refine lv_sipush (v := 511) hx hb dX8_stand_27 (by decide) ?_
        refine lv_icmp_le (tgt := 44) hx hb dX8_stand_30 (by decide) (fun c_30 => ?_) (fun c_30 => ?_)
        · refine lv_aload_n hx hb dX8_stand_44 rfl (lv_at hl 0 rfl) ?_
          refine w_get X hw 9 7 (hL 0 (by decide)) rfl (by decide) k_X8 in_X8_stand_X8 (by decide) (by decide +kernel) rfl (v := .ref (G.1 16)) rfl dX8_stand_45 ?_
          refine lv_iload_n hx hb dX8_stand_48 rfl (lv_at hl 1 rfl) ?_
          refine lv_iload_n hx hb dX8_stand_49 rfl (lv_at hl 2 rfl) ?_
          refine w_callVi (As := [.int he, .int ye]) (rest := []) X hw hst hl (c_X5_addStand l D y b z G I J hL he ye hB) (cwV 2 X.1.2.2.2.2 gX8_stand_X5_addStand rfl rfl rfl (by decide +kernel) ⟨Nat.le_of_ble_eq_true rfl, Nat.le_of_ble_eq_true rfl⟩) (w_recv X hw (hL 16 (by decide)) rfl (by decide) k_X5) rfl rfl (Nat.le_of_ble_eq_true rfl) dX8_stand_50 ⟨Nat.le_of_ble_eq_true rfl, Nat.le_of_ble_eq_true rfl⟩ (fun r_50_1 u H locs hp_50 hw => ?_)
          obtain ⟨G_50_1, I_50_1, J_50_1⟩ := u
          dsimp only at hw hp_50
          obtain ⟨⟨hp_50, hI_50_1⟩, eG_50, eJ_50⟩ := hp_50
          subst G_50_1 J_50_1
          have hp_53 : po_c_X8_stand r_50_1 (G, I_50_1, J) := by
              obtain rfl := hI_50_1.symm
              obtain rfl := hp_50.symm
              rw [epo]
              have ef : f_X8_stand I he ye = (0, ((f_X5_addStand I he ye).1), ((f_X5_addStand I he ye).2)) := by unfold f_X8_stand; rw [if_neg c_1, if_pos c_7, if_neg c_23, if_pos c_30]
              exact ⟨⟨by rw [ef], by rw [ef], by rw [ef]⟩, rfl, rfl⟩
          exact vx_ret (w_iret X hr hlk hw hp_53 (Nat.le_of_ble_eq_true rfl) (Nat.le_of_ble_eq_true rfl) dX8_stand_53)
        · have hp_33 : px_c_X8_stand ("java/lang/IllegalArgumentException", G, I, J) := by
              rw [epx]
              have ef : f_X8_stand I he ye = (1, 0, I) := by unfold f_X8_stand; rw [if_neg c_1, if_pos c_7, if_neg c_23, if_neg c_30]
              exact ⟨⟨by rw [ef]; exact (by decide : ¬ (1 : Int32) = 0), by rw [ef]; exact xn_1.symm, by rw [ef]⟩, rfl, rfl⟩
          exact w_throwW (text := "no such set of years") X hw hst hls hout hlk hl (by decide +kernel) (by decide +kernel) (by decide +kernel) (by decide) inx_X8_stand_IAE xg_IAE2 (by decide) xg_IAE3 dX8_stand_33 dX8_stand_36 dX8_stand_37 dX8_stand_40 dX8_stand_43 (Nat.le_of_ble_eq_true rfl) (Nat.le_of_ble_eq_true rfl) (Nat.le_of_ble_eq_true rfl) (Nat.le_of_ble_eq_true rfl) hp_33 (Nat.le_of_ble_eq_true rfl) (Nat.le_of_ble_eq_true rfl)
    · have hp_10 : px_c_X8_stand ("java/lang/IllegalArgumentException", G, I, J) := by
          rw [epx]
          have ef : f_X8_stand I he ye = (1, 0, I) := by unfold f_X8_stand; rw [if_neg c_1, if_neg c_7]
          exact ⟨⟨by rw [ef]; exact (by decide : ¬ (1 : Int32) = 0), by rw [ef]; exact xn_1.symm, by rw [ef]⟩, rfl, rfl⟩
      exact w_throwW (text := "no such yield") X hw hst hls hout hlk hl (by decide +kernel) (by decide +kernel) (by decide +kernel) (by decide) inx_X8_stand_IAE xg_IAE2 (by decide) xg_IAE3 dX8_stand_10 dX8_stand_13 dX8_stand_14 dX8_stand_17 dX8_stand_20 (Nat.le_of_ble_eq_true rfl) (Nat.le_of_ble_eq_true rfl) (Nat.le_of_ble_eq_true rfl) (Nat.le_of_ble_eq_true rfl) hp_10 (Nat.le_of_ble_eq_true rfl) (Nat.le_of_ble_eq_true rfl)
def f_X8_plan (I : wI) (k : Int32) : Int32 × Int32 × wI := (if k < 0 then (3, 0, I) else (if k < (f_X5_size I) then (0, ((f_X5_yearOf I k).1), ((f_X5_yearOf I k).2)) else (3, 0, I)))
theorem fr_f_X8_plan (I : wI) (k : Int32) (q9 : Nat) (h16 : q9 ≠ 16) (h19 : q9 ≠ 19) (h20 : q9 ≠ 20) (h21 : q9 ≠ 21) : (f_X8_plan I k).2.2 q9 = I q9 := by
  unfold f_X8_plan
  repeat' split
  all_goals first | with_reducible rfl | (simp only [wU_ne _ _ _ h16, wU_ne _ _ _ h19, wU_ne _ _ _ h20, wU_ne _ _ _ h21, fr_f_X5_yearOf _ _ _ h16 h19 h20 h21])
set_option maxRecDepth 20000 in
theorem in_X8_plan_X8 : ∀ w ∈ u_ws RX8 TX8 10, w ∈ wsX8_plan := fun _ h => List.mem_cons_of_mem _ (List.mem_append_left _ (List.mem_append_left _ (List.mem_append_right _ h)))
set_option maxRecDepth 20000 in
theorem inx_X8_plan_IOE : ∀ w ∈ (vx_atS RX8 290 "java/lang/IndexOutOfBoundsException" w_ns).filter goodWord, w ∈ wsX8_plan := fun _ h => List.mem_cons_of_mem _ (List.mem_append_right _ h)
set_option maxHeartbeats 4000000 in
set_option maxRecDepth 100000 in
theorem c_X8_plan (l : Launch) (D : va_G) (y : Nat → ClassId) (b : Nat) (z : Nat → Nat) (G : wG) (I : wI) (J : wJ) (hL : w_full G) (hls : l.stackTraces = false) (k : Int32) (hS : 0 ≤ (I 16 5).toInt ∧ (I 16 5).toInt ≤ 6) : xI l yX8_plan wsX8_plan { frames := 17, cells := 1, slots := 6, locals := 400 } D y b z G I J [.ref (G.1 0), .int k] (fun r u => ((f_X8_plan I k).1 = 0 ∧ r = (f_X8_plan I k).2.1 ∧ u.2.1 = (f_X8_plan I k).2.2) ∧ u.1 = G ∧ u.2.2 = J) (fun u => (¬ (f_X8_plan I k).1 = 0 ∧ u.1 = w_xn (f_X8_plan I k).1 ∧ u.2.2.1 = (f_X8_plan I k).2.2) ∧ u.2.1 = G ∧ u.2.2.2 = J) 1 6 := by
  refine w_xenter (by decide) rfl (Nat.le_of_ble_eq_true rfl) rfl ?_
  intro p e s m below meth c ls X hr hlk hnm hw hst hout hl
  have hx := X.1.1
  have hb := X.1.2.1
  obtain ⟨px_c_X8_plan, epx⟩ : ∃ qpx9 : wX → Prop, qpx9 = (fun u => (¬ (f_X8_plan I k).1 = 0 ∧ u.1 = w_xn (f_X8_plan I k).1 ∧ u.2.2.1 = (f_X8_plan I k).2.2) ∧ u.2.1 = G ∧ u.2.2.2 = J) := ⟨_, rfl⟩
  rw [← epx]
  obtain ⟨po_c_X8_plan, epo⟩ : ∃ qpo9 : Int32 → wS → Prop, qpo9 = (fun r u => ((f_X8_plan I k).1 = 0 ∧ r = (f_X8_plan I k).2.1 ∧ u.2.1 = (f_X8_plan I k).2.2) ∧ u.1 = G ∧ u.2.2 = J) := ⟨_, rfl⟩
  rw [← epo]
  refine lv_iload_n hx hb dX8_plan_0 rfl (lv_at hl 1 rfl) ?_
  refine lv_if_lt (tgt := 15) hx hb dX8_plan_1 (by decide) (fun c_1 => ?_) (fun c_1 => ?_)
  · have hp_15 : px_c_X8_plan ("java/lang/IndexOutOfBoundsException", G, I, J) := by
        rw [epx]
        have ef : f_X8_plan I k = (3, 0, I) := by unfold f_X8_plan; rw [if_pos c_1]
        exact ⟨⟨by rw [ef]; exact (by decide : ¬ (3 : Int32) = 0), by rw [ef]; exact xn_3.symm, by rw [ef]⟩, rfl, rfl⟩
    exact w_throwW (text := "no such stand") X hw hst hls hout hlk hl (by decide +kernel) (by decide +kernel) (by decide +kernel) (by decide) inx_X8_plan_IOE xg_IOE2 (by decide) xg_IOE3 dX8_plan_15 dX8_plan_18 dX8_plan_19 dX8_plan_22 dX8_plan_25 (Nat.le_of_ble_eq_true rfl) (Nat.le_of_ble_eq_true rfl) (Nat.le_of_ble_eq_true rfl) (Nat.le_of_ble_eq_true rfl) hp_15 (Nat.le_of_ble_eq_true rfl) (Nat.le_of_ble_eq_true rfl)
  · refine lv_iload_n hx hb dX8_plan_4 rfl (lv_at hl 1 rfl) ?_
    refine lv_aload_n hx hb dX8_plan_5 rfl (lv_at hl 0 rfl) ?_
    refine w_get X hw 9 7 (hL 0 (by decide)) rfl (by decide) k_X8 in_X8_plan_X8 (by decide) (by decide +kernel) rfl (v := .ref (G.1 16)) rfl dX8_plan_6 ?_
    refine w_callVi (As := []) (rest := [.int k]) X hw hst hl (c_X5_size l D y b z G I J hL ) (cwV 0 X.1.2.2.2.2 gX8_plan_X5_size rfl rfl rfl (by decide +kernel) ⟨Nat.le_of_ble_eq_true rfl, Nat.le_of_ble_eq_true rfl⟩) (w_recv X hw (hL 16 (by decide)) rfl (by decide) k_X5) rfl rfl (Nat.le_of_ble_eq_true rfl) dX8_plan_9 ⟨Nat.le_of_ble_eq_true rfl, Nat.le_of_ble_eq_true rfl⟩ (fun r_9_1 u H locs hp_9 hw => ?_)
    obtain ⟨hp_9, rfl⟩ := hp_9
    dsimp only at hw
    refine lv_icmp_lt (tgt := 26) hx hb dX8_plan_12 (by decide) (fun c_12 => ?_) (fun c_12 => ?_)
    · refine lv_aload_n hx hb dX8_plan_26 rfl (lv_at hl 0 rfl) ?_
      refine w_get X hw 9 7 (hL 0 (by decide)) rfl (by decide) k_X8 in_X8_plan_X8 (by decide) (by decide +kernel) rfl (v := .ref (G.1 16)) rfl dX8_plan_27 ?_
      refine lv_iload_n hx hb dX8_plan_30 rfl (lv_at hl 1 rfl) ?_
      refine w_callVi (As := [.int k]) (rest := []) X hw hst hl (c_X5_yearOf l D y b z G I J hL k hS) (cwV 1 X.1.2.2.2.2 gX8_plan_X5_yearOf rfl rfl rfl (by decide +kernel) ⟨Nat.le_of_ble_eq_true rfl, Nat.le_of_ble_eq_true rfl⟩) (w_recv X hw (hL 16 (by decide)) rfl (by decide) k_X5) rfl rfl (Nat.le_of_ble_eq_true rfl) dX8_plan_31 ⟨Nat.le_of_ble_eq_true rfl, Nat.le_of_ble_eq_true rfl⟩ (fun r_31_2 u H locs hp_31 hw => ?_)
      obtain ⟨G_31_2, I_31_2, J_31_2⟩ := u
      dsimp only at hw hp_31
      obtain ⟨⟨hp_31, hI_31_2⟩, eG_31, eJ_31⟩ := hp_31
      subst G_31_2 J_31_2
      have hp_34 : po_c_X8_plan r_31_2 (G, I_31_2, J) := by
          obtain rfl := hp_9.symm
          obtain rfl := hI_31_2.symm
          obtain rfl := hp_31.symm
          rw [epo]
          have ef : f_X8_plan I k = (0, ((f_X5_yearOf I k).1), ((f_X5_yearOf I k).2)) := by unfold f_X8_plan; rw [if_neg c_1, if_pos c_12]
          exact ⟨⟨by rw [ef], by rw [ef], by rw [ef]⟩, rfl, rfl⟩
      exact vx_ret (w_iret X hr hlk hw hp_34 (Nat.le_of_ble_eq_true rfl) (Nat.le_of_ble_eq_true rfl) dX8_plan_34)
    · have hp_15 : px_c_X8_plan ("java/lang/IndexOutOfBoundsException", G, I, J) := by
          obtain rfl := hp_9.symm
          rw [epx]
          have ef : f_X8_plan I k = (3, 0, I) := by unfold f_X8_plan; rw [if_neg c_1, if_neg c_12]
          exact ⟨⟨by rw [ef]; exact (by decide : ¬ (3 : Int32) = 0), by rw [ef]; exact xn_3.symm, by rw [ef]⟩, rfl, rfl⟩
      exact w_throwW (text := "no such stand") X hw hst hls hout hlk hl (by decide +kernel) (by decide +kernel) (by decide +kernel) (by decide) inx_X8_plan_IOE xg_IOE2 (by decide) xg_IOE3 dX8_plan_15 dX8_plan_18 dX8_plan_19 dX8_plan_22 dX8_plan_25 (Nat.le_of_ble_eq_true rfl) (Nat.le_of_ble_eq_true rfl) (Nat.le_of_ble_eq_true rfl) (Nat.le_of_ble_eq_true rfl) hp_15 (Nat.le_of_ble_eq_true rfl) (Nat.le_of_ble_eq_true rfl)
set_option maxRecDepth 20000 in
theorem in_X8_lay_X8 : ∀ w ∈ u_ws RX8 TX8 10, w ∈ wsX8_lay := fun _ h => List.mem_cons_of_mem _ (List.mem_append_left _ (List.mem_append_left _ (List.mem_append_right _ h)))
set_option maxRecDepth 20000 in
theorem inx_X8_lay_IAE : ∀ w ∈ (vx_atS RX8 82 "java/lang/IllegalArgumentException" w_ns).filter goodWord, w ∈ wsX8_lay := fun _ h => List.mem_cons_of_mem _ (List.mem_append_right _ h)
set_option maxHeartbeats 4000000 in
set_option maxRecDepth 100000 in
theorem c_X8_lay (l : Launch) (D : va_G) (y : Nat → ClassId) (b : Nat) (z : Nat → Nat) (G : wG) (I : wI) (J : wJ) (hL : w_full G) (hls : l.stackTraces = false) (ce lo hi2 : Int32) : xV l yX8_lay wsX8_lay { frames := 6, cells := 1, slots := 6, locals := 82 } D y b z G I J [.ref (G.1 0), .int ce, .int lo, .int hi2] (fun u => ((¬ ce < 1 ∧ ce ≤ 60) ∧ u.2.1 = wU I 10 6 ce ∧ u.2.2 = wV J 10 7 (p_lay I ce lo hi2)) ∧ u.1 = G) (fun u => (u.1 = "java/lang/IllegalArgumentException" ∧ ¬ (¬ ce < 1 ∧ ce ≤ 60)) ∧ u.2 = (G, I, J)) 1 6 := by
  refine w_xenter (by decide) rfl (Nat.le_of_ble_eq_true rfl) rfl ?_
  intro p e s m below meth c ls X hr hlk hnm hw hst hout hl
  have hx := X.1.1
  have hb := X.1.2.1
  obtain ⟨px_c_X8_lay, epx⟩ : ∃ qpx9 : wX → Prop, qpx9 = (fun u => (u.1 = "java/lang/IllegalArgumentException" ∧ ¬ (¬ ce < 1 ∧ ce ≤ 60)) ∧ u.2 = (G, I, J)) := ⟨_, rfl⟩
  rw [← epx]
  obtain ⟨po_c_X8_lay, epo⟩ : ∃ qpo9 : wS → Prop, qpo9 = (fun u => ((¬ ce < 1 ∧ ce ≤ 60) ∧ u.2.1 = wU I 10 6 ce ∧ u.2.2 = wV J 10 7 (p_lay I ce lo hi2)) ∧ u.1 = G) := ⟨_, rfl⟩
  rw [← epo]
  refine lv_iload_n hx hb dX8_lay_0 rfl (lv_at hl 1 rfl) ?_
  refine lv_iconst (v := 1) hx hb dX8_lay_1 (by decide) ?_
  refine lv_icmp_lt (tgt := 11) hx hb dX8_lay_2 (by decide) (fun c_2 => ?_) (fun c_2 => ?_)
  · have hp_11 : px_c_X8_lay ("java/lang/IllegalArgumentException", G, I, J) := by rw [epx]; exact ⟨⟨rfl, fun q => q.1 c_2⟩, rfl⟩
    exact w_throwS (text := "no such number of cells") X hw hst hls hout hlk hl (by decide +kernel) (by decide +kernel) (by decide +kernel) (by decide) inx_X8_lay_IAE xg_IAE2 (by decide) xg_IAE3 dX8_lay_11 dX8_lay_14 dX8_lay_15 dX8_lay_17 dX8_lay_20 (Nat.le_of_ble_eq_true rfl) (Nat.le_of_ble_eq_true rfl) (Nat.le_of_ble_eq_true rfl) (Nat.le_of_ble_eq_true rfl) hp_11 (Nat.le_of_ble_eq_true rfl) (Nat.le_of_ble_eq_true rfl)
  · refine lv_iload_n hx hb dX8_lay_5 rfl (lv_at hl 1 rfl) ?_
    refine lv_bipush (v := 60) hx hb dX8_lay_6 (by decide) ?_
    refine lv_icmp_le (tgt := 21) hx hb dX8_lay_8 (by decide) (fun c_8 => ?_) (fun c_8 => ?_)
    · refine lv_aload_n hx hb dX8_lay_21 rfl (lv_at hl 0 rfl) ?_
      refine w_get X hw 9 6 (hL 0 (by decide)) rfl (by decide) k_X8 in_X8_lay_X8 (by decide) (by decide +kernel) rfl (v := .ref (G.1 10)) rfl dX8_lay_22 ?_
      refine lv_iload_n hx hb dX8_lay_25 rfl (lv_at hl 1 rfl) ?_
      refine lv_iload_n hx hb dX8_lay_26 rfl (lv_at hl 2 rfl) ?_
      refine lv_iload_n hx hb dX8_lay_27 rfl (lv_at hl 3 rfl) ?_
      refine w_callVv (As := [.int ce, .int lo, .int hi2]) (rest := []) X hw hst hl (c_X0_layStrip l D y b z G I J hL ce lo hi2) (cwV 3 X.1.2.2.2.2 gX8_lay_X0_layStrip rfl rfl rfl (by decide +kernel) ⟨Nat.le_of_ble_eq_true rfl, Nat.le_of_ble_eq_true rfl⟩) (w_recv X hw (hL 10 (by decide)) rfl (by decide) k_X0) rfl rfl (Nat.le_of_ble_eq_true rfl) dX8_lay_28 ⟨Nat.le_of_ble_eq_true rfl, Nat.le_of_ble_eq_true rfl⟩ (fun u H locs hp_28 hw => ?_)
      obtain ⟨G_28_1, I_28_1, J_28_1⟩ := u
      dsimp only at hw hp_28
      obtain ⟨hp_28, eG_28⟩ := hp_28
      subst G_28_1
      have hp_31 : po_c_X8_lay (G, I_28_1, J_28_1) := by rw [epo]; exact ⟨⟨⟨c_2, c_8⟩, hp_28.1, hp_28.2⟩, rfl⟩
      exact vx_ret (w_vret X hr hlk hw hp_31 (Nat.le_of_ble_eq_true rfl) (Nat.le_of_ble_eq_true rfl) dX8_lay_31)
    · have hp_11 : px_c_X8_lay ("java/lang/IllegalArgumentException", G, I, J) := by rw [epx]; exact ⟨⟨rfl, fun q => c_8 q.2⟩, rfl⟩
      exact w_throwS (text := "no such number of cells") X hw hst hls hout hlk hl (by decide +kernel) (by decide +kernel) (by decide +kernel) (by decide) inx_X8_lay_IAE xg_IAE2 (by decide) xg_IAE3 dX8_lay_11 dX8_lay_14 dX8_lay_15 dX8_lay_17 dX8_lay_20 (Nat.le_of_ble_eq_true rfl) (Nat.le_of_ble_eq_true rfl) (Nat.le_of_ble_eq_true rfl) (Nat.le_of_ble_eq_true rfl) hp_11 (Nat.le_of_ble_eq_true rfl) (Nat.le_of_ble_eq_true rfl)
set_option maxRecDepth 20000 in
theorem in_X8_moneyOfSoldLots_X3 : ∀ w ∈ u_ws RX3 TX3 6, w ∈ wsX8_moneyOfSoldLots := fun _ h => List.mem_cons_of_mem _ (List.mem_append_left _ (List.mem_append_right _ h))
set_option maxRecDepth 20000 in
theorem in_X8_moneyOfSoldLots_X8 : ∀ w ∈ u_ws RX8 TX8 10, w ∈ wsX8_moneyOfSoldLots := fun _ h => List.mem_cons_of_mem _ (List.mem_append_left _ (List.mem_append_left _ (List.mem_append_right _ h)))
def l_X8_money  : Nat → wI → Int32 → Int32 → wI × Int32 × Int32
  | 0, I, k, n => (I, k, n)
  | nf + 1, I, k, n => (if (f_Jx4a65c_size_8abf5 I 9) ≤ k then (I, k, n) else (if f_X3_isSold I (w_lt k.toNatClampNeg) = 1 then (l_X8_money nf I (k + 1) (n + (I (w_lt k.toNatClampNeg) 5)) ) else (l_X8_money nf I (k + 1) n )))
set_option maxHeartbeats 4000000 in
set_option maxRecDepth 100000 in
theorem lp_X8_money {p : Program} {l : Launch} {e : Env} {R : Room} {s : State} {m : MethodId} {args : Array Value} {below : List Frame} {meth : Method} {c : Code} {cells slots : Nat} {Q : State → Prop} {D : va_G} {y : Nat → ClassId} {b : Nat} {z : Nat → Nat} {G : wG} {J : wJ}  (X : wCx p m c cX8_moneyOfSoldLots 4 s args wsX8_moneyOfSoldLots yX8_moneyOfSoldLots.cls D y b) (hst : St z b s) (hL : w_full G) (hRf : 3 ≤ R.frames) (hRl : 64 ≤ R.locals) (hRc : cells ≤ R.cells) (hRs : slots ≤ R.slots)   : ∀ (nf : Nat) (I : wI) (k : Int32) (n : Int32) (H : Heap) (locs : List Loc) (ls : Array Slot), (0 ≤ k.toInt ∧ k.toInt ≤ (I 9 2).toInt ∧ (I 9 2).toInt ≤ 40 ∧ wLT G 9 w_lt (I 9 2).toInt) → (((I 9 2).toInt - k.toInt).toNat < nf) → Wh D y b G I J s H locs → lv_has ls 4 [(2, .int k), (1, .int n), (0, .ref (G.1 0))] → (∀ (H : Heap) (locs : List Loc) (ls : Array Slot), Wh D y b G (l_X8_money nf I k n ).1 J s H locs → lv_has ls 4 [(2, .int (l_X8_money nf I k n ).2.1), (1, .int (l_X8_money nf I k n ).2.2), (0, .ref (G.1 0))] → W p l e R s m args below meth c H locs cells slots Q (F0 m 47 ls [])) → W p l e R s m args below meth c H locs cells slots Q (F0 m 4 ls []) := by
  have hx := X.1.1
  have hb := X.1.2.1
  intro nf
  induction nf with
  | zero => intro I k n H locs ls hi hm; exact absurd hm (by omega)
  | succ nf ih =>
    intro I k n H locs ls hi hm hw hl kk
    refine lv_iload_n hx hb dX8_moneyOfSoldLots_4 rfl (lv_at hl 0 rfl) ?_
    refine lv_aload_n hx hb dX8_moneyOfSoldLots_5 rfl (lv_at hl 2 rfl) ?_
    refine w_get X hw 9 5 (hL 0 (by decide)) rfl (by decide) k_X8 in_X8_moneyOfSoldLots_X8 (by decide) (by decide +kernel) rfl (v := .ref (G.1 9)) rfl dX8_moneyOfSoldLots_6 ?_
    refine w_callVi (As := []) (rest := [.int k]) X hw hst hl (c_Jx4a65c_size_8abf5 l D y b z G I J hL 9  (hL 9 (by decide)) rfl) (cwV 0 X.1.2.2.2.2 gX8_moneyOfSoldLots_Jx4a65c_size_8abf5 rfl rfl rfl (by decide +kernel) ⟨Nat.le_trans (Nat.le_of_ble_eq_true rfl) hRf, Nat.le_trans (Nat.le_of_ble_eq_true rfl) hRl⟩) (w_recv X hw (hL 9 (by decide)) rfl (by decide) k_Jx4a65c) rfl rfl (Nat.le_of_ble_eq_true rfl) dX8_moneyOfSoldLots_9 ⟨hRc, hRs⟩ (fun r_9_1 u H locs hp_9 hw => ?_)
    obtain ⟨hp_9, rfl⟩ := hp_9
    dsimp only at hw
    refine lv_icmp_ge (tgt := 47) hx hb dX8_moneyOfSoldLots_12 (by decide) (fun c_12 => ?_) (fun c_12 => ?_)
    · have hw9 := hw
      have hl9 := hl
      obtain rfl := hp_9.symm
      have el : l_X8_money (nf + 1) I k n  = (I, k, n) := by rw [l_X8_money]; rw [if_pos c_12]
      exact kk _ _ _ (by rw [el]; exact hw9) (by rw [el]; exact (lv_sub hl9 [0, 1, 2] rfl))
    · have hc9 : ¬ I 9 2 ≤ k := by rw [hp_9] at c_12; exact c_12
      have hg9 := ls_k hc9 hi.1
      have he9 := hi.2.2.2 _ hg9.2.2
      refine lv_aload_n hx hb dX8_moneyOfSoldLots_15 rfl (lv_at hl 2 rfl) ?_
      refine w_get X hw 9 5 (hL 0 (by decide)) rfl (by decide) k_X8 in_X8_moneyOfSoldLots_X8 (by decide) (by decide +kernel) rfl (v := .ref (G.1 9)) rfl dX8_moneyOfSoldLots_16 ?_
      refine lv_iload_n hx hb dX8_moneyOfSoldLots_19 rfl (lv_at hl 0 rfl) ?_
      refine w_callVr (As := [.int k]) (rest := []) X hw hst hl (c_AL_get l D y b z G I J hL 9 (w_lt k.toNatClampNeg) k hg9.1 hg9.2.1 (hL 9 (by decide)) rfl he9.2.2.1 rfl (ls_in hg9.1 he9.2.2.2) he9.2.1) (cwV 1 X.1.2.2.2.2 gX8_moneyOfSoldLots_Jx4a65c_get_915e3 rfl rfl rfl (by decide +kernel) ⟨Nat.le_trans (Nat.le_of_ble_eq_true rfl) hRf, Nat.le_trans (Nat.le_of_ble_eq_true rfl) hRl⟩) (w_recv X hw (hL 9 (by decide)) rfl (by decide) k_Jx4a65c) rfl rfl (Nat.le_of_ble_eq_true rfl) dX8_moneyOfSoldLots_20 ⟨hRc, hRs⟩ (fun u H locs hp_20 hw => ?_)
      obtain ⟨ra_20, u⟩ := u
      obtain ⟨hp_20, rfl⟩ := hp_20
      dsimp only at hw
      dsimp only at hp_20
      subst hp_20
      refine w_cast X hw he9.1 (w_kd_lt _) (by decide) k_X3 (by decide +kernel) dX8_moneyOfSoldLots_23 ?_
      refine lv_astore_n (lv' := [(3, .ref (G.1 (w_lt k.toNatClampNeg))), (2, .int k), (1, .int n), (0, .ref (G.1 0))]) hx hb dX8_moneyOfSoldLots_26 rfl hl (by decide) rfl (fun ls hl => ?_)
      refine lv_aload_n hx hb dX8_moneyOfSoldLots_27 rfl (lv_at hl 0 rfl) ?_
      refine w_callVi (As := []) (rest := []) X hw hst hl (c_X3_isSold l D y b z G I J hL (w_lt k.toNatClampNeg)  he9.1 (w_kd_lt _)) (cwV 0 X.1.2.2.2.2 gX8_moneyOfSoldLots_X3_isSold rfl rfl rfl (by decide +kernel) ⟨Nat.le_trans (Nat.le_of_ble_eq_true rfl) hRf, Nat.le_trans (Nat.le_of_ble_eq_true rfl) hRl⟩) (w_recv X hw he9.1 (w_kd_lt _) (by decide) k_X3) rfl rfl (Nat.le_of_ble_eq_true rfl) dX8_moneyOfSoldLots_28 ⟨hRc, hRs⟩ (fun r_28_3 u H locs hp_28 hw => ?_)
      obtain ⟨hp_28, rfl⟩ := hp_28
      dsimp only at hw
      rcases f_X3_isSold_01  I (w_lt k.toNatClampNeg) with q_28 | ⟨q_28, q0_28⟩
      · rw [q_28] at hp_28
        subst r_28_3
        refine lv_if_eq (tgt := 41) hx hb dX8_moneyOfSoldLots_31 (by decide) (fun c_31 => ?_) (fun c_31 => ?_)
        · exact absurd c_31 (by decide)
        · refine lv_iload_n hx hb dX8_moneyOfSoldLots_34 rfl (lv_at hl 2 rfl) ?_
          refine lv_aload_n hx hb dX8_moneyOfSoldLots_35 rfl (lv_at hl 0 rfl) ?_
          refine w_getN X hw 4 5 he9.1 (w_kd_lt _) (by decide) k_X3 in_X8_moneyOfSoldLots_X3 (by decide) (hst.1 (RX8, 241, "CorkForest$Lot", "price", "I") (by decide)) rfl (v := .int (I (w_lt k.toNatClampNeg) 5)) rfl dX8_moneyOfSoldLots_36 ?_
          refine lv_iadd hx hb dX8_moneyOfSoldLots_39 ?_
          refine lv_topi (fun x_4 ex_4 => ?_)
          refine lv_istore_n (lv' := [(1, .int x_4), (3, .ref (G.1 (w_lt k.toNatClampNeg))), (2, .int k), (0, .ref (G.1 0))]) hx hb dX8_moneyOfSoldLots_40 rfl hl (by decide) rfl (fun ls hl => ?_)
          obtain ⟨x_5, ex_5⟩ : ∃ y : Int32, y = k + 1 := ⟨_, rfl⟩
          refine lv_iinc (v := x_5) (lv' := [(2, .int x_5), (1, .int x_4), (3, .ref (G.1 (w_lt k.toNatClampNeg))), (0, .ref (G.1 0))]) hx hb dX8_moneyOfSoldLots_41 hl (k := 2) rfl (by rw [ex_5]; rfl) (by decide) rfl (fun ls hl => ?_)
          refine lv_goto (tgt := 4) hx hb dX8_moneyOfSoldLots_44 (by decide) ?_
          have hw9 := hw
          have hl9 := hl
          obtain rfl := hp_9.symm
          obtain rfl := ex_4.symm
          obtain rfl := ex_5.symm
          have el : l_X8_money (nf + 1) I k n  = l_X8_money nf I (k + 1) (n + (I (w_lt k.toNatClampNeg) 5))  := by rw [l_X8_money]; rw [if_neg c_12, if_pos q_28]
          exact ih I (k + 1) (n + (I (w_lt k.toNatClampNeg) 5)) _ _ _ (li_inv c_12 hi) (li_m c_12 hi hm) hw9 (lv_sub hl9 [0, 1, 3] rfl) (fun H locs ls hw hl => kk H locs ls (by rw [el]; exact hw) (by rw [el]; exact hl))
      · rw [q0_28] at hp_28
        subst r_28_3
        refine lv_if_eq (tgt := 41) hx hb dX8_moneyOfSoldLots_31 (by decide) (fun c_31 => ?_) (fun c_31 => ?_)
        · obtain ⟨x_6, ex_6⟩ : ∃ y : Int32, y = k + 1 := ⟨_, rfl⟩
          refine lv_iinc (v := x_6) (lv' := [(2, .int x_6), (3, .ref (G.1 (w_lt k.toNatClampNeg))), (1, .int n), (0, .ref (G.1 0))]) hx hb dX8_moneyOfSoldLots_41 hl (k := 1) rfl (by rw [ex_6]; rfl) (by decide) rfl (fun ls hl => ?_)
          refine lv_goto (tgt := 4) hx hb dX8_moneyOfSoldLots_44 (by decide) ?_
          have hw9 := hw
          have hl9 := hl
          obtain rfl := hp_9.symm
          obtain rfl := ex_6.symm
          have el : l_X8_money (nf + 1) I k n  = l_X8_money nf I (k + 1) n  := by rw [l_X8_money]; rw [if_neg c_12, if_neg q_28]
          exact ih I (k + 1) n _ _ _ (li_inv c_12 hi) (li_m c_12 hi hm) hw9 (lv_sub hl9 [0, 2, 3] rfl) (fun H locs ls hw hl => kk H locs ls (by rw [el]; exact hw) (by rw [el]; exact hl))
        · exact absurd (by decide) c_31
theorem ro_X8_money : ∀ (nf : Nat) (I : wI) (k : Int32) (n : Int32) , (l_X8_money nf I k n ).1 = I := by
  intro nf
  induction nf with
  | zero => intros; rfl
  | succ nf ih =>
    intro I k n 
    rw [l_X8_money]
    repeat' split
    all_goals first | with_reducible rfl | exact ih _ _ _ 
def f_X8_moneyOfSoldLots (I : wI)  : Int32 := ((l_X8_money  41 I 0 0).2.2)
set_option maxHeartbeats 4000000 in
set_option maxRecDepth 100000 in
theorem c_X8_moneyOfSoldLots (l : Launch) (D : va_G) (y : Nat → ClassId) (b : Nat) (z : Nat → Nat) (G : wG) (I : wI) (J : wJ) (hL : w_full G)  (hN : 0 ≤ (I 9 2).toInt ∧ (I 9 2).toInt ≤ 40) (hNl : wLT G 9 w_lt (I 9 2).toInt) : mI l yX8_moneyOfSoldLots wsX8_moneyOfSoldLots { frames := 3, cells := 0, slots := 0, locals := 64 } D y b z G I J [.ref (G.1 0)] (fun r u => r = f_X8_moneyOfSoldLots I ∧ u = (G, I, J)) 0 0 := by
  refine w_enter (by decide) rfl (Nat.le_of_ble_eq_true rfl) rfl ?_
  intro p e s m below meth c ls X hr hlk hnm hw hst hl
  have hx := X.1.1
  have hb := X.1.2.1
  obtain ⟨po_c_X8_moneyOfSoldLots, epo⟩ : ∃ qpo9 : Int32 → wS → Prop, qpo9 = (fun r u => r = f_X8_moneyOfSoldLots I ∧ u = (G, I, J)) := ⟨_, rfl⟩
  rw [← epo]
  refine lv_iconst (v := 0) hx hb dX8_moneyOfSoldLots_0 (by decide) ?_
  refine lv_istore_n (lv' := [(1, .int 0), (0, .ref (G.1 0))]) hx hb dX8_moneyOfSoldLots_1 rfl hl (by decide) rfl (fun ls hl => ?_)
  refine lv_iconst (v := 0) hx hb dX8_moneyOfSoldLots_2 (by decide) ?_
  refine lv_istore_n (lv' := [(2, .int 0), (1, .int 0), (0, .ref (G.1 0))]) hx hb dX8_moneyOfSoldLots_3 rfl hl (by decide) rfl (fun ls hl => ?_)
  refine lp_X8_money  X hst hL (Nat.le_of_ble_eq_true rfl) (Nat.le_of_ble_eq_true rfl) (Nat.le_of_ble_eq_true rfl) (Nat.le_of_ble_eq_true rfl)   41 I 0 0 _ _ _ (⟨by decide, hN.1, hN.2, hNl⟩) (li_0 hN) hw (lv_sub hl [0, 1, 2] rfl) (fun H locs ls hw hl => ?_)
  obtain ⟨Q_1, eQ_1⟩ : ∃ q9 : wI × Int32 × Int32, q9 = l_X8_money  41 I 0 0 := ⟨_, rfl⟩
  rw [← eQ_1] at hw hl
  rw [show Q_1.1 = I from by rw [eQ_1]; exact ro_X8_money _ _ _ _ ] at hw
  refine lv_iload_n hx hb dX8_moneyOfSoldLots_47 rfl (lv_at hl 1 rfl) ?_
  have hp_48 : po_c_X8_moneyOfSoldLots Q_1.2.2 (G, I, J) := by
      obtain rfl := eQ_1.symm
      rw [epo]
      refine ⟨Eq.symm ?_, rfl⟩
      rfl
  exact w_iret X hr hlk hw hp_48 (Nat.le_of_ble_eq_true rfl) (Nat.le_of_ble_eq_true rfl) dX8_moneyOfSoldLots_48
def f_X8_count (I : wI) (J : wJ) (wh : Int32) : Int32 := (if wh = 0 then (I 0 8) else (if wh = 1 then (f_Jx4a65c_size_8abf5 I 7) else (if wh = 2 then (f_Jx4a65c_size_8abf5 I 8) else (if wh = 3 then (f_Jx4a65c_size_8abf5 I 9) else (if wh = 4 then (f_X8_soldLots I) else (if wh = 5 then (f_X8_moneyOfSoldLots I) else (if wh = 6 then (f_X0_cells I) else (if wh = 7 then (f_X0_flawsOfStrip I J) else (if wh = 8 then (f_X0_sorts I) else (if wh = 9 then (f_X5_size I) else (if wh = 10 then (f_X8_markedTrees I) else (-1))))))))))))
set_option maxRecDepth 20000 in
theorem in_X8_count_X8 : ∀ w ∈ u_ws RX8 TX8 10, w ∈ wsX8_count := fun _ h => List.mem_cons_of_mem _ (List.mem_append_left _ (List.mem_append_left _ (List.mem_append_left _ (List.mem_append_left _ (List.mem_append_left _ (List.mem_append_right _ h))))))
set_option maxHeartbeats 4000000 in
set_option maxRecDepth 100000 in
theorem c_X8_count (l : Launch) (D : va_G) (y : Nat → ClassId) (b : Nat) (z : Nat → Nat) (G : wG) (I : wI) (J : wJ) (hL : w_full G) (wh : Int32) (hT : 0 ≤ (I 7 2).toInt ∧ (I 7 2).toInt ≤ 40) (hTl : wLT G 7 w_tr (I 7 2).toInt) (hN : 0 ≤ (I 9 2).toInt ∧ (I 9 2).toInt ≤ 40) (hNl : wLT G 9 w_lt (I 9 2).toInt) : mI l yX8_count wsX8_count { frames := 4, cells := 0, slots := 0, locals := 87 } D y b z G I J [.ref (G.1 0), .int wh] (fun r u => r = f_X8_count I J wh ∧ u = (G, I, J)) 0 0 := by
  refine w_enter (by decide) rfl (Nat.le_of_ble_eq_true rfl) rfl ?_
  intro p e s m below meth c ls X hr hlk hnm hw hst hl
  have hx := X.1.1
  have hb := X.1.2.1
  obtain ⟨po_c_X8_count, epo⟩ : ∃ qpo9 : Int32 → wS → Prop, qpo9 = (fun r u => r = f_X8_count I J wh ∧ u = (G, I, J)) := ⟨_, rfl⟩
  rw [← epo]
  refine lv_iload_n hx hb dX8_count_0 rfl (lv_at hl 1 rfl) ?_
  by_cases s_1_0 : wh = 0
  · refine lv_tableIn (tgt := 60) hx hb dX8_count_1 (by rw [s_1_0]; decide) (by rw [s_1_0]; decide) (by rw [s_1_0]; rfl) (by decide) ?_
    refine lv_aload_n hx hb dX8_count_60 rfl (lv_at hl 0 rfl) ?_
    refine w_get X hw 9 8 (hL 0 (by decide)) rfl (by decide) k_X8 in_X8_count_X8 (by decide) (by decide +kernel) rfl (v := .int (I 0 8)) rfl dX8_count_61 ?_
    have hp_64 : po_c_X8_count (I 0 8) (G, I, J) := by
        rw [epo]
        refine ⟨Eq.symm ?_, rfl⟩
        unfold f_X8_count; rw [if_pos s_1_0]
    exact w_iret X hr hlk hw hp_64 (Nat.le_of_ble_eq_true rfl) (Nat.le_of_ble_eq_true rfl) dX8_count_64
  by_cases s_1_1 : wh = 1
  · refine lv_tableIn (tgt := 65) hx hb dX8_count_1 (by rw [s_1_1]; decide) (by rw [s_1_1]; decide) (by rw [s_1_1]; rfl) (by decide) ?_
    refine lv_aload_n hx hb dX8_count_65 rfl (lv_at hl 0 rfl) ?_
    refine w_get X hw 9 3 (hL 0 (by decide)) rfl (by decide) k_X8 in_X8_count_X8 (by decide) (by decide +kernel) rfl (v := .ref (G.1 7)) rfl dX8_count_66 ?_
    refine w_callVi (As := []) (rest := []) X hw hst hl (c_Jx4a65c_size_8abf5 l D y b z G I J hL 7  (hL 7 (by decide)) rfl) (cwV 0 X.1.2.2.2.2 gX8_count_Jx4a65c_size_8abf5 rfl rfl rfl (by decide +kernel) ⟨Nat.le_of_ble_eq_true rfl, Nat.le_of_ble_eq_true rfl⟩) (w_recv X hw (hL 7 (by decide)) rfl (by decide) k_Jx4a65c) rfl rfl (Nat.le_of_ble_eq_true rfl) dX8_count_69 ⟨Nat.le_of_ble_eq_true rfl, Nat.le_of_ble_eq_true rfl⟩ (fun r_69_1 u H locs hp_69 hw => ?_)
    obtain ⟨hp_69, rfl⟩ := hp_69
    dsimp only at hw
    have hp_72 : po_c_X8_count r_69_1 (G, I, J) := by
        obtain rfl := hp_69.symm
        rw [epo]
        refine ⟨Eq.symm ?_, rfl⟩
        unfold f_X8_count; rw [if_neg s_1_0, if_pos s_1_1]
    exact w_iret X hr hlk hw hp_72 (Nat.le_of_ble_eq_true rfl) (Nat.le_of_ble_eq_true rfl) dX8_count_72
  by_cases s_1_2 : wh = 2
  · refine lv_tableIn (tgt := 73) hx hb dX8_count_1 (by rw [s_1_2]; decide) (by rw [s_1_2]; decide) (by rw [s_1_2]; rfl) (by decide) ?_
    refine lv_aload_n hx hb dX8_count_73 rfl (lv_at hl 0 rfl) ?_
    refine w_get X hw 9 4 (hL 0 (by decide)) rfl (by decide) k_X8 in_X8_count_X8 (by decide) (by decide +kernel) rfl (v := .ref (G.1 8)) rfl dX8_count_74 ?_
    refine w_callVi (As := []) (rest := []) X hw hst hl (c_Jx4a65c_size_8abf5 l D y b z G I J hL 8  (hL 8 (by decide)) rfl) (cwV 0 X.1.2.2.2.2 gX8_count_Jx4a65c_size_8abf5 rfl rfl rfl (by decide +kernel) ⟨Nat.le_of_ble_eq_true rfl, Nat.le_of_ble_eq_true rfl⟩) (w_recv X hw (hL 8 (by decide)) rfl (by decide) k_Jx4a65c) rfl rfl (Nat.le_of_ble_eq_true rfl) dX8_count_77 ⟨Nat.le_of_ble_eq_true rfl, Nat.le_of_ble_eq_true rfl⟩ (fun r_77_2 u H locs hp_77 hw => ?_)
    obtain ⟨hp_77, rfl⟩ := hp_77
    dsimp only at hw
    have hp_80 : po_c_X8_count r_77_2 (G, I, J) := by
        obtain rfl := hp_77.symm
        rw [epo]
        refine ⟨Eq.symm ?_, rfl⟩
        unfold f_X8_count; rw [if_neg s_1_0, if_neg s_1_1, if_pos s_1_2]
    exact w_iret X hr hlk hw hp_80 (Nat.le_of_ble_eq_true rfl) (Nat.le_of_ble_eq_true rfl) dX8_count_80
  by_cases s_1_3 : wh = 3
  · refine lv_tableIn (tgt := 81) hx hb dX8_count_1 (by rw [s_1_3]; decide) (by rw [s_1_3]; decide) (by rw [s_1_3]; rfl) (by decide) ?_
    refine lv_aload_n hx hb dX8_count_81 rfl (lv_at hl 0 rfl) ?_
    refine w_get X hw 9 5 (hL 0 (by decide)) rfl (by decide) k_X8 in_X8_count_X8 (by decide) (by decide +kernel) rfl (v := .ref (G.1 9)) rfl dX8_count_82 ?_
    refine w_callVi (As := []) (rest := []) X hw hst hl (c_Jx4a65c_size_8abf5 l D y b z G I J hL 9  (hL 9 (by decide)) rfl) (cwV 0 X.1.2.2.2.2 gX8_count_Jx4a65c_size_8abf5 rfl rfl rfl (by decide +kernel) ⟨Nat.le_of_ble_eq_true rfl, Nat.le_of_ble_eq_true rfl⟩) (w_recv X hw (hL 9 (by decide)) rfl (by decide) k_Jx4a65c) rfl rfl (Nat.le_of_ble_eq_true rfl) dX8_count_85 ⟨Nat.le_of_ble_eq_true rfl, Nat.le_of_ble_eq_true rfl⟩ (fun r_85_3 u H locs hp_85 hw => ?_)
    obtain ⟨hp_85, rfl⟩ := hp_85
    dsimp only at hw
    have hp_88 : po_c_X8_count r_85_3 (G, I, J) := by
        obtain rfl := hp_85.symm
        rw [epo]
        refine ⟨Eq.symm ?_, rfl⟩
        unfold f_X8_count; rw [if_neg s_1_0, if_neg s_1_1, if_neg s_1_2, if_pos s_1_3]
    exact w_iret X hr hlk hw hp_88 (Nat.le_of_ble_eq_true rfl) (Nat.le_of_ble_eq_true rfl) dX8_count_88
  by_cases s_1_4 : wh = 4
  · refine lv_tableIn (tgt := 89) hx hb dX8_count_1 (by rw [s_1_4]; decide) (by rw [s_1_4]; decide) (by rw [s_1_4]; rfl) (by decide) ?_
    refine lv_aload_n hx hb dX8_count_89 rfl (lv_at hl 0 rfl) ?_
    refine w_callVi (As := []) (rest := []) X hw hst hl (c_X8_soldLots l D y b z G I J hL hN hNl) (cwV 0 X.1.2.2.2.2 gX8_count_X8_soldLots rfl rfl rfl (by decide +kernel) ⟨Nat.le_of_ble_eq_true rfl, Nat.le_of_ble_eq_true rfl⟩) (w_recv X hw (hL 0 (by decide)) rfl (by decide) k_X8) rfl rfl (Nat.le_of_ble_eq_true rfl) dX8_count_90 ⟨Nat.le_of_ble_eq_true rfl, Nat.le_of_ble_eq_true rfl⟩ (fun r_90_4 u H locs hp_90 hw => ?_)
    obtain ⟨hp_90, rfl⟩ := hp_90
    dsimp only at hw
    have hp_93 : po_c_X8_count r_90_4 (G, I, J) := by
        obtain rfl := hp_90.symm
        rw [epo]
        refine ⟨Eq.symm ?_, rfl⟩
        unfold f_X8_count; rw [if_neg s_1_0, if_neg s_1_1, if_neg s_1_2, if_neg s_1_3, if_pos s_1_4]
    exact w_iret X hr hlk hw hp_93 (Nat.le_of_ble_eq_true rfl) (Nat.le_of_ble_eq_true rfl) dX8_count_93
  by_cases s_1_5 : wh = 5
  · refine lv_tableIn (tgt := 94) hx hb dX8_count_1 (by rw [s_1_5]; decide) (by rw [s_1_5]; decide) (by rw [s_1_5]; rfl) (by decide) ?_
    refine lv_aload_n hx hb dX8_count_94 rfl (lv_at hl 0 rfl) ?_
    refine w_callVi (As := []) (rest := []) X hw hst hl (c_X8_moneyOfSoldLots l D y b z G I J hL hN hNl) (cwV 0 X.1.2.2.2.2 gX8_count_X8_moneyOfSoldLots rfl rfl rfl (by decide +kernel) ⟨Nat.le_of_ble_eq_true rfl, Nat.le_of_ble_eq_true rfl⟩) (w_recv X hw (hL 0 (by decide)) rfl (by decide) k_X8) rfl rfl (Nat.le_of_ble_eq_true rfl) dX8_count_95 ⟨Nat.le_of_ble_eq_true rfl, Nat.le_of_ble_eq_true rfl⟩ (fun r_95_5 u H locs hp_95 hw => ?_)
    obtain ⟨hp_95, rfl⟩ := hp_95
    dsimp only at hw
    have hp_98 : po_c_X8_count r_95_5 (G, I, J) := by
        obtain rfl := hp_95.symm
        rw [epo]
        refine ⟨Eq.symm ?_, rfl⟩
        unfold f_X8_count; rw [if_neg s_1_0, if_neg s_1_1, if_neg s_1_2, if_neg s_1_3, if_neg s_1_4, if_pos s_1_5]
    exact w_iret X hr hlk hw hp_98 (Nat.le_of_ble_eq_true rfl) (Nat.le_of_ble_eq_true rfl) dX8_count_98
  by_cases s_1_6 : wh = 6
  · refine lv_tableIn (tgt := 99) hx hb dX8_count_1 (by rw [s_1_6]; decide) (by rw [s_1_6]; decide) (by rw [s_1_6]; rfl) (by decide) ?_
    refine lv_aload_n hx hb dX8_count_99 rfl (lv_at hl 0 rfl) ?_
    refine w_get X hw 9 6 (hL 0 (by decide)) rfl (by decide) k_X8 in_X8_count_X8 (by decide) (by decide +kernel) rfl (v := .ref (G.1 10)) rfl dX8_count_100 ?_
    refine w_callVi (As := []) (rest := []) X hw hst hl (c_X0_cells l D y b z G I J hL ) (cwV 0 X.1.2.2.2.2 gX8_count_X0_cells rfl rfl rfl (by decide +kernel) ⟨Nat.le_of_ble_eq_true rfl, Nat.le_of_ble_eq_true rfl⟩) (w_recv X hw (hL 10 (by decide)) rfl (by decide) k_X0) rfl rfl (Nat.le_of_ble_eq_true rfl) dX8_count_103 ⟨Nat.le_of_ble_eq_true rfl, Nat.le_of_ble_eq_true rfl⟩ (fun r_103_6 u H locs hp_103 hw => ?_)
    obtain ⟨hp_103, rfl⟩ := hp_103
    dsimp only at hw
    have hp_106 : po_c_X8_count r_103_6 (G, I, J) := by
        obtain rfl := hp_103.symm
        rw [epo]
        refine ⟨Eq.symm ?_, rfl⟩
        unfold f_X8_count; rw [if_neg s_1_0, if_neg s_1_1, if_neg s_1_2, if_neg s_1_3, if_neg s_1_4, if_neg s_1_5, if_pos s_1_6]
    exact w_iret X hr hlk hw hp_106 (Nat.le_of_ble_eq_true rfl) (Nat.le_of_ble_eq_true rfl) dX8_count_106
  by_cases s_1_7 : wh = 7
  · refine lv_tableIn (tgt := 107) hx hb dX8_count_1 (by rw [s_1_7]; decide) (by rw [s_1_7]; decide) (by rw [s_1_7]; rfl) (by decide) ?_
    refine lv_aload_n hx hb dX8_count_107 rfl (lv_at hl 0 rfl) ?_
    refine w_get X hw 9 6 (hL 0 (by decide)) rfl (by decide) k_X8 in_X8_count_X8 (by decide) (by decide +kernel) rfl (v := .ref (G.1 10)) rfl dX8_count_108 ?_
    refine w_callVi (As := []) (rest := []) X hw hst hl (c_X0_flawsOfStrip l D y b z G I J hL ) (cwV 0 X.1.2.2.2.2 gX8_count_X0_flawsOfStrip rfl rfl rfl (by decide +kernel) ⟨Nat.le_of_ble_eq_true rfl, Nat.le_of_ble_eq_true rfl⟩) (w_recv X hw (hL 10 (by decide)) rfl (by decide) k_X0) rfl rfl (Nat.le_of_ble_eq_true rfl) dX8_count_111 ⟨Nat.le_of_ble_eq_true rfl, Nat.le_of_ble_eq_true rfl⟩ (fun r_111_7 u H locs hp_111 hw => ?_)
    obtain ⟨hp_111, rfl⟩ := hp_111
    dsimp only at hw
    have hp_114 : po_c_X8_count r_111_7 (G, I, J) := by
        obtain rfl := hp_111.symm
        rw [epo]
        refine ⟨Eq.symm ?_, rfl⟩
        unfold f_X8_count; rw [if_neg s_1_0, if_neg s_1_1, if_neg s_1_2, if_neg s_1_3, if_neg s_1_4, if_neg s_1_5, if_neg s_1_6, if_pos s_1_7]
    exact w_iret X hr hlk hw hp_114 (Nat.le_of_ble_eq_true rfl) (Nat.le_of_ble_eq_true rfl) dX8_count_114
  by_cases s_1_8 : wh = 8
  · refine lv_tableIn (tgt := 115) hx hb dX8_count_1 (by rw [s_1_8]; decide) (by rw [s_1_8]; decide) (by rw [s_1_8]; rfl) (by decide) ?_
    refine lv_aload_n hx hb dX8_count_115 rfl (lv_at hl 0 rfl) ?_
    refine w_get X hw 9 6 (hL 0 (by decide)) rfl (by decide) k_X8 in_X8_count_X8 (by decide) (by decide +kernel) rfl (v := .ref (G.1 10)) rfl dX8_count_116 ?_
    refine w_callVi (As := []) (rest := []) X hw hst hl (c_X0_sorts l D y b z G I J hL ) (cwV 0 X.1.2.2.2.2 gX8_count_X0_sorts rfl rfl rfl (by decide +kernel) ⟨Nat.le_of_ble_eq_true rfl, Nat.le_of_ble_eq_true rfl⟩) (w_recv X hw (hL 10 (by decide)) rfl (by decide) k_X0) rfl rfl (Nat.le_of_ble_eq_true rfl) dX8_count_119 ⟨Nat.le_of_ble_eq_true rfl, Nat.le_of_ble_eq_true rfl⟩ (fun r_119_8 u H locs hp_119 hw => ?_)
    obtain ⟨hp_119, rfl⟩ := hp_119
    dsimp only at hw
    have hp_122 : po_c_X8_count r_119_8 (G, I, J) := by
        obtain rfl := hp_119.symm
        rw [epo]
        refine ⟨Eq.symm ?_, rfl⟩
        unfold f_X8_count; rw [if_neg s_1_0, if_neg s_1_1, if_neg s_1_2, if_neg s_1_3, if_neg s_1_4, if_neg s_1_5, if_neg s_1_6, if_neg s_1_7, if_pos s_1_8]
    exact w_iret X hr hlk hw hp_122 (Nat.le_of_ble_eq_true rfl) (Nat.le_of_ble_eq_true rfl) dX8_count_122
  by_cases s_1_9 : wh = 9
  · refine lv_tableIn (tgt := 123) hx hb dX8_count_1 (by rw [s_1_9]; decide) (by rw [s_1_9]; decide) (by rw [s_1_9]; rfl) (by decide) ?_
    refine lv_aload_n hx hb dX8_count_123 rfl (lv_at hl 0 rfl) ?_
    refine w_get X hw 9 7 (hL 0 (by decide)) rfl (by decide) k_X8 in_X8_count_X8 (by decide) (by decide +kernel) rfl (v := .ref (G.1 16)) rfl dX8_count_124 ?_
    refine w_callVi (As := []) (rest := []) X hw hst hl (c_X5_size l D y b z G I J hL ) (cwV 0 X.1.2.2.2.2 gX8_count_X5_size rfl rfl rfl (by decide +kernel) ⟨Nat.le_of_ble_eq_true rfl, Nat.le_of_ble_eq_true rfl⟩) (w_recv X hw (hL 16 (by decide)) rfl (by decide) k_X5) rfl rfl (Nat.le_of_ble_eq_true rfl) dX8_count_127 ⟨Nat.le_of_ble_eq_true rfl, Nat.le_of_ble_eq_true rfl⟩ (fun r_127_9 u H locs hp_127 hw => ?_)
    obtain ⟨hp_127, rfl⟩ := hp_127
    dsimp only at hw
    have hp_130 : po_c_X8_count r_127_9 (G, I, J) := by
        obtain rfl := hp_127.symm
        rw [epo]
        refine ⟨Eq.symm ?_, rfl⟩
        unfold f_X8_count; rw [if_neg s_1_0, if_neg s_1_1, if_neg s_1_2, if_neg s_1_3, if_neg s_1_4, if_neg s_1_5, if_neg s_1_6, if_neg s_1_7, if_neg s_1_8, if_pos s_1_9]
    exact w_iret X hr hlk hw hp_130 (Nat.le_of_ble_eq_true rfl) (Nat.le_of_ble_eq_true rfl) dX8_count_130
  by_cases s_1_10 : wh = 10
  · refine lv_tableIn (tgt := 131) hx hb dX8_count_1 (by rw [s_1_10]; decide) (by rw [s_1_10]; decide) (by rw [s_1_10]; rfl) (by decide) ?_
    refine lv_aload_n hx hb dX8_count_131 rfl (lv_at hl 0 rfl) ?_
    refine w_callVi (As := []) (rest := []) X hw hst hl (c_X8_markedTrees l D y b z G I J hL hT hTl) (cwV 0 X.1.2.2.2.2 gX8_count_X8_markedTrees rfl rfl rfl (by decide +kernel) ⟨Nat.le_of_ble_eq_true rfl, Nat.le_of_ble_eq_true rfl⟩) (w_recv X hw (hL 0 (by decide)) rfl (by decide) k_X8) rfl rfl (Nat.le_of_ble_eq_true rfl) dX8_count_132 ⟨Nat.le_of_ble_eq_true rfl, Nat.le_of_ble_eq_true rfl⟩ (fun r_132_10 u H locs hp_132 hw => ?_)
    obtain ⟨hp_132, rfl⟩ := hp_132
    dsimp only at hw
    have hp_135 : po_c_X8_count r_132_10 (G, I, J) := by
        obtain rfl := hp_132.symm
        rw [epo]
        refine ⟨Eq.symm ?_, rfl⟩
        unfold f_X8_count; rw [if_neg s_1_0, if_neg s_1_1, if_neg s_1_2, if_neg s_1_3, if_neg s_1_4, if_neg s_1_5, if_neg s_1_6, if_neg s_1_7, if_neg s_1_8, if_neg s_1_9, if_pos s_1_10]
    exact w_iret X hr hlk hw hp_135 (Nat.le_of_ble_eq_true rfl) (Nat.le_of_ble_eq_true rfl) dX8_count_135
  refine lv_tableOut (tgt := 136) hx hb dX8_count_1 (sw_out wh 0 10 (fun j h1 h2 => by
    rcases (show j = 0 ∨ j = 1 ∨ j = 2 ∨ j = 3 ∨ j = 4 ∨ j = 5 ∨ j = 6 ∨ j = 7 ∨ j = 8 ∨ j = 9 ∨ j = 10 by omega) with rfl | rfl | rfl | rfl | rfl | rfl | rfl | rfl | rfl | rfl | rfl
    · exact lv_neT s_1_0 (by decide)
    · exact lv_neT s_1_1 (by decide)
    · exact lv_neT s_1_2 (by decide)
    · exact lv_neT s_1_3 (by decide)
    · exact lv_neT s_1_4 (by decide)
    · exact lv_neT s_1_5 (by decide)
    · exact lv_neT s_1_6 (by decide)
    · exact lv_neT s_1_7 (by decide)
    · exact lv_neT s_1_8 (by decide)
    · exact lv_neT s_1_9 (by decide)
    · exact lv_neT s_1_10 (by decide))) (by decide) ?_
  refine lv_iconst (v := -1) hx hb dX8_count_136 (by decide) ?_
  have hp_137 : po_c_X8_count (-1) (G, I, J) := by
      rw [epo]
      refine ⟨Eq.symm ?_, rfl⟩
      unfold f_X8_count; rw [if_neg s_1_0, if_neg s_1_1, if_neg s_1_2, if_neg s_1_3, if_neg s_1_4, if_neg s_1_5, if_neg s_1_6, if_neg s_1_7, if_neg s_1_8, if_neg s_1_9, if_neg s_1_10]
  exact w_iret X hr hlk hw hp_137 (Nat.le_of_ble_eq_true rfl) (Nat.le_of_ble_eq_true rfl) dX8_count_137
def f_X8_heightAllowed (I : wI) (n : Nat) : Int32 := (if f_X7_wasStripped I n = 1 then (((I n 0) * (f_X1_told I 2)) / 100) else (((I n 0) * (f_X1_told I 3)) / 100))
set_option maxRecDepth 20000 in
theorem in_X8_heightAllowed_X7 : ∀ w ∈ u_ws RX7 TX7 10, w ∈ wsX8_heightAllowed := fun _ h => List.mem_cons_of_mem _ (List.mem_append_left _ (List.mem_append_right _ h))
set_option maxRecDepth 20000 in
theorem in_X8_heightAllowed_X8 : ∀ w ∈ u_ws RX8 TX8 10, w ∈ wsX8_heightAllowed := fun _ h => List.mem_cons_of_mem _ (List.mem_append_left _ (List.mem_append_left _ (List.mem_append_right _ h)))
set_option maxHeartbeats 4000000 in
set_option maxRecDepth 100000 in
theorem c_X8_heightAllowed (l : Launch) (D : va_G) (y : Nat → ClassId) (b : Nat) (z : Nat → Nat) (G : wG) (I : wI) (J : wJ) (hL : w_full G) (n : Nat) (hn : n ∈ G.2.1) (hk : w_kd n = 8) : mI l yX8_heightAllowed wsX8_heightAllowed { frames := 1, cells := 0, slots := 0, locals := 21 } D y b z G I J [.ref (G.1 0), .ref (G.1 n)] (fun r u => r = f_X8_heightAllowed I n ∧ u = (G, I, J)) 0 0 := by
  refine w_enter (by decide) rfl (Nat.le_of_ble_eq_true rfl) rfl ?_
  intro p e s m below meth c ls X hr hlk hnm hw hst hl
  have hx := X.1.1
  have hb := X.1.2.1
  obtain ⟨po_c_X8_heightAllowed, epo⟩ : ∃ qpo9 : Int32 → wS → Prop, qpo9 = (fun r u => r = f_X8_heightAllowed I n ∧ u = (G, I, J)) := ⟨_, rfl⟩
  rw [← epo]
  refine lv_aload_n hx hb dX8_heightAllowed_0 rfl (lv_at hl 0 rfl) ?_
  refine w_get X hw 9 1 (hL 0 (by decide)) rfl (by decide) k_X8 in_X8_heightAllowed_X8 (by decide) (by decide +kernel) rfl (v := .ref (G.1 3)) rfl dX8_heightAllowed_1 ?_
  refine lv_aload_n hx hb dX8_heightAllowed_4 rfl (lv_at hl 1 rfl) ?_
  refine w_callVi (As := []) (rest := [.ref (G.1 3)]) X hw hst hl (c_X7_wasStripped l D y b z G I J hL n  hn hk) (cwV 0 X.1.2.2.2.2 gX8_heightAllowed_X7_wasStripped rfl rfl rfl (by decide +kernel) ⟨Nat.le_of_ble_eq_true rfl, Nat.le_of_ble_eq_true rfl⟩) (w_recv X hw hn hk (by decide) k_X7) rfl rfl (Nat.le_of_ble_eq_true rfl) dX8_heightAllowed_5 ⟨Nat.le_of_ble_eq_true rfl, Nat.le_of_ble_eq_true rfl⟩ (fun r_5_1 u H locs hp_5 hw => ?_)
  obtain ⟨hp_5, rfl⟩ := hp_5
  dsimp only at hw
  rcases f_X7_wasStripped_01  I n with q_5 | ⟨q_5, q0_5⟩
  · rw [q_5] at hp_5
    subst r_5_1
    refine lv_if_eq (tgt := 15) hx hb dX8_heightAllowed_8 (by decide) (fun c_8 => ?_) (fun c_8 => ?_)
    · exact absurd c_8 (by decide)
    · refine lv_iconst (v := 2) hx hb dX8_heightAllowed_11 (by decide) ?_
      refine lv_goto (tgt := 16) hx hb dX8_heightAllowed_12 (by decide) ?_
      refine w_callVi (As := [.int 2]) (rest := []) X hw hst hl (c_X1_told l D y b z G I J hL 2) (cwV 1 X.1.2.2.2.2 gX8_heightAllowed_X1_told rfl rfl rfl (by decide +kernel) ⟨Nat.le_of_ble_eq_true rfl, Nat.le_of_ble_eq_true rfl⟩) (w_recv X hw (hL 3 (by decide)) rfl (by decide) k_X1) rfl rfl (Nat.le_of_ble_eq_true rfl) dX8_heightAllowed_16 ⟨Nat.le_of_ble_eq_true rfl, Nat.le_of_ble_eq_true rfl⟩ (fun r_16_2 u H locs hp_16 hw => ?_)
      obtain ⟨hp_16, rfl⟩ := hp_16
      dsimp only at hw
      refine lv_istore_n (lv' := [(2, .int r_16_2), (0, .ref (G.1 0)), (1, .ref (G.1 n))]) hx hb dX8_heightAllowed_19 rfl hl (by decide) rfl (fun ls hl => ?_)
      refine lv_aload_n hx hb dX8_heightAllowed_20 rfl (lv_at hl 2 rfl) ?_
      refine w_getN X hw 8 0 hn hk (by decide) k_X7 in_X8_heightAllowed_X7 (by decide) (hst.1 (RX8, 139, "CorkForest$Tree", "girth", "I") (by decide)) rfl (v := .int (I n 0)) rfl dX8_heightAllowed_21 ?_
      refine lv_iload_n hx hb dX8_heightAllowed_24 rfl (lv_at hl 0 rfl) ?_
      refine lv_imul hx hb dX8_heightAllowed_25 ?_
      refine lv_bipush (v := 100) hx hb dX8_heightAllowed_26 (by decide) ?_
      refine lv_idiv hx hb dX8_heightAllowed_28 (by decide) ?_
      have hp_29 : po_c_X8_heightAllowed (((I n 0) * r_16_2) / 100) (G, I, J) := by
          obtain rfl := hp_16.symm
          rw [epo]
          refine ⟨Eq.symm ?_, rfl⟩
          unfold f_X8_heightAllowed; rw [if_pos q_5]
      exact w_iret X hr hlk hw hp_29 (Nat.le_of_ble_eq_true rfl) (Nat.le_of_ble_eq_true rfl) dX8_heightAllowed_29
  · rw [q0_5] at hp_5
    subst r_5_1
    refine lv_if_eq (tgt := 15) hx hb dX8_heightAllowed_8 (by decide) (fun c_8 => ?_) (fun c_8 => ?_)
    · refine lv_iconst (v := 3) hx hb dX8_heightAllowed_15 (by decide) ?_
      refine w_callVi (As := [.int 3]) (rest := []) X hw hst hl (c_X1_told l D y b z G I J hL 3) (cwV 1 X.1.2.2.2.2 gX8_heightAllowed_X1_told rfl rfl rfl (by decide +kernel) ⟨Nat.le_of_ble_eq_true rfl, Nat.le_of_ble_eq_true rfl⟩) (w_recv X hw (hL 3 (by decide)) rfl (by decide) k_X1) rfl rfl (Nat.le_of_ble_eq_true rfl) dX8_heightAllowed_16 ⟨Nat.le_of_ble_eq_true rfl, Nat.le_of_ble_eq_true rfl⟩ (fun r_16_3 u H locs hp_16 hw => ?_)
      obtain ⟨hp_16, rfl⟩ := hp_16
      dsimp only at hw
      refine lv_istore_n (lv' := [(2, .int r_16_3), (0, .ref (G.1 0)), (1, .ref (G.1 n))]) hx hb dX8_heightAllowed_19 rfl hl (by decide) rfl (fun ls hl => ?_)
      refine lv_aload_n hx hb dX8_heightAllowed_20 rfl (lv_at hl 2 rfl) ?_
      refine w_getN X hw 8 0 hn hk (by decide) k_X7 in_X8_heightAllowed_X7 (by decide) (hst.1 (RX8, 139, "CorkForest$Tree", "girth", "I") (by decide)) rfl (v := .int (I n 0)) rfl dX8_heightAllowed_21 ?_
      refine lv_iload_n hx hb dX8_heightAllowed_24 rfl (lv_at hl 0 rfl) ?_
      refine lv_imul hx hb dX8_heightAllowed_25 ?_
      refine lv_bipush (v := 100) hx hb dX8_heightAllowed_26 (by decide) ?_
      refine lv_idiv hx hb dX8_heightAllowed_28 (by decide) ?_
      have hp_29 : po_c_X8_heightAllowed (((I n 0) * r_16_3) / 100) (G, I, J) := by
          obtain rfl := hp_16.symm
          rw [epo]
          refine ⟨Eq.symm ?_, rfl⟩
          unfold f_X8_heightAllowed; rw [if_neg q_5]
      exact w_iret X hr hlk hw hp_29 (Nat.le_of_ble_eq_true rfl) (Nat.le_of_ble_eq_true rfl) dX8_heightAllowed_29
    · exact absurd (by decide) c_8
def f_X8_whatIsAgainst (I : wI) (n : Nat) (h : Int32) : Int32 := (if (I n 5) = 0 then 1 else (if (I n 4) = (-1) then (if f_X7_wasStripped I n = 1 then (if (f_X1_told I 0) ≤ ((I 0 8) - (I n 2)) then (if (f_X1_told I 1) ≤ (I n 0) then (if (f_X1_told I 5) ≤ (I n 1) then (if h ≤ (f_X8_heightAllowed I n) then (if (f_Jx4a65c_size_8abf5 I 8) < 200 then 0 else 7) else 6) else 5) else 4) else 3) else (if (f_X1_told I 1) ≤ (I n 0) then (if (f_X1_told I 5) ≤ (I n 1) then (if h ≤ (f_X8_heightAllowed I n) then (if (f_Jx4a65c_size_8abf5 I 8) < 200 then 0 else 7) else 6) else 5) else 4)) else (if (I n 4) < (I 0 8) then (if f_X7_wasStripped I n = 1 then (if (f_X1_told I 0) ≤ ((I 0 8) - (I n 2)) then (if (f_X1_told I 1) ≤ (I n 0) then (if (f_X1_told I 5) ≤ (I n 1) then (if h ≤ (f_X8_heightAllowed I n) then (if (f_Jx4a65c_size_8abf5 I 8) < 200 then 0 else 7) else 6) else 5) else 4) else 3) else (if (f_X1_told I 1) ≤ (I n 0) then (if (f_X1_told I 5) ≤ (I n 1) then (if h ≤ (f_X8_heightAllowed I n) then (if (f_Jx4a65c_size_8abf5 I 8) < 200 then 0 else 7) else 6) else 5) else 4)) else 2)))
set_option maxRecDepth 20000 in
theorem in_X8_whatIsAgainst_X7 : ∀ w ∈ u_ws RX7 TX7 10, w ∈ wsX8_whatIsAgainst := fun _ h => List.mem_cons_of_mem _ (List.mem_append_left _ (List.mem_append_left _ (List.mem_append_left _ (List.mem_append_right _ h))))
set_option maxRecDepth 20000 in
theorem in_X8_whatIsAgainst_X8 : ∀ w ∈ u_ws RX8 TX8 10, w ∈ wsX8_whatIsAgainst := fun _ h => List.mem_cons_of_mem _ (List.mem_append_left _ (List.mem_append_left _ (List.mem_append_right _ h)))
set_option maxHeartbeats 4000000 in
set_option maxRecDepth 100000 in
theorem c_X8_whatIsAgainst (l : Launch) (D : va_G) (y : Nat → ClassId) (b : Nat) (z : Nat → Nat) (G : wG) (I : wI) (J : wJ) (hL : w_full G) (n : Nat) (h : Int32) (hn : n ∈ G.2.1) (hk : w_kd n = 8) : mI l yX8_whatIsAgainst wsX8_whatIsAgainst { frames := 2, cells := 0, slots := 0, locals := 43 } D y b z G I J [.ref (G.1 0), .ref (G.1 n), .int h] (fun r u => r = f_X8_whatIsAgainst I n h ∧ u = (G, I, J)) 0 0 := by
  refine w_enter (by decide) rfl (Nat.le_of_ble_eq_true rfl) rfl ?_
  intro p e s m below meth c ls X hr hlk hnm hw hst hl
  have hx := X.1.1
  have hb := X.1.2.1
  obtain ⟨po_c_X8_whatIsAgainst, epo⟩ : ∃ qpo9 : Int32 → wS → Prop, qpo9 = (fun r u => r = f_X8_whatIsAgainst I n h ∧ u = (G, I, J)) := ⟨_, rfl⟩
  rw [← epo]
  refine lv_aload_n hx hb dX8_whatIsAgainst_0 rfl (lv_at hl 1 rfl) ?_
  refine w_getN X hw 8 5 hn hk (by decide) k_X7 in_X8_whatIsAgainst_X7 (by decide) (hst.1 (RX8, 127, "CorkForest$Tree", "marked", "Z") (by decide)) rfl (v := .int (I n 5)) rfl dX8_whatIsAgainst_1 ?_
  refine lv_if_ne (tgt := 9) hx hb dX8_whatIsAgainst_4 (by decide) (fun c_4 => ?_) (fun c_4 => ?_)
  · refine lv_aload_n hx hb dX8_whatIsAgainst_9 rfl (lv_at hl 1 rfl) ?_
    refine w_getN X hw 8 4 hn hk (by decide) k_X7 in_X8_whatIsAgainst_X7 (by decide) (hst.1 (RX8, 152, "CorkForest$Tree", "rests", "I") (by decide)) rfl (v := .int (I n 4)) rfl dX8_whatIsAgainst_10 ?_
    refine lv_iconst (v := -1) hx hb dX8_whatIsAgainst_13 (by decide) ?_
    refine lv_icmp_eq (tgt := 30) hx hb dX8_whatIsAgainst_14 (by decide) (fun c_14 => ?_) (fun c_14 => ?_)
    · refine lv_aload_n hx hb dX8_whatIsAgainst_30 rfl (lv_at hl 1 rfl) ?_
      refine w_callVi (As := []) (rest := []) X hw hst hl (c_X7_wasStripped l D y b z G I J hL n  hn hk) (cwV 0 X.1.2.2.2.2 gX8_whatIsAgainst_X7_wasStripped rfl rfl rfl (by decide +kernel) ⟨Nat.le_of_ble_eq_true rfl, Nat.le_of_ble_eq_true rfl⟩) (w_recv X hw hn hk (by decide) k_X7) rfl rfl (Nat.le_of_ble_eq_true rfl) dX8_whatIsAgainst_31 ⟨Nat.le_of_ble_eq_true rfl, Nat.le_of_ble_eq_true rfl⟩ (fun r_31_1 u H locs hp_31 hw => ?_)
      obtain ⟨hp_31, rfl⟩ := hp_31
      dsimp only at hw
      rcases f_X7_wasStripped_01  I n with q_31 | ⟨q_31, q0_31⟩
      · rw [q_31] at hp_31
        subst r_31_1
        refine lv_if_eq (tgt := 59) hx hb dX8_whatIsAgainst_34 (by decide) (fun c_34 => ?_) (fun c_34 => ?_)
        · exact absurd c_34 (by decide)
        · refine lv_aload_n hx hb dX8_whatIsAgainst_37 rfl (lv_at hl 0 rfl) ?_
          refine w_get X hw 9 8 (hL 0 (by decide)) rfl (by decide) k_X8 in_X8_whatIsAgainst_X8 (by decide) (by decide +kernel) rfl (v := .int (I 0 8)) rfl dX8_whatIsAgainst_38 ?_
          refine lv_aload_n hx hb dX8_whatIsAgainst_41 rfl (lv_at hl 1 rfl) ?_
          refine w_getN X hw 8 2 hn hk (by decide) k_X7 in_X8_whatIsAgainst_X7 (by decide) (hst.1 (RX8, 158, "CorkForest$Tree", "stripped", "I") (by decide)) rfl (v := .int (I n 2)) rfl dX8_whatIsAgainst_42 ?_
          refine lv_isub hx hb dX8_whatIsAgainst_45 ?_
          refine lv_aload_n hx hb dX8_whatIsAgainst_46 rfl (lv_at hl 0 rfl) ?_
          refine w_get X hw 9 1 (hL 0 (by decide)) rfl (by decide) k_X8 in_X8_whatIsAgainst_X8 (by decide) (by decide +kernel) rfl (v := .ref (G.1 3)) rfl dX8_whatIsAgainst_47 ?_
          refine lv_iconst (v := 0) hx hb dX8_whatIsAgainst_50 (by decide) ?_
          refine w_callVi (As := [.int 0]) (rest := [.int ((I 0 8) - (I n 2))]) X hw hst hl (c_X1_told l D y b z G I J hL 0) (cwV 1 X.1.2.2.2.2 gX8_whatIsAgainst_X1_told rfl rfl rfl (by decide +kernel) ⟨Nat.le_of_ble_eq_true rfl, Nat.le_of_ble_eq_true rfl⟩) (w_recv X hw (hL 3 (by decide)) rfl (by decide) k_X1) rfl rfl (Nat.le_of_ble_eq_true rfl) dX8_whatIsAgainst_51 ⟨Nat.le_of_ble_eq_true rfl, Nat.le_of_ble_eq_true rfl⟩ (fun r_51_2 u H locs hp_51 hw => ?_)
          obtain ⟨hp_51, rfl⟩ := hp_51
          dsimp only at hw
          refine lv_icmp_ge (tgt := 59) hx hb dX8_whatIsAgainst_54 (by decide) (fun c_54 => ?_) (fun c_54 => ?_)
          · refine lv_aload_n hx hb dX8_whatIsAgainst_59 rfl (lv_at hl 1 rfl) ?_
            refine w_getN X hw 8 0 hn hk (by decide) k_X7 in_X8_whatIsAgainst_X7 (by decide) (hst.1 (RX8, 139, "CorkForest$Tree", "girth", "I") (by decide)) rfl (v := .int (I n 0)) rfl dX8_whatIsAgainst_60 ?_
            refine lv_aload_n hx hb dX8_whatIsAgainst_63 rfl (lv_at hl 0 rfl) ?_
            refine w_get X hw 9 1 (hL 0 (by decide)) rfl (by decide) k_X8 in_X8_whatIsAgainst_X8 (by decide) (by decide +kernel) rfl (v := .ref (G.1 3)) rfl dX8_whatIsAgainst_64 ?_
            refine lv_iconst (v := 1) hx hb dX8_whatIsAgainst_67 (by decide) ?_
            refine w_callVi (As := [.int 1]) (rest := [.int (I n 0)]) X hw hst hl (c_X1_told l D y b z G I J hL 1) (cwV 1 X.1.2.2.2.2 gX8_whatIsAgainst_X1_told rfl rfl rfl (by decide +kernel) ⟨Nat.le_of_ble_eq_true rfl, Nat.le_of_ble_eq_true rfl⟩) (w_recv X hw (hL 3 (by decide)) rfl (by decide) k_X1) rfl rfl (Nat.le_of_ble_eq_true rfl) dX8_whatIsAgainst_68 ⟨Nat.le_of_ble_eq_true rfl, Nat.le_of_ble_eq_true rfl⟩ (fun r_68_3 u H locs hp_68 hw => ?_)
            obtain ⟨hp_68, rfl⟩ := hp_68
            dsimp only at hw
            refine lv_icmp_ge (tgt := 76) hx hb dX8_whatIsAgainst_71 (by decide) (fun c_71 => ?_) (fun c_71 => ?_)
            · refine lv_aload_n hx hb dX8_whatIsAgainst_76 rfl (lv_at hl 1 rfl) ?_
              refine w_getN X hw 8 1 hn hk (by decide) k_X7 in_X8_whatIsAgainst_X7 (by decide) (hst.1 (RX8, 142, "CorkForest$Tree", "bark", "I") (by decide)) rfl (v := .int (I n 1)) rfl dX8_whatIsAgainst_77 ?_
              refine lv_aload_n hx hb dX8_whatIsAgainst_80 rfl (lv_at hl 0 rfl) ?_
              refine w_get X hw 9 1 (hL 0 (by decide)) rfl (by decide) k_X8 in_X8_whatIsAgainst_X8 (by decide) (by decide +kernel) rfl (v := .ref (G.1 3)) rfl dX8_whatIsAgainst_81 ?_
              refine lv_iconst (v := 5) hx hb dX8_whatIsAgainst_84 (by decide) ?_
              refine w_callVi (As := [.int 5]) (rest := [.int (I n 1)]) X hw hst hl (c_X1_told l D y b z G I J hL 5) (cwV 1 X.1.2.2.2.2 gX8_whatIsAgainst_X1_told rfl rfl rfl (by decide +kernel) ⟨Nat.le_of_ble_eq_true rfl, Nat.le_of_ble_eq_true rfl⟩) (w_recv X hw (hL 3 (by decide)) rfl (by decide) k_X1) rfl rfl (Nat.le_of_ble_eq_true rfl) dX8_whatIsAgainst_85 ⟨Nat.le_of_ble_eq_true rfl, Nat.le_of_ble_eq_true rfl⟩ (fun r_85_4 u H locs hp_85 hw => ?_)
              obtain ⟨hp_85, rfl⟩ := hp_85
              dsimp only at hw
              refine lv_icmp_ge (tgt := 93) hx hb dX8_whatIsAgainst_88 (by decide) (fun c_88 => ?_) (fun c_88 => ?_)
              · refine lv_iload_n hx hb dX8_whatIsAgainst_93 rfl (lv_at hl 2 rfl) ?_
                refine lv_aload_n hx hb dX8_whatIsAgainst_94 rfl (lv_at hl 0 rfl) ?_
                refine lv_aload_n hx hb dX8_whatIsAgainst_95 rfl (lv_at hl 1 rfl) ?_
                refine w_callVi (As := [.ref (G.1 n)]) (rest := [.int h]) X hw hst hl (c_X8_heightAllowed l D y b z G I J hL n  hn hk) (cwV 1 X.1.2.2.2.2 gX8_whatIsAgainst_X8_heightAllowed rfl rfl rfl (by decide +kernel) ⟨Nat.le_of_ble_eq_true rfl, Nat.le_of_ble_eq_true rfl⟩) (w_recv X hw (hL 0 (by decide)) rfl (by decide) k_X8) rfl rfl (Nat.le_of_ble_eq_true rfl) dX8_whatIsAgainst_96 ⟨Nat.le_of_ble_eq_true rfl, Nat.le_of_ble_eq_true rfl⟩ (fun r_96_5 u H locs hp_96 hw => ?_)
                obtain ⟨hp_96, rfl⟩ := hp_96
                dsimp only at hw
                refine lv_icmp_le (tgt := 105) hx hb dX8_whatIsAgainst_99 (by decide) (fun c_99 => ?_) (fun c_99 => ?_)
                · refine lv_aload_n hx hb dX8_whatIsAgainst_105 rfl (lv_at hl 0 rfl) ?_
                  refine w_get X hw 9 4 (hL 0 (by decide)) rfl (by decide) k_X8 in_X8_whatIsAgainst_X8 (by decide) (by decide +kernel) rfl (v := .ref (G.1 8)) rfl dX8_whatIsAgainst_106 ?_
                  refine w_callVi (As := []) (rest := []) X hw hst hl (c_Jx4a65c_size_8abf5 l D y b z G I J hL 8  (hL 8 (by decide)) rfl) (cwV 0 X.1.2.2.2.2 gX8_whatIsAgainst_Jx4a65c_size_8abf5 rfl rfl rfl (by decide +kernel) ⟨Nat.le_of_ble_eq_true rfl, Nat.le_of_ble_eq_true rfl⟩) (w_recv X hw (hL 8 (by decide)) rfl (by decide) k_Jx4a65c) rfl rfl (Nat.le_of_ble_eq_true rfl) dX8_whatIsAgainst_109 ⟨Nat.le_of_ble_eq_true rfl, Nat.le_of_ble_eq_true rfl⟩ (fun r_109_6 u H locs hp_109 hw => ?_)
                  obtain ⟨hp_109, rfl⟩ := hp_109
                  dsimp only at hw
                  refine lv_sipush (v := 200) hx hb dX8_whatIsAgainst_112 (by decide) ?_
                  refine lv_icmp_lt (tgt := 123) hx hb dX8_whatIsAgainst_115 (by decide) (fun c_115 => ?_) (fun c_115 => ?_)
                  · refine lv_iconst (v := 0) hx hb dX8_whatIsAgainst_123 (by decide) ?_
                    have hp_124 : po_c_X8_whatIsAgainst 0 (G, I, J) := by
                        obtain rfl := hp_51.symm
                        obtain rfl := hp_68.symm
                        obtain rfl := hp_85.symm
                        obtain rfl := hp_96.symm
                        obtain rfl := hp_109.symm
                        rw [epo]
                        refine ⟨Eq.symm ?_, rfl⟩
                        unfold f_X8_whatIsAgainst; rw [if_neg c_4, if_pos c_14, if_pos q_31, if_pos c_54, if_pos c_71, if_pos c_88, if_pos c_99, if_pos c_115]
                    exact w_iret X hr hlk hw hp_124 (Nat.le_of_ble_eq_true rfl) (Nat.le_of_ble_eq_true rfl) dX8_whatIsAgainst_124
                  · refine lv_bipush (v := 7) hx hb dX8_whatIsAgainst_118 (by decide) ?_
                    refine lv_goto (tgt := 124) hx hb dX8_whatIsAgainst_120 (by decide) ?_
                    have hp_124 : po_c_X8_whatIsAgainst 7 (G, I, J) := by
                        obtain rfl := hp_51.symm
                        obtain rfl := hp_68.symm
                        obtain rfl := hp_85.symm
                        obtain rfl := hp_96.symm
                        obtain rfl := hp_109.symm
                        rw [epo]
                        refine ⟨Eq.symm ?_, rfl⟩
                        unfold f_X8_whatIsAgainst; rw [if_neg c_4, if_pos c_14, if_pos q_31, if_pos c_54, if_pos c_71, if_pos c_88, if_pos c_99, if_neg c_115]
                    exact w_iret X hr hlk hw hp_124 (Nat.le_of_ble_eq_true rfl) (Nat.le_of_ble_eq_true rfl) dX8_whatIsAgainst_124
                · refine lv_bipush (v := 6) hx hb dX8_whatIsAgainst_102 (by decide) ?_
                  have hp_104 : po_c_X8_whatIsAgainst 6 (G, I, J) := by
                      obtain rfl := hp_51.symm
                      obtain rfl := hp_68.symm
                      obtain rfl := hp_85.symm
                      obtain rfl := hp_96.symm
                      rw [epo]
                      refine ⟨Eq.symm ?_, rfl⟩
                      unfold f_X8_whatIsAgainst; rw [if_neg c_4, if_pos c_14, if_pos q_31, if_pos c_54, if_pos c_71, if_pos c_88, if_neg c_99]
                  exact w_iret X hr hlk hw hp_104 (Nat.le_of_ble_eq_true rfl) (Nat.le_of_ble_eq_true rfl) dX8_whatIsAgainst_104
              · refine lv_iconst (v := 5) hx hb dX8_whatIsAgainst_91 (by decide) ?_
                have hp_92 : po_c_X8_whatIsAgainst 5 (G, I, J) := by
                    obtain rfl := hp_51.symm
                    obtain rfl := hp_68.symm
                    obtain rfl := hp_85.symm
                    rw [epo]
                    refine ⟨Eq.symm ?_, rfl⟩
                    unfold f_X8_whatIsAgainst; rw [if_neg c_4, if_pos c_14, if_pos q_31, if_pos c_54, if_pos c_71, if_neg c_88]
                exact w_iret X hr hlk hw hp_92 (Nat.le_of_ble_eq_true rfl) (Nat.le_of_ble_eq_true rfl) dX8_whatIsAgainst_92
            · refine lv_iconst (v := 4) hx hb dX8_whatIsAgainst_74 (by decide) ?_
              have hp_75 : po_c_X8_whatIsAgainst 4 (G, I, J) := by
                  obtain rfl := hp_51.symm
                  obtain rfl := hp_68.symm
                  rw [epo]
                  refine ⟨Eq.symm ?_, rfl⟩
                  unfold f_X8_whatIsAgainst; rw [if_neg c_4, if_pos c_14, if_pos q_31, if_pos c_54, if_neg c_71]
              exact w_iret X hr hlk hw hp_75 (Nat.le_of_ble_eq_true rfl) (Nat.le_of_ble_eq_true rfl) dX8_whatIsAgainst_75
          · refine lv_iconst (v := 3) hx hb dX8_whatIsAgainst_57 (by decide) ?_
            have hp_58 : po_c_X8_whatIsAgainst 3 (G, I, J) := by
                obtain rfl := hp_51.symm
                rw [epo]
                refine ⟨Eq.symm ?_, rfl⟩
                unfold f_X8_whatIsAgainst; rw [if_neg c_4, if_pos c_14, if_pos q_31, if_neg c_54]
            exact w_iret X hr hlk hw hp_58 (Nat.le_of_ble_eq_true rfl) (Nat.le_of_ble_eq_true rfl) dX8_whatIsAgainst_58
      · rw [q0_31] at hp_31
        subst r_31_1
        refine lv_if_eq (tgt := 59) hx hb dX8_whatIsAgainst_34 (by decide) (fun c_34 => ?_) (fun c_34 => ?_)
        · refine lv_aload_n hx hb dX8_whatIsAgainst_59 rfl (lv_at hl 1 rfl) ?_
          refine w_getN X hw 8 0 hn hk (by decide) k_X7 in_X8_whatIsAgainst_X7 (by decide) (hst.1 (RX8, 139, "CorkForest$Tree", "girth", "I") (by decide)) rfl (v := .int (I n 0)) rfl dX8_whatIsAgainst_60 ?_
          refine lv_aload_n hx hb dX8_whatIsAgainst_63 rfl (lv_at hl 0 rfl) ?_
          refine w_get X hw 9 1 (hL 0 (by decide)) rfl (by decide) k_X8 in_X8_whatIsAgainst_X8 (by decide) (by decide +kernel) rfl (v := .ref (G.1 3)) rfl dX8_whatIsAgainst_64 ?_
          refine lv_iconst (v := 1) hx hb dX8_whatIsAgainst_67 (by decide) ?_
          refine w_callVi (As := [.int 1]) (rest := [.int (I n 0)]) X hw hst hl (c_X1_told l D y b z G I J hL 1) (cwV 1 X.1.2.2.2.2 gX8_whatIsAgainst_X1_told rfl rfl rfl (by decide +kernel) ⟨Nat.le_of_ble_eq_true rfl, Nat.le_of_ble_eq_true rfl⟩) (w_recv X hw (hL 3 (by decide)) rfl (by decide) k_X1) rfl rfl (Nat.le_of_ble_eq_true rfl) dX8_whatIsAgainst_68 ⟨Nat.le_of_ble_eq_true rfl, Nat.le_of_ble_eq_true rfl⟩ (fun r_68_7 u H locs hp_68 hw => ?_)
          obtain ⟨hp_68, rfl⟩ := hp_68
          dsimp only at hw
          refine lv_icmp_ge (tgt := 76) hx hb dX8_whatIsAgainst_71 (by decide) (fun c_71 => ?_) (fun c_71 => ?_)
          · refine lv_aload_n hx hb dX8_whatIsAgainst_76 rfl (lv_at hl 1 rfl) ?_
            refine w_getN X hw 8 1 hn hk (by decide) k_X7 in_X8_whatIsAgainst_X7 (by decide) (hst.1 (RX8, 142, "CorkForest$Tree", "bark", "I") (by decide)) rfl (v := .int (I n 1)) rfl dX8_whatIsAgainst_77 ?_
            refine lv_aload_n hx hb dX8_whatIsAgainst_80 rfl (lv_at hl 0 rfl) ?_
            refine w_get X hw 9 1 (hL 0 (by decide)) rfl (by decide) k_X8 in_X8_whatIsAgainst_X8 (by decide) (by decide +kernel) rfl (v := .ref (G.1 3)) rfl dX8_whatIsAgainst_81 ?_
            refine lv_iconst (v := 5) hx hb dX8_whatIsAgainst_84 (by decide) ?_
            refine w_callVi (As := [.int 5]) (rest := [.int (I n 1)]) X hw hst hl (c_X1_told l D y b z G I J hL 5) (cwV 1 X.1.2.2.2.2 gX8_whatIsAgainst_X1_told rfl rfl rfl (by decide +kernel) ⟨Nat.le_of_ble_eq_true rfl, Nat.le_of_ble_eq_true rfl⟩) (w_recv X hw (hL 3 (by decide)) rfl (by decide) k_X1) rfl rfl (Nat.le_of_ble_eq_true rfl) dX8_whatIsAgainst_85 ⟨Nat.le_of_ble_eq_true rfl, Nat.le_of_ble_eq_true rfl⟩ (fun r_85_8 u H locs hp_85 hw => ?_)
            obtain ⟨hp_85, rfl⟩ := hp_85
            dsimp only at hw
            refine lv_icmp_ge (tgt := 93) hx hb dX8_whatIsAgainst_88 (by decide) (fun c_88 => ?_) (fun c_88 => ?_)
            · refine lv_iload_n hx hb dX8_whatIsAgainst_93 rfl (lv_at hl 2 rfl) ?_
              refine lv_aload_n hx hb dX8_whatIsAgainst_94 rfl (lv_at hl 0 rfl) ?_
              refine lv_aload_n hx hb dX8_whatIsAgainst_95 rfl (lv_at hl 1 rfl) ?_
              refine w_callVi (As := [.ref (G.1 n)]) (rest := [.int h]) X hw hst hl (c_X8_heightAllowed l D y b z G I J hL n  hn hk) (cwV 1 X.1.2.2.2.2 gX8_whatIsAgainst_X8_heightAllowed rfl rfl rfl (by decide +kernel) ⟨Nat.le_of_ble_eq_true rfl, Nat.le_of_ble_eq_true rfl⟩) (w_recv X hw (hL 0 (by decide)) rfl (by decide) k_X8) rfl rfl (Nat.le_of_ble_eq_true rfl) dX8_whatIsAgainst_96 ⟨Nat.le_of_ble_eq_true rfl, Nat.le_of_ble_eq_true rfl⟩ (fun r_96_9 u H locs hp_96 hw => ?_)
              obtain ⟨hp_96, rfl⟩ := hp_96
              dsimp only at hw
              refine lv_icmp_le (tgt := 105) hx hb dX8_whatIsAgainst_99 (by decide) (fun c_99 => ?_) (fun c_99 => ?_)
              · refine lv_aload_n hx hb dX8_whatIsAgainst_105 rfl (lv_at hl 0 rfl) ?_
                refine w_get X hw 9 4 (hL 0 (by decide)) rfl (by decide) k_X8 in_X8_whatIsAgainst_X8 (by decide) (by decide +kernel) rfl (v := .ref (G.1 8)) rfl dX8_whatIsAgainst_106 ?_
                refine w_callVi (As := []) (rest := []) X hw hst hl (c_Jx4a65c_size_8abf5 l D y b z G I J hL 8  (hL 8 (by decide)) rfl) (cwV 0 X.1.2.2.2.2 gX8_whatIsAgainst_Jx4a65c_size_8abf5 rfl rfl rfl (by decide +kernel) ⟨Nat.le_of_ble_eq_true rfl, Nat.le_of_ble_eq_true rfl⟩) (w_recv X hw (hL 8 (by decide)) rfl (by decide) k_Jx4a65c) rfl rfl (Nat.le_of_ble_eq_true rfl) dX8_whatIsAgainst_109 ⟨Nat.le_of_ble_eq_true rfl, Nat.le_of_ble_eq_true rfl⟩ (fun r_109_10 u H locs hp_109 hw => ?_)
                obtain ⟨hp_109, rfl⟩ := hp_109
                dsimp only at hw
                refine lv_sipush (v := 200) hx hb dX8_whatIsAgainst_112 (by decide) ?_
                refine lv_icmp_lt (tgt := 123) hx hb dX8_whatIsAgainst_115 (by decide) (fun c_115 => ?_) (fun c_115 => ?_)
                · refine lv_iconst (v := 0) hx hb dX8_whatIsAgainst_123 (by decide) ?_
                  have hp_124 : po_c_X8_whatIsAgainst 0 (G, I, J) := by
                      obtain rfl := hp_68.symm
                      obtain rfl := hp_85.symm
                      obtain rfl := hp_96.symm
                      obtain rfl := hp_109.symm
                      rw [epo]
                      refine ⟨Eq.symm ?_, rfl⟩
                      unfold f_X8_whatIsAgainst; rw [if_neg c_4, if_pos c_14, if_neg q_31, if_pos c_71, if_pos c_88, if_pos c_99, if_pos c_115]
                  exact w_iret X hr hlk hw hp_124 (Nat.le_of_ble_eq_true rfl) (Nat.le_of_ble_eq_true rfl) dX8_whatIsAgainst_124
                · refine lv_bipush (v := 7) hx hb dX8_whatIsAgainst_118 (by decide) ?_
                  refine lv_goto (tgt := 124) hx hb dX8_whatIsAgainst_120 (by decide) ?_
                  have hp_124 : po_c_X8_whatIsAgainst 7 (G, I, J) := by
                      obtain rfl := hp_68.symm
                      obtain rfl := hp_85.symm
                      obtain rfl := hp_96.symm
                      obtain rfl := hp_109.symm
                      rw [epo]
                      refine ⟨Eq.symm ?_, rfl⟩
                      unfold f_X8_whatIsAgainst; rw [if_neg c_4, if_pos c_14, if_neg q_31, if_pos c_71, if_pos c_88, if_pos c_99, if_neg c_115]
                  exact w_iret X hr hlk hw hp_124 (Nat.le_of_ble_eq_true rfl) (Nat.le_of_ble_eq_true rfl) dX8_whatIsAgainst_124
              · refine lv_bipush (v := 6) hx hb dX8_whatIsAgainst_102 (by decide) ?_
                have hp_104 : po_c_X8_whatIsAgainst 6 (G, I, J) := by
                    obtain rfl := hp_68.symm
                    obtain rfl := hp_85.symm
                    obtain rfl := hp_96.symm
                    rw [epo]
                    refine ⟨Eq.symm ?_, rfl⟩
                    unfold f_X8_whatIsAgainst; rw [if_neg c_4, if_pos c_14, if_neg q_31, if_pos c_71, if_pos c_88, if_neg c_99]
                exact w_iret X hr hlk hw hp_104 (Nat.le_of_ble_eq_true rfl) (Nat.le_of_ble_eq_true rfl) dX8_whatIsAgainst_104
            · refine lv_iconst (v := 5) hx hb dX8_whatIsAgainst_91 (by decide) ?_
              have hp_92 : po_c_X8_whatIsAgainst 5 (G, I, J) := by
                  obtain rfl := hp_68.symm
                  obtain rfl := hp_85.symm
                  rw [epo]
                  refine ⟨Eq.symm ?_, rfl⟩
                  unfold f_X8_whatIsAgainst; rw [if_neg c_4, if_pos c_14, if_neg q_31, if_pos c_71, if_neg c_88]
              exact w_iret X hr hlk hw hp_92 (Nat.le_of_ble_eq_true rfl) (Nat.le_of_ble_eq_true rfl) dX8_whatIsAgainst_92
          · refine lv_iconst (v := 4) hx hb dX8_whatIsAgainst_74 (by decide) ?_
            have hp_75 : po_c_X8_whatIsAgainst 4 (G, I, J) := by
                obtain rfl := hp_68.symm
                rw [epo]
                refine ⟨Eq.symm ?_, rfl⟩
                unfold f_X8_whatIsAgainst; rw [if_neg c_4, if_pos c_14, if_neg q_31, if_neg c_71]
            exact w_iret X hr hlk hw hp_75 (Nat.le_of_ble_eq_true rfl) (Nat.le_of_ble_eq_true rfl) dX8_whatIsAgainst_75
        · exact absurd (by decide) c_34
    · refine lv_aload_n hx hb dX8_whatIsAgainst_17 rfl (lv_at hl 0 rfl) ?_
      refine w_get X hw 9 8 (hL 0 (by decide)) rfl (by decide) k_X8 in_X8_whatIsAgainst_X8 (by decide) (by decide +kernel) rfl (v := .int (I 0 8)) rfl dX8_whatIsAgainst_18 ?_
      refine lv_aload_n hx hb dX8_whatIsAgainst_21 rfl (lv_at hl 1 rfl) ?_
      refine w_getN X hw 8 4 hn hk (by decide) k_X7 in_X8_whatIsAgainst_X7 (by decide) (hst.1 (RX8, 152, "CorkForest$Tree", "rests", "I") (by decide)) rfl (v := .int (I n 4)) rfl dX8_whatIsAgainst_22 ?_
      refine lv_icmp_gt (tgt := 30) hx hb dX8_whatIsAgainst_25 (by decide) (fun c_25 => ?_) (fun c_25 => ?_)
      · refine lv_aload_n hx hb dX8_whatIsAgainst_30 rfl (lv_at hl 1 rfl) ?_
        refine w_callVi (As := []) (rest := []) X hw hst hl (c_X7_wasStripped l D y b z G I J hL n  hn hk) (cwV 0 X.1.2.2.2.2 gX8_whatIsAgainst_X7_wasStripped rfl rfl rfl (by decide +kernel) ⟨Nat.le_of_ble_eq_true rfl, Nat.le_of_ble_eq_true rfl⟩) (w_recv X hw hn hk (by decide) k_X7) rfl rfl (Nat.le_of_ble_eq_true rfl) dX8_whatIsAgainst_31 ⟨Nat.le_of_ble_eq_true rfl, Nat.le_of_ble_eq_true rfl⟩ (fun r_31_11 u H locs hp_31 hw => ?_)
        obtain ⟨hp_31, rfl⟩ := hp_31
        dsimp only at hw
        rcases f_X7_wasStripped_01  I n with q_31 | ⟨q_31, q0_31⟩
        · rw [q_31] at hp_31
          subst r_31_11
          refine lv_if_eq (tgt := 59) hx hb dX8_whatIsAgainst_34 (by decide) (fun c_34 => ?_) (fun c_34 => ?_)
          · exact absurd c_34 (by decide)
          · refine lv_aload_n hx hb dX8_whatIsAgainst_37 rfl (lv_at hl 0 rfl) ?_
            refine w_get X hw 9 8 (hL 0 (by decide)) rfl (by decide) k_X8 in_X8_whatIsAgainst_X8 (by decide) (by decide +kernel) rfl (v := .int (I 0 8)) rfl dX8_whatIsAgainst_38 ?_
            refine lv_aload_n hx hb dX8_whatIsAgainst_41 rfl (lv_at hl 1 rfl) ?_
            refine w_getN X hw 8 2 hn hk (by decide) k_X7 in_X8_whatIsAgainst_X7 (by decide) (hst.1 (RX8, 158, "CorkForest$Tree", "stripped", "I") (by decide)) rfl (v := .int (I n 2)) rfl dX8_whatIsAgainst_42 ?_
            refine lv_isub hx hb dX8_whatIsAgainst_45 ?_
            refine lv_aload_n hx hb dX8_whatIsAgainst_46 rfl (lv_at hl 0 rfl) ?_
            refine w_get X hw 9 1 (hL 0 (by decide)) rfl (by decide) k_X8 in_X8_whatIsAgainst_X8 (by decide) (by decide +kernel) rfl (v := .ref (G.1 3)) rfl dX8_whatIsAgainst_47 ?_
            refine lv_iconst (v := 0) hx hb dX8_whatIsAgainst_50 (by decide) ?_
            refine w_callVi (As := [.int 0]) (rest := [.int ((I 0 8) - (I n 2))]) X hw hst hl (c_X1_told l D y b z G I J hL 0) (cwV 1 X.1.2.2.2.2 gX8_whatIsAgainst_X1_told rfl rfl rfl (by decide +kernel) ⟨Nat.le_of_ble_eq_true rfl, Nat.le_of_ble_eq_true rfl⟩) (w_recv X hw (hL 3 (by decide)) rfl (by decide) k_X1) rfl rfl (Nat.le_of_ble_eq_true rfl) dX8_whatIsAgainst_51 ⟨Nat.le_of_ble_eq_true rfl, Nat.le_of_ble_eq_true rfl⟩ (fun r_51_12 u H locs hp_51 hw => ?_)
            obtain ⟨hp_51, rfl⟩ := hp_51
            dsimp only at hw
            refine lv_icmp_ge (tgt := 59) hx hb dX8_whatIsAgainst_54 (by decide) (fun c_54 => ?_) (fun c_54 => ?_)
            · refine lv_aload_n hx hb dX8_whatIsAgainst_59 rfl (lv_at hl 1 rfl) ?_
              refine w_getN X hw 8 0 hn hk (by decide) k_X7 in_X8_whatIsAgainst_X7 (by decide) (hst.1 (RX8, 139, "CorkForest$Tree", "girth", "I") (by decide)) rfl (v := .int (I n 0)) rfl dX8_whatIsAgainst_60 ?_
              refine lv_aload_n hx hb dX8_whatIsAgainst_63 rfl (lv_at hl 0 rfl) ?_
              refine w_get X hw 9 1 (hL 0 (by decide)) rfl (by decide) k_X8 in_X8_whatIsAgainst_X8 (by decide) (by decide +kernel) rfl (v := .ref (G.1 3)) rfl dX8_whatIsAgainst_64 ?_
              refine lv_iconst (v := 1) hx hb dX8_whatIsAgainst_67 (by decide) ?_
              refine w_callVi (As := [.int 1]) (rest := [.int (I n 0)]) X hw hst hl (c_X1_told l D y b z G I J hL 1) (cwV 1 X.1.2.2.2.2 gX8_whatIsAgainst_X1_told rfl rfl rfl (by decide +kernel) ⟨Nat.le_of_ble_eq_true rfl, Nat.le_of_ble_eq_true rfl⟩) (w_recv X hw (hL 3 (by decide)) rfl (by decide) k_X1) rfl rfl (Nat.le_of_ble_eq_true rfl) dX8_whatIsAgainst_68 ⟨Nat.le_of_ble_eq_true rfl, Nat.le_of_ble_eq_true rfl⟩ (fun r_68_13 u H locs hp_68 hw => ?_)
              obtain ⟨hp_68, rfl⟩ := hp_68
              dsimp only at hw
              refine lv_icmp_ge (tgt := 76) hx hb dX8_whatIsAgainst_71 (by decide) (fun c_71 => ?_) (fun c_71 => ?_)
              · refine lv_aload_n hx hb dX8_whatIsAgainst_76 rfl (lv_at hl 1 rfl) ?_
                refine w_getN X hw 8 1 hn hk (by decide) k_X7 in_X8_whatIsAgainst_X7 (by decide) (hst.1 (RX8, 142, "CorkForest$Tree", "bark", "I") (by decide)) rfl (v := .int (I n 1)) rfl dX8_whatIsAgainst_77 ?_
                refine lv_aload_n hx hb dX8_whatIsAgainst_80 rfl (lv_at hl 0 rfl) ?_
                refine w_get X hw 9 1 (hL 0 (by decide)) rfl (by decide) k_X8 in_X8_whatIsAgainst_X8 (by decide) (by decide +kernel) rfl (v := .ref (G.1 3)) rfl dX8_whatIsAgainst_81 ?_
                refine lv_iconst (v := 5) hx hb dX8_whatIsAgainst_84 (by decide) ?_
                refine w_callVi (As := [.int 5]) (rest := [.int (I n 1)]) X hw hst hl (c_X1_told l D y b z G I J hL 5) (cwV 1 X.1.2.2.2.2 gX8_whatIsAgainst_X1_told rfl rfl rfl (by decide +kernel) ⟨Nat.le_of_ble_eq_true rfl, Nat.le_of_ble_eq_true rfl⟩) (w_recv X hw (hL 3 (by decide)) rfl (by decide) k_X1) rfl rfl (Nat.le_of_ble_eq_true rfl) dX8_whatIsAgainst_85 ⟨Nat.le_of_ble_eq_true rfl, Nat.le_of_ble_eq_true rfl⟩ (fun r_85_14 u H locs hp_85 hw => ?_)
                obtain ⟨hp_85, rfl⟩ := hp_85
                dsimp only at hw
                refine lv_icmp_ge (tgt := 93) hx hb dX8_whatIsAgainst_88 (by decide) (fun c_88 => ?_) (fun c_88 => ?_)
                · refine lv_iload_n hx hb dX8_whatIsAgainst_93 rfl (lv_at hl 2 rfl) ?_
                  refine lv_aload_n hx hb dX8_whatIsAgainst_94 rfl (lv_at hl 0 rfl) ?_
                  refine lv_aload_n hx hb dX8_whatIsAgainst_95 rfl (lv_at hl 1 rfl) ?_
                  refine w_callVi (As := [.ref (G.1 n)]) (rest := [.int h]) X hw hst hl (c_X8_heightAllowed l D y b z G I J hL n  hn hk) (cwV 1 X.1.2.2.2.2 gX8_whatIsAgainst_X8_heightAllowed rfl rfl rfl (by decide +kernel) ⟨Nat.le_of_ble_eq_true rfl, Nat.le_of_ble_eq_true rfl⟩) (w_recv X hw (hL 0 (by decide)) rfl (by decide) k_X8) rfl rfl (Nat.le_of_ble_eq_true rfl) dX8_whatIsAgainst_96 ⟨Nat.le_of_ble_eq_true rfl, Nat.le_of_ble_eq_true rfl⟩ (fun r_96_15 u H locs hp_96 hw => ?_)
                  obtain ⟨hp_96, rfl⟩ := hp_96
                  dsimp only at hw
                  refine lv_icmp_le (tgt := 105) hx hb dX8_whatIsAgainst_99 (by decide) (fun c_99 => ?_) (fun c_99 => ?_)
                  · refine lv_aload_n hx hb dX8_whatIsAgainst_105 rfl (lv_at hl 0 rfl) ?_
                    refine w_get X hw 9 4 (hL 0 (by decide)) rfl (by decide) k_X8 in_X8_whatIsAgainst_X8 (by decide) (by decide +kernel) rfl (v := .ref (G.1 8)) rfl dX8_whatIsAgainst_106 ?_
                    refine w_callVi (As := []) (rest := []) X hw hst hl (c_Jx4a65c_size_8abf5 l D y b z G I J hL 8  (hL 8 (by decide)) rfl) (cwV 0 X.1.2.2.2.2 gX8_whatIsAgainst_Jx4a65c_size_8abf5 rfl rfl rfl (by decide +kernel) ⟨Nat.le_of_ble_eq_true rfl, Nat.le_of_ble_eq_true rfl⟩) (w_recv X hw (hL 8 (by decide)) rfl (by decide) k_Jx4a65c) rfl rfl (Nat.le_of_ble_eq_true rfl) dX8_whatIsAgainst_109 ⟨Nat.le_of_ble_eq_true rfl, Nat.le_of_ble_eq_true rfl⟩ (fun r_109_16 u H locs hp_109 hw => ?_)
                    obtain ⟨hp_109, rfl⟩ := hp_109
                    dsimp only at hw
                    refine lv_sipush (v := 200) hx hb dX8_whatIsAgainst_112 (by decide) ?_
                    refine lv_icmp_lt (tgt := 123) hx hb dX8_whatIsAgainst_115 (by decide) (fun c_115 => ?_) (fun c_115 => ?_)
                    · refine lv_iconst (v := 0) hx hb dX8_whatIsAgainst_123 (by decide) ?_
                      have hp_124 : po_c_X8_whatIsAgainst 0 (G, I, J) := by
                          obtain rfl := hp_51.symm
                          obtain rfl := hp_68.symm
                          obtain rfl := hp_85.symm
                          obtain rfl := hp_96.symm
                          obtain rfl := hp_109.symm
                          rw [epo]
                          refine ⟨Eq.symm ?_, rfl⟩
                          unfold f_X8_whatIsAgainst; rw [if_neg c_4, if_neg c_14, if_pos c_25, if_pos q_31, if_pos c_54, if_pos c_71, if_pos c_88, if_pos c_99, if_pos c_115]
                      exact w_iret X hr hlk hw hp_124 (Nat.le_of_ble_eq_true rfl) (Nat.le_of_ble_eq_true rfl) dX8_whatIsAgainst_124
                    · refine lv_bipush (v := 7) hx hb dX8_whatIsAgainst_118 (by decide) ?_
                      refine lv_goto (tgt := 124) hx hb dX8_whatIsAgainst_120 (by decide) ?_
                      have hp_124 : po_c_X8_whatIsAgainst 7 (G, I, J) := by
                          obtain rfl := hp_51.symm
                          obtain rfl := hp_68.symm
                          obtain rfl := hp_85.symm
                          obtain rfl := hp_96.symm
                          obtain rfl := hp_109.symm
                          rw [epo]
                          refine ⟨Eq.symm ?_, rfl⟩
                          unfold f_X8_whatIsAgainst; rw [if_neg c_4, if_neg c_14, if_pos c_25, if_pos q_31, if_pos c_54, if_pos c_71, if_pos c_88, if_pos c_99, if_neg c_115]
                      exact w_iret X hr hlk hw hp_124 (Nat.le_of_ble_eq_true rfl) (Nat.le_of_ble_eq_true rfl) dX8_whatIsAgainst_124
                  · refine lv_bipush (v := 6) hx hb dX8_whatIsAgainst_102 (by decide) ?_
                    have hp_104 : po_c_X8_whatIsAgainst 6 (G, I, J) := by
                        obtain rfl := hp_51.symm
                        obtain rfl := hp_68.symm
                        obtain rfl := hp_85.symm
                        obtain rfl := hp_96.symm
                        rw [epo]
                        refine ⟨Eq.symm ?_, rfl⟩
                        unfold f_X8_whatIsAgainst; rw [if_neg c_4, if_neg c_14, if_pos c_25, if_pos q_31, if_pos c_54, if_pos c_71, if_pos c_88, if_neg c_99]
                    exact w_iret X hr hlk hw hp_104 (Nat.le_of_ble_eq_true rfl) (Nat.le_of_ble_eq_true rfl) dX8_whatIsAgainst_104
                · refine lv_iconst (v := 5) hx hb dX8_whatIsAgainst_91 (by decide) ?_
                  have hp_92 : po_c_X8_whatIsAgainst 5 (G, I, J) := by
                      obtain rfl := hp_51.symm
                      obtain rfl := hp_68.symm
                      obtain rfl := hp_85.symm
                      rw [epo]
                      refine ⟨Eq.symm ?_, rfl⟩
                      unfold f_X8_whatIsAgainst; rw [if_neg c_4, if_neg c_14, if_pos c_25, if_pos q_31, if_pos c_54, if_pos c_71, if_neg c_88]
                  exact w_iret X hr hlk hw hp_92 (Nat.le_of_ble_eq_true rfl) (Nat.le_of_ble_eq_true rfl) dX8_whatIsAgainst_92
              · refine lv_iconst (v := 4) hx hb dX8_whatIsAgainst_74 (by decide) ?_
                have hp_75 : po_c_X8_whatIsAgainst 4 (G, I, J) := by
                    obtain rfl := hp_51.symm
                    obtain rfl := hp_68.symm
                    rw [epo]
                    refine ⟨Eq.symm ?_, rfl⟩
                    unfold f_X8_whatIsAgainst; rw [if_neg c_4, if_neg c_14, if_pos c_25, if_pos q_31, if_pos c_54, if_neg c_71]
                exact w_iret X hr hlk hw hp_75 (Nat.le_of_ble_eq_true rfl) (Nat.le_of_ble_eq_true rfl) dX8_whatIsAgainst_75
            · refine lv_iconst (v := 3) hx hb dX8_whatIsAgainst_57 (by decide) ?_
              have hp_58 : po_c_X8_whatIsAgainst 3 (G, I, J) := by
                  obtain rfl := hp_51.symm
                  rw [epo]
                  refine ⟨Eq.symm ?_, rfl⟩
                  unfold f_X8_whatIsAgainst; rw [if_neg c_4, if_neg c_14, if_pos c_25, if_pos q_31, if_neg c_54]
              exact w_iret X hr hlk hw hp_58 (Nat.le_of_ble_eq_true rfl) (Nat.le_of_ble_eq_true rfl) dX8_whatIsAgainst_58
        · rw [q0_31] at hp_31
          subst r_31_11
          refine lv_if_eq (tgt := 59) hx hb dX8_whatIsAgainst_34 (by decide) (fun c_34 => ?_) (fun c_34 => ?_)
          · refine lv_aload_n hx hb dX8_whatIsAgainst_59 rfl (lv_at hl 1 rfl) ?_
            refine w_getN X hw 8 0 hn hk (by decide) k_X7 in_X8_whatIsAgainst_X7 (by decide) (hst.1 (RX8, 139, "CorkForest$Tree", "girth", "I") (by decide)) rfl (v := .int (I n 0)) rfl dX8_whatIsAgainst_60 ?_
            refine lv_aload_n hx hb dX8_whatIsAgainst_63 rfl (lv_at hl 0 rfl) ?_
            refine w_get X hw 9 1 (hL 0 (by decide)) rfl (by decide) k_X8 in_X8_whatIsAgainst_X8 (by decide) (by decide +kernel) rfl (v := .ref (G.1 3)) rfl dX8_whatIsAgainst_64 ?_
            refine lv_iconst (v := 1) hx hb dX8_whatIsAgainst_67 (by decide) ?_
            refine w_callVi (As := [.int 1]) (rest := [.int (I n 0)]) X hw hst hl (c_X1_told l D y b z G I J hL 1) (cwV 1 X.1.2.2.2.2 gX8_whatIsAgainst_X1_told rfl rfl rfl (by decide +kernel) ⟨Nat.le_of_ble_eq_true rfl, Nat.le_of_ble_eq_true rfl⟩) (w_recv X hw (hL 3 (by decide)) rfl (by decide) k_X1) rfl rfl (Nat.le_of_ble_eq_true rfl) dX8_whatIsAgainst_68 ⟨Nat.le_of_ble_eq_true rfl, Nat.le_of_ble_eq_true rfl⟩ (fun r_68_17 u H locs hp_68 hw => ?_)
            obtain ⟨hp_68, rfl⟩ := hp_68
            dsimp only at hw
            refine lv_icmp_ge (tgt := 76) hx hb dX8_whatIsAgainst_71 (by decide) (fun c_71 => ?_) (fun c_71 => ?_)
            · refine lv_aload_n hx hb dX8_whatIsAgainst_76 rfl (lv_at hl 1 rfl) ?_
              refine w_getN X hw 8 1 hn hk (by decide) k_X7 in_X8_whatIsAgainst_X7 (by decide) (hst.1 (RX8, 142, "CorkForest$Tree", "bark", "I") (by decide)) rfl (v := .int (I n 1)) rfl dX8_whatIsAgainst_77 ?_
              refine lv_aload_n hx hb dX8_whatIsAgainst_80 rfl (lv_at hl 0 rfl) ?_
              refine w_get X hw 9 1 (hL 0 (by decide)) rfl (by decide) k_X8 in_X8_whatIsAgainst_X8 (by decide) (by decide +kernel) rfl (v := .ref (G.1 3)) rfl dX8_whatIsAgainst_81 ?_
              refine lv_iconst (v := 5) hx hb dX8_whatIsAgainst_84 (by decide) ?_
              refine w_callVi (As := [.int 5]) (rest := [.int (I n 1)]) X hw hst hl (c_X1_told l D y b z G I J hL 5) (cwV 1 X.1.2.2.2.2 gX8_whatIsAgainst_X1_told rfl rfl rfl (by decide +kernel) ⟨Nat.le_of_ble_eq_true rfl, Nat.le_of_ble_eq_true rfl⟩) (w_recv X hw (hL 3 (by decide)) rfl (by decide) k_X1) rfl rfl (Nat.le_of_ble_eq_true rfl) dX8_whatIsAgainst_85 ⟨Nat.le_of_ble_eq_true rfl, Nat.le_of_ble_eq_true rfl⟩ (fun r_85_18 u H locs hp_85 hw => ?_)
              obtain ⟨hp_85, rfl⟩ := hp_85
              dsimp only at hw
              refine lv_icmp_ge (tgt := 93) hx hb dX8_whatIsAgainst_88 (by decide) (fun c_88 => ?_) (fun c_88 => ?_)
              · refine lv_iload_n hx hb dX8_whatIsAgainst_93 rfl (lv_at hl 2 rfl) ?_
                refine lv_aload_n hx hb dX8_whatIsAgainst_94 rfl (lv_at hl 0 rfl) ?_
                refine lv_aload_n hx hb dX8_whatIsAgainst_95 rfl (lv_at hl 1 rfl) ?_
                refine w_callVi (As := [.ref (G.1 n)]) (rest := [.int h]) X hw hst hl (c_X8_heightAllowed l D y b z G I J hL n  hn hk) (cwV 1 X.1.2.2.2.2 gX8_whatIsAgainst_X8_heightAllowed rfl rfl rfl (by decide +kernel) ⟨Nat.le_of_ble_eq_true rfl, Nat.le_of_ble_eq_true rfl⟩) (w_recv X hw (hL 0 (by decide)) rfl (by decide) k_X8) rfl rfl (Nat.le_of_ble_eq_true rfl) dX8_whatIsAgainst_96 ⟨Nat.le_of_ble_eq_true rfl, Nat.le_of_ble_eq_true rfl⟩ (fun r_96_19 u H locs hp_96 hw => ?_)
                obtain ⟨hp_96, rfl⟩ := hp_96
                dsimp only at hw
                refine lv_icmp_le (tgt := 105) hx hb dX8_whatIsAgainst_99 (by decide) (fun c_99 => ?_) (fun c_99 => ?_)
                · refine lv_aload_n hx hb dX8_whatIsAgainst_105 rfl (lv_at hl 0 rfl) ?_
                  refine w_get X hw 9 4 (hL 0 (by decide)) rfl (by decide) k_X8 in_X8_whatIsAgainst_X8 (by decide) (by decide +kernel) rfl (v := .ref (G.1 8)) rfl dX8_whatIsAgainst_106 ?_
                  refine w_callVi (As := []) (rest := []) X hw hst hl (c_Jx4a65c_size_8abf5 l D y b z G I J hL 8  (hL 8 (by decide)) rfl) (cwV 0 X.1.2.2.2.2 gX8_whatIsAgainst_Jx4a65c_size_8abf5 rfl rfl rfl (by decide +kernel) ⟨Nat.le_of_ble_eq_true rfl, Nat.le_of_ble_eq_true rfl⟩) (w_recv X hw (hL 8 (by decide)) rfl (by decide) k_Jx4a65c) rfl rfl (Nat.le_of_ble_eq_true rfl) dX8_whatIsAgainst_109 ⟨Nat.le_of_ble_eq_true rfl, Nat.le_of_ble_eq_true rfl⟩ (fun r_109_20 u H locs hp_109 hw => ?_)
                  obtain ⟨hp_109, rfl⟩ := hp_109
                  dsimp only at hw
                  refine lv_sipush (v := 200) hx hb dX8_whatIsAgainst_112 (by decide) ?_
                  refine lv_icmp_lt (tgt := 123) hx hb dX8_whatIsAgainst_115 (by decide) (fun c_115 => ?_) (fun c_115 => ?_)
                  · refine lv_iconst (v := 0) hx hb dX8_whatIsAgainst_123 (by decide) ?_
                    have hp_124 : po_c_X8_whatIsAgainst 0 (G, I, J) := by
                        obtain rfl := hp_68.symm
                        obtain rfl := hp_85.symm
                        obtain rfl := hp_96.symm
                        obtain rfl := hp_109.symm
                        rw [epo]
                        refine ⟨Eq.symm ?_, rfl⟩
                        unfold f_X8_whatIsAgainst; rw [if_neg c_4, if_neg c_14, if_pos c_25, if_neg q_31, if_pos c_71, if_pos c_88, if_pos c_99, if_pos c_115]
                    exact w_iret X hr hlk hw hp_124 (Nat.le_of_ble_eq_true rfl) (Nat.le_of_ble_eq_true rfl) dX8_whatIsAgainst_124
                  · refine lv_bipush (v := 7) hx hb dX8_whatIsAgainst_118 (by decide) ?_
                    refine lv_goto (tgt := 124) hx hb dX8_whatIsAgainst_120 (by decide) ?_
                    have hp_124 : po_c_X8_whatIsAgainst 7 (G, I, J) := by
                        obtain rfl := hp_68.symm
                        obtain rfl := hp_85.symm
                        obtain rfl := hp_96.symm
                        obtain rfl := hp_109.symm
                        rw [epo]
                        refine ⟨Eq.symm ?_, rfl⟩
                        unfold f_X8_whatIsAgainst; rw [if_neg c_4, if_neg c_14, if_pos c_25, if_neg q_31, if_pos c_71, if_pos c_88, if_pos c_99, if_neg c_115]
                    exact w_iret X hr hlk hw hp_124 (Nat.le_of_ble_eq_true rfl) (Nat.le_of_ble_eq_true rfl) dX8_whatIsAgainst_124
                · refine lv_bipush (v := 6) hx hb dX8_whatIsAgainst_102 (by decide) ?_
                  have hp_104 : po_c_X8_whatIsAgainst 6 (G, I, J) := by
                      obtain rfl := hp_68.symm
                      obtain rfl := hp_85.symm
                      obtain rfl := hp_96.symm
                      rw [epo]
                      refine ⟨Eq.symm ?_, rfl⟩
                      unfold f_X8_whatIsAgainst; rw [if_neg c_4, if_neg c_14, if_pos c_25, if_neg q_31, if_pos c_71, if_pos c_88, if_neg c_99]
                  exact w_iret X hr hlk hw hp_104 (Nat.le_of_ble_eq_true rfl) (Nat.le_of_ble_eq_true rfl) dX8_whatIsAgainst_104
              · refine lv_iconst (v := 5) hx hb dX8_whatIsAgainst_91 (by decide) ?_
                have hp_92 : po_c_X8_whatIsAgainst 5 (G, I, J) := by
                    obtain rfl := hp_68.symm
                    obtain rfl := hp_85.symm
                    rw [epo]
                    refine ⟨Eq.symm ?_, rfl⟩
                    unfold f_X8_whatIsAgainst; rw [if_neg c_4, if_neg c_14, if_pos c_25, if_neg q_31, if_pos c_71, if_neg c_88]
                exact w_iret X hr hlk hw hp_92 (Nat.le_of_ble_eq_true rfl) (Nat.le_of_ble_eq_true rfl) dX8_whatIsAgainst_92
            · refine lv_iconst (v := 4) hx hb dX8_whatIsAgainst_74 (by decide) ?_
              have hp_75 : po_c_X8_whatIsAgainst 4 (G, I, J) := by
                  obtain rfl := hp_68.symm
                  rw [epo]
                  refine ⟨Eq.symm ?_, rfl⟩
                  unfold f_X8_whatIsAgainst; rw [if_neg c_4, if_neg c_14, if_pos c_25, if_neg q_31, if_neg c_71]
              exact w_iret X hr hlk hw hp_75 (Nat.le_of_ble_eq_true rfl) (Nat.le_of_ble_eq_true rfl) dX8_whatIsAgainst_75
          · exact absurd (by decide) c_34
      · refine lv_iconst (v := 2) hx hb dX8_whatIsAgainst_28 (by decide) ?_
        have hp_29 : po_c_X8_whatIsAgainst 2 (G, I, J) := by
            rw [epo]
            refine ⟨Eq.symm ?_, rfl⟩
            unfold f_X8_whatIsAgainst; rw [if_neg c_4, if_neg c_14, if_neg c_25]
        exact w_iret X hr hlk hw hp_29 (Nat.le_of_ble_eq_true rfl) (Nat.le_of_ble_eq_true rfl) dX8_whatIsAgainst_29
  · refine lv_iconst (v := 1) hx hb dX8_whatIsAgainst_7 (by decide) ?_
    have hp_8 : po_c_X8_whatIsAgainst 1 (G, I, J) := by
        rw [epo]
        refine ⟨Eq.symm ?_, rfl⟩
        unfold f_X8_whatIsAgainst; rw [if_pos c_4]
    exact w_iret X hr hlk hw hp_8 (Nat.le_of_ble_eq_true rfl) (Nat.le_of_ble_eq_true rfl) dX8_whatIsAgainst_8
