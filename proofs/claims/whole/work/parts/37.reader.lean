def rdP (I : wI) : Prop := 0 ≤ (I 5 3).toInt ∧ (I 5 3).toInt ≤ (I 1 1).toInt ∧ (I 1 1).toInt ≤ 400
theorem sb_pl : ∀ (nf : Nat) (I : wI), rdP I → rdP (l_X2_skipBlanks nf I) := by
  intro nf
  induction nf with
  | zero => intro I h; exact h
  | succ nf ih =>
    intro I h
    rw [l_X2_skipBlanks]
    split
    · exact h
    · next h1 =>
      split
      · refine ih _ ?_
        exact at_inv (a := I 5 3) (e := I 1 1) h1 h
      · exact h
theorem sb_p {I : wI} (h : rdP I) : rdP (f_X2_skipBlanks I) := sb_pl 401 I h
theorem br_pl : ∀ (nf : Nat) (I : wI) (k lo hi2 : Int32), (0 ≤ k.toInt ∧ k.toInt ≤ (I 1 1).toInt ∧ (I 1 1).toInt ≤ 400) → k.toInt ≤ (l_X2_behindRun nf I k lo hi2).2.toInt ∧ (l_X2_behindRun nf I k lo hi2).2.toInt ≤ (I 1 1).toInt := by
  intro nf
  induction nf with
  | zero => intro I k lo hi2 h; exact ⟨Int.le_refl _, h.2.1⟩
  | succ nf ih =>
    intro I k lo hi2 h
    rw [l_X2_behindRun]
    split
    · exact ⟨Int.le_refl _, h.2.1⟩
    · next h1 =>
      split
      · exact ⟨Int.le_refl _, h.2.1⟩
      · split
        · exact ⟨Int.le_refl _, h.2.1⟩
        · have h2 := at_inv (a := k) (e := I 1 1) h1 h
          have h3 := ih I (k + 1) lo hi2 h2
          have h4 := i_inc (k := k) (by have h0 := h.2.1; have h9 := h.2.2; omega)
          exact ⟨by omega, h3.2⟩
theorem br_p {I : wI} (h : rdP I) (lo hi2 : Int32) : (I 5 3).toInt ≤ (f_X2_behindRun I lo hi2).toInt ∧ (f_X2_behindRun I lo hi2).toInt ≤ (I 1 1).toInt := br_pl 401 I (I 5 3) lo hi2 h
theorem sb_w {I : wI} {bw : Int32} (h : rdP I) (hb : (I 5 3).toInt ≤ bw.toInt ∧ bw.toInt ≤ (I 1 1).toInt) : rdP (wU I 5 3 bw) := ⟨Int.le_trans h.1 hb.1, hb.2, h.2.2⟩
theorem rd_n {I : wI} {be : Int32} (h : rdP I) (hb : (I 5 3).toInt ≤ be.toInt ∧ be.toInt ≤ (I 1 1).toInt) : 0 ≤ (I 5 3).toInt ∧ (I 5 3).toInt ≤ be.toInt ∧ be.toInt ≤ 400 := ⟨h.1, hb.1, Int.le_trans hb.2 h.2.2⟩
theorem iw_0 {i : Int32} {n : Int32} (hi : 0 ≤ i.toInt ∧ i.toInt ≤ n.toInt) : ¬ i < 0 := by
  simp only [i_lt, Int32.reduceToInt]; omega
theorem iw_1 {i r n : Int32} (e : r = n) (h : ¬ r ≤ i) : i < n := by
  rw [← e]; simp only [i_le, i_lt] at *; omega
theorem iw_inv {i r n : Int32} (hn : n.toInt ≤ 6) (e : r = n) (h : ¬ r ≤ i) (hi : 0 ≤ i.toInt ∧ i.toInt ≤ n.toInt) : 0 ≤ (i + 1).toInt ∧ (i + 1).toInt ≤ n.toInt := by
  rw [e] at h; simp only [i_le] at h; rw [i_inc (by omega)]; omega
theorem iw_m {i r n : Int32} {nf : Nat} (hn : n.toInt ≤ 6) (e : r = n) (h : ¬ r ≤ i) (hi : 0 ≤ i.toInt ∧ i.toInt ≤ n.toInt) (hm : (n.toInt - i.toInt).toNat < nf + 1) : (n.toInt - (i + 1).toInt).toNat < nf := by
  rw [e] at h; simp only [i_le] at h; rw [i_inc (by omega)]; omega
theorem iw_n {k : Nat} (hk : k < 6) : 0 ≤ (w_lw k).toInt ∧ (w_lw k).toInt ≤ 6 := by
  have h := w_lw_6 k hk
  omega
theorem k6_lt {k : Int32} (h : vp_in k 6) : k.toNatClampNeg < 6 := by
  rw [vp_in_iff] at h; rw [i_cl]; omega
theorem kd_in {k : Int32} (h1 : ¬ k < 0) (h2 : k < 6) : vp_in k 6 := by
  simp only [i_lt, Int32.reduceToInt] at *; rw [vp_in_iff]; omega
theorem rt_inv {k : Int32} (h : ¬ 400 < k) (hi : 1 ≤ k.toInt ∧ k.toInt ≤ 401) : 1 ≤ (k + 1).toInt ∧ (k + 1).toInt ≤ 401 := by
  simp only [i_lt, Int32.reduceToInt] at h; rw [i_inc (by omega)]; omega
theorem rt_m {k : Int32} {nf : Nat} (h : ¬ 400 < k) (hi : 1 ≤ k.toInt ∧ k.toInt ≤ 401) (hm : (401 - k.toInt).toNat < nf + 1) : (401 - (k + 1).toInt).toNat < nf := by
  simp only [i_lt, Int32.reduceToInt] at h; rw [i_inc (by omega)]; omega
set_option maxRecDepth 20000 in
theorem in_X2_isWord_X2 : ∀ w ∈ u_ws RX2 TX2 4, w ∈ wsX2_isWord := fun _ h => List.mem_cons_of_mem _ (List.mem_append_left _ (List.mem_append_right _ h))
def l_X2_isWord  : Nat → wI → Int32 → Nat → Int32 → Int32 × wI
  | 0, I, i, kw, be => (0, I)
  | nf + 1, I, i, kw, be => (if (w_lw kw) ≤ i then (1, I) else (if (f_X6_at I ((I 5 3) + i)) = (w_ch kw i) then (l_X2_isWord nf I (i + 1) kw be) else (0, I)))
set_option maxHeartbeats 4000000 in
set_option maxRecDepth 100000 in
theorem lt_X2_isWord {p : Program} {l : Launch} {e : Env} {R : Room} {s : State} {m : MethodId} {args : Array Value} {below : List Frame} {meth : Method} {c : Code} {D : va_G} {y : Nat → ClassId} {b : Nat} {z : Nat → Nat} {G : wG} {J : wJ}  (X : wCx p m c cX2_isWord 4 s args wsX2_isWord yX2_isWord.cls D y b) (hst : St z b s) (hL : w_full G) (hRf : 4 ≤ R.frames) (hRl : 85 ≤ R.locals) (hRc : 0 ≤ R.cells) (hRs : 0 ≤ R.slots) (hr : meth.sig.returnType = (some .boolean)) (hlk : meth.locks = false) (po : Int32 → wS → Prop) (kw : Nat) (be : Int32) {a v : Nat} (hkw : kw < 6) (hsT : ∀ U, St z b U → w_st b a v kw U) : ∀ (nf : Nat) (I : wI) (i : Int32) (H : Heap) (locs : List Loc) (ls : Array Slot), (0 ≤ i.toInt ∧ i.toInt ≤ (w_lw kw).toInt ∧ (I 1 1).toInt ≤ 400) → (((w_lw kw).toInt - i.toInt).toNat < nf) → Wh D y b G I J s H locs → lv_has ls 4 [(3, .int i), (0, .ref (G.1 5)), (1, .ref a), (2, .int be)] → po (l_X2_isWord nf I i kw be).1 (G, (l_X2_isWord nf I i kw be).2, J) → W p l e R s m args below meth c H locs 0 0 (MQ below (va_Qi po (wB D y b) (fun q => b ≤ q)) args s 0 0 (fun q => b ≤ q)) (F0 m 17 ls []) := by
  have hx := X.1.1
  have hb := X.1.2.1
  intro nf
  induction nf with
  | zero => intro I i H locs ls hi hm; exact absurd hm (Nat.not_lt_zero _)
  | succ nf ih =>
    intro I i H locs ls hi hm hw hl hpo
    refine lv_iload_n hx hb dX2_isWord_17 rfl (lv_at hl 0 rfl) ?_
    refine lv_aload_n hx hb dX2_isWord_18 rfl (lv_at hl 2 rfl) ?_
    refine w_callVi (As := []) (rest := [.int i]) X hw hst hl (c_St_length l D y b z G I J hL a v kw hkw hsT) (cwV 0 X.1.2.2.2.2 gX2_isWord_J0_length_8abf5 rfl rfl rfl (by decide +kernel) ⟨Nat.le_trans (Nat.le_of_ble_eq_true rfl) hRf, Nat.le_trans (Nat.le_of_ble_eq_true rfl) hRl⟩) (w_strec (hsT s hst) hw) rfl rfl (Nat.le_of_ble_eq_true rfl) dX2_isWord_19 ⟨hRc, hRs⟩ (fun r_19_1 u H locs hp_19 hw => ?_)
    obtain ⟨hp_19, rfl⟩ := hp_19
    dsimp only at hw
    refine lv_icmp_ge (tgt := 54) hx hb dX2_isWord_22 (by decide) (fun c_22 => ?_) (fun c_22 => ?_)
    · refine lv_iconst (v := 1) hx hb dX2_isWord_54 (by decide) ?_
      have hp_55 : po 1 (G, I, J) := by
          obtain rfl := hp_19.symm
          have el : l_X2_isWord (nf + 1) I i kw be = (1, I) := by rw [l_X2_isWord]; rw [if_pos c_22]
          rw [el] at hpo
          dsimp only at hpo
          exact hpo
      exact w_zret X hr (by decide) hlk hw hp_55 (Nat.le_of_ble_eq_true rfl) (Nat.le_of_ble_eq_true rfl) dX2_isWord_55
    · refine lv_aload_n hx hb dX2_isWord_25 rfl (lv_at hl 1 rfl) ?_
      refine w_get X hw 3 0 (hL 5 (by decide)) rfl (by decide) k_X2 in_X2_isWord_X2 (by decide) (by decide +kernel) rfl (v := .ref (G.1 1)) rfl dX2_isWord_26 ?_
      refine lv_aload_n hx hb dX2_isWord_29 rfl (lv_at hl 1 rfl) ?_
      refine w_get X hw 3 3 (hL 5 (by decide)) rfl (by decide) k_X2 in_X2_isWord_X2 (by decide) (by decide +kernel) rfl (v := .int (I 5 3)) rfl dX2_isWord_30 ?_
      refine lv_iload_n hx hb dX2_isWord_33 rfl (lv_at hl 0 rfl) ?_
      refine lv_iadd hx hb dX2_isWord_34 ?_
      refine w_callVi (As := [.int ((I 5 3) + i)]) (rest := []) X hw hst hl (c_X6_at l D y b z G I J hL ((I 5 3) + i) hi.2.2) (cwV 1 X.1.2.2.2.2 gX2_isWord_X6_at rfl rfl rfl (by decide +kernel) ⟨Nat.le_trans (Nat.le_of_ble_eq_true rfl) hRf, Nat.le_trans (Nat.le_of_ble_eq_true rfl) hRl⟩) (w_recv X hw (hL 1 (by decide)) rfl (by decide) k_X6) rfl rfl (Nat.le_of_ble_eq_true rfl) dX2_isWord_35 ⟨hRc, hRs⟩ (fun r_35_2 u H locs hp_35 hw => ?_)
      obtain ⟨hp_35, rfl⟩ := hp_35
      dsimp only at hw
      refine lv_aload_n hx hb dX2_isWord_38 rfl (lv_at hl 2 rfl) ?_
      refine lv_iload_n hx hb dX2_isWord_39 rfl (lv_at hl 0 rfl) ?_
      refine w_callVi (As := [.int i]) (rest := [.int r_35_2]) X hw hst hl (c_St_charAt l D y b z G I J hL a v kw hkw hsT i (iw_0 ⟨hi.1, hi.2.1⟩) (iw_1 hp_19 c_22)) (cwV 1 X.1.2.2.2.2 gX2_isWord_J0_charAt_5068e rfl rfl rfl (by decide +kernel) ⟨Nat.le_trans (Nat.le_of_ble_eq_true rfl) hRf, Nat.le_trans (Nat.le_of_ble_eq_true rfl) hRl⟩) (w_strec (hsT s hst) hw) rfl rfl (Nat.le_of_ble_eq_true rfl) dX2_isWord_40 ⟨hRc, hRs⟩ (fun r_40_3 u H locs hp_40 hw => ?_)
      obtain ⟨hp_40, rfl⟩ := hp_40
      dsimp only at hw
      refine lv_icmp_eq (tgt := 48) hx hb dX2_isWord_43 (by decide) (fun c_43 => ?_) (fun c_43 => ?_)
      · obtain ⟨x_4, ex_4⟩ : ∃ y : Int32, y = i + 1 := ⟨_, rfl⟩
        refine lv_iinc (v := x_4) (lv' := [(3, .int x_4), (0, .ref (G.1 5)), (1, .ref a), (2, .int be)]) hx hb dX2_isWord_48 hl (k := 0) rfl (by rw [ex_4]; rfl) (by decide) rfl (fun ls hl => ?_)
        refine lv_goto (tgt := 17) hx hb dX2_isWord_51 (by decide) ?_
        have hw9 := hw
        have hl9 := hl
        obtain rfl := hp_19.symm
        obtain rfl := hp_35.symm
        obtain rfl := hp_40.symm
        obtain rfl := ex_4.symm
        have el : l_X2_isWord (nf + 1) I i kw be = l_X2_isWord nf I (i + 1) kw be := by rw [l_X2_isWord]; rw [if_neg c_22, if_pos c_43]
        exact ih I (i + 1) _ _ _ (⟨(iw_inv (iw_n hkw).2 rfl c_22 ⟨hi.1, hi.2.1⟩).1, (iw_inv (iw_n hkw).2 rfl c_22 ⟨hi.1, hi.2.1⟩).2, hi.2.2⟩) (iw_m (iw_n hkw).2 rfl c_22 ⟨hi.1, hi.2.1⟩ hm) hw9 (lv_sub hl9 [0, 1, 2, 3] rfl) (by rw [← el]; exact hpo)
      · refine lv_iconst (v := 0) hx hb dX2_isWord_46 (by decide) ?_
        have hp_47 : po 0 (G, I, J) := by
            obtain rfl := hp_19.symm
            obtain rfl := hp_35.symm
            obtain rfl := hp_40.symm
            have el : l_X2_isWord (nf + 1) I i kw be = (0, I) := by rw [l_X2_isWord]; rw [if_neg c_22, if_neg c_43]
            rw [el] at hpo
            dsimp only at hpo
            exact hpo
        exact w_zret X hr (by decide) hlk hw hp_47 (Nat.le_of_ble_eq_true rfl) (Nat.le_of_ble_eq_true rfl) dX2_isWord_47
theorem ro_X2_isWord : ∀ (nf : Nat) (I : wI) (i : Int32) (kw : Nat) (be : Int32), (l_X2_isWord nf I i kw be).2 = I := by
  intro nf
  induction nf with
  | zero => intros; rfl
  | succ nf ih =>
    intro I i kw be
    rw [l_X2_isWord]
    repeat' split
    all_goals first | with_reducible rfl | exact ih _ _ _ _
def f_X2_isWord (I : wI) (kw : Nat) (be : Int32) : Int32 := (if (be - (I 5 3)) = (w_lw kw) then ((l_X2_isWord  7 I 0 kw be).1) else 0)
set_option maxHeartbeats 4000000 in
set_option maxRecDepth 100000 in
theorem c_X2_isWord (l : Launch) (D : va_G) (y : Nat → ClassId) (b : Nat) (z : Nat → Nat) (G : wG) (I : wI) (J : wJ) (hL : w_full G) (kw : Nat) (be : Int32) (a v : Nat) (hkw : kw < 6) (hsT : ∀ U, St z b U → w_st b a v kw U) (hs : (I 1 1).toInt ≤ 400) : mI l yX2_isWord wsX2_isWord { frames := 4, cells := 0, slots := 0, locals := 85 } D y b z G I J [.ref (G.1 5), .ref a, .int be] (fun r u => r = f_X2_isWord I kw be ∧ u = (G, I, J)) 0 0 := by
  refine w_enter (by decide) rfl (Nat.le_of_ble_eq_true rfl) rfl ?_
  intro p e s m below meth c ls X hr hlk hnm hw hst hl
  have hx := X.1.1
  have hb := X.1.2.1
  obtain ⟨po_c_X2_isWord, epo⟩ : ∃ qpo9 : Int32 → wS → Prop, qpo9 = (fun r u => r = f_X2_isWord I kw be ∧ u = (G, I, J)) := ⟨_, rfl⟩
  rw [← epo]
  refine lv_iload_n hx hb dX2_isWord_0 rfl (lv_at hl 2 rfl) ?_
  refine lv_aload_n hx hb dX2_isWord_1 rfl (lv_at hl 0 rfl) ?_
  refine w_get X hw 3 3 (hL 5 (by decide)) rfl (by decide) k_X2 in_X2_isWord_X2 (by decide) (by decide +kernel) rfl (v := .int (I 5 3)) rfl dX2_isWord_2 ?_
  refine lv_isub hx hb dX2_isWord_5 ?_
  refine lv_aload_n hx hb dX2_isWord_6 rfl (lv_at hl 1 rfl) ?_
  refine w_callVi (As := []) (rest := [.int (be - (I 5 3))]) X hw hst hl (c_St_length l D y b z G I J hL a v kw hkw hsT) (cwV 0 X.1.2.2.2.2 gX2_isWord_J0_length_8abf5 rfl rfl rfl (by decide +kernel) ⟨Nat.le_of_ble_eq_true rfl, Nat.le_of_ble_eq_true rfl⟩) (w_strec (hsT s hst) hw) rfl rfl (Nat.le_of_ble_eq_true rfl) dX2_isWord_7 ⟨Nat.le_of_ble_eq_true rfl, Nat.le_of_ble_eq_true rfl⟩ (fun r_7_1 u H locs hp_7 hw => ?_)
  obtain ⟨hp_7, rfl⟩ := hp_7
  dsimp only at hw
  refine lv_icmp_eq (tgt := 15) hx hb dX2_isWord_10 (by decide) (fun c_10 => ?_) (fun c_10 => ?_)
  · refine lv_iconst (v := 0) hx hb dX2_isWord_15 (by decide) ?_
    refine lv_istore_n (lv' := [(3, .int 0), (0, .ref (G.1 5)), (1, .ref a), (2, .int be)]) hx hb dX2_isWord_16 rfl hl (by decide) rfl (fun ls hl => ?_)
    exact lt_X2_isWord  X hst hL (Nat.le_of_ble_eq_true rfl) (Nat.le_of_ble_eq_true rfl) (Nat.zero_le _) (Nat.zero_le _) hr hlk _ kw be hkw hsT 7 I 0 _ _ _ (⟨by decide, (iw_n hkw).1, hs⟩) (show ((w_lw kw).toInt - 0).toNat < 7 from by have := iw_n hkw; omega) hw (lv_sub hl [0, 1, 2, 3] rfl) (by
        obtain rfl := hp_7.symm
        rw [epo]
        rw [ro_X2_isWord]
        refine ⟨Eq.symm ?_, rfl⟩
        unfold f_X2_isWord; rw [if_pos c_10])
  · refine lv_iconst (v := 0) hx hb dX2_isWord_13 (by decide) ?_
    have hp_14 : po_c_X2_isWord 0 (G, I, J) := by
        obtain rfl := hp_7.symm
        rw [epo]
        refine ⟨Eq.symm ?_, rfl⟩
        unfold f_X2_isWord; rw [if_neg c_10]
    exact w_zret X hr (by decide) hlk hw hp_14 (Nat.le_of_ble_eq_true rfl) (Nat.le_of_ble_eq_true rfl) dX2_isWord_14
def l_X2_kindOfWord  : Nat → wI → Int32 → Int32 → Int32 × wI
  | 0, I, k, be => (0, I)
  | nf + 1, I, k, be => (if 6 ≤ k then ((-1), I) else (if (f_X2_isWord I k.toNatClampNeg be) = 0 then (l_X2_kindOfWord nf I (k + 1) be) else (k, I)))
set_option maxHeartbeats 4000000 in
set_option maxRecDepth 100000 in
theorem lt_X2_kindOfWord {p : Program} {l : Launch} {e : Env} {R : Room} {s : State} {m : MethodId} {args : Array Value} {below : List Frame} {meth : Method} {c : Code} {D : va_G} {y : Nat → ClassId} {b : Nat} {z : Nat → Nat} {G : wG} {J : wJ}  (X : wCx p m c cX2_kindOfWord 3 s args wsX2_kindOfWord yX2_kindOfWord.cls D y b) (hst : St z b s) (hL : w_full G) (hRf : 5 ≤ R.frames) (hRl : 108 ≤ R.locals) (hRc : 0 ≤ R.cells) (hRs : 0 ≤ R.slots) (hr : meth.sig.returnType = (some .int)) (hlk : meth.locks = false) (po : Int32 → wS → Prop) (be : Int32)  : ∀ (nf : Nat) (I : wI) (k : Int32) (H : Heap) (locs : List Loc) (ls : Array Slot), ((0 ≤ k.toInt ∧ k.toInt ≤ 6) ∧ (I 1 1).toInt ≤ 400) → ((6 - k.toInt).toNat < nf) → Wh D y b G I J s H locs → lv_has ls 3 [(2, .int k), (0, .ref (G.1 5)), (1, .int be)] → po (l_X2_kindOfWord nf I k be).1 (G, (l_X2_kindOfWord nf I k be).2, J) → W p l e R s m args below meth c H locs 0 0 (MQ below (va_Qi po (wB D y b) (fun q => b ≤ q)) args s 0 0 (fun q => b ≤ q)) (F0 m 2 ls []) := by
  have hx := X.1.1
  have hb := X.1.2.1
  intro nf
  induction nf with
  | zero => intro I k H locs ls hi hm; exact absurd hm (Nat.not_lt_zero _)
  | succ nf ih =>
    intro I k H locs ls hi hm hw hl hpo
    refine lv_iload_n hx hb dX2_kindOfWord_2 rfl (lv_at hl 0 rfl) ?_
    refine lv_bipush (v := 6) hx hb dX2_kindOfWord_3 (by decide) ?_
    refine lv_icmp_ge (tgt := 28) hx hb dX2_kindOfWord_5 (by decide) (fun c_5 => ?_) (fun c_5 => ?_)
    · refine lv_iconst (v := -1) hx hb dX2_kindOfWord_28 (by decide) ?_
      have hp_29 : po (-1) (G, I, J) := by
          have el : l_X2_kindOfWord (nf + 1) I k be = ((-1), I) := by rw [l_X2_kindOfWord]; rw [if_pos c_5]
          rw [el] at hpo
          dsimp only at hpo
          exact hpo
      exact w_iret X hr hlk hw hp_29 (Nat.le_of_ble_eq_true rfl) (Nat.le_of_ble_eq_true rfl) dX2_kindOfWord_29
    · have hk9 := cn_i c_5 hi.1
      have hk6 := k6_lt hk9
      have hs9 := hi.2
      refine lv_aload_n hx hb dX2_kindOfWord_8 rfl (lv_at hl 1 rfl) ?_
      refine lv_iload_n hx hb dX2_kindOfWord_9 rfl (lv_at hl 0 rfl) ?_
      refine w_callSr (As := [.int k]) (rest := [.ref (G.1 5)]) X hw hst hl (c_X1_word l D y b z G I J hL k hk9) (va_cwS 1 X.1.2.2.2.2 gX2_kindOfWord_X1_word rfl rfl rfl (by decide +kernel) ⟨Nat.le_trans (Nat.le_of_ble_eq_true rfl) hRf, Nat.le_trans (Nat.le_of_ble_eq_true rfl) hRl⟩) rfl rfl (Nat.le_of_ble_eq_true rfl) dX2_kindOfWord_10 ⟨hRc, hRs⟩ (fun u H locs hp_10 hw => ?_)
      obtain ⟨ra_10, u⟩ := u
      obtain ⟨hp_10, rfl⟩ := hp_10
      dsimp only at hw
      dsimp only at hp_10
      subst hp_10
      refine lv_iload_n hx hb dX2_kindOfWord_13 rfl (lv_at hl 2 rfl) ?_
      refine w_callVi (As := [.ref (z (10 + k.toNatClampNeg)), .int be]) (rest := []) X hw hst hl (c_X2_isWord l D y b z G I J hL k.toNatClampNeg be (z (10 + k.toNatClampNeg)) (z (16 + k.toNatClampNeg)) hk6 (fun U h => (h.x.2.2.1 _ hk6).2) hs9) (cwV 2 X.1.2.2.2.2 gX2_kindOfWord_X2_isWord rfl rfl rfl (by decide +kernel) ⟨Nat.le_trans (Nat.le_of_ble_eq_true rfl) hRf, Nat.le_trans (Nat.le_of_ble_eq_true rfl) hRl⟩) (w_recv X hw (hL 5 (by decide)) rfl (by decide) k_X2) rfl rfl (Nat.le_of_ble_eq_true rfl) dX2_kindOfWord_14 ⟨hRc, hRs⟩ (fun r_14_2 u H locs hp_14 hw => ?_)
      obtain ⟨hp_14, rfl⟩ := hp_14
      dsimp only at hw
      refine lv_if_eq (tgt := 22) hx hb dX2_kindOfWord_17 (by decide) (fun c_17 => ?_) (fun c_17 => ?_)
      · obtain ⟨x_3, ex_3⟩ : ∃ y : Int32, y = k + 1 := ⟨_, rfl⟩
        refine lv_iinc (v := x_3) (lv' := [(2, .int x_3), (0, .ref (G.1 5)), (1, .int be)]) hx hb dX2_kindOfWord_22 hl (k := 0) rfl (by rw [ex_3]; rfl) (by decide) rfl (fun ls hl => ?_)
        refine lv_goto (tgt := 2) hx hb dX2_kindOfWord_25 (by decide) ?_
        have hw9 := hw
        have hl9 := hl
        obtain rfl := hp_14.symm
        obtain rfl := ex_3.symm
        have el : l_X2_kindOfWord (nf + 1) I k be = l_X2_kindOfWord nf I (k + 1) be := by rw [l_X2_kindOfWord]; rw [if_neg c_5, if_pos c_17]
        exact ih I (k + 1) _ _ _ (⟨cn_inv c_5 hi.1, hi.2⟩) (cn_m c_5 hi.1 hm) hw9 (lv_sub hl9 [0, 1, 2] rfl) (by rw [← el]; exact hpo)
      · refine lv_iload_n hx hb dX2_kindOfWord_20 rfl (lv_at hl 0 rfl) ?_
        have hp_21 : po k (G, I, J) := by
            obtain rfl := hp_14.symm
            have el : l_X2_kindOfWord (nf + 1) I k be = (k, I) := by rw [l_X2_kindOfWord]; rw [if_neg c_5, if_neg c_17]
            rw [el] at hpo
            dsimp only at hpo
            exact hpo
        exact w_iret X hr hlk hw hp_21 (Nat.le_of_ble_eq_true rfl) (Nat.le_of_ble_eq_true rfl) dX2_kindOfWord_21
theorem ro_X2_kindOfWord : ∀ (nf : Nat) (I : wI) (k : Int32) (be : Int32), (l_X2_kindOfWord nf I k be).2 = I := by
  intro nf
  induction nf with
  | zero => intros; rfl
  | succ nf ih =>
    intro I k be
    rw [l_X2_kindOfWord]
    repeat' split
    all_goals first | with_reducible rfl | exact ih _ _ _
def f_X2_kindOfWord (I : wI) (be : Int32) : Int32 := ((l_X2_kindOfWord  7 I 0 be).1)
set_option maxHeartbeats 4000000 in
set_option maxRecDepth 100000 in
theorem c_X2_kindOfWord (l : Launch) (D : va_G) (y : Nat → ClassId) (b : Nat) (z : Nat → Nat) (G : wG) (I : wI) (J : wJ) (hL : w_full G) (be : Int32) (hs : (I 1 1).toInt ≤ 400) : mI l yX2_kindOfWord wsX2_kindOfWord { frames := 5, cells := 0, slots := 0, locals := 108 } D y b z G I J [.ref (G.1 5), .int be] (fun r u => r = f_X2_kindOfWord I be ∧ u = (G, I, J)) 0 0 := by
  refine w_enter (by decide) rfl (Nat.le_of_ble_eq_true rfl) rfl ?_
  intro p e s m below meth c ls X hr hlk hnm hw hst hl
  have hx := X.1.1
  have hb := X.1.2.1
  obtain ⟨po_c_X2_kindOfWord, epo⟩ : ∃ qpo9 : Int32 → wS → Prop, qpo9 = (fun r u => r = f_X2_kindOfWord I be ∧ u = (G, I, J)) := ⟨_, rfl⟩
  rw [← epo]
  refine lv_iconst (v := 0) hx hb dX2_kindOfWord_0 (by decide) ?_
  refine lv_istore_n (lv' := [(2, .int 0), (0, .ref (G.1 5)), (1, .int be)]) hx hb dX2_kindOfWord_1 rfl hl (by decide) rfl (fun ls hl => ?_)
  exact lt_X2_kindOfWord  X hst hL (Nat.le_of_ble_eq_true rfl) (Nat.le_of_ble_eq_true rfl) (Nat.zero_le _) (Nat.zero_le _) hr hlk _ be  7 I 0 _ _ _ (⟨by decide, hs⟩) (by decide) hw (lv_sub hl [0, 1, 2] rfl) (by
      rw [epo]
      rw [ro_X2_kindOfWord]
      refine ⟨Eq.symm ?_, rfl⟩
      rfl)
theorem kd_lo : ∀ (nf : Nat) (I : wI) (k be : Int32), 0 ≤ k.toInt → k.toInt ≤ 6 → -1 ≤ (l_X2_kindOfWord nf I k be).1.toInt := by
  intro nf
  induction nf with
  | zero => intro I k be h0 h6; exact (by decide : (-1 : Int) ≤ (0 : Int32).toInt)
  | succ nf ih =>
    intro I k be h0 h6
    rw [l_X2_kindOfWord]
    repeat' split
    · exact (by decide : (-1 : Int) ≤ (-1 : Int32).toInt)
    · next h1 _ => have h2 := cn_inv h1 ⟨h0, h6⟩; exact ih _ _ _ h2.1 h2.2
    · exact Int.le_trans (by decide) h0
def f_X2_readClause (I : wI)  : Int32 × wI := (if (f_X2_kindOfWord (f_X2_skipBlanks I) (f_X2_behindRun (f_X2_skipBlanks I) 97 122)) < 0 then (0, (f_X2_skipBlanks I)) else (if (f_X2_kindOfWord (f_X2_skipBlanks I) (f_X2_behindRun (f_X2_skipBlanks I) 97 122)) < 6 then (if (f_X2_numberUpTo (f_X2_skipBlanks (wU (f_X2_skipBlanks I) 5 3 (f_X2_behindRun (f_X2_skipBlanks I) 97 122))) (f_X2_behindRun (f_X2_skipBlanks (wU (f_X2_skipBlanks I) 5 3 (f_X2_behindRun (f_X2_skipBlanks I) 97 122))) 48 57)) = (-1) then (0, (f_X2_skipBlanks (wU (f_X2_skipBlanks I) 5 3 (f_X2_behindRun (f_X2_skipBlanks I) 97 122)))) else (if (f_X2_numberUpTo (f_X2_skipBlanks (wU (f_X2_skipBlanks I) 5 3 (f_X2_behindRun (f_X2_skipBlanks I) 97 122))) (f_X2_behindRun (f_X2_skipBlanks (wU (f_X2_skipBlanks I) 5 3 (f_X2_behindRun (f_X2_skipBlanks I) 97 122))) 48 57)) ≤ (l_most (f_X2_kindOfWord (f_X2_skipBlanks I) (f_X2_behindRun (f_X2_skipBlanks I) 97 122)).toNatClampNeg) then (1, (wU (wU (f_X2_skipBlanks (wU (f_X2_skipBlanks I) 5 3 (f_X2_behindRun (f_X2_skipBlanks I) 97 122))) 6 (f_X2_kindOfWord (f_X2_skipBlanks I) (f_X2_behindRun (f_X2_skipBlanks I) 97 122)).toNatClampNeg (f_X2_numberUpTo (f_X2_skipBlanks (wU (f_X2_skipBlanks I) 5 3 (f_X2_behindRun (f_X2_skipBlanks I) 97 122))) (f_X2_behindRun (f_X2_skipBlanks (wU (f_X2_skipBlanks I) 5 3 (f_X2_behindRun (f_X2_skipBlanks I) 97 122))) 48 57))) 5 3 (f_X2_behindRun (f_X2_skipBlanks (wU (f_X2_skipBlanks I) 5 3 (f_X2_behindRun (f_X2_skipBlanks I) 97 122))) 48 57))) else (0, (f_X2_skipBlanks (wU (f_X2_skipBlanks I) 5 3 (f_X2_behindRun (f_X2_skipBlanks I) 97 122)))))) else (0, (f_X2_skipBlanks I))))
theorem fr_f_X2_readClause (I : wI)  (q9 : Nat) (h5 : q9 ≠ 5) (h6 : q9 ≠ 6) : (f_X2_readClause I).2 q9 = I q9 := by
  unfold f_X2_readClause
  repeat' split
  all_goals first | with_reducible rfl | (simp only [wU_ne _ _ _ h5, wU_ne _ _ _ h6, fr_f_X2_skipBlanks _ _ h5])
set_option maxRecDepth 20000 in
theorem in_X2_readClause_X2 : ∀ w ∈ u_ws RX2 TX2 4, w ∈ wsX2_readClause := fun _ h => List.mem_cons_of_mem _ (List.mem_append_left _ (List.mem_append_right _ h))
set_option maxHeartbeats 4000000 in
set_option maxRecDepth 100000 in
theorem c_X2_readClause (l : Launch) (D : va_G) (y : Nat → ClassId) (b : Nat) (z : Nat → Nat) (G : wG) (I : wI) (J : wJ) (hL : w_full G)  (hi : rdP I) : mI l yX2_readClause wsX2_readClause { frames := 6, cells := 0, slots := 0, locals := 130 } D y b z G I J [.ref (G.1 5)] (fun r u => (r = (f_X2_readClause I).1 ∧ u.2.1 = (f_X2_readClause I).2) ∧ u.1 = G ∧ u.2.2 = J) 0 0 := by
  refine w_enter (by decide) rfl (Nat.le_of_ble_eq_true rfl) rfl ?_
  intro p e s m below meth c ls X hr hlk hnm hw hst hl
  have hx := X.1.1
  have hb := X.1.2.1
  obtain ⟨po_c_X2_readClause, epo⟩ : ∃ qpo9 : Int32 → wS → Prop, qpo9 = (fun r u => (r = (f_X2_readClause I).1 ∧ u.2.1 = (f_X2_readClause I).2) ∧ u.1 = G ∧ u.2.2 = J) := ⟨_, rfl⟩
  rw [← epo]
  refine lv_aload_n hx hb dX2_readClause_0 rfl (lv_at hl 0 rfl) ?_
  refine w_callVv (As := []) (rest := []) X hw hst hl (c_X2_skipBlanks l D y b z G I J hL hi) (cwV 0 X.1.2.2.2.2 gX2_readClause_X2_skipBlanks rfl rfl rfl (by decide +kernel) ⟨Nat.le_of_ble_eq_true rfl, Nat.le_of_ble_eq_true rfl⟩) (w_recv X hw (hL 5 (by decide)) rfl (by decide) k_X2) rfl rfl (Nat.le_of_ble_eq_true rfl) dX2_readClause_1 ⟨Nat.le_of_ble_eq_true rfl, Nat.le_of_ble_eq_true rfl⟩ (fun u H locs hp_1 hw => ?_)
  obtain ⟨G_1_1, I_1_1, J_1_1⟩ := u
  dsimp only at hw hp_1
  obtain ⟨hI_1_1, eG_1, eJ_1⟩ := hp_1
  subst G_1_1 J_1_1
  have P1 : rdP I_1_1 := by rw [hI_1_1]; exact sb_p hi
  refine lv_aload_n hx hb dX2_readClause_4 rfl (lv_at hl 0 rfl) ?_
  refine lv_bipush (v := 97) hx hb dX2_readClause_5 (by decide) ?_
  refine lv_bipush (v := 122) hx hb dX2_readClause_7 (by decide) ?_
  refine w_callVi (As := [.int 97, .int 122]) (rest := []) X hw hst hl (c_X2_behindRun l D y b z G I_1_1 J hL 97 122 P1) (cwV 2 X.1.2.2.2.2 gX2_readClause_X2_behindRun rfl rfl rfl (by decide +kernel) ⟨Nat.le_of_ble_eq_true rfl, Nat.le_of_ble_eq_true rfl⟩) (w_recv X hw (hL 5 (by decide)) rfl (by decide) k_X2) rfl rfl (Nat.le_of_ble_eq_true rfl) dX2_readClause_9 ⟨Nat.le_of_ble_eq_true rfl, Nat.le_of_ble_eq_true rfl⟩ (fun r_9_2 u H locs hp_9 hw => ?_)
  obtain ⟨hp_9, rfl⟩ := hp_9
  dsimp only at hw
  refine lv_istore_n (lv' := [(1, .int r_9_2), (0, .ref (G.1 5))]) hx hb dX2_readClause_12 rfl hl (by decide) rfl (fun ls hl => ?_)
  have B1 := br_p P1 97 122
  rw [← hp_9] at B1
  have hs9 := P1.2.2
  refine lv_aload_n hx hb dX2_readClause_13 rfl (lv_at hl 1 rfl) ?_
  refine lv_iload_n hx hb dX2_readClause_14 rfl (lv_at hl 0 rfl) ?_
  refine w_callVi (As := [.int r_9_2]) (rest := []) X hw hst hl (c_X2_kindOfWord l D y b z G I_1_1 J hL r_9_2 hs9) (cwV 1 X.1.2.2.2.2 gX2_readClause_X2_kindOfWord rfl rfl rfl (by decide +kernel) ⟨Nat.le_of_ble_eq_true rfl, Nat.le_of_ble_eq_true rfl⟩) (w_recv X hw (hL 5 (by decide)) rfl (by decide) k_X2) rfl rfl (Nat.le_of_ble_eq_true rfl) dX2_readClause_15 ⟨Nat.le_of_ble_eq_true rfl, Nat.le_of_ble_eq_true rfl⟩ (fun r_15_3 u H locs hp_15 hw => ?_)
  obtain ⟨hp_15, rfl⟩ := hp_15
  dsimp only at hw
  refine lv_istore_n (lv' := [(2, .int r_15_3), (1, .int r_9_2), (0, .ref (G.1 5))]) hx hb dX2_readClause_18 rfl hl (by decide) rfl (fun ls hl => ?_)
  refine lv_iload_n hx hb dX2_readClause_19 rfl (lv_at hl 0 rfl) ?_
  refine lv_if_lt (tgt := 29) hx hb dX2_readClause_20 (by decide) (fun c_20 => ?_) (fun c_20 => ?_)
  · refine lv_iconst (v := 0) hx hb dX2_readClause_29 (by decide) ?_
    have hp_30 : po_c_X2_readClause 0 (G, I_1_1, J) := by
        obtain rfl := hI_1_1.symm
        obtain rfl := hp_9.symm
        obtain rfl := hp_15.symm
        rw [epo]
        have ef : f_X2_readClause I = (0, (f_X2_skipBlanks I)) := by unfold f_X2_readClause; rw [if_pos c_20]
        exact ⟨⟨by rw [ef], by rw [ef]⟩, rfl, rfl⟩
    exact w_zret X hr (by decide) hlk hw hp_30 (Nat.le_of_ble_eq_true rfl) (Nat.le_of_ble_eq_true rfl) dX2_readClause_30
  · refine lv_iload_n hx hb dX2_readClause_23 rfl (lv_at hl 0 rfl) ?_
    refine lv_bipush (v := 6) hx hb dX2_readClause_24 (by decide) ?_
    refine lv_icmp_lt (tgt := 31) hx hb dX2_readClause_26 (by decide) (fun c_26 => ?_) (fun c_26 => ?_)
    · refine lv_aload_n hx hb dX2_readClause_31 rfl (lv_at hl 2 rfl) ?_
      refine lv_iload_n hx hb dX2_readClause_32 rfl (lv_at hl 1 rfl) ?_
      refine w_put X hw 3 3 (hL 5 (by decide)) rfl (by decide) k_X2 in_X2_readClause_X2 (by decide) (by decide +kernel) rfl rfl (t := .int) (by decide +kernel) rfl rfl (fun _ => rfl) (fun _ => Nat.le_of_ble_eq_true rfl) dX2_readClause_33 (fun H locs hw => ?_)
      have P2 : rdP (wU I_1_1 5 3 r_9_2) := sb_w P1 B1
      refine lv_aload_n hx hb dX2_readClause_36 rfl (lv_at hl 2 rfl) ?_
      refine w_callVv (As := []) (rest := []) X hw hst hl (c_X2_skipBlanks l D y b z G (wU I_1_1 5 3 r_9_2) J hL P2) (cwV 0 X.1.2.2.2.2 gX2_readClause_X2_skipBlanks rfl rfl rfl (by decide +kernel) ⟨Nat.le_of_ble_eq_true rfl, Nat.le_of_ble_eq_true rfl⟩) (w_recv X hw (hL 5 (by decide)) rfl (by decide) k_X2) rfl rfl (Nat.le_of_ble_eq_true rfl) dX2_readClause_37 ⟨Nat.le_of_ble_eq_true rfl, Nat.le_of_ble_eq_true rfl⟩ (fun u H locs hp_37 hw => ?_)
      obtain ⟨G_37_4, I_37_4, J_37_4⟩ := u
      dsimp only at hw hp_37
      obtain ⟨hI_37_4, eG_37, eJ_37⟩ := hp_37
      subst G_37_4 J_37_4
      have P3 : rdP I_37_4 := by rw [hI_37_4]; exact sb_p P2
      refine lv_aload_n hx hb dX2_readClause_40 rfl (lv_at hl 2 rfl) ?_
      refine lv_bipush (v := 48) hx hb dX2_readClause_41 (by decide) ?_
      refine lv_bipush (v := 57) hx hb dX2_readClause_43 (by decide) ?_
      refine w_callVi (As := [.int 48, .int 57]) (rest := []) X hw hst hl (c_X2_behindRun l D y b z G I_37_4 J hL 48 57 P3) (cwV 2 X.1.2.2.2.2 gX2_readClause_X2_behindRun rfl rfl rfl (by decide +kernel) ⟨Nat.le_of_ble_eq_true rfl, Nat.le_of_ble_eq_true rfl⟩) (w_recv X hw (hL 5 (by decide)) rfl (by decide) k_X2) rfl rfl (Nat.le_of_ble_eq_true rfl) dX2_readClause_45 ⟨Nat.le_of_ble_eq_true rfl, Nat.le_of_ble_eq_true rfl⟩ (fun r_45_5 u H locs hp_45 hw => ?_)
      obtain ⟨hp_45, rfl⟩ := hp_45
      dsimp only at hw
      refine lv_istore_n (lv' := [(3, .int r_45_5), (2, .int r_15_3), (1, .int r_9_2), (0, .ref (G.1 5))]) hx hb dX2_readClause_48 rfl hl (by decide) rfl (fun ls hl => ?_)
      have B2 := br_p P3 48 57
      rw [← hp_45] at B2
      have N2 := rd_n P3 B2
      have hs8 := P3.2.2
      have K2 := kd_in c_20 c_26
      refine lv_aload_n hx hb dX2_readClause_49 rfl (lv_at hl 3 rfl) ?_
      refine lv_iload_n hx hb dX2_readClause_50 rfl (lv_at hl 0 rfl) ?_
      refine w_callVi (As := [.int r_45_5]) (rest := []) X hw hst hl (c_X2_numberUpTo l D y b z G I_37_4 J hL r_45_5 N2 hs8) (cwV 1 X.1.2.2.2.2 gX2_readClause_X2_numberUpTo rfl rfl rfl (by decide +kernel) ⟨Nat.le_of_ble_eq_true rfl, Nat.le_of_ble_eq_true rfl⟩) (w_recv X hw (hL 5 (by decide)) rfl (by decide) k_X2) rfl rfl (Nat.le_of_ble_eq_true rfl) dX2_readClause_51 ⟨Nat.le_of_ble_eq_true rfl, Nat.le_of_ble_eq_true rfl⟩ (fun r_51_6 u H locs hp_51 hw => ?_)
      obtain ⟨hp_51, rfl⟩ := hp_51
      dsimp only at hw
      refine lv_istore (lv' := [(4, .int r_51_6), (3, .int r_45_5), (2, .int r_15_3), (1, .int r_9_2), (0, .ref (G.1 5))]) hx hb dX2_readClause_54 hl (by decide) rfl (fun ls hl => ?_)
      refine lv_iload hx hb dX2_readClause_56 (lv_at hl 0 rfl) ?_
      refine lv_iconst (v := -1) hx hb dX2_readClause_58 (by decide) ?_
      refine lv_icmp_eq (tgt := 72) hx hb dX2_readClause_59 (by decide) (fun c_59 => ?_) (fun c_59 => ?_)
      · refine lv_iconst (v := 0) hx hb dX2_readClause_72 (by decide) ?_
        have hp_73 : po_c_X2_readClause 0 (G, I_37_4, J) := by
            obtain rfl := hI_1_1.symm
            obtain rfl := hp_9.symm
            obtain rfl := hp_15.symm
            obtain rfl := hI_37_4.symm
            obtain rfl := hp_45.symm
            obtain rfl := hp_51.symm
            rw [epo]
            have ef : f_X2_readClause I = (0, (f_X2_skipBlanks (wU (f_X2_skipBlanks I) 5 3 (f_X2_behindRun (f_X2_skipBlanks I) 97 122)))) := by unfold f_X2_readClause; rw [if_neg c_20, if_pos c_26, if_pos c_59]
            exact ⟨⟨by rw [ef], by rw [ef]⟩, rfl, rfl⟩
        exact w_zret X hr (by decide) hlk hw hp_73 (Nat.le_of_ble_eq_true rfl) (Nat.le_of_ble_eq_true rfl) dX2_readClause_73
      · refine lv_iload hx hb dX2_readClause_62 (lv_at hl 0 rfl) ?_
        refine va_getsN hx hb hst.2.2.2.2.2.1.1 hw.2.2 X.1.2.2.2.1 (va_Nw.use rfl (hst.1 (RX2, 63, "CorkForest", "LAW_MOST", "[I") (by decide))) (fun _ h => h) dX2_readClause_64 ?_
        refine lv_iload_n hx hb dX2_readClause_67 rfl (lv_at hl 2 rfl) ?_
        have h_68 : vp_in r_15_3 6 := K2
        refine va_ti hx hb hst.2.2.2.2.2.1.2 hw.2.2 h_68 (v := .int (l_most r_15_3.toNatClampNeg)) rfl dX2_readClause_68 ?_
        refine lv_icmp_le (tgt := 74) hx hb dX2_readClause_69 (by decide) (fun c_69 => ?_) (fun c_69 => ?_)
        · refine lv_aload_n hx hb dX2_readClause_74 rfl (lv_at hl 4 rfl) ?_
          refine w_get X hw 3 2 (hL 5 (by decide)) rfl (by decide) k_X2 in_X2_readClause_X2 (by decide) (by decide +kernel) rfl (v := .ref (G.1 6)) rfl dX2_readClause_75 ?_
          refine lv_iload_n hx hb dX2_readClause_78 rfl (lv_at hl 2 rfl) ?_
          refine lv_iload hx hb dX2_readClause_79 (lv_at hl 0 rfl) ?_
          have h_81 : vp_in r_15_3 6 := K2
          refine w_ist X hw (hL 6 (by decide)) rfl h_81 dX2_readClause_81 (fun H locs hw => ?_)
          refine lv_aload_n hx hb dX2_readClause_82 rfl (lv_at hl 4 rfl) ?_
          refine lv_iload_n hx hb dX2_readClause_83 rfl (lv_at hl 1 rfl) ?_
          refine w_put X hw 3 3 (hL 5 (by decide)) rfl (by decide) k_X2 in_X2_readClause_X2 (by decide) (by decide +kernel) rfl rfl (t := .int) (by decide +kernel) rfl rfl (fun _ => rfl) (fun _ => Nat.le_of_ble_eq_true rfl) dX2_readClause_84 (fun H locs hw => ?_)
          refine lv_iconst (v := 1) hx hb dX2_readClause_87 (by decide) ?_
          have hp_88 : po_c_X2_readClause 1 (G, (wU (wU I_37_4 6 r_15_3.toNatClampNeg r_51_6) 5 3 r_45_5), J) := by
              obtain rfl := hI_1_1.symm
              obtain rfl := hp_9.symm
              obtain rfl := hp_15.symm
              obtain rfl := hI_37_4.symm
              obtain rfl := hp_45.symm
              obtain rfl := hp_51.symm
              rw [epo]
              have ef : f_X2_readClause I = (1, (wU (wU (f_X2_skipBlanks (wU (f_X2_skipBlanks I) 5 3 (f_X2_behindRun (f_X2_skipBlanks I) 97 122))) 6 (f_X2_kindOfWord (f_X2_skipBlanks I) (f_X2_behindRun (f_X2_skipBlanks I) 97 122)).toNatClampNeg (f_X2_numberUpTo (f_X2_skipBlanks (wU (f_X2_skipBlanks I) 5 3 (f_X2_behindRun (f_X2_skipBlanks I) 97 122))) (f_X2_behindRun (f_X2_skipBlanks (wU (f_X2_skipBlanks I) 5 3 (f_X2_behindRun (f_X2_skipBlanks I) 97 122))) 48 57))) 5 3 (f_X2_behindRun (f_X2_skipBlanks (wU (f_X2_skipBlanks I) 5 3 (f_X2_behindRun (f_X2_skipBlanks I) 97 122))) 48 57))) := by unfold f_X2_readClause; rw [if_neg c_20, if_pos c_26, if_neg c_59, if_pos c_69]
              exact ⟨⟨by rw [ef], by rw [ef]⟩, rfl, rfl⟩
          exact w_zret X hr (by decide) hlk hw hp_88 (Nat.le_of_ble_eq_true rfl) (Nat.le_of_ble_eq_true rfl) dX2_readClause_88
        · refine lv_iconst (v := 0) hx hb dX2_readClause_72 (by decide) ?_
          have hp_73 : po_c_X2_readClause 0 (G, I_37_4, J) := by
              obtain rfl := hI_1_1.symm
              obtain rfl := hp_9.symm
              obtain rfl := hp_15.symm
              obtain rfl := hI_37_4.symm
              obtain rfl := hp_45.symm
              obtain rfl := hp_51.symm
              rw [epo]
              have ef : f_X2_readClause I = (0, (f_X2_skipBlanks (wU (f_X2_skipBlanks I) 5 3 (f_X2_behindRun (f_X2_skipBlanks I) 97 122)))) := by unfold f_X2_readClause; rw [if_neg c_20, if_pos c_26, if_neg c_59, if_neg c_69]
              exact ⟨⟨by rw [ef], by rw [ef]⟩, rfl, rfl⟩
          exact w_zret X hr (by decide) hlk hw hp_73 (Nat.le_of_ble_eq_true rfl) (Nat.le_of_ble_eq_true rfl) dX2_readClause_73
    · refine lv_iconst (v := 0) hx hb dX2_readClause_29 (by decide) ?_
      have hp_30 : po_c_X2_readClause 0 (G, I_1_1, J) := by
          obtain rfl := hI_1_1.symm
          obtain rfl := hp_9.symm
          obtain rfl := hp_15.symm
          rw [epo]
          have ef : f_X2_readClause I = (0, (f_X2_skipBlanks I)) := by unfold f_X2_readClause; rw [if_neg c_20, if_neg c_26]
          exact ⟨⟨by rw [ef], by rw [ef]⟩, rfl, rfl⟩
      exact w_zret X hr (by decide) hlk hw hp_30 (Nat.le_of_ble_eq_true rfl) (Nat.le_of_ble_eq_true rfl) dX2_readClause_30
