theorem z_of {v : Int32} (h : v = 0 ∨ v = 1) : narrow .boolean (.int v) = .int v := by
  rcases h with h | h <;> rw [h]
  · exact z_0
  · exact z_1
def rdM (I : wI) : Prop := 0 ≤ (I 22 25).toInt ∧ (I 22 25).toInt ≤ (I 22 26).toInt ∧ (I 22 26).toInt ≤ 400
def mvP (I I' : wI) : Prop := rdM I' ∧ (I 22 25).toInt ≤ (I' 22 25).toInt ∧ I' 22 26 = I 22 26
theorem mv_rf {I : wI} (h : rdM I) : mvP I I := ⟨h, Int.le_refl _, rfl⟩
theorem mv_tr {I I1 I2 : wI} (h1 : mvP I I1) (h2 : mvP I1 I2) : mvP I I2 := ⟨h2.1, Int.le_trans h1.2.1 h2.2.1, h2.2.2.trans h1.2.2⟩
theorem mv_1 {I : wI} {lo hi2 : Int32} (h : rdM I) (hc : f_X9_isAt I lo hi2 = 1) : mvP I (wU I 22 25 (I 22 25 + 1)) := by
  have h1 := at_inv (a := I 22 25) (e := I 22 26) (at_lt hc) h
  have h2 := i_inc (k := I 22 25) (by have h3 := h.2.1; have h4 := h.2.2; omega)
  exact ⟨h1, by show (I 22 25).toInt ≤ (I 22 25 + 1).toInt; omega, rfl⟩
theorem mb_l : ∀ (nf : Nat) (I : wI), rdM I → mvP I (l_X9_blanks nf I) := by
  intro nf
  induction nf with
  | zero => intro I h; exact mv_rf h
  | succ nf ih =>
    intro I h
    rw [l_X9_blanks]
    split
    · next hc => exact mv_tr (mv_1 h hc) (ih _ (mv_1 h hc).1)
    · exact mv_rf h
theorem mb_p {I : wI} (h : rdM I) : mvP I (f_X9_blanks I) ∧ f_X9_blanks I 22 27 = f_X9_blanks I 22 25 := by
  have h1 := mb_l 401 I h
  unfold f_X9_blanks
  generalize l_X9_blanks 401 I = A at h1 ⊢
  exact ⟨h1, rfl⟩
theorem mw_l : ∀ (nf : Nat) (I : wI), rdM I → mvP I (l_X9_rc_w nf I) ∧ l_X9_rc_w nf I 22 27 = I 22 27 := by
  intro nf
  induction nf with
  | zero => intro I h; exact ⟨mv_rf h, rfl⟩
  | succ nf ih =>
    intro I h
    rw [l_X9_rc_w]
    split
    · next hc => exact ⟨mv_tr (mv_1 h hc) (ih _ (mv_1 h hc).1).1, (ih _ (mv_1 h hc).1).2⟩
    · exact ⟨mv_rf h, rfl⟩
theorem mn_l : ∀ (nf : Nat) (I : wI) (v w : Int32), rdM I → mvP I (l_X9_rc_n nf I v w).1 ∧ (l_X9_rc_n nf I v w).1 22 27 = I 22 27 := by
  intro nf
  induction nf with
  | zero => intro I v w h; exact ⟨mv_rf h, rfl⟩
  | succ nf ih =>
    intro I v w h
    rw [l_X9_rc_n]
    split
    · next hc =>
      split
      · exact ⟨mv_tr (mv_1 h hc) (ih _ _ _ (mv_1 h hc).1).1, (ih _ _ _ (mv_1 h hc).1).2⟩
      · exact ⟨mv_tr (mv_1 h hc) (ih _ _ _ (mv_1 h hc).1).1, (ih _ _ _ (mv_1 h hc).1).2⟩
    · exact ⟨mv_rf h, rfl⟩
theorem iw_ix {i r n bg : Int32} (e : r = n) (h : ¬ r ≤ i) (h0 : 0 ≤ i.toInt) (hb : 0 ≤ bg.toInt) (hc : bg.toInt + n.toInt ≤ 400) : vp_in (bg + i) 400 := by
  rw [e] at h; simp only [i_le] at h
  rw [vp_in_iff, i_add (by omega) (by omega)]; omega
theorem iw_s {at_ bg n : Int32} (h : at_ - bg = n) (hb : 0 ≤ bg.toInt ∧ bg.toInt ≤ at_.toInt ∧ at_.toInt ≤ 400) : bg.toInt + n.toInt ≤ 400 := by
  rw [← h, i_sub (by omega) (by omega)]; omega
theorem iw_or {is : Int32} {P : Prop} (h : is = 0 ∨ P) (c : ¬ is = 0) : P := h.resolve_left c
set_option maxRecDepth 20000 in
theorem in_X9_isWord_X9 : ∀ w ∈ u_ws RX9 TX9 42, w ∈ wsX9_isWord := fun _ h => List.mem_cons_of_mem _ (List.mem_append_right _ h)
def l_X9_isWord  : Nat → wI → Int32 → Int32 → Nat → wI × Int32 × Int32
  | 0, I, k, is, kw => (I, k, is)
  | nf + 1, I, k, is, kw => (if is = 0 then (I, k, is) else (if (w_lw kw) ≤ k then (I, k, is) else (if (I 52 ((I 22 27) + k).toNatClampNeg) = (w_ch kw k) then (l_X9_isWord nf I (k + 1) 1 kw) else (l_X9_isWord nf I (k + 1) 0 kw))))
set_option maxHeartbeats 4000000 in
set_option maxRecDepth 100000 in
theorem lp_X9_isWord {p : Program} {l : Launch} {e : Env} {R : Room} {s : State} {m : MethodId} {args : Array Value} {below : List Frame} {meth : Method} {c : Code} {cells slots : Nat} {Q : State → Prop} {D : va_G} {y : Nat → ClassId} {b : Nat} {z : Nat → Nat} {G : wG} {J : wJ}  (X : wCx p m c cX9_isWord 4 s args wsX9_isWord yX9_isWord.cls D y b) (hst : St z b s) (hL : w_full G) (hRf : 4 ≤ R.frames) (hRl : 85 ≤ R.locals) (hRc : cells ≤ R.cells) (hRs : slots ≤ R.slots) (kw : Nat) {a v : Nat} (hkw : kw < 6) (hsT : ∀ U, St z b U → w_st b a v kw U) : ∀ (nf : Nat) (I : wI) (k : Int32) (is : Int32) (H : Heap) (locs : List Loc) (ls : Array Slot), ((0 ≤ k.toInt ∧ k.toInt ≤ (w_lw kw).toInt) ∧ 0 ≤ (I 22 27).toInt ∧ (is = 0 ∨ (I 22 27).toInt + (w_lw kw).toInt ≤ 400)) → (((w_lw kw).toInt - k.toInt).toNat < nf) → Wh D y b G I J s H locs → lv_has ls 4 [(2, .int is), (3, .int k), (0, .ref (G.1 22)), (1, .ref a)] → (∀ (H : Heap) (locs : List Loc) (ls : Array Slot), Wh D y b G (l_X9_isWord nf I k is kw).1 J s H locs → lv_has ls 4 [(2, .int (l_X9_isWord nf I k is kw).2.2), (3, .int (l_X9_isWord nf I k is kw).2.1), (0, .ref (G.1 22)), (1, .ref a)] → W p l e R s m args below meth c H locs cells slots Q (F0 m 67 ls [])) → W p l e R s m args below meth c H locs cells slots Q (F0 m 24 ls []) := by
  have hx := X.1.1
  have hb := X.1.2.1
  intro nf
  induction nf with
  | zero => intro I k is H locs ls hi hm; exact absurd hm (by omega)
  | succ nf ih =>
    intro I k is H locs ls hi hm hw hl kk
    refine lv_iload_n hx hb dX9_isWord_24 rfl (lv_at hl 0 rfl) ?_
    refine lv_if_eq (tgt := 67) hx hb dX9_isWord_25 (by decide) (fun c_25 => ?_) (fun c_25 => ?_)
    · have hw9 := hw
      have hl9 := hl
      have el : l_X9_isWord (nf + 1) I k is kw = (I, k, is) := by rw [l_X9_isWord]; rw [if_pos c_25]
      exact kk _ _ _ (by rw [el]; exact hw9) (by rw [el]; exact (lv_sub hl9 [0, 1, 2, 3] rfl))
    · refine lv_iload_n hx hb dX9_isWord_28 rfl (lv_at hl 1 rfl) ?_
      refine lv_aload_n hx hb dX9_isWord_29 rfl (lv_at hl 3 rfl) ?_
      refine w_callVi (As := []) (rest := [.int k]) X hw hst hl (c_St_length l D y b z G I J hL a v kw hkw hsT) (cwV 0 X.1.2.2.2.2 gX9_isWord_J0_length_8abf5 rfl rfl rfl (by decide +kernel) ⟨Nat.le_trans (Nat.le_of_ble_eq_true rfl) hRf, Nat.le_trans (Nat.le_of_ble_eq_true rfl) hRl⟩) (w_strec (hsT s hst) hw) rfl rfl (Nat.le_of_ble_eq_true rfl) dX9_isWord_30 ⟨hRc, hRs⟩ (fun r_30_1 u H locs hp_30 hw => ?_)
      obtain ⟨hp_30, rfl⟩ := hp_30
      dsimp only at hw
      refine lv_icmp_ge (tgt := 67) hx hb dX9_isWord_33 (by decide) (fun c_33 => ?_) (fun c_33 => ?_)
      · have hw9 := hw
        have hl9 := hl
        obtain rfl := hp_30.symm
        have el : l_X9_isWord (nf + 1) I k is kw = (I, k, is) := by rw [l_X9_isWord]; rw [if_neg c_25, if_pos c_33]
        exact kk _ _ _ (by rw [el]; exact hw9) (by rw [el]; exact (lv_sub hl9 [0, 1, 2, 3] rfl))
      · refine lv_aload_n hx hb dX9_isWord_36 rfl (lv_at hl 2 rfl) ?_
        refine w_get X hw 10 22 (hL 22 (by decide)) rfl (by decide) k_X9 in_X9_isWord_X9 (by decide) (by decide +kernel) rfl (v := .ref (G.1 52)) rfl dX9_isWord_37 ?_
        refine lv_aload_n hx hb dX9_isWord_40 rfl (lv_at hl 2 rfl) ?_
        refine w_get X hw 10 27 (hL 22 (by decide)) rfl (by decide) k_X9 in_X9_isWord_X9 (by decide) (by decide +kernel) rfl (v := .int (I 22 27)) rfl dX9_isWord_41 ?_
        refine lv_iload_n hx hb dX9_isWord_44 rfl (lv_at hl 1 rfl) ?_
        refine lv_iadd hx hb dX9_isWord_45 ?_
        have h_46 : vp_in ((I 22 27) + k) 400 := iw_ix hp_30 c_33 hi.1.1 hi.2.1 (iw_or hi.2.2 c_25)
        refine w_bld X hw (hL 52 (by decide)) rfl h_46 dX9_isWord_46 ?_
        refine lv_aload_n hx hb dX9_isWord_47 rfl (lv_at hl 3 rfl) ?_
        refine lv_iload_n hx hb dX9_isWord_48 rfl (lv_at hl 1 rfl) ?_
        refine w_callVi (As := [.int k]) (rest := [.int (I 52 ((I 22 27) + k).toNatClampNeg)]) X hw hst hl (c_St_charAt l D y b z G I J hL a v kw hkw hsT k (iw_0 hi.1) (iw_1 hp_30 c_33)) (cwV 1 X.1.2.2.2.2 gX9_isWord_J0_charAt_5068e rfl rfl rfl (by decide +kernel) ⟨Nat.le_trans (Nat.le_of_ble_eq_true rfl) hRf, Nat.le_trans (Nat.le_of_ble_eq_true rfl) hRl⟩) (w_strec (hsT s hst) hw) rfl rfl (Nat.le_of_ble_eq_true rfl) dX9_isWord_49 ⟨hRc, hRs⟩ (fun r_49_2 u H locs hp_49 hw => ?_)
        obtain ⟨hp_49, rfl⟩ := hp_49
        dsimp only at hw
        refine lv_icmp_ne (tgt := 59) hx hb dX9_isWord_52 (by decide) (fun c_52 => ?_) (fun c_52 => ?_)
        · refine lv_iconst (v := 0) hx hb dX9_isWord_59 (by decide) ?_
          refine lv_istore_n (lv' := [(2, .int 0), (3, .int k), (0, .ref (G.1 22)), (1, .ref a)]) hx hb dX9_isWord_60 rfl hl (by decide) rfl (fun ls hl => ?_)
          obtain ⟨x_3, ex_3⟩ : ∃ y : Int32, y = k + 1 := ⟨_, rfl⟩
          refine lv_iinc (v := x_3) (lv' := [(3, .int x_3), (2, .int 0), (0, .ref (G.1 22)), (1, .ref a)]) hx hb dX9_isWord_61 hl (k := 1) rfl (by rw [ex_3]; rfl) (by decide) rfl (fun ls hl => ?_)
          refine lv_goto (tgt := 24) hx hb dX9_isWord_64 (by decide) ?_
          have hw9 := hw
          have hl9 := hl
          obtain rfl := hp_30.symm
          obtain rfl := hp_49.symm
          obtain rfl := ex_3.symm
          have el : l_X9_isWord (nf + 1) I k is kw = l_X9_isWord nf I (k + 1) 0 kw := by rw [l_X9_isWord]; rw [if_neg c_25, if_neg c_33, if_neg c_52]
          exact ih I (k + 1) 0 _ _ _ (⟨iw_inv (iw_n hkw).2 rfl c_33 hi.1, hi.2.1, Or.inl rfl⟩) (iw_m (iw_n hkw).2 rfl c_33 hi.1 hm) hw9 (lv_sub hl9 [1, 0, 2, 3] rfl) (fun H locs ls hw hl => kk H locs ls (by rw [el]; exact hw) (by rw [el]; exact hl))
        · refine lv_iconst (v := 1) hx hb dX9_isWord_55 (by decide) ?_
          refine lv_goto (tgt := 60) hx hb dX9_isWord_56 (by decide) ?_
          refine lv_istore_n (lv' := [(2, .int 1), (3, .int k), (0, .ref (G.1 22)), (1, .ref a)]) hx hb dX9_isWord_60 rfl hl (by decide) rfl (fun ls hl => ?_)
          obtain ⟨x_4, ex_4⟩ : ∃ y : Int32, y = k + 1 := ⟨_, rfl⟩
          refine lv_iinc (v := x_4) (lv' := [(3, .int x_4), (2, .int 1), (0, .ref (G.1 22)), (1, .ref a)]) hx hb dX9_isWord_61 hl (k := 1) rfl (by rw [ex_4]; rfl) (by decide) rfl (fun ls hl => ?_)
          refine lv_goto (tgt := 24) hx hb dX9_isWord_64 (by decide) ?_
          have hw9 := hw
          have hl9 := hl
          obtain rfl := hp_30.symm
          obtain rfl := hp_49.symm
          obtain rfl := ex_4.symm
          have el : l_X9_isWord (nf + 1) I k is kw = l_X9_isWord nf I (k + 1) 1 kw := by rw [l_X9_isWord]; rw [if_neg c_25, if_neg c_33, if_pos c_52]
          exact ih I (k + 1) 1 _ _ _ (⟨iw_inv (iw_n hkw).2 rfl c_33 hi.1, hi.2.1, Or.inr (iw_or hi.2.2 c_25)⟩) (iw_m (iw_n hkw).2 rfl c_33 hi.1 hm) hw9 (lv_sub hl9 [1, 0, 2, 3] rfl) (fun H locs ls hw hl => kk H locs ls (by rw [el]; exact hw) (by rw [el]; exact hl))
theorem ro_X9_isWord : ∀ (nf : Nat) (I : wI) (k : Int32) (is : Int32) (kw : Nat), (l_X9_isWord nf I k is kw).1 = I := by
  intro nf
  induction nf with
  | zero => intros; rfl
  | succ nf ih =>
    intro I k is kw
    rw [l_X9_isWord]
    repeat' split
    all_goals first | with_reducible rfl | exact ih _ _ _ _
theorem iw9_01 : ∀ (nf : Nat) (I : wI) (k is : Int32) (kw : Nat), (is = 0 ∨ is = 1) → ((l_X9_isWord nf I k is kw).2.2 = 0 ∨ (l_X9_isWord nf I k is kw).2.2 = 1) := by
  intro nf
  induction nf with
  | zero => intro I k is kw h; exact h
  | succ nf ih =>
    intro I k is kw h
    rw [l_X9_isWord]
    repeat' split
    all_goals first | exact h | exact ih _ _ _ _ (Or.inl rfl) | exact ih _ _ _ _ (Or.inr rfl)
def f_X9_isWord (I : wI) (kw : Nat) : Int32 := (if ((I 22 25) - (I 22 27)) = (w_lw kw) then ((l_X9_isWord  7 I 0 1 kw).2.2) else ((l_X9_isWord  7 I 0 0 kw).2.2))
set_option maxHeartbeats 4000000 in
set_option maxRecDepth 100000 in
theorem c_X9_isWord (l : Launch) (D : va_G) (y : Nat → ClassId) (b : Nat) (z : Nat → Nat) (G : wG) (I : wI) (J : wJ) (hL : w_full G) (kw : Nat) (a v : Nat) (hkw : kw < 6) (hsT : ∀ U, St z b U → w_st b a v kw U) (hbg : 0 ≤ (I 22 27).toInt ∧ (I 22 27).toInt ≤ (I 22 25).toInt ∧ (I 22 25).toInt ≤ 400) : mI l yX9_isWord wsX9_isWord { frames := 4, cells := 0, slots := 0, locals := 85 } D y b z G I J [.ref (G.1 22), .ref a] (fun r u => r = f_X9_isWord I kw ∧ u = (G, I, J)) 0 0 := by
  refine w_enter (by decide) rfl (Nat.le_of_ble_eq_true rfl) rfl ?_
  intro p e s m below meth c ls X hr hlk hnm hw hst hl
  have hx := X.1.1
  have hb := X.1.2.1
  obtain ⟨po_c_X9_isWord, epo⟩ : ∃ qpo9 : Int32 → wS → Prop, qpo9 = (fun r u => r = f_X9_isWord I kw ∧ u = (G, I, J)) := ⟨_, rfl⟩
  rw [← epo]
  refine lv_aload_n hx hb dX9_isWord_0 rfl (lv_at hl 0 rfl) ?_
  refine w_get X hw 10 25 (hL 22 (by decide)) rfl (by decide) k_X9 in_X9_isWord_X9 (by decide) (by decide +kernel) rfl (v := .int (I 22 25)) rfl dX9_isWord_1 ?_
  refine lv_aload_n hx hb dX9_isWord_4 rfl (lv_at hl 0 rfl) ?_
  refine w_get X hw 10 27 (hL 22 (by decide)) rfl (by decide) k_X9 in_X9_isWord_X9 (by decide) (by decide +kernel) rfl (v := .int (I 22 27)) rfl dX9_isWord_5 ?_
  refine lv_isub hx hb dX9_isWord_8 ?_
  refine lv_aload_n hx hb dX9_isWord_9 rfl (lv_at hl 1 rfl) ?_
  refine w_callVi (As := []) (rest := [.int ((I 22 25) - (I 22 27))]) X hw hst hl (c_St_length l D y b z G I J hL a v kw hkw hsT) (cwV 0 X.1.2.2.2.2 gX9_isWord_J0_length_8abf5 rfl rfl rfl (by decide +kernel) ⟨Nat.le_of_ble_eq_true rfl, Nat.le_of_ble_eq_true rfl⟩) (w_strec (hsT s hst) hw) rfl rfl (Nat.le_of_ble_eq_true rfl) dX9_isWord_10 ⟨Nat.le_of_ble_eq_true rfl, Nat.le_of_ble_eq_true rfl⟩ (fun r_10_1 u H locs hp_10 hw => ?_)
  obtain ⟨hp_10, rfl⟩ := hp_10
  dsimp only at hw
  refine lv_icmp_ne (tgt := 20) hx hb dX9_isWord_13 (by decide) (fun c_13 => ?_) (fun c_13 => ?_)
  · refine lv_iconst (v := 0) hx hb dX9_isWord_20 (by decide) ?_
    refine lv_istore_n (lv' := [(2, .int 0), (0, .ref (G.1 22)), (1, .ref a)]) hx hb dX9_isWord_21 rfl hl (by decide) rfl (fun ls hl => ?_)
    refine lv_iconst (v := 0) hx hb dX9_isWord_22 (by decide) ?_
    refine lv_istore_n (lv' := [(3, .int 0), (2, .int 0), (0, .ref (G.1 22)), (1, .ref a)]) hx hb dX9_isWord_23 rfl hl (by decide) rfl (fun ls hl => ?_)
    refine lp_X9_isWord  X hst hL (Nat.le_of_ble_eq_true rfl) (Nat.le_of_ble_eq_true rfl) (Nat.le_of_ble_eq_true rfl) (Nat.le_of_ble_eq_true rfl) kw hkw hsT 7 I 0 0 _ _ _ (⟨⟨by decide, (iw_n hkw).1⟩, hbg.1, Or.inl rfl⟩) (show ((w_lw kw).toInt - 0).toNat < 7 from by have := iw_n hkw; omega) hw (lv_sub hl [1, 0, 2, 3] rfl) (fun H locs ls hw hl => ?_)
    obtain ⟨Q_2, eQ_2⟩ : ∃ q9 : wI × Int32 × Int32, q9 = l_X9_isWord  7 I 0 0 kw := ⟨_, rfl⟩
    rw [← eQ_2] at hw hl
    rw [show Q_2.1 = I from by rw [eQ_2]; exact ro_X9_isWord _ _ _ _ _] at hw
    refine lv_iload_n hx hb dX9_isWord_67 rfl (lv_at hl 0 rfl) ?_
    have hp_68 : po_c_X9_isWord Q_2.2.2 (G, I, J) := by
        obtain rfl := hp_10.symm
        obtain rfl := eQ_2.symm
        rw [epo]
        refine ⟨Eq.symm ?_, rfl⟩
        unfold f_X9_isWord; rw [if_neg c_13]
    exact w_zret X hr (z_of (by rw [eQ_2]; exact iw9_01 _ _ _ _ _ (by decide))) hlk hw hp_68 (Nat.le_of_ble_eq_true rfl) (Nat.le_of_ble_eq_true rfl) dX9_isWord_68
  · refine lv_iconst (v := 1) hx hb dX9_isWord_16 (by decide) ?_
    refine lv_goto (tgt := 21) hx hb dX9_isWord_17 (by decide) ?_
    refine lv_istore_n (lv' := [(2, .int 1), (0, .ref (G.1 22)), (1, .ref a)]) hx hb dX9_isWord_21 rfl hl (by decide) rfl (fun ls hl => ?_)
    refine lv_iconst (v := 0) hx hb dX9_isWord_22 (by decide) ?_
    refine lv_istore_n (lv' := [(3, .int 0), (2, .int 1), (0, .ref (G.1 22)), (1, .ref a)]) hx hb dX9_isWord_23 rfl hl (by decide) rfl (fun ls hl => ?_)
    refine lp_X9_isWord  X hst hL (Nat.le_of_ble_eq_true rfl) (Nat.le_of_ble_eq_true rfl) (Nat.le_of_ble_eq_true rfl) (Nat.le_of_ble_eq_true rfl) kw hkw hsT 7 I 0 1 _ _ _ (⟨⟨by decide, (iw_n hkw).1⟩, hbg.1, Or.inr (iw_s (by rw [c_13]; exact hp_10) hbg)⟩) (show ((w_lw kw).toInt - 0).toNat < 7 from by have := iw_n hkw; omega) hw (lv_sub hl [1, 0, 2, 3] rfl) (fun H locs ls hw hl => ?_)
    obtain ⟨Q_3, eQ_3⟩ : ∃ q9 : wI × Int32 × Int32, q9 = l_X9_isWord  7 I 0 1 kw := ⟨_, rfl⟩
    rw [← eQ_3] at hw hl
    rw [show Q_3.1 = I from by rw [eQ_3]; exact ro_X9_isWord _ _ _ _ _] at hw
    refine lv_iload_n hx hb dX9_isWord_67 rfl (lv_at hl 0 rfl) ?_
    have hp_68 : po_c_X9_isWord Q_3.2.2 (G, I, J) := by
        obtain rfl := hp_10.symm
        obtain rfl := eQ_3.symm
        rw [epo]
        refine ⟨Eq.symm ?_, rfl⟩
        unfold f_X9_isWord; rw [if_pos c_13]
    exact w_zret X hr (z_of (by rw [eQ_3]; exact iw9_01 _ _ _ _ _ (by decide))) hlk hw hp_68 (Nat.le_of_ble_eq_true rfl) (Nat.le_of_ble_eq_true rfl) dX9_isWord_68
def l_X9_rc_k  : Nat → wI → Int32 → Int32 → wI × Int32 × Int32
  | 0, I, k, wt => (I, k, wt)
  | nf + 1, I, k, wt => (if 6 ≤ k then (I, k, wt) else (if (f_X9_isWord I k.toNatClampNeg) = 0 then (l_X9_rc_k nf I (k + 1) wt ) else (l_X9_rc_k nf I (k + 1) k )))
set_option maxHeartbeats 4000000 in
set_option maxRecDepth 100000 in
theorem lp_X9_rc_k {p : Program} {l : Launch} {e : Env} {R : Room} {s : State} {m : MethodId} {args : Array Value} {below : List Frame} {meth : Method} {c : Code} {cells slots : Nat} {Q : State → Prop} {D : va_G} {y : Nat → ClassId} {b : Nat} {z : Nat → Nat} {G : wG} {J : wJ}  (X : wCx p m c cX9_readClause 3 s args wsX9_readClause yX9_readClause.cls D y b) (hst : St z b s) (hL : w_full G) (hRf : 5 ≤ R.frames) (hRl : 108 ≤ R.locals) (hRc : cells ≤ R.cells) (hRs : slots ≤ R.slots)   : ∀ (nf : Nat) (I : wI) (k : Int32) (wt : Int32) (H : Heap) (locs : List Loc) (ls : Array Slot), ((0 ≤ k.toInt ∧ k.toInt ≤ 6) ∧ 0 ≤ (I 22 27).toInt ∧ (I 22 27).toInt ≤ (I 22 25).toInt ∧ (I 22 25).toInt ≤ 400) → ((6 - k.toInt).toNat < nf) → Wh D y b G I J s H locs → lv_has ls 3 [(2, .int k), (1, .int wt), (0, .ref (G.1 22))] → (∀ (H : Heap) (locs : List Loc) (ls : Array Slot), Wh D y b G (l_X9_rc_k nf I k wt ).1 J s H locs → lv_has ls 3 [(2, .int (l_X9_rc_k nf I k wt ).2.1), (1, .int (l_X9_rc_k nf I k wt ).2.2), (0, .ref (G.1 22))] → W p l e R s m args below meth c H locs cells slots Q (F0 m 57 ls [])) → W p l e R s m args below meth c H locs cells slots Q (F0 m 32 ls []) := by
  have hx := X.1.1
  have hb := X.1.2.1
  intro nf
  induction nf with
  | zero => intro I k wt H locs ls hi hm; exact absurd hm (by omega)
  | succ nf ih =>
    intro I k wt H locs ls hi hm hw hl kk
    refine lv_iload_n hx hb dX9_readClause_32 rfl (lv_at hl 0 rfl) ?_
    refine lv_bipush (v := 6) hx hb dX9_readClause_33 (by decide) ?_
    refine lv_icmp_ge (tgt := 57) hx hb dX9_readClause_35 (by decide) (fun c_35 => ?_) (fun c_35 => ?_)
    · have hw9 := hw
      have hl9 := hl
      have el : l_X9_rc_k (nf + 1) I k wt  = (I, k, wt) := by rw [l_X9_rc_k]; rw [if_pos c_35]
      exact kk _ _ _ (by rw [el]; exact hw9) (by rw [el]; exact (lv_sub hl9 [0, 1, 2] rfl))
    · have hk9 := cn_i c_35 hi.1
      have hk6 := k6_lt hk9
      have hb9 := hi.2
      refine lv_aload_n hx hb dX9_readClause_38 rfl (lv_at hl 2 rfl) ?_
      refine lv_iload_n hx hb dX9_readClause_39 rfl (lv_at hl 0 rfl) ?_
      refine w_callSr (As := [.int k]) (rest := [.ref (G.1 22)]) X hw hst hl (c_X9_word l D y b z G I J hL k hk9) (va_cwS 1 X.1.2.2.2.2 gX9_readClause_X9_word rfl rfl rfl (by decide +kernel) ⟨Nat.le_trans (Nat.le_of_ble_eq_true rfl) hRf, Nat.le_trans (Nat.le_of_ble_eq_true rfl) hRl⟩) rfl rfl (Nat.le_of_ble_eq_true rfl) dX9_readClause_40 ⟨hRc, hRs⟩ (fun u H locs hp_40 hw => ?_)
      obtain ⟨ra_40, u⟩ := u
      obtain ⟨hp_40, rfl⟩ := hp_40
      dsimp only at hw
      dsimp only at hp_40
      subst hp_40
      refine w_callVi (As := [.ref (z (22 + k.toNatClampNeg))]) (rest := []) X hw hst hl (c_X9_isWord l D y b z G I J hL k.toNatClampNeg (z (22 + k.toNatClampNeg)) (z (28 + k.toNatClampNeg)) hk6 (fun U h => (h.x.2.2.2.1 _ hk6).2) hb9) (cwV 1 X.1.2.2.2.2 gX9_readClause_X9_isWord rfl rfl rfl (by decide +kernel) ⟨Nat.le_trans (Nat.le_of_ble_eq_true rfl) hRf, Nat.le_trans (Nat.le_of_ble_eq_true rfl) hRl⟩) (w_recv X hw (hL 22 (by decide)) rfl (by decide) k_X9) rfl rfl (Nat.le_of_ble_eq_true rfl) dX9_readClause_43 ⟨hRc, hRs⟩ (fun r_43_2 u H locs hp_43 hw => ?_)
      obtain ⟨hp_43, rfl⟩ := hp_43
      dsimp only at hw
      refine lv_if_eq (tgt := 51) hx hb dX9_readClause_46 (by decide) (fun c_46 => ?_) (fun c_46 => ?_)
      · obtain ⟨x_3, ex_3⟩ : ∃ y : Int32, y = k + 1 := ⟨_, rfl⟩
        refine lv_iinc (v := x_3) (lv' := [(2, .int x_3), (1, .int wt), (0, .ref (G.1 22))]) hx hb dX9_readClause_51 hl (k := 0) rfl (by rw [ex_3]; rfl) (by decide) rfl (fun ls hl => ?_)
        refine lv_goto (tgt := 32) hx hb dX9_readClause_54 (by decide) ?_
        have hw9 := hw
        have hl9 := hl
        obtain rfl := hp_43.symm
        obtain rfl := ex_3.symm
        have el : l_X9_rc_k (nf + 1) I k wt  = l_X9_rc_k nf I (k + 1) wt  := by rw [l_X9_rc_k]; rw [if_neg c_35, if_pos c_46]
        exact ih I (k + 1) wt _ _ _ (⟨cn_inv c_35 hi.1, hi.2⟩) (cn_m c_35 hi.1 hm) hw9 (lv_sub hl9 [0, 1, 2] rfl) (fun H locs ls hw hl => kk H locs ls (by rw [el]; exact hw) (by rw [el]; exact hl))
      · refine lv_iload_n hx hb dX9_readClause_49 rfl (lv_at hl 0 rfl) ?_
        refine lv_istore_n (lv' := [(1, .int k), (2, .int k), (0, .ref (G.1 22))]) hx hb dX9_readClause_50 rfl hl (by decide) rfl (fun ls hl => ?_)
        obtain ⟨x_4, ex_4⟩ : ∃ y : Int32, y = k + 1 := ⟨_, rfl⟩
        refine lv_iinc (v := x_4) (lv' := [(2, .int x_4), (1, .int k), (0, .ref (G.1 22))]) hx hb dX9_readClause_51 hl (k := 1) rfl (by rw [ex_4]; rfl) (by decide) rfl (fun ls hl => ?_)
        refine lv_goto (tgt := 32) hx hb dX9_readClause_54 (by decide) ?_
        have hw9 := hw
        have hl9 := hl
        obtain rfl := hp_43.symm
        obtain rfl := ex_4.symm
        have el : l_X9_rc_k (nf + 1) I k wt  = l_X9_rc_k nf I (k + 1) k  := by rw [l_X9_rc_k]; rw [if_neg c_35, if_neg c_46]
        exact ih I (k + 1) k _ _ _ (⟨cn_inv c_35 hi.1, hi.2⟩) (cn_m c_35 hi.1 hm) hw9 (lv_sub hl9 [0, 1, 2] rfl) (fun H locs ls hw hl => kk H locs ls (by rw [el]; exact hw) (by rw [el]; exact hl))
theorem ro_X9_rc_k : ∀ (nf : Nat) (I : wI) (k : Int32) (wt : Int32) , (l_X9_rc_k nf I k wt ).1 = I := by
  intro nf
  induction nf with
  | zero => intros; rfl
  | succ nf ih =>
    intro I k wt 
    rw [l_X9_rc_k]
    repeat' split
    all_goals first | with_reducible rfl | exact ih _ _ _ 
theorem rk_in : ∀ (nf : Nat) (I : wI) (k wt : Int32), 0 ≤ k.toInt → k.toInt ≤ 6 → wt.toInt < 6 → (l_X9_rc_k nf I k wt).2.2.toInt < 6 := by
  intro nf
  induction nf with
  | zero => intro I k wt h0 h6 h; exact h
  | succ nf ih =>
    intro I k wt h0 h6 h
    rw [l_X9_rc_k]
    split
    · exact h
    · next hc =>
      have h2 := cn_inv hc ⟨h0, h6⟩
      split
      · exact ih _ _ _ h2.1 h2.2 h
      · refine ih _ _ _ h2.1 h2.2 ?_
        simp only [i_le, Int32.reduceToInt] at hc; omega
theorem rk_v {I : wI} {k : Int32} (h0 : 0 ≤ (l_X9_rc_k 7 I 0 (-1)).2.2) : vp_in (l_X9_rc_k 7 I 0 (-1)).2.2 6 := by
  have h := rk_in 7 I 0 (-1) (by decide) (by decide) (by decide)
  generalize (l_X9_rc_k 7 I 0 (-1)).2.2 = w at h h0 ⊢
  simp only [i_le, Int32.reduceToInt] at h0
  rw [vp_in_iff]; omega
