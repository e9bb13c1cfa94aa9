theorem rc9_p {I : wI} (h : rdM I) : mvP I (f_X9_readClause I).2 := by
  have h1 := (mb_p h).1
  unfold f_X9_readClause
  generalize f_X9_blanks I = A1 at h1 ⊢
  have h2 := mv_tr h1 (mw_l 401 A1 h1.1).1
  generalize l_X9_rc_w 401 A1 = A2 at h2 ⊢
  generalize (l_X9_rc_k 7 A2 0 (-1)).2.2 = kd
  have h3 := mv_tr h2 (mb_p h2.1).1
  generalize f_X9_blanks A2 = A3 at h3 ⊢
  have h4 := mv_tr h3 (mn_l 401 A3 0 kd h3.1).1
  generalize l_X9_rc_n 401 A3 0 kd = A4 at h4 ⊢
  repeat' split
  all_goals first | exact h2 | exact h4
theorem lm_i {I A B : wI} (h1 : mvP I A) (hc : f_X9_isAt A 59 59 = 1) (h2 : mvP (wU A 22 25 (A 22 25 + 1)) B) : rdM B := h2.1
theorem lm_m {I A B : wI} {nf : Nat} (h0 : rdM I) (h1 : mvP I A) (hc : f_X9_isAt A 59 59 = 1) (h2 : mvP (wU A 22 25 (A 22 25 + 1)) B) (hm : ((I 22 26).toInt - (I 22 25).toInt).toNat < nf + 1) : ((B 22 26).toInt - (B 22 25).toInt).toNat < nf := by
  have e1 : (wU A 22 25 (A 22 25 + 1)) 22 25 = A 22 25 + 1 := rfl
  have e2 : (wU A 22 25 (A 22 25 + 1)) 22 26 = A 22 26 := rfl
  have h3 := h2.2.1
  have h4 := h2.2.2
  have h5 := at_lt hc
  have h6 := h1.2.1
  have h7 := h1.1.2.2
  rw [e1, i_inc (by simp only [i_le] at h5; omega)] at h3
  rw [h4, e2, h1.2.2]
  rw [h1.2.2] at h5
  simp only [i_le] at h5
  omega
theorem law_0 {I : wI} {A : wI} (hN : 0 ≤ (I 22 23).toInt ∧ (I 22 23).toInt ≤ 400) (h25 : A 22 25 = 0) (h26 : A 22 26 = I 22 23) : rdM A := by
  unfold rdM
  rw [h25, h26]
  exact ⟨by decide, hN.1, hN.2⟩
set_option maxRecDepth 20000 in
theorem in_X9_law_X9 : ∀ w ∈ u_ws RX9 TX9 42, w ∈ wsX9_law := fun _ h => List.mem_cons_of_mem _ (List.mem_append_right _ h)
def l_X9_law_a  : Nat → wI → Int32 → wI × Int32
  | 0, I, k => (I, k)
  | nf + 1, I, k => (if 6 ≤ k then (I, k) else (l_X9_law_a nf (wU I 44 k.toNatClampNeg (I 43 k.toNatClampNeg)) (k + 1) ))
set_option maxHeartbeats 4000000 in
set_option maxRecDepth 100000 in
theorem lp_X9_law_a {p : Program} {l : Launch} {e : Env} {R : Room} {s : State} {m : MethodId} {args : Array Value} {below : List Frame} {meth : Method} {c : Code} {cells slots : Nat} {Q : State → Prop} {D : va_G} {y : Nat → ClassId} {b : Nat} {z : Nat → Nat} {G : wG} {J : wJ}  (X : wCx p m c cX9_law 4 s args wsX9_law yX9_law.cls D y b) (hst : St z b s) (hL : w_full G) (hRf : 0 ≤ R.frames) (hRl : 0 ≤ R.locals) (hRc : cells ≤ R.cells) (hRs : slots ≤ R.slots)   : ∀ (nf : Nat) (I : wI) (k : Int32) (H : Heap) (locs : List Loc) (ls : Array Slot), (0 ≤ k.toInt ∧ k.toInt ≤ 6) → ((6 - k.toInt).toNat < nf) → Wh D y b G I J s H locs → lv_has ls 4 [(1, .int k), (0, .ref (G.1 22))] → (∀ (H : Heap) (locs : List Loc) (ls : Array Slot), Wh D y b G (l_X9_law_a nf I k ).1 J s H locs → lv_has ls 4 [(1, .int (l_X9_law_a nf I k ).2), (0, .ref (G.1 22))] → W p l e R s m args below meth c H locs cells slots Q (F0 m 49 ls [])) → W p l e R s m args below meth c H locs cells slots Q (F0 m 25 ls []) := by
  have hx := X.1.1
  have hb := X.1.2.1
  intro nf
  induction nf with
  | zero => intro I k H locs ls hi hm; exact absurd hm (by omega)
  | succ nf ih =>
    intro I k H locs ls hi hm hw hl kk
    refine lv_iload_n hx hb dX9_law_25 rfl (lv_at hl 0 rfl) ?_
    refine lv_bipush (v := 6) hx hb dX9_law_26 (by decide) ?_
    refine lv_icmp_ge (tgt := 49) hx hb dX9_law_28 (by decide) (fun c_28 => ?_) (fun c_28 => ?_)
    · have hw9 := hw
      have hl9 := hl
      have el : l_X9_law_a (nf + 1) I k  = (I, k) := by rw [l_X9_law_a]; rw [if_pos c_28]
      exact kk _ _ _ (by rw [el]; exact hw9) (by rw [el]; exact (lv_sub hl9 [0, 1] rfl))
    · refine lv_aload_n hx hb dX9_law_31 rfl (lv_at hl 1 rfl) ?_
      refine w_get X hw 10 14 (hL 22 (by decide)) rfl (by decide) k_X9 in_X9_law_X9 (by decide) (by decide +kernel) rfl (v := .ref (G.1 44)) rfl dX9_law_32 ?_
      refine lv_iload_n hx hb dX9_law_35 rfl (lv_at hl 0 rfl) ?_
      refine lv_aload_n hx hb dX9_law_36 rfl (lv_at hl 1 rfl) ?_
      refine w_get X hw 10 13 (hL 22 (by decide)) rfl (by decide) k_X9 in_X9_law_X9 (by decide) (by decide +kernel) rfl (v := .ref (G.1 43)) rfl dX9_law_37 ?_
      refine lv_iload_n hx hb dX9_law_40 rfl (lv_at hl 0 rfl) ?_
      have h_41 : vp_in k 6 := cn_i c_28 hi
      refine w_ild X hw (hL 43 (by decide)) rfl h_41 dX9_law_41 ?_
      refine lv_topi (fun x_1 ex_1 => ?_)
      have h_42 : vp_in k 6 := cn_i c_28 hi
      refine w_ist X hw (hL 44 (by decide)) rfl h_42 dX9_law_42 (fun H locs hw => ?_)
      obtain ⟨x_2, ex_2⟩ : ∃ y : Int32, y = k + 1 := ⟨_, rfl⟩
      refine lv_iinc (v := x_2) (lv' := [(1, .int x_2), (0, .ref (G.1 22))]) hx hb dX9_law_43 hl (k := 0) rfl (by rw [ex_2]; rfl) (by decide) rfl (fun ls hl => ?_)
      refine lv_goto (tgt := 25) hx hb dX9_law_46 (by decide) ?_
      have hw9 := hw
      have hl9 := hl
      obtain rfl := ex_1.symm
      obtain rfl := ex_2.symm
      have el : l_X9_law_a (nf + 1) I k  = l_X9_law_a nf (wU I 44 k.toNatClampNeg (I 43 k.toNatClampNeg)) (k + 1)  := by rw [l_X9_law_a]; rw [if_neg c_28]
      exact ih (wU I 44 k.toNatClampNeg (I 43 k.toNatClampNeg)) (k + 1) _ _ _ (cn_inv c_28 hi) (cn_m c_28 hi hm) hw9 (lv_sub hl9 [0, 1] rfl) (fun H locs ls hw hl => kk H locs ls (by rw [el]; exact hw) (by rw [el]; exact hl))
theorem fr_X9_law_a   : ∀ (nf : Nat) (I : wI) (k : Int32)  (q9 : Nat) (h44 : q9 ≠ 44), (l_X9_law_a nf I k ).1 q9 = I q9 := by
  intro nf
  induction nf with
  | zero => intros; rfl
  | succ nf ih =>
    intro I k  q9 h44
    rw [l_X9_law_a]
    repeat' split
    all_goals first | with_reducible rfl | (rw [ih _ _  q9 h44]; done) | (rw [ih _ _  q9 h44]; simp only [wU_ne _ _ _ h44]) | (simp only [wU_ne _ _ _ h44])
def l_X9_law_c  : Nat → wI → Int32 → Int32 → Int32 → wI × Int32
  | 0, I, k, gd, n => (I, k)
  | nf + 1, I, k, gd, n => (if 6 ≤ k then (I, k) else (l_X9_law_c nf (wU I 43 k.toNatClampNeg (I 44 k.toNatClampNeg)) (k + 1) gd n))
set_option maxHeartbeats 4000000 in
set_option maxRecDepth 100000 in
theorem lp_X9_law_c {p : Program} {l : Launch} {e : Env} {R : Room} {s : State} {m : MethodId} {args : Array Value} {below : List Frame} {meth : Method} {c : Code} {cells slots : Nat} {Q : State → Prop} {D : va_G} {y : Nat → ClassId} {b : Nat} {z : Nat → Nat} {G : wG} {J : wJ}  (X : wCx p m c cX9_law 4 s args wsX9_law yX9_law.cls D y b) (hst : St z b s) (hL : w_full G) (hRf : 0 ≤ R.frames) (hRl : 0 ≤ R.locals) (hRc : cells ≤ R.cells) (hRs : slots ≤ R.slots) (gd : Int32) (n : Int32)  : ∀ (nf : Nat) (I : wI) (k : Int32) (H : Heap) (locs : List Loc) (ls : Array Slot), (0 ≤ k.toInt ∧ k.toInt ≤ 6) → ((6 - k.toInt).toNat < nf) → Wh D y b G I J s H locs → lv_has ls 4 [(3, .int k), (2, .int gd), (1, .int n), (0, .ref (G.1 22))] → (∀ (H : Heap) (locs : List Loc) (ls : Array Slot), Wh D y b G (l_X9_law_c nf I k gd n).1 J s H locs → lv_has ls 4 [(3, .int (l_X9_law_c nf I k gd n).2), (2, .int gd), (1, .int n), (0, .ref (G.1 22))] → W p l e R s m args below meth c H locs cells slots Q (F0 m 176 ls [])) → W p l e R s m args below meth c H locs cells slots Q (F0 m 152 ls []) := by
  have hx := X.1.1
  have hb := X.1.2.1
  intro nf
  induction nf with
  | zero => intro I k H locs ls hi hm; exact absurd hm (by omega)
  | succ nf ih =>
    intro I k H locs ls hi hm hw hl kk
    refine lv_iload_n hx hb dX9_law_152 rfl (lv_at hl 0 rfl) ?_
    refine lv_bipush (v := 6) hx hb dX9_law_153 (by decide) ?_
    refine lv_icmp_ge (tgt := 176) hx hb dX9_law_155 (by decide) (fun c_155 => ?_) (fun c_155 => ?_)
    · have hw9 := hw
      have hl9 := hl
      have el : l_X9_law_c (nf + 1) I k gd n = (I, k) := by rw [l_X9_law_c]; rw [if_pos c_155]
      exact kk _ _ _ (by rw [el]; exact hw9) (by rw [el]; exact (lv_sub hl9 [0, 1, 2, 3] rfl))
    · refine lv_aload_n hx hb dX9_law_158 rfl (lv_at hl 3 rfl) ?_
      refine w_get X hw 10 13 (hL 22 (by decide)) rfl (by decide) k_X9 in_X9_law_X9 (by decide) (by decide +kernel) rfl (v := .ref (G.1 43)) rfl dX9_law_159 ?_
      refine lv_iload_n hx hb dX9_law_162 rfl (lv_at hl 0 rfl) ?_
      refine lv_aload_n hx hb dX9_law_163 rfl (lv_at hl 3 rfl) ?_
      refine w_get X hw 10 14 (hL 22 (by decide)) rfl (by decide) k_X9 in_X9_law_X9 (by decide) (by decide +kernel) rfl (v := .ref (G.1 44)) rfl dX9_law_164 ?_
      refine lv_iload_n hx hb dX9_law_167 rfl (lv_at hl 0 rfl) ?_
      have h_168 : vp_in k 6 := cn_i c_155 hi
      refine w_ild X hw (hL 44 (by decide)) rfl h_168 dX9_law_168 ?_
      refine lv_topi (fun x_1 ex_1 => ?_)
      have h_169 : vp_in k 6 := cn_i c_155 hi
      refine w_ist X hw (hL 43 (by decide)) rfl h_169 dX9_law_169 (fun H locs hw => ?_)
      obtain ⟨x_2, ex_2⟩ : ∃ y : Int32, y = k + 1 := ⟨_, rfl⟩
      refine lv_iinc (v := x_2) (lv' := [(3, .int x_2), (2, .int gd), (1, .int n), (0, .ref (G.1 22))]) hx hb dX9_law_170 hl (k := 0) rfl (by rw [ex_2]; rfl) (by decide) rfl (fun ls hl => ?_)
      refine lv_goto (tgt := 152) hx hb dX9_law_173 (by decide) ?_
      have hw9 := hw
      have hl9 := hl
      obtain rfl := ex_1.symm
      obtain rfl := ex_2.symm
      have el : l_X9_law_c (nf + 1) I k gd n = l_X9_law_c nf (wU I 43 k.toNatClampNeg (I 44 k.toNatClampNeg)) (k + 1) gd n := by rw [l_X9_law_c]; rw [if_neg c_155]
      exact ih (wU I 43 k.toNatClampNeg (I 44 k.toNatClampNeg)) (k + 1) _ _ _ (cn_inv c_155 hi) (cn_m c_155 hi hm) hw9 (lv_sub hl9 [0, 1, 2, 3] rfl) (fun H locs ls hw hl => kk H locs ls (by rw [el]; exact hw) (by rw [el]; exact hl))
theorem fr_X9_law_c   : ∀ (nf : Nat) (I : wI) (k : Int32) (gd : Int32) (n : Int32) (q9 : Nat) (h43 : q9 ≠ 43), (l_X9_law_c nf I k gd n).1 q9 = I q9 := by
  intro nf
  induction nf with
  | zero => intros; rfl
  | succ nf ih =>
    intro I k gd n q9 h43
    rw [l_X9_law_c]
    repeat' split
    all_goals first | with_reducible rfl | (rw [ih _ _ _ _ q9 h43]; done) | (rw [ih _ _ _ _ q9 h43]; simp only [wU_ne _ _ _ h43]) | (simp only [wU_ne _ _ _ h43])
def l_X9_law_m  : Nat → wI → Int32 → Int32 → wI × Int32 × Int32
  | 0, I, gd, n => (I, gd, n)
  | nf + 1, I, gd, n => (if gd = 0 then (I, gd, n) else (if ((f_X9_blanks I) 22 25) = ((f_X9_blanks I) 22 26) then ((f_X9_blanks I), gd, (n + 1)) else (if f_X9_isAt (f_X9_blanks I) 59 59 = 1 then (l_X9_law_m nf ((f_X9_readClause (wU (f_X9_blanks I) 22 25 (((f_X9_blanks I) 22 25) + 1))).2) ((f_X9_readClause (wU (f_X9_blanks I) 22 25 (((f_X9_blanks I) 22 25) + 1))).1) (n + 1) ) else ((f_X9_blanks I), 0, (n + 1)))))
set_option maxHeartbeats 4000000 in
set_option maxRecDepth 100000 in
theorem lp_X9_law_m {p : Program} {l : Launch} {e : Env} {R : Room} {s : State} {m : MethodId} {args : Array Value} {below : List Frame} {meth : Method} {c : Code} {cells slots : Nat} {Q : State → Prop} {D : va_G} {y : Nat → ClassId} {b : Nat} {z : Nat → Nat} {G : wG} {J : wJ}  (X : wCx p m c cX9_law 4 s args wsX9_law yX9_law.cls D y b) (hst : St z b s) (hL : w_full G) (hRf : 6 ≤ R.frames) (hRl : 130 ≤ R.locals) (hRc : cells ≤ R.cells) (hRs : slots ≤ R.slots)   : ∀ (nf : Nat) (I : wI) (gd : Int32) (n : Int32) (H : Heap) (locs : List Loc) (ls : Array Slot), (rdM I) → (((I 22 26).toInt - (I 22 25).toInt).toNat < nf) → Wh D y b G I J s H locs → lv_has ls 4 [(2, .int gd), (1, .int n), (0, .ref (G.1 22))] → (∀ (H : Heap) (locs : List Loc) (ls : Array Slot), Wh D y b G (l_X9_law_m nf I gd n ).1 J s H locs → lv_has ls 4 [(2, .int (l_X9_law_m nf I gd n ).2.1), (1, .int (l_X9_law_m nf I gd n ).2.2), (0, .ref (G.1 22))] → W p l e R s m args below meth c H locs cells slots Q (F0 m 115 ls [])) → W p l e R s m args below meth c H locs cells slots Q (F0 m 56 ls []) := by
  have hx := X.1.1
  have hb := X.1.2.1
  intro nf
  induction nf with
  | zero => intro I gd n H locs ls hi hm; exact absurd hm (by omega)
  | succ nf ih =>
    intro I gd n H locs ls hi hm hw hl kk
    refine lv_iload_n hx hb dX9_law_56 rfl (lv_at hl 0 rfl) ?_
    refine lv_if_eq (tgt := 115) hx hb dX9_law_57 (by decide) (fun c_57 => ?_) (fun c_57 => ?_)
    · have hw9 := hw
      have hl9 := hl
      have el : l_X9_law_m (nf + 1) I gd n  = (I, gd, n) := by rw [l_X9_law_m]; rw [if_pos c_57]
      exact kk _ _ _ (by rw [el]; exact hw9) (by rw [el]; exact (lv_sub hl9 [0, 1, 2] rfl))
    · obtain ⟨x_1, ex_1⟩ : ∃ y : Int32, y = n + 1 := ⟨_, rfl⟩
      refine lv_iinc (v := x_1) (lv' := [(1, .int x_1), (2, .int gd), (0, .ref (G.1 22))]) hx hb dX9_law_60 hl (k := 1) rfl (by rw [ex_1]; rfl) (by decide) rfl (fun ls hl => ?_)
      refine lv_aload_n hx hb dX9_law_63 rfl (lv_at hl 2 rfl) ?_
      refine w_callVv (As := []) (rest := []) X hw hst hl (c_X9_blanks l D y b z G I J hL hi) (cwV 0 X.1.2.2.2.2 gX9_law_X9_blanks rfl rfl rfl (by decide +kernel) ⟨Nat.le_trans (Nat.le_of_ble_eq_true rfl) hRf, Nat.le_trans (Nat.le_of_ble_eq_true rfl) hRl⟩) (w_recv X hw (hL 22 (by decide)) rfl (by decide) k_X9) rfl rfl (Nat.le_of_ble_eq_true rfl) dX9_law_64 ⟨hRc, hRs⟩ (fun u H locs hp_64 hw => ?_)
      obtain ⟨G_64_2, I_64_2, J_64_2⟩ := u
      dsimp only at hw hp_64
      obtain ⟨hI_64_2, eG_64, eJ_64⟩ := hp_64
      subst G_64_2 J_64_2
      have P1 := (mb_p hi).1
      rw [← hI_64_2] at P1
      refine lv_aload_n hx hb dX9_law_67 rfl (lv_at hl 2 rfl) ?_
      refine w_get X hw 10 25 (hL 22 (by decide)) rfl (by decide) k_X9 in_X9_law_X9 (by decide) (by decide +kernel) rfl (v := .int (I_64_2 22 25)) rfl dX9_law_68 ?_
      refine lv_aload_n hx hb dX9_law_71 rfl (lv_at hl 2 rfl) ?_
      refine w_get X hw 10 26 (hL 22 (by decide)) rfl (by decide) k_X9 in_X9_law_X9 (by decide) (by decide +kernel) rfl (v := .int (I_64_2 22 26)) rfl dX9_law_72 ?_
      refine lv_icmp_ne (tgt := 81) hx hb dX9_law_75 (by decide) (fun c_75 => ?_) (fun c_75 => ?_)
      · refine lv_aload_n hx hb dX9_law_81 rfl (lv_at hl 2 rfl) ?_
        refine lv_bipush (v := 59) hx hb dX9_law_82 (by decide) ?_
        refine lv_bipush (v := 59) hx hb dX9_law_84 (by decide) ?_
        refine w_callVi (As := [.int 59, .int 59]) (rest := []) X hw hst hl (c_X9_isAt l D y b z G I_64_2 J hL 59 59 P1.1.1 P1.1.2.2) (cwV 2 X.1.2.2.2.2 gX9_law_X9_isAt rfl rfl rfl (by decide +kernel) ⟨Nat.le_trans (Nat.le_of_ble_eq_true rfl) hRf, Nat.le_trans (Nat.le_of_ble_eq_true rfl) hRl⟩) (w_recv X hw (hL 22 (by decide)) rfl (by decide) k_X9) rfl rfl (Nat.le_of_ble_eq_true rfl) dX9_law_86 ⟨hRc, hRs⟩ (fun r_86_3 u H locs hp_86 hw => ?_)
        obtain ⟨hp_86, rfl⟩ := hp_86
        dsimp only at hw
        rcases f_X9_isAt_01  I_64_2 59 59 with q_86 | ⟨q_86, q0_86⟩
        · rw [q_86] at hp_86
          subst r_86_3
          refine lv_istore_n (lv' := [(2, .int 1), (1, .int x_1), (0, .ref (G.1 22))]) hx hb dX9_law_89 rfl hl (by decide) rfl (fun ls hl => ?_)
          refine lv_iload_n hx hb dX9_law_90 rfl (lv_at hl 0 rfl) ?_
          refine lv_if_ne (tgt := 97) hx hb dX9_law_91 (by decide) (fun c_91 => ?_) (fun c_91 => ?_)
          · refine lv_aload_n hx hb dX9_law_97 rfl (lv_at hl 2 rfl) ?_
            refine lv_dup hx hb dX9_law_98 rfl ?_
            refine w_get X hw 10 25 (hL 22 (by decide)) rfl (by decide) k_X9 in_X9_law_X9 (by decide) (by decide +kernel) rfl (v := .int (I_64_2 22 25)) rfl dX9_law_99 ?_
            refine lv_iconst (v := 1) hx hb dX9_law_102 (by decide) ?_
            refine lv_iadd hx hb dX9_law_103 ?_
            refine lv_topi (fun x_4 ex_4 => ?_)
            refine w_put X hw 10 25 (hL 22 (by decide)) rfl (by decide) k_X9 in_X9_law_X9 (by decide) (by decide +kernel) rfl rfl (t := .int) (by decide +kernel) rfl rfl (fun _ => rfl) (fun _ => Nat.le_of_ble_eq_true rfl) dX9_law_104 (fun H locs hw => ?_)
            have P2 := mv_1 P1.1 q_86
            rw [← ex_4] at P2
            refine lv_aload_n hx hb dX9_law_107 rfl (lv_at hl 2 rfl) ?_
            refine w_callVi (As := []) (rest := []) X hw hst hl (c_X9_readClause l D y b z G (wU I_64_2 22 25 x_4) J hL P2.1) (cwV 0 X.1.2.2.2.2 gX9_law_X9_readClause rfl rfl rfl (by decide +kernel) ⟨Nat.le_trans (Nat.le_of_ble_eq_true rfl) hRf, Nat.le_trans (Nat.le_of_ble_eq_true rfl) hRl⟩) (w_recv X hw (hL 22 (by decide)) rfl (by decide) k_X9) rfl rfl (Nat.le_of_ble_eq_true rfl) dX9_law_108 ⟨hRc, hRs⟩ (fun r_108_5 u H locs hp_108 hw => ?_)
            obtain ⟨G_108_5, I_108_5, J_108_5⟩ := u
            dsimp only at hw hp_108
            obtain ⟨⟨hp_108, hI_108_5⟩, eG_108, eJ_108⟩ := hp_108
            subst G_108_5 J_108_5
            refine lv_istore_n (lv' := [(2, .int r_108_5), (1, .int x_1), (0, .ref (G.1 22))]) hx hb dX9_law_111 rfl hl (by decide) rfl (fun ls hl => ?_)
            refine lv_goto (tgt := 56) hx hb dX9_law_112 (by decide) ?_
            have hw9 := hw
            have hl9 := hl
            obtain rfl := ex_1.symm
            obtain rfl := hI_64_2.symm
            obtain rfl := ex_4.symm
            obtain rfl := hI_108_5.symm
            obtain rfl := hp_108.symm
            have el : l_X9_law_m (nf + 1) I gd n  = l_X9_law_m nf ((f_X9_readClause (wU (f_X9_blanks I) 22 25 (((f_X9_blanks I) 22 25) + 1))).2) ((f_X9_readClause (wU (f_X9_blanks I) 22 25 (((f_X9_blanks I) 22 25) + 1))).1) (n + 1)  := by rw [l_X9_law_m]; rw [if_neg c_57, if_neg c_75, if_pos q_86]
            exact ih ((f_X9_readClause (wU (f_X9_blanks I) 22 25 (((f_X9_blanks I) 22 25) + 1))).2) ((f_X9_readClause (wU (f_X9_blanks I) 22 25 (((f_X9_blanks I) 22 25) + 1))).1) (n + 1) _ _ _ ((rc9_p P2.1).1) (lm_m hi P1 q_86 (rc9_p P2.1) hm) hw9 (lv_sub hl9 [0, 1, 2] rfl) (fun H locs ls hw hl => kk H locs ls (by rw [el]; exact hw) (by rw [el]; exact hl))
          · exact absurd c_91 (by decide)
        · rw [q0_86] at hp_86
          subst r_86_3
          refine lv_istore_n (lv' := [(2, .int 0), (1, .int x_1), (0, .ref (G.1 22))]) hx hb dX9_law_89 rfl hl (by decide) rfl (fun ls hl => ?_)
          refine lv_iload_n hx hb dX9_law_90 rfl (lv_at hl 0 rfl) ?_
          refine lv_if_ne (tgt := 97) hx hb dX9_law_91 (by decide) (fun c_91 => ?_) (fun c_91 => ?_)
          · exact absurd (by decide) c_91
          · refine lv_goto (tgt := 115) hx hb dX9_law_94 (by decide) ?_
            have hw9 := hw
            have hl9 := hl
            obtain rfl := ex_1.symm
            obtain rfl := hI_64_2.symm
            have el : l_X9_law_m (nf + 1) I gd n  = ((f_X9_blanks I), 0, (n + 1)) := by rw [l_X9_law_m]; rw [if_neg c_57, if_neg c_75, if_neg q_86]
            exact kk _ _ _ (by rw [el]; exact hw9) (by rw [el]; exact (lv_sub hl9 [0, 1, 2] rfl))
      · refine lv_goto (tgt := 115) hx hb dX9_law_78 (by decide) ?_
        have hw9 := hw
        have hl9 := hl
        obtain rfl := ex_1.symm
        obtain rfl := hI_64_2.symm
        have el : l_X9_law_m (nf + 1) I gd n  = ((f_X9_blanks I), gd, (n + 1)) := by rw [l_X9_law_m]; rw [if_neg c_57, if_pos c_75]
        exact kk _ _ _ (by rw [el]; exact hw9) (by rw [el]; exact (lv_sub hl9 [1, 0, 2] rfl))
theorem fr_X9_law_m   : ∀ (nf : Nat) (I : wI) (gd : Int32) (n : Int32)  (q9 : Nat) (h22 : q9 ≠ 22) (h44 : q9 ≠ 44), (l_X9_law_m nf I gd n ).1 q9 = I q9 := by
  intro nf
  induction nf with
  | zero => intros; rfl
  | succ nf ih =>
    intro I gd n  q9 h22 h44
    rw [l_X9_law_m]
    repeat' split
    all_goals first | with_reducible rfl | (rw [ih _ _ _  q9 h22 h44]; done) | (rw [ih _ _ _  q9 h22 h44]; simp only [wU_ne _ _ _ h22, wU_ne _ _ _ h44, fr_f_X9_readClause _ _ h22 h44, fr_f_X9_blanks _ _ h22]) | (simp only [wU_ne _ _ _ h22, wU_ne _ _ _ h44, fr_f_X9_readClause _ _ h22 h44, fr_f_X9_blanks _ _ h22])
