set_option maxRecDepth 20000 in
theorem in_X9_lay_X9 : ∀ w ∈ u_ws RX9 TX9 42, w ∈ wsX9_lay := fun _ h => List.mem_cons_of_mem _ (List.mem_append_right _ h)
def l_X9_lay  : Nat → wI → Int32 → Int32 → Int32 → Int32 → wI × Int32
  | 0, I, k, ce, lo, hi2 => (I, k)
  | nf + 1, I, k, ce, lo, hi2 => (if 60 ≤ k then (I, k) else (if (I 22 29) ≤ k then (l_X9_lay nf (wU I 60 k.toNatClampNeg (vp_nar .boolean 0)) (k + 1) ce lo hi2) else (if 30 ≤ k then (if ((hi2 >>> ((k - 30) &&& 31)) &&& 1) = 1 then (l_X9_lay nf (wU I 60 k.toNatClampNeg (vp_nar .boolean 1)) (k + 1) ce lo hi2) else (l_X9_lay nf (wU I 60 k.toNatClampNeg (vp_nar .boolean 0)) (k + 1) ce lo hi2)) else (if ((lo >>> (k &&& 31)) &&& 1) = 1 then (l_X9_lay nf (wU I 60 k.toNatClampNeg (vp_nar .boolean 1)) (k + 1) ce lo hi2) else (l_X9_lay nf (wU I 60 k.toNatClampNeg (vp_nar .boolean 0)) (k + 1) ce lo hi2)))))
set_option maxHeartbeats 4000000 in
set_option maxRecDepth 100000 in
theorem lp_X9_lay {p : Program} {l : Launch} {e : Env} {R : Room} {s : State} {m : MethodId} {args : Array Value} {below : List Frame} {meth : Method} {c : Code} {cells slots : Nat} {Q : State → Prop} {D : va_G} {y : Nat → ClassId} {b : Nat} {z : Nat → Nat} {G : wG} {J : wJ}  (X : wCx p m c cX9_lay 5 s args wsX9_lay yX9_lay.cls D y b) (hst : St z b s) (hL : w_full G) (hRf : 0 ≤ R.frames) (hRl : 0 ≤ R.locals) (hRc : cells ≤ R.cells) (hRs : slots ≤ R.slots) (ce : Int32) (lo : Int32) (hi2 : Int32)  : ∀ (nf : Nat) (I : wI) (k : Int32) (H : Heap) (locs : List Loc) (ls : Array Slot), (0 ≤ k.toInt ∧ k.toInt ≤ 60) → ((60 - k.toInt).toNat < nf) → Wh D y b G I J s H locs → lv_has ls 5 [(4, .int k), (0, .ref (G.1 22)), (1, .int ce), (2, .int lo), (3, .int hi2)] → (∀ (H : Heap) (locs : List Loc) (ls : Array Slot), Wh D y b G (l_X9_lay nf I k ce lo hi2).1 J s H locs → lv_has ls 5 [(4, .int (l_X9_lay nf I k ce lo hi2).2), (0, .ref (G.1 22)), (1, .int ce), (2, .int lo), (3, .int hi2)] → W p l e R s m args below meth c H locs cells slots Q (F0 m 98 ls [])) → W p l e R s m args below meth c H locs cells slots Q (F0 m 37 ls []) := by
  have hx := X.1.1
  have hb := X.1.2.1
  intro nf
  induction nf with
  | zero => intro I k H locs ls hi hm; exact absurd hm (by omega)
  | succ nf ih =>
    intro I k H locs ls hi hm hw hl kk
    refine lv_iload hx hb dX9_lay_37 (lv_at hl 0 rfl) ?_
    refine lv_bipush (v := 60) hx hb dX9_lay_39 (by decide) ?_
    refine lv_icmp_ge (tgt := 98) hx hb dX9_lay_41 (by decide) (fun c_41 => ?_) (fun c_41 => ?_)
    · have hw9 := hw
      have hl9 := hl
      have el : l_X9_lay (nf + 1) I k ce lo hi2 = (I, k) := by rw [l_X9_lay]; rw [if_pos c_41]
      exact kk _ _ _ (by rw [el]; exact hw9) (by rw [el]; exact (lv_sub hl9 [0, 1, 2, 3, 4] rfl))
    · refine lv_aload_n hx hb dX9_lay_44 rfl (lv_at hl 1 rfl) ?_
      refine w_get X hw 10 30 (hL 22 (by decide)) rfl (by decide) k_X9 in_X9_lay_X9 (by decide) (by decide +kernel) rfl (v := .ref (G.1 60)) rfl dX9_lay_45 ?_
      refine lv_iload hx hb dX9_lay_48 (lv_at hl 0 rfl) ?_
      refine lv_iload hx hb dX9_lay_50 (lv_at hl 0 rfl) ?_
      refine lv_aload_n hx hb dX9_lay_52 rfl (lv_at hl 1 rfl) ?_
      refine w_get X hw 10 29 (hL 22 (by decide)) rfl (by decide) k_X9 in_X9_lay_X9 (by decide) (by decide +kernel) rfl (v := .int (I 22 29)) rfl dX9_lay_53 ?_
      refine lv_icmp_ge (tgt := 90) hx hb dX9_lay_56 (by decide) (fun c_56 => ?_) (fun c_56 => ?_)
      · refine lv_iconst (v := 0) hx hb dX9_lay_90 (by decide) ?_
        have h_91 : vp_in k 60 := by rw [vp_in_iff]; simp only [i_le, i_lt, Int32.reduceToInt] at c_41; omega
        refine w_zst X hw (hL 60 (by decide)) rfl h_91 dX9_lay_91 (fun H locs hw => ?_)
        obtain ⟨x_1, ex_1⟩ : ∃ y : Int32, y = k + 1 := ⟨_, rfl⟩
        refine lv_iinc (v := x_1) (lv' := [(4, .int x_1), (0, .ref (G.1 22)), (1, .int ce), (2, .int lo), (3, .int hi2)]) hx hb dX9_lay_92 hl (k := 0) rfl (by rw [ex_1]; rfl) (by decide) rfl (fun ls hl => ?_)
        refine lv_goto (tgt := 37) hx hb dX9_lay_95 (by decide) ?_
        have hw9 := hw
        have hl9 := hl
        obtain rfl := ex_1.symm
        have el : l_X9_lay (nf + 1) I k ce lo hi2 = l_X9_lay nf (wU I 60 k.toNatClampNeg (vp_nar .boolean 0)) (k + 1) ce lo hi2 := by rw [l_X9_lay]; rw [if_neg c_41, if_pos c_56]
        exact ih (wU I 60 k.toNatClampNeg (vp_nar .boolean 0)) (k + 1) _ _ _ (by have e1 := i_inc (k := k) (by omega); simp only [i_le, i_lt, Int32.reduceToInt] at c_41; exact ⟨by omega, by omega⟩) (by have e1 := i_inc (k := k) (by omega); simp only [i_le, i_lt, Int32.reduceToInt] at c_41; omega) hw9 (lv_sub hl9 [0, 1, 2, 3, 4] rfl) (fun H locs ls hw hl => kk H locs ls (by rw [el]; exact hw) (by rw [el]; exact hl))
      · refine lv_iload hx hb dX9_lay_59 (lv_at hl 0 rfl) ?_
        refine lv_bipush (v := 30) hx hb dX9_lay_61 (by decide) ?_
        refine lv_icmp_ge (tgt := 73) hx hb dX9_lay_63 (by decide) (fun c_63 => ?_) (fun c_63 => ?_)
        · refine lv_iload_n hx hb dX9_lay_73 rfl (lv_at hl 4 rfl) ?_
          refine lv_iload hx hb dX9_lay_74 (lv_at hl 0 rfl) ?_
          refine lv_bipush (v := 30) hx hb dX9_lay_76 (by decide) ?_
          refine lv_isub hx hb dX9_lay_78 ?_
          refine lv_ishr hx hb dX9_lay_79 ?_
          refine lv_iconst (v := 1) hx hb dX9_lay_80 (by decide) ?_
          refine lv_iand hx hb dX9_lay_81 ?_
          refine lv_iconst (v := 1) hx hb dX9_lay_82 (by decide) ?_
          refine lv_icmp_ne (tgt := 90) hx hb dX9_lay_83 (by decide) (fun c_83 => ?_) (fun c_83 => ?_)
          · refine lv_iconst (v := 0) hx hb dX9_lay_90 (by decide) ?_
            have h_91 : vp_in k 60 := by rw [vp_in_iff]; simp only [i_le, i_lt, Int32.reduceToInt] at c_41; omega
            refine w_zst X hw (hL 60 (by decide)) rfl h_91 dX9_lay_91 (fun H locs hw => ?_)
            obtain ⟨x_2, ex_2⟩ : ∃ y : Int32, y = k + 1 := ⟨_, rfl⟩
            refine lv_iinc (v := x_2) (lv' := [(4, .int x_2), (0, .ref (G.1 22)), (1, .int ce), (2, .int lo), (3, .int hi2)]) hx hb dX9_lay_92 hl (k := 0) rfl (by rw [ex_2]; rfl) (by decide) rfl (fun ls hl => ?_)
            refine lv_goto (tgt := 37) hx hb dX9_lay_95 (by decide) ?_
            have hw9 := hw
            have hl9 := hl
            obtain rfl := ex_2.symm
            have el : l_X9_lay (nf + 1) I k ce lo hi2 = l_X9_lay nf (wU I 60 k.toNatClampNeg (vp_nar .boolean 0)) (k + 1) ce lo hi2 := by rw [l_X9_lay]; rw [if_neg c_41, if_neg c_56, if_pos c_63, if_neg c_83]
            exact ih (wU I 60 k.toNatClampNeg (vp_nar .boolean 0)) (k + 1) _ _ _ (by have e1 := i_inc (k := k) (by omega); simp only [i_le, i_lt, Int32.reduceToInt] at c_41; exact ⟨by omega, by omega⟩) (by have e1 := i_inc (k := k) (by omega); simp only [i_le, i_lt, Int32.reduceToInt] at c_41; omega) hw9 (lv_sub hl9 [0, 1, 2, 3, 4] rfl) (fun H locs ls hw hl => kk H locs ls (by rw [el]; exact hw) (by rw [el]; exact hl))
          · refine lv_iconst (v := 1) hx hb dX9_lay_86 (by decide) ?_
            refine lv_goto (tgt := 91) hx hb dX9_lay_87 (by decide) ?_
            have h_91 : vp_in k 60 := by rw [vp_in_iff]; simp only [i_le, i_lt, Int32.reduceToInt] at c_41; omega
            refine w_zst X hw (hL 60 (by decide)) rfl h_91 dX9_lay_91 (fun H locs hw => ?_)
            obtain ⟨x_3, ex_3⟩ : ∃ y : Int32, y = k + 1 := ⟨_, rfl⟩
            refine lv_iinc (v := x_3) (lv' := [(4, .int x_3), (0, .ref (G.1 22)), (1, .int ce), (2, .int lo), (3, .int hi2)]) hx hb dX9_lay_92 hl (k := 0) rfl (by rw [ex_3]; rfl) (by decide) rfl (fun ls hl => ?_)
            refine lv_goto (tgt := 37) hx hb dX9_lay_95 (by decide) ?_
            have hw9 := hw
            have hl9 := hl
            obtain rfl := ex_3.symm
            have el : l_X9_lay (nf + 1) I k ce lo hi2 = l_X9_lay nf (wU I 60 k.toNatClampNeg (vp_nar .boolean 1)) (k + 1) ce lo hi2 := by rw [l_X9_lay]; rw [if_neg c_41, if_neg c_56, if_pos c_63, if_pos c_83]
            exact ih (wU I 60 k.toNatClampNeg (vp_nar .boolean 1)) (k + 1) _ _ _ (by have e1 := i_inc (k := k) (by omega); simp only [i_le, i_lt, Int32.reduceToInt] at c_41; exact ⟨by omega, by omega⟩) (by have e1 := i_inc (k := k) (by omega); simp only [i_le, i_lt, Int32.reduceToInt] at c_41; omega) hw9 (lv_sub hl9 [0, 1, 2, 3, 4] rfl) (fun H locs ls hw hl => kk H locs ls (by rw [el]; exact hw) (by rw [el]; exact hl))
        · refine lv_iload_n hx hb dX9_lay_66 rfl (lv_at hl 3 rfl) ?_
          refine lv_iload hx hb dX9_lay_67 (lv_at hl 0 rfl) ?_
          refine lv_ishr hx hb dX9_lay_69 ?_
          refine lv_goto (tgt := 80) hx hb dX9_lay_70 (by decide) ?_
          refine lv_iconst (v := 1) hx hb dX9_lay_80 (by decide) ?_
          refine lv_iand hx hb dX9_lay_81 ?_
          refine lv_iconst (v := 1) hx hb dX9_lay_82 (by decide) ?_
          refine lv_icmp_ne (tgt := 90) hx hb dX9_lay_83 (by decide) (fun c_83 => ?_) (fun c_83 => ?_)
          · refine lv_iconst (v := 0) hx hb dX9_lay_90 (by decide) ?_
            have h_91 : vp_in k 60 := by rw [vp_in_iff]; simp only [i_le, i_lt, Int32.reduceToInt] at c_41; omega
            refine w_zst X hw (hL 60 (by decide)) rfl h_91 dX9_lay_91 (fun H locs hw => ?_)
            obtain ⟨x_4, ex_4⟩ : ∃ y : Int32, y = k + 1 := ⟨_, rfl⟩
            refine lv_iinc (v := x_4) (lv' := [(4, .int x_4), (0, .ref (G.1 22)), (1, .int ce), (2, .int lo), (3, .int hi2)]) hx hb dX9_lay_92 hl (k := 0) rfl (by rw [ex_4]; rfl) (by decide) rfl (fun ls hl => ?_)
            refine lv_goto (tgt := 37) hx hb dX9_lay_95 (by decide) ?_
            have hw9 := hw
            have hl9 := hl
            obtain rfl := ex_4.symm
            have el : l_X9_lay (nf + 1) I k ce lo hi2 = l_X9_lay nf (wU I 60 k.toNatClampNeg (vp_nar .boolean 0)) (k + 1) ce lo hi2 := by rw [l_X9_lay]; rw [if_neg c_41, if_neg c_56, if_neg c_63, if_neg c_83]
            exact ih (wU I 60 k.toNatClampNeg (vp_nar .boolean 0)) (k + 1) _ _ _ (by have e1 := i_inc (k := k) (by omega); simp only [i_le, i_lt, Int32.reduceToInt] at c_41; exact ⟨by omega, by omega⟩) (by have e1 := i_inc (k := k) (by omega); simp only [i_le, i_lt, Int32.reduceToInt] at c_41; omega) hw9 (lv_sub hl9 [0, 1, 2, 3, 4] rfl) (fun H locs ls hw hl => kk H locs ls (by rw [el]; exact hw) (by rw [el]; exact hl))
          · refine lv_iconst (v := 1) hx hb dX9_lay_86 (by decide) ?_
            refine lv_goto (tgt := 91) hx hb dX9_lay_87 (by decide) ?_
            have h_91 : vp_in k 60 := by rw [vp_in_iff]; simp only [i_le, i_lt, Int32.reduceToInt] at c_41; omega
            refine w_zst X hw (hL 60 (by decide)) rfl h_91 dX9_lay_91 (fun H locs hw => ?_)
            obtain ⟨x_5, ex_5⟩ : ∃ y : Int32, y = k + 1 := ⟨_, rfl⟩
            refine lv_iinc (v := x_5) (lv' := [(4, .int x_5), (0, .ref (G.1 22)), (1, .int ce), (2, .int lo), (3, .int hi2)]) hx hb dX9_lay_92 hl (k := 0) rfl (by rw [ex_5]; rfl) (by decide) rfl (fun ls hl => ?_)
            refine lv_goto (tgt := 37) hx hb dX9_lay_95 (by decide) ?_
            have hw9 := hw
            have hl9 := hl
            obtain rfl := ex_5.symm
            have el : l_X9_lay (nf + 1) I k ce lo hi2 = l_X9_lay nf (wU I 60 k.toNatClampNeg (vp_nar .boolean 1)) (k + 1) ce lo hi2 := by rw [l_X9_lay]; rw [if_neg c_41, if_neg c_56, if_neg c_63, if_pos c_83]
            exact ih (wU I 60 k.toNatClampNeg (vp_nar .boolean 1)) (k + 1) _ _ _ (by have e1 := i_inc (k := k) (by omega); simp only [i_le, i_lt, Int32.reduceToInt] at c_41; exact ⟨by omega, by omega⟩) (by have e1 := i_inc (k := k) (by omega); simp only [i_le, i_lt, Int32.reduceToInt] at c_41; omega) hw9 (lv_sub hl9 [0, 1, 2, 3, 4] rfl) (fun H locs ls hw hl => kk H locs ls (by rw [el]; exact hw) (by rw [el]; exact hl))
theorem fr_X9_lay   : ∀ (nf : Nat) (I : wI) (k : Int32) (ce : Int32) (lo : Int32) (hi2 : Int32) (q9 : Nat) (h60 : q9 ≠ 60), (l_X9_lay nf I k ce lo hi2).1 q9 = I q9 := by
  intro nf
  induction nf with
  | zero => intros; rfl
  | succ nf ih =>
    intro I k ce lo hi2 q9 h60
    rw [l_X9_lay]
    repeat' split
    all_goals first | with_reducible rfl | (rw [ih _ _ _ _ _ q9 h60]; done) | (rw [ih _ _ _ _ _ q9 h60]; simp only [wU_ne _ _ _ h60]) | (simp only [wU_ne _ _ _ h60])
def f_X9_lay (I : wI) (ce : Int32) (lo : Int32) (hi2 : Int32) : wI := (if f_X9_in (wU I 22 0 0) ce 1 60 = 1 then (l_X9_lay  61 (wU (wU I 22 0 0) 22 29 ce) 0 ce lo hi2).1 else (wU (wU I 22 0 0) 22 0 1))
theorem fr_f_X9_lay (I : wI) (ce : Int32) (lo : Int32) (hi2 : Int32) (q9 : Nat) (h22 : q9 ≠ 22) (h60 : q9 ≠ 60) : (f_X9_lay I ce lo hi2) q9 = I q9 := by
  unfold f_X9_lay
  repeat' split
  all_goals first | with_reducible rfl | (simp only [wU_ne _ _ _ h22, wU_ne _ _ _ h60, fr_X9_lay _ _ _ _ _ _ _ h60])
set_option maxHeartbeats 4000000 in
set_option maxRecDepth 100000 in
theorem c_X9_lay (l : Launch) (D : va_G) (y : Nat → ClassId) (b : Nat) (z : Nat → Nat) (G : wG) (I : wI) (J : wJ) (hL : w_full G) (ce : Int32) (lo : Int32) (hi2 : Int32)  : mV l yX9_lay wsX9_lay { frames := 1, cells := 0, slots := 0, locals := 22 } D y b z G I J [.ref (G.1 22), .int ce, .int lo, .int hi2] (fun u => u.2.1 = f_X9_lay I ce lo hi2 ∧ u.1 = G ∧ u.2.2 = J) 0 0 := by
  refine w_enter (by decide) rfl (Nat.le_of_ble_eq_true rfl) rfl ?_
  intro p e s m below meth c ls X hr hlk hnm hw hst hl
  have hx := X.1.1
  have hb := X.1.2.1
  obtain ⟨po_c_X9_lay, epo⟩ : ∃ qpo9 : wS → Prop, qpo9 = (fun u => u.2.1 = f_X9_lay I ce lo hi2 ∧ u.1 = G ∧ u.2.2 = J) := ⟨_, rfl⟩
  rw [← epo]
  refine lv_aload_n hx hb dX9_lay_0 rfl (lv_at hl 0 rfl) ?_
  refine lv_iconst (v := 0) hx hb dX9_lay_1 (by decide) ?_
  refine w_put X hw 10 0 (hL 22 (by decide)) rfl (by decide) k_X9 in_X9_lay_X9 (by decide) (by decide +kernel) rfl rfl (t := .int) (by decide +kernel) rfl rfl (fun _ => rfl) (fun _ => Nat.le_of_ble_eq_true rfl) dX9_lay_2 (fun H locs hw => ?_)
  refine lv_aload_n hx hb dX9_lay_5 rfl (lv_at hl 0 rfl) ?_
  refine lv_iload_n hx hb dX9_lay_6 rfl (lv_at hl 1 rfl) ?_
  refine lv_iconst (v := 1) hx hb dX9_lay_7 (by decide) ?_
  refine lv_bipush (v := 60) hx hb dX9_lay_8 (by decide) ?_
  refine w_callSi (As := [.int ce, .int 1, .int 60]) (rest := [.ref (G.1 22)]) X hw hst hl (c_X9_in l D y b z G (wU I 22 0 0) J hL ce 1 60) (va_cwS 3 X.1.2.2.2.2 gX9_lay_X9_in rfl rfl rfl (by decide +kernel) ⟨Nat.le_of_ble_eq_true rfl, Nat.le_of_ble_eq_true rfl⟩) rfl rfl (Nat.le_of_ble_eq_true rfl) dX9_lay_10 ⟨Nat.le_of_ble_eq_true rfl, Nat.le_of_ble_eq_true rfl⟩ (fun r_10_1 u H locs hp_10 hw => ?_)
  obtain ⟨hp_10, rfl⟩ := hp_10
  dsimp only at hw
  rcases f_X9_in_01  (wU I 22 0 0) ce 1 60 with q_10 | ⟨q_10, q0_10⟩
  · rw [q_10] at hp_10
    subst r_10_1
    refine lv_if_ne (tgt := 20) hx hb dX9_lay_13 (by decide) (fun c_13 => ?_) (fun c_13 => ?_)
    · refine lv_iconst (v := 0) hx hb dX9_lay_20 (by decide) ?_
      refine lv_iconst (v := 1) hx hb dX9_lay_21 (by decide) ?_
      refine w_callVi (As := [.int 0, .int 1]) (rest := []) X hw hst hl (c_X9_throwsIf0 l D y b z G (wU I 22 0 0) J hL 1) (cwV 2 X.1.2.2.2.2 gX9_lay_X9_throwsIf rfl rfl rfl (by decide +kernel) ⟨Nat.le_of_ble_eq_true rfl, Nat.le_of_ble_eq_true rfl⟩) (w_recv X hw (hL 22 (by decide)) rfl (by decide) k_X9) rfl rfl (Nat.le_of_ble_eq_true rfl) dX9_lay_22 ⟨Nat.le_of_ble_eq_true rfl, Nat.le_of_ble_eq_true rfl⟩ (fun r_22_2 u H locs hp_22 hw => ?_)
      obtain ⟨hp_22, rfl⟩ := hp_22
      dsimp only at hw
      subst r_22_2
      refine lv_if_eq (tgt := 29) hx hb dX9_lay_25 (by decide) (fun c_25 => ?_) (fun c_25 => ?_)
      · refine lv_aload_n hx hb dX9_lay_29 rfl (lv_at hl 0 rfl) ?_
        refine lv_iload_n hx hb dX9_lay_30 rfl (lv_at hl 1 rfl) ?_
        refine w_put X hw 10 29 (hL 22 (by decide)) rfl (by decide) k_X9 in_X9_lay_X9 (by decide) (by decide +kernel) rfl rfl (t := .int) (by decide +kernel) rfl rfl (fun _ => rfl) (fun _ => Nat.le_of_ble_eq_true rfl) dX9_lay_31 (fun H locs hw => ?_)
        refine lv_iconst (v := 0) hx hb dX9_lay_34 (by decide) ?_
        refine lv_istore (lv' := [(4, .int 0), (0, .ref (G.1 22)), (1, .int ce), (2, .int lo), (3, .int hi2)]) hx hb dX9_lay_35 hl (by decide) rfl (fun ls hl => ?_)
        refine lp_X9_lay  X hst hL (Nat.le_of_ble_eq_true rfl) (Nat.le_of_ble_eq_true rfl) (Nat.le_of_ble_eq_true rfl) (Nat.le_of_ble_eq_true rfl) ce lo hi2  61 (wU (wU I 22 0 0) 22 29 ce) 0 _ _ _ (by decide) (by decide) hw (lv_sub hl [0, 1, 2, 3, 4] rfl) (fun H locs ls hw hl => ?_)
        obtain ⟨Q_3, eQ_3⟩ : ∃ q9 : wI × Int32, q9 = l_X9_lay  61 (wU (wU I 22 0 0) 22 29 ce) 0 ce lo hi2 := ⟨_, rfl⟩
        rw [← eQ_3] at hw hl
        have hp_98 : po_c_X9_lay (G, Q_3.1, J) := by
            obtain rfl := eQ_3.symm
            rw [epo]
            refine ⟨Eq.symm ?_, rfl, rfl⟩
            unfold f_X9_lay; rw [if_pos q_10]
        exact w_vret X hr hlk hw hp_98 (Nat.le_of_ble_eq_true rfl) (Nat.le_of_ble_eq_true rfl) dX9_lay_98
      · exact absurd (by decide) c_25
    · exact absurd c_13 (by decide)
  · rw [q0_10] at hp_10
    subst r_10_1
    refine lv_if_ne (tgt := 20) hx hb dX9_lay_13 (by decide) (fun c_13 => ?_) (fun c_13 => ?_)
    · exact absurd (by decide) c_13
    · refine lv_iconst (v := 1) hx hb dX9_lay_16 (by decide) ?_
      refine lv_goto (tgt := 21) hx hb dX9_lay_17 (by decide) ?_
      refine lv_iconst (v := 1) hx hb dX9_lay_21 (by decide) ?_
      refine w_callVi (As := [.int 1, .int 1]) (rest := []) X hw hst hl (c_X9_throwsIf1 l D y b z G (wU I 22 0 0) J hL 1) (cwV 2 X.1.2.2.2.2 gX9_lay_X9_throwsIf rfl rfl rfl (by decide +kernel) ⟨Nat.le_of_ble_eq_true rfl, Nat.le_of_ble_eq_true rfl⟩) (w_recv X hw (hL 22 (by decide)) rfl (by decide) k_X9) rfl rfl (Nat.le_of_ble_eq_true rfl) dX9_lay_22 ⟨Nat.le_of_ble_eq_true rfl, Nat.le_of_ble_eq_true rfl⟩ (fun r_22_4 u H locs hp_22 hw => ?_)
      obtain ⟨G_22_4, I_22_4, J_22_4⟩ := u
      dsimp only at hw hp_22
      obtain ⟨⟨hp_22, hI_22_4⟩, eG_22, eJ_22⟩ := hp_22
      subst G_22_4 J_22_4
      subst r_22_4
      refine lv_if_eq (tgt := 29) hx hb dX9_lay_25 (by decide) (fun c_25 => ?_) (fun c_25 => ?_)
      · exact absurd c_25 (by decide)
      · have hp_28 : po_c_X9_lay (G, I_22_4, J) := by
            obtain rfl := hI_22_4.symm
            rw [epo]
            refine ⟨Eq.symm ?_, rfl, rfl⟩
            unfold f_X9_lay; rw [if_neg q_10]
        exact w_vret X hr hlk hw hp_28 (Nat.le_of_ble_eq_true rfl) (Nat.le_of_ble_eq_true rfl) dX9_lay_28
set_option maxRecDepth 20000 in
theorem in_X9_fits_X9 : ∀ w ∈ u_ws RX9 TX9 42, w ∈ wsX9_fits := fun _ h => List.mem_cons_of_mem _ (List.mem_append_right _ h)
def l_X9_fits  : Nat → wI → Int32 → Int32 → Int32 → Int32 → wI × Int32 × Int32
  | 0, I, k, n, s2, fr => (I, k, n)
  | nf + 1, I, k, n, s2, fr => (if (fr + (I 61 s2.toNatClampNeg)) ≤ k then (I, k, n) else (if (I 60 k.toNatClampNeg) = 0 then (l_X9_fits nf I (k + 1) (n + 0) s2 fr) else (l_X9_fits nf I (k + 1) (n + 1) s2 fr)))
set_option maxHeartbeats 4000000 in
set_option maxRecDepth 100000 in
theorem lp_X9_fits {p : Program} {l : Launch} {e : Env} {R : Room} {s : State} {m : MethodId} {args : Array Value} {below : List Frame} {meth : Method} {c : Code} {cells slots : Nat} {Q : State → Prop} {D : va_G} {y : Nat → ClassId} {b : Nat} {z : Nat → Nat} {G : wG} {J : wJ}  (X : wCx p m c cX9_fits 5 s args wsX9_fits yX9_fits.cls D y b) (hst : St z b s) (hL : w_full G) (hRf : 0 ≤ R.frames) (hRl : 0 ≤ R.locals) (hRc : cells ≤ R.cells) (hRs : slots ≤ R.slots) (s2 : Int32) (fr : Int32) (hs : vp_in s2 6) : ∀ (nf : Nat) (I : wI) (k : Int32) (n : Int32) (H : Heap) (locs : List Loc) (ls : Array Slot), (0 ≤ k.toInt ∧ k.toInt ≤ (fr + I 61 s2.toNatClampNeg).toInt ∧ (fr + I 61 s2.toNatClampNeg).toInt ≤ 60) → (((fr + I 61 s2.toNatClampNeg).toInt - k.toInt).toNat < nf) → Wh D y b G I J s H locs → lv_has ls 5 [(4, .int k), (3, .int n), (0, .ref (G.1 22)), (1, .int s2), (2, .int fr)] → (∀ (H : Heap) (locs : List Loc) (ls : Array Slot), Wh D y b G (l_X9_fits nf I k n s2 fr).1 J s H locs → lv_has ls 5 [(4, .int (l_X9_fits nf I k n s2 fr).2.1), (3, .int (l_X9_fits nf I k n s2 fr).2.2), (0, .ref (G.1 22)), (1, .int s2), (2, .int fr)] → W p l e R s m args below meth c H locs cells slots Q (F0 m 59 ls [])) → W p l e R s m args below meth c H locs cells slots Q (F0 m 22 ls []) := by
  have hx := X.1.1
  have hb := X.1.2.1
  intro nf
  induction nf with
  | zero => intro I k n H locs ls hi hm; exact absurd hm (by omega)
  | succ nf ih =>
    intro I k n H locs ls hi hm hw hl kk
    refine lv_iload hx hb dX9_fits_22 (lv_at hl 0 rfl) ?_
    refine lv_iload_n hx hb dX9_fits_24 rfl (lv_at hl 4 rfl) ?_
    refine lv_aload_n hx hb dX9_fits_25 rfl (lv_at hl 2 rfl) ?_
    refine w_get X hw 10 31 (hL 22 (by decide)) rfl (by decide) k_X9 in_X9_fits_X9 (by decide) (by decide +kernel) rfl (v := .ref (G.1 61)) rfl dX9_fits_26 ?_
    refine lv_iload_n hx hb dX9_fits_29 rfl (lv_at hl 3 rfl) ?_
    have h_30 : vp_in s2 6 := hs
    refine w_ild X hw (hL 61 (by decide)) rfl h_30 dX9_fits_30 ?_
    refine lv_iadd hx hb dX9_fits_31 ?_
    refine lv_icmp_ge (tgt := 59) hx hb dX9_fits_32 (by decide) (fun c_32 => ?_) (fun c_32 => ?_)
    · have hw9 := hw
      have hl9 := hl
      have el : l_X9_fits (nf + 1) I k n s2 fr = (I, k, n) := by rw [l_X9_fits]; rw [if_pos c_32]
      exact kk _ _ _ (by rw [el]; exact hw9) (by rw [el]; exact (lv_sub hl9 [0, 1, 2, 3, 4] rfl))
    · refine lv_iload_n hx hb dX9_fits_35 rfl (lv_at hl 1 rfl) ?_
      refine lv_aload_n hx hb dX9_fits_36 rfl (lv_at hl 2 rfl) ?_
      refine w_get X hw 10 30 (hL 22 (by decide)) rfl (by decide) k_X9 in_X9_fits_X9 (by decide) (by decide +kernel) rfl (v := .ref (G.1 60)) rfl dX9_fits_37 ?_
      refine lv_iload hx hb dX9_fits_40 (lv_at hl 0 rfl) ?_
      have h_42 : vp_in k 60 := by rw [vp_in_iff]; simp only [i_le, i_lt, Int32.reduceToInt] at c_32; omega
      refine w_zld X hw (hL 60 (by decide)) rfl h_42 dX9_fits_42 ?_
      refine lv_if_eq (tgt := 50) hx hb dX9_fits_43 (by decide) (fun c_43 => ?_) (fun c_43 => ?_)
      · refine lv_iconst (v := 0) hx hb dX9_fits_50 (by decide) ?_
        refine lv_iadd hx hb dX9_fits_51 ?_
        refine lv_topi (fun x_1 ex_1 => ?_)
        refine lv_istore_n (lv' := [(3, .int x_1), (4, .int k), (0, .ref (G.1 22)), (1, .int s2), (2, .int fr)]) hx hb dX9_fits_52 rfl hl (by decide) rfl (fun ls hl => ?_)
        obtain ⟨x_2, ex_2⟩ : ∃ y : Int32, y = k + 1 := ⟨_, rfl⟩
        refine lv_iinc (v := x_2) (lv' := [(4, .int x_2), (3, .int x_1), (0, .ref (G.1 22)), (1, .int s2), (2, .int fr)]) hx hb dX9_fits_53 hl (k := 1) rfl (by rw [ex_2]; rfl) (by decide) rfl (fun ls hl => ?_)
        refine lv_goto (tgt := 22) hx hb dX9_fits_56 (by decide) ?_
        have hw9 := hw
        have hl9 := hl
        obtain rfl := ex_1.symm
        obtain rfl := ex_2.symm
        have el : l_X9_fits (nf + 1) I k n s2 fr = l_X9_fits nf I (k + 1) (n + 0) s2 fr := by rw [l_X9_fits]; rw [if_neg c_32, if_pos c_43]
        exact ih I (k + 1) (n + 0) _ _ _ (by have e1 := i_inc (k := k) (by omega); simp only [i_le, i_lt, Int32.reduceToInt] at c_32; exact ⟨by omega, by omega, hi.2.2⟩) (by have e1 := i_inc (k := k) (by omega); simp only [i_le, i_lt, Int32.reduceToInt] at c_32; omega) hw9 (lv_sub hl9 [0, 1, 2, 3, 4] rfl) (fun H locs ls hw hl => kk H locs ls (by rw [el]; exact hw) (by rw [el]; exact hl))
      · refine lv_iconst (v := 1) hx hb dX9_fits_46 (by decide) ?_
        refine lv_goto (tgt := 51) hx hb dX9_fits_47 (by decide) ?_
        refine lv_iadd hx hb dX9_fits_51 ?_
        refine lv_topi (fun x_3 ex_3 => ?_)
        refine lv_istore_n (lv' := [(3, .int x_3), (4, .int k), (0, .ref (G.1 22)), (1, .int s2), (2, .int fr)]) hx hb dX9_fits_52 rfl hl (by decide) rfl (fun ls hl => ?_)
        obtain ⟨x_4, ex_4⟩ : ∃ y : Int32, y = k + 1 := ⟨_, rfl⟩
        refine lv_iinc (v := x_4) (lv' := [(4, .int x_4), (3, .int x_3), (0, .ref (G.1 22)), (1, .int s2), (2, .int fr)]) hx hb dX9_fits_53 hl (k := 1) rfl (by rw [ex_4]; rfl) (by decide) rfl (fun ls hl => ?_)
        refine lv_goto (tgt := 22) hx hb dX9_fits_56 (by decide) ?_
        have hw9 := hw
        have hl9 := hl
        obtain rfl := ex_3.symm
        obtain rfl := ex_4.symm
        have el : l_X9_fits (nf + 1) I k n s2 fr = l_X9_fits nf I (k + 1) (n + 1) s2 fr := by rw [l_X9_fits]; rw [if_neg c_32, if_neg c_43]
        exact ih I (k + 1) (n + 1) _ _ _ (by have e1 := i_inc (k := k) (by omega); simp only [i_le, i_lt, Int32.reduceToInt] at c_32; exact ⟨by omega, by omega, hi.2.2⟩) (by have e1 := i_inc (k := k) (by omega); simp only [i_le, i_lt, Int32.reduceToInt] at c_32; omega) hw9 (lv_sub hl9 [0, 1, 2, 3, 4] rfl) (fun H locs ls hw hl => kk H locs ls (by rw [el]; exact hw) (by rw [el]; exact hl))
theorem ro_X9_fits : ∀ (nf : Nat) (I : wI) (k : Int32) (n : Int32) (s2 : Int32) (fr : Int32), (l_X9_fits nf I k n s2 fr).1 = I := by
  intro nf
  induction nf with
  | zero => intros; rfl
  | succ nf ih =>
    intro I k n s2 fr
    rw [l_X9_fits]
    repeat' split
    all_goals first | with_reducible rfl | exact ih _ _ _ _ _
def f_X9_fits (I : wI) (s2 : Int32) (fr : Int32) : Int32 := (if (fr + (I 61 s2.toNatClampNeg)) ≤ (I 22 29) then (if (I 63 s2.toNatClampNeg) < (l_X9_fits  61 I fr 0 s2 fr).2.2 then 0 else 1) else 0)
theorem f_X9_fits_01 (I : wI) (s2 : Int32) (fr : Int32) : f_X9_fits I s2 fr = 1 ∨ ¬ f_X9_fits I s2 fr = 1 ∧ f_X9_fits I s2 fr = 0 := by
  unfold f_X9_fits
  repeat' split
  all_goals first | exact Or.inl rfl | exact Or.inr ⟨by decide, rfl⟩
set_option maxHeartbeats 4000000 in
set_option maxRecDepth 100000 in
theorem c_X9_fits (l : Launch) (D : va_G) (y : Nat → ClassId) (b : Nat) (z : Nat → Nat) (G : wG) (I : wI) (J : wJ) (hL : w_full G) (s2 : Int32) (fr : Int32) (hs : vp_in s2 6) (hf : 0 ≤ fr.toInt ∧ fr.toInt ≤ 60) (hz : 0 ≤ (I 61 s2.toNatClampNeg).toInt ∧ (I 61 s2.toNatClampNeg).toInt ≤ 12) (hC : (I 22 29).toInt ≤ 60) : mI l yX9_fits wsX9_fits { frames := 0, cells := 0, slots := 0, locals := 0 } D y b z G I J [.ref (G.1 22), .int s2, .int fr] (fun r u => r = f_X9_fits I s2 fr ∧ u = (G, I, J)) 0 0 := by
  refine w_enter (by decide) rfl (Nat.le_of_ble_eq_true rfl) rfl ?_
  intro p e s m below meth c ls X hr hlk hnm hw hst hl
  have hx := X.1.1
  have hb := X.1.2.1
  obtain ⟨po_c_X9_fits, epo⟩ : ∃ qpo9 : Int32 → wS → Prop, qpo9 = (fun r u => r = f_X9_fits I s2 fr ∧ u = (G, I, J)) := ⟨_, rfl⟩
  rw [← epo]
  refine lv_iload_n hx hb dX9_fits_0 rfl (lv_at hl 2 rfl) ?_
  refine lv_aload_n hx hb dX9_fits_1 rfl (lv_at hl 0 rfl) ?_
  refine w_get X hw 10 31 (hL 22 (by decide)) rfl (by decide) k_X9 in_X9_fits_X9 (by decide) (by decide +kernel) rfl (v := .ref (G.1 61)) rfl dX9_fits_2 ?_
  refine lv_iload_n hx hb dX9_fits_5 rfl (lv_at hl 1 rfl) ?_
  have h_6 : vp_in s2 6 := hs
  refine w_ild X hw (hL 61 (by decide)) rfl h_6 dX9_fits_6 ?_
  refine lv_iadd hx hb dX9_fits_7 ?_
  refine lv_aload_n hx hb dX9_fits_8 rfl (lv_at hl 0 rfl) ?_
  refine w_get X hw 10 29 (hL 22 (by decide)) rfl (by decide) k_X9 in_X9_fits_X9 (by decide) (by decide +kernel) rfl (v := .int (I 22 29)) rfl dX9_fits_9 ?_
  refine lv_icmp_le (tgt := 17) hx hb dX9_fits_12 (by decide) (fun c_12 => ?_) (fun c_12 => ?_)
  · refine lv_iconst (v := 0) hx hb dX9_fits_17 (by decide) ?_
    refine lv_istore_n (lv' := [(3, .int 0), (0, .ref (G.1 22)), (1, .int s2), (2, .int fr)]) hx hb dX9_fits_18 rfl hl (by decide) rfl (fun ls hl => ?_)
    refine lv_iload_n hx hb dX9_fits_19 rfl (lv_at hl 3 rfl) ?_
    refine lv_istore (lv' := [(4, .int fr), (3, .int 0), (0, .ref (G.1 22)), (1, .int s2), (2, .int fr)]) hx hb dX9_fits_20 hl (by decide) rfl (fun ls hl => ?_)
    refine lp_X9_fits  X hst hL (Nat.le_of_ble_eq_true rfl) (Nat.le_of_ble_eq_true rfl) (Nat.le_of_ble_eq_true rfl) (Nat.le_of_ble_eq_true rfl) s2 fr hs 61 I fr 0 _ _ _ (by simp only [i_le] at c_12; rw [i_add (by omega) (by omega)] at c_12 ⊢; exact ⟨hf.1, by omega, by omega⟩) (by simp only [i_le] at c_12; rw [i_add (by omega) (by omega)] at c_12 ⊢; omega) hw (lv_sub hl [0, 1, 2, 3, 4] rfl) (fun H locs ls hw hl => ?_)
    obtain ⟨Q_1, eQ_1⟩ : ∃ q9 : wI × Int32 × Int32, q9 = l_X9_fits  61 I fr 0 s2 fr := ⟨_, rfl⟩
    rw [← eQ_1] at hw hl
    rw [show Q_1.1 = I from by rw [eQ_1]; exact ro_X9_fits _ _ _ _ _ _] at hw
    refine lv_iload_n hx hb dX9_fits_59 rfl (lv_at hl 1 rfl) ?_
    refine lv_aload_n hx hb dX9_fits_60 rfl (lv_at hl 2 rfl) ?_
    refine w_get X hw 10 33 (hL 22 (by decide)) rfl (by decide) k_X9 in_X9_fits_X9 (by decide) (by decide +kernel) rfl (v := .ref (G.1 63)) rfl dX9_fits_61 ?_
    refine lv_iload_n hx hb dX9_fits_64 rfl (lv_at hl 3 rfl) ?_
    have h_65 : vp_in s2 6 := hs
    refine w_ild X hw (hL 63 (by decide)) rfl h_65 dX9_fits_65 ?_
    refine lv_icmp_gt (tgt := 73) hx hb dX9_fits_66 (by decide) (fun c_66 => ?_) (fun c_66 => ?_)
    · refine lv_iconst (v := 0) hx hb dX9_fits_73 (by decide) ?_
      have hp_74 : po_c_X9_fits 0 (G, I, J) := by
          obtain rfl := eQ_1.symm
          rw [epo]
          refine ⟨Eq.symm ?_, rfl⟩
          unfold f_X9_fits; rw [if_pos c_12, if_pos c_66]
      exact w_zret X hr (by decide) hlk hw hp_74 (Nat.le_of_ble_eq_true rfl) (Nat.le_of_ble_eq_true rfl) dX9_fits_74
    · refine lv_iconst (v := 1) hx hb dX9_fits_69 (by decide) ?_
      refine lv_goto (tgt := 74) hx hb dX9_fits_70 (by decide) ?_
      have hp_74 : po_c_X9_fits 1 (G, I, J) := by
          obtain rfl := eQ_1.symm
          rw [epo]
          refine ⟨Eq.symm ?_, rfl⟩
          unfold f_X9_fits; rw [if_pos c_12, if_neg c_66]
      exact w_zret X hr (by decide) hlk hw hp_74 (Nat.le_of_ble_eq_true rfl) (Nat.le_of_ble_eq_true rfl) dX9_fits_74
  · refine lv_iconst (v := 0) hx hb dX9_fits_15 (by decide) ?_
    have hp_16 : po_c_X9_fits 0 (G, I, J) := by
        rw [epo]
        refine ⟨Eq.symm ?_, rfl⟩
        unfold f_X9_fits; rw [if_neg c_12]
    exact w_zret X hr (by decide) hlk hw hp_16 (Nat.le_of_ble_eq_true rfl) (Nat.le_of_ble_eq_true rfl) dX9_fits_16
set_option maxRecDepth 20000 in
theorem in_X9_sell_X9 : ∀ w ∈ u_ws RX9 TX9 42, w ∈ wsX9_sell := fun _ h => List.mem_cons_of_mem _ (List.mem_append_right _ h)
def l_X9_sell_a  : Nat → wI → Int32 → Int32 → Int32 → wI × Int32 × Int32
  | 0, I, k, be, lo => (I, k, be)
  | nf + 1, I, k, be, lo => (if 8 ≤ k then (I, k, be) else (if (I 48 (((8 : Int32) * lo) + k).toNatClampNeg) < 0 then (l_X9_sell_a nf I (k + 1) be lo) else (if be < 0 then (l_X9_sell_a nf I (k + 1) k lo) else (if (I 48 (((8 : Int32) * lo) + k).toNatClampNeg) ≤ (I 48 (((8 : Int32) * lo) + be).toNatClampNeg) then (l_X9_sell_a nf I (k + 1) be lo) else (l_X9_sell_a nf I (k + 1) k lo)))))
set_option maxHeartbeats 4000000 in
set_option maxRecDepth 100000 in
theorem lp_X9_sell_a {p : Program} {l : Launch} {e : Env} {R : Room} {s : State} {m : MethodId} {args : Array Value} {below : List Frame} {meth : Method} {c : Code} {cells slots : Nat} {Q : State → Prop} {D : va_G} {y : Nat → ClassId} {b : Nat} {z : Nat → Nat} {G : wG} {J : wJ}  (X : wCx p m c cX9_sell 5 s args wsX9_sell yX9_sell.cls D y b) (hst : St z b s) (hL : w_full G) (hRf : 0 ≤ R.frames) (hRl : 0 ≤ R.locals) (hRc : cells ≤ R.cells) (hRs : slots ≤ R.slots) (lo : Int32) (hlo : 0 ≤ lo.toInt ∧ lo.toInt < 40) : ∀ (nf : Nat) (I : wI) (k : Int32) (be : Int32) (H : Heap) (locs : List Loc) (ls : Array Slot), (0 ≤ k.toInt ∧ k.toInt ≤ 8 ∧ be.toInt < 8) → ((8 - k.toInt).toNat < nf) → Wh D y b G I J s H locs → lv_has ls 5 [(3, .int k), (2, .int be), (0, .ref (G.1 22)), (1, .int lo)] → (∀ (H : Heap) (locs : List Loc) (ls : Array Slot), Wh D y b G (l_X9_sell_a nf I k be lo).1 J s H locs → lv_has ls 5 [(3, .int (l_X9_sell_a nf I k be lo).2.1), (2, .int (l_X9_sell_a nf I k be lo).2.2), (0, .ref (G.1 22)), (1, .int lo)] → W p l e R s m args below meth c H locs cells slots Q (F0 m 92 ls [])) → W p l e R s m args below meth c H locs cells slots Q (F0 m 35 ls []) := by
  have hx := X.1.1
  have hb := X.1.2.1
  intro nf
  induction nf with
  | zero => intro I k be H locs ls hi hm; exact absurd hm (by omega)
  | succ nf ih =>
    intro I k be H locs ls hi hm hw hl kk
    refine lv_iload_n hx hb dX9_sell_35 rfl (lv_at hl 0 rfl) ?_
    refine lv_bipush (v := 8) hx hb dX9_sell_36 (by decide) ?_
    refine lv_icmp_ge (tgt := 92) hx hb dX9_sell_38 (by decide) (fun c_38 => ?_) (fun c_38 => ?_)
    · have hw9 := hw
      have hl9 := hl
      have el : l_X9_sell_a (nf + 1) I k be lo = (I, k, be) := by rw [l_X9_sell_a]; rw [if_pos c_38]
      exact kk _ _ _ (by rw [el]; exact hw9) (by rw [el]; exact (lv_sub hl9 [0, 1, 2, 3] rfl))
    · refine lv_aload_n hx hb dX9_sell_41 rfl (lv_at hl 2 rfl) ?_
      refine w_get X hw 10 18 (hL 22 (by decide)) rfl (by decide) k_X9 in_X9_sell_X9 (by decide) (by decide +kernel) rfl (v := .ref (G.1 48)) rfl dX9_sell_42 ?_
      refine lv_bipush (v := 8) hx hb dX9_sell_45 (by decide) ?_
      refine lv_iload_n hx hb dX9_sell_47 rfl (lv_at hl 3 rfl) ?_
      refine lv_imul hx hb dX9_sell_48 ?_
      refine lv_iload_n hx hb dX9_sell_49 rfl (lv_at hl 0 rfl) ?_
      refine lv_iadd hx hb dX9_sell_50 ?_
      have h_51 : vp_in (((8 : Int32) * lo) + k) 320 := ix_8 hlo ⟨hi.1, by simp only [i_le, Int32.reduceToInt] at c_38; omega⟩
      refine w_ild X hw (hL 48 (by decide)) rfl h_51 dX9_sell_51 ?_
      refine lv_if_lt (tgt := 86) hx hb dX9_sell_52 (by decide) (fun c_52 => ?_) (fun c_52 => ?_)
      · obtain ⟨x_1, ex_1⟩ : ∃ y : Int32, y = k + 1 := ⟨_, rfl⟩
        refine lv_iinc (v := x_1) (lv' := [(3, .int x_1), (2, .int be), (0, .ref (G.1 22)), (1, .int lo)]) hx hb dX9_sell_86 hl (k := 0) rfl (by rw [ex_1]; rfl) (by decide) rfl (fun ls hl => ?_)
        refine lv_goto (tgt := 35) hx hb dX9_sell_89 (by decide) ?_
        have hw9 := hw
        have hl9 := hl
        obtain rfl := ex_1.symm
        have el : l_X9_sell_a (nf + 1) I k be lo = l_X9_sell_a nf I (k + 1) be lo := by rw [l_X9_sell_a]; rw [if_neg c_38, if_pos c_52]
        exact ih I (k + 1) be _ _ _ (by have e1 := i_inc (k := k) (by omega); simp only [i_le, i_lt, Int32.reduceToInt] at c_38; exact ⟨by omega, by omega, by omega⟩) (by have e1 := i_inc (k := k) (by omega); simp only [i_le, i_lt, Int32.reduceToInt] at c_38; omega) hw9 (lv_sub hl9 [0, 1, 2, 3] rfl) (fun H locs ls hw hl => kk H locs ls (by rw [el]; exact hw) (by rw [el]; exact hl))
      · refine lv_iload_n hx hb dX9_sell_55 rfl (lv_at hl 1 rfl) ?_
        refine lv_if_lt (tgt := 84) hx hb dX9_sell_56 (by decide) (fun c_56 => ?_) (fun c_56 => ?_)
        · refine lv_iload_n hx hb dX9_sell_84 rfl (lv_at hl 0 rfl) ?_
          refine lv_istore_n (lv' := [(2, .int k), (3, .int k), (0, .ref (G.1 22)), (1, .int lo)]) hx hb dX9_sell_85 rfl hl (by decide) rfl (fun ls hl => ?_)
          obtain ⟨x_2, ex_2⟩ : ∃ y : Int32, y = k + 1 := ⟨_, rfl⟩
          refine lv_iinc (v := x_2) (lv' := [(3, .int x_2), (2, .int k), (0, .ref (G.1 22)), (1, .int lo)]) hx hb dX9_sell_86 hl (k := 1) rfl (by rw [ex_2]; rfl) (by decide) rfl (fun ls hl => ?_)
          refine lv_goto (tgt := 35) hx hb dX9_sell_89 (by decide) ?_
          have hw9 := hw
          have hl9 := hl
          obtain rfl := ex_2.symm
          have el : l_X9_sell_a (nf + 1) I k be lo = l_X9_sell_a nf I (k + 1) k lo := by rw [l_X9_sell_a]; rw [if_neg c_38, if_neg c_52, if_pos c_56]
          exact ih I (k + 1) k _ _ _ (by have e1 := i_inc (k := k) (by omega); simp only [i_le, i_lt, Int32.reduceToInt] at c_38; exact ⟨by omega, by omega, by omega⟩) (by have e1 := i_inc (k := k) (by omega); simp only [i_le, i_lt, Int32.reduceToInt] at c_38; omega) hw9 (lv_sub hl9 [0, 1, 2, 3] rfl) (fun H locs ls hw hl => kk H locs ls (by rw [el]; exact hw) (by rw [el]; exact hl))
        · refine lv_aload_n hx hb dX9_sell_59 rfl (lv_at hl 2 rfl) ?_
          refine w_get X hw 10 18 (hL 22 (by decide)) rfl (by decide) k_X9 in_X9_sell_X9 (by decide) (by decide +kernel) rfl (v := .ref (G.1 48)) rfl dX9_sell_60 ?_
          refine lv_bipush (v := 8) hx hb dX9_sell_63 (by decide) ?_
          refine lv_iload_n hx hb dX9_sell_65 rfl (lv_at hl 3 rfl) ?_
          refine lv_imul hx hb dX9_sell_66 ?_
          refine lv_iload_n hx hb dX9_sell_67 rfl (lv_at hl 0 rfl) ?_
          refine lv_iadd hx hb dX9_sell_68 ?_
          have h_69 : vp_in (((8 : Int32) * lo) + k) 320 := ix_8 hlo ⟨hi.1, by simp only [i_le, Int32.reduceToInt] at c_38; omega⟩
          refine w_ild X hw (hL 48 (by decide)) rfl h_69 dX9_sell_69 ?_
          refine lv_aload_n hx hb dX9_sell_70 rfl (lv_at hl 2 rfl) ?_
          refine w_get X hw 10 18 (hL 22 (by decide)) rfl (by decide) k_X9 in_X9_sell_X9 (by decide) (by decide +kernel) rfl (v := .ref (G.1 48)) rfl dX9_sell_71 ?_
          refine lv_bipush (v := 8) hx hb dX9_sell_74 (by decide) ?_
          refine lv_iload_n hx hb dX9_sell_76 rfl (lv_at hl 3 rfl) ?_
          refine lv_imul hx hb dX9_sell_77 ?_
          refine lv_iload_n hx hb dX9_sell_78 rfl (lv_at hl 1 rfl) ?_
          refine lv_iadd hx hb dX9_sell_79 ?_
          have h_80 : vp_in (((8 : Int32) * lo) + be) 320 := ix_8 hlo ⟨by simp only [i_lt, Int32.reduceToInt] at c_56; omega, hi.2.2⟩
          refine w_ild X hw (hL 48 (by decide)) rfl h_80 dX9_sell_80 ?_
          refine lv_icmp_le (tgt := 86) hx hb dX9_sell_81 (by decide) (fun c_81 => ?_) (fun c_81 => ?_)
          · obtain ⟨x_3, ex_3⟩ : ∃ y : Int32, y = k + 1 := ⟨_, rfl⟩
            refine lv_iinc (v := x_3) (lv' := [(3, .int x_3), (2, .int be), (0, .ref (G.1 22)), (1, .int lo)]) hx hb dX9_sell_86 hl (k := 0) rfl (by rw [ex_3]; rfl) (by decide) rfl (fun ls hl => ?_)
            refine lv_goto (tgt := 35) hx hb dX9_sell_89 (by decide) ?_
            have hw9 := hw
            have hl9 := hl
            obtain rfl := ex_3.symm
            have el : l_X9_sell_a (nf + 1) I k be lo = l_X9_sell_a nf I (k + 1) be lo := by rw [l_X9_sell_a]; rw [if_neg c_38, if_neg c_52, if_neg c_56, if_pos c_81]
            exact ih I (k + 1) be _ _ _ (by have e1 := i_inc (k := k) (by omega); simp only [i_le, i_lt, Int32.reduceToInt] at c_38; exact ⟨by omega, by omega, by omega⟩) (by have e1 := i_inc (k := k) (by omega); simp only [i_le, i_lt, Int32.reduceToInt] at c_38; omega) hw9 (lv_sub hl9 [0, 1, 2, 3] rfl) (fun H locs ls hw hl => kk H locs ls (by rw [el]; exact hw) (by rw [el]; exact hl))
          · refine lv_iload_n hx hb dX9_sell_84 rfl (lv_at hl 0 rfl) ?_
            refine lv_istore_n (lv' := [(2, .int k), (3, .int k), (0, .ref (G.1 22)), (1, .int lo)]) hx hb dX9_sell_85 rfl hl (by decide) rfl (fun ls hl => ?_)
            obtain ⟨x_4, ex_4⟩ : ∃ y : Int32, y = k + 1 := ⟨_, rfl⟩
            refine lv_iinc (v := x_4) (lv' := [(3, .int x_4), (2, .int k), (0, .ref (G.1 22)), (1, .int lo)]) hx hb dX9_sell_86 hl (k := 1) rfl (by rw [ex_4]; rfl) (by decide) rfl (fun ls hl => ?_)
            refine lv_goto (tgt := 35) hx hb dX9_sell_89 (by decide) ?_
            have hw9 := hw
            have hl9 := hl
            obtain rfl := ex_4.symm
            have el : l_X9_sell_a (nf + 1) I k be lo = l_X9_sell_a nf I (k + 1) k lo := by rw [l_X9_sell_a]; rw [if_neg c_38, if_neg c_52, if_neg c_56, if_neg c_81]
            exact ih I (k + 1) k _ _ _ (by have e1 := i_inc (k := k) (by omega); simp only [i_le, i_lt, Int32.reduceToInt] at c_38; exact ⟨by omega, by omega, by omega⟩) (by have e1 := i_inc (k := k) (by omega); simp only [i_le, i_lt, Int32.reduceToInt] at c_38; omega) hw9 (lv_sub hl9 [0, 1, 2, 3] rfl) (fun H locs ls hw hl => kk H locs ls (by rw [el]; exact hw) (by rw [el]; exact hl))
theorem ro_X9_sell_a : ∀ (nf : Nat) (I : wI) (k : Int32) (be : Int32) (lo : Int32), (l_X9_sell_a nf I k be lo).1 = I := by
  intro nf
  induction nf with
  | zero => intros; rfl
  | succ nf ih =>
    intro I k be lo
    rw [l_X9_sell_a]
    repeat' split
    all_goals first | with_reducible rfl | exact ih _ _ _ _
def l_X9_sell_b  : Nat → wI → Int32 → Int32 → Int32 → Int32 → wI × Int32 × Int32
  | 0, I, k, nx, be, lo => (I, k, nx)
  | nf + 1, I, k, nx, be, lo => (if 8 ≤ k then (I, k, nx) else (if k = be then (l_X9_sell_b nf I (k + 1) nx be lo) else (l_X9_sell_b nf I (k + 1) (if nx < (I 48 (((8 : Int32) * lo) + k).toNatClampNeg) then (I 48 (((8 : Int32) * lo) + k).toNatClampNeg) else nx) be lo)))
set_option maxHeartbeats 4000000 in
set_option maxRecDepth 100000 in
theorem lp_X9_sell_b {p : Program} {l : Launch} {e : Env} {R : Room} {s : State} {m : MethodId} {args : Array Value} {below : List Frame} {meth : Method} {c : Code} {cells slots : Nat} {Q : State → Prop} {D : va_G} {y : Nat → ClassId} {b : Nat} {z : Nat → Nat} {G : wG} {J : wJ}  (X : wCx p m c cX9_sell 5 s args wsX9_sell yX9_sell.cls D y b) (hst : St z b s) (hL : w_full G) (hRf : 1 ≤ R.frames) (hRl : 21 ≤ R.locals) (hRc : cells ≤ R.cells) (hRs : slots ≤ R.slots) (be : Int32) (lo : Int32) (hlo : 0 ≤ lo.toInt ∧ lo.toInt < 40) : ∀ (nf : Nat) (I : wI) (k : Int32) (nx : Int32) (H : Heap) (locs : List Loc) (ls : Array Slot), (0 ≤ k.toInt ∧ k.toInt ≤ 8) → ((8 - k.toInt).toNat < nf) → Wh D y b G I J s H locs → lv_has ls 5 [(4, .int k), (3, .int nx), (2, .int be), (0, .ref (G.1 22)), (1, .int lo)] → (∀ (H : Heap) (locs : List Loc) (ls : Array Slot), Wh D y b G (l_X9_sell_b nf I k nx be lo).1 J s H locs → lv_has ls 5 [(4, .int (l_X9_sell_b nf I k nx be lo).2.1), (3, .int (l_X9_sell_b nf I k nx be lo).2.2), (2, .int be), (0, .ref (G.1 22)), (1, .int lo)] → W p l e R s m args below meth c H locs cells slots Q (F0 m 144 ls [])) → W p l e R s m args below meth c H locs cells slots Q (F0 m 108 ls []) := by
  have hx := X.1.1
  have hb := X.1.2.1
  intro nf
  induction nf with
  | zero => intro I k nx H locs ls hi hm; exact absurd hm (by omega)
  | succ nf ih =>
    intro I k nx H locs ls hi hm hw hl kk
    refine lv_iload hx hb dX9_sell_108 (lv_at hl 0 rfl) ?_
    refine lv_bipush (v := 8) hx hb dX9_sell_110 (by decide) ?_
    refine lv_icmp_ge (tgt := 144) hx hb dX9_sell_112 (by decide) (fun c_112 => ?_) (fun c_112 => ?_)
    · have hw9 := hw
      have hl9 := hl
      have el : l_X9_sell_b (nf + 1) I k nx be lo = (I, k, nx) := by rw [l_X9_sell_b]; rw [if_pos c_112]
      exact kk _ _ _ (by rw [el]; exact hw9) (by rw [el]; exact (lv_sub hl9 [0, 1, 2, 3, 4] rfl))
    · refine lv_iload hx hb dX9_sell_115 (lv_at hl 0 rfl) ?_
      refine lv_iload_n hx hb dX9_sell_117 rfl (lv_at hl 2 rfl) ?_
      refine lv_icmp_eq (tgt := 138) hx hb dX9_sell_118 (by decide) (fun c_118 => ?_) (fun c_118 => ?_)
      · obtain ⟨x_1, ex_1⟩ : ∃ y : Int32, y = k + 1 := ⟨_, rfl⟩
        refine lv_iinc (v := x_1) (lv' := [(4, .int x_1), (3, .int nx), (2, .int be), (0, .ref (G.1 22)), (1, .int lo)]) hx hb dX9_sell_138 hl (k := 0) rfl (by rw [ex_1]; rfl) (by decide) rfl (fun ls hl => ?_)
        refine lv_goto (tgt := 108) hx hb dX9_sell_141 (by decide) ?_
        have hw9 := hw
        have hl9 := hl
        obtain rfl := ex_1.symm
        have el : l_X9_sell_b (nf + 1) I k nx be lo = l_X9_sell_b nf I (k + 1) nx be lo := by rw [l_X9_sell_b]; rw [if_neg c_112, if_pos c_118]
        exact ih I (k + 1) nx _ _ _ (by have e1 := i_inc (k := k) (by omega); simp only [i_le, i_lt, Int32.reduceToInt] at c_112; exact ⟨by omega, by omega⟩) (by have e1 := i_inc (k := k) (by omega); simp only [i_le, i_lt, Int32.reduceToInt] at c_112; omega) hw9 (lv_sub hl9 [0, 1, 2, 3, 4] rfl) (fun H locs ls hw hl => kk H locs ls (by rw [el]; exact hw) (by rw [el]; exact hl))
      · refine lv_iload_n hx hb dX9_sell_121 rfl (lv_at hl 1 rfl) ?_
        refine lv_aload_n hx hb dX9_sell_122 rfl (lv_at hl 3 rfl) ?_
        refine w_get X hw 10 18 (hL 22 (by decide)) rfl (by decide) k_X9 in_X9_sell_X9 (by decide) (by decide +kernel) rfl (v := .ref (G.1 48)) rfl dX9_sell_123 ?_
        refine lv_bipush (v := 8) hx hb dX9_sell_126 (by decide) ?_
        refine lv_iload_n hx hb dX9_sell_128 rfl (lv_at hl 4 rfl) ?_
        refine lv_imul hx hb dX9_sell_129 ?_
        refine lv_iload hx hb dX9_sell_130 (lv_at hl 0 rfl) ?_
        refine lv_iadd hx hb dX9_sell_132 ?_
        have h_133 : vp_in (((8 : Int32) * lo) + k) 320 := ix_8 hlo ⟨hi.1, by simp only [i_le, Int32.reduceToInt] at c_112; omega⟩
        refine w_ild X hw (hL 48 (by decide)) rfl h_133 dX9_sell_133 ?_
        refine va_mmax hx hb (by rw [X.1.2.2.1]; exact hl.1.symm) X.1.2.2.2.1 (X.1.2.2.2.2 (.methodLink RX9 132 Lib.Math.max.name) (by decide +kernel)) (X.1.2.2.2.2 (.static Lib.Math.max.name) (by decide +kernel)) (X.1.2.2.2.2 (.initialized "java/lang/Math") (by decide +kernel)) (X.1.2.2.2.2 (.code Lib.Math.max.name Lib.Math.max.code 2 (some .int)) (by decide +kernel)) (Nat.le_trans (Nat.le_of_ble_eq_true rfl) hRf) (Nat.le_trans (Nat.le_of_ble_eq_true rfl) hRl) hRc hRs dX9_sell_134 ?_
        refine lv_topi (fun x_2 ex_2 => ?_)
        refine lv_istore_n (lv' := [(3, .int x_2), (4, .int k), (2, .int be), (0, .ref (G.1 22)), (1, .int lo)]) hx hb dX9_sell_137 rfl hl (by decide) rfl (fun ls hl => ?_)
        obtain ⟨x_3, ex_3⟩ : ∃ y : Int32, y = k + 1 := ⟨_, rfl⟩
        refine lv_iinc (v := x_3) (lv' := [(4, .int x_3), (3, .int x_2), (2, .int be), (0, .ref (G.1 22)), (1, .int lo)]) hx hb dX9_sell_138 hl (k := 1) rfl (by rw [ex_3]; rfl) (by decide) rfl (fun ls hl => ?_)
        refine lv_goto (tgt := 108) hx hb dX9_sell_141 (by decide) ?_
        have hw9 := hw
        have hl9 := hl
        obtain rfl := ex_2.symm
        obtain rfl := ex_3.symm
        have el : l_X9_sell_b (nf + 1) I k nx be lo = l_X9_sell_b nf I (k + 1) (if nx < (I 48 (((8 : Int32) * lo) + k).toNatClampNeg) then (I 48 (((8 : Int32) * lo) + k).toNatClampNeg) else nx) be lo := by rw [l_X9_sell_b]; rw [if_neg c_112, if_neg c_118]
        exact ih I (k + 1) (if nx < (I 48 (((8 : Int32) * lo) + k).toNatClampNeg) then (I 48 (((8 : Int32) * lo) + k).toNatClampNeg) else nx) _ _ _ (by have e1 := i_inc (k := k) (by omega); simp only [i_le, i_lt, Int32.reduceToInt] at c_112; exact ⟨by omega, by omega⟩) (by have e1 := i_inc (k := k) (by omega); simp only [i_le, i_lt, Int32.reduceToInt] at c_112; omega) hw9 (lv_sub hl9 [0, 1, 2, 3, 4] rfl) (fun H locs ls hw hl => kk H locs ls (by rw [el]; exact hw) (by rw [el]; exact hl))
theorem ro_X9_sell_b : ∀ (nf : Nat) (I : wI) (k : Int32) (nx : Int32) (be : Int32) (lo : Int32), (l_X9_sell_b nf I k nx be lo).1 = I := by
  intro nf
  induction nf with
  | zero => intros; rfl
  | succ nf ih =>
    intro I k nx be lo
    rw [l_X9_sell_b]
    repeat' split
    all_goals first | with_reducible rfl | exact ih _ _ _ _ _
def f_X9_sell (I : wI) (lo : Int32) : Int32 × wI := (if f_X9_noLot (wU I 22 0 0) lo = 1 then (0, (wU (wU I 22 0 0) 22 0 1)) else (if (I 49 lo.toNatClampNeg) < 0 then (if 0 ≤ (l_X9_sell_a  9 (wU I 22 0 0) 0 (-1) lo).2.2 then ((l_X9_sell_a  9 (wU I 22 0 0) 0 (-1) lo).2.2, (wU (wU (wU I 22 0 0) 49 lo.toNatClampNeg (l_X9_sell_a  9 (wU I 22 0 0) 0 (-1) lo).2.2) 50 lo.toNatClampNeg (l_X9_sell_b  9 (wU I 22 0 0) 0 (I 47 lo.toNatClampNeg) (l_X9_sell_a  9 (wU I 22 0 0) 0 (-1) lo).2.2 lo).2.2)) else ((-1), (wU I 22 0 0))) else ((-1), (wU I 22 0 0))))
theorem fr_f_X9_sell (I : wI) (lo : Int32) (q9 : Nat) (h22 : q9 ≠ 22) (h49 : q9 ≠ 49) (h50 : q9 ≠ 50) : (f_X9_sell I lo).2 q9 = I q9 := by
  unfold f_X9_sell
  repeat' split
  all_goals first | with_reducible rfl | (simp only [wU_ne _ _ _ h22, wU_ne _ _ _ h49, wU_ne _ _ _ h50])
set_option maxHeartbeats 4000000 in
set_option maxRecDepth 100000 in
theorem c_X9_sell (l : Launch) (D : va_G) (y : Nat → ClassId) (b : Nat) (z : Nat → Nat) (G : wG) (I : wI) (J : wJ) (hL : w_full G) (lo : Int32) (hN : 0 ≤ (I 22 21).toInt ∧ (I 22 21).toInt ≤ 40) : mI l yX9_sell wsX9_sell { frames := 2, cells := 0, slots := 0, locals := 43 } D y b z G I J [.ref (G.1 22), .int lo] (fun r u => (r = (f_X9_sell I lo).1 ∧ u.2.1 = (f_X9_sell I lo).2) ∧ u.1 = G ∧ u.2.2 = J) 0 0 := by
  refine w_enter (by decide) rfl (Nat.le_of_ble_eq_true rfl) rfl ?_
  intro p e s m below meth c ls X hr hlk hnm hw hst hl
  have hx := X.1.1
  have hb := X.1.2.1
  obtain ⟨po_c_X9_sell, epo⟩ : ∃ qpo9 : Int32 → wS → Prop, qpo9 = (fun r u => (r = (f_X9_sell I lo).1 ∧ u.2.1 = (f_X9_sell I lo).2) ∧ u.1 = G ∧ u.2.2 = J) := ⟨_, rfl⟩
  rw [← epo]
  refine lv_aload_n hx hb dX9_sell_0 rfl (lv_at hl 0 rfl) ?_
  refine lv_iconst (v := 0) hx hb dX9_sell_1 (by decide) ?_
  refine w_put X hw 10 0 (hL 22 (by decide)) rfl (by decide) k_X9 in_X9_sell_X9 (by decide) (by decide +kernel) rfl rfl (t := .int) (by decide +kernel) rfl rfl (fun _ => rfl) (fun _ => Nat.le_of_ble_eq_true rfl) dX9_sell_2 (fun H locs hw => ?_)
  refine lv_aload_n hx hb dX9_sell_5 rfl (lv_at hl 0 rfl) ?_
  refine lv_aload_n hx hb dX9_sell_6 rfl (lv_at hl 0 rfl) ?_
  refine lv_iload_n hx hb dX9_sell_7 rfl (lv_at hl 1 rfl) ?_
  refine w_callVi (As := [.int lo]) (rest := [.ref (G.1 22)]) X hw hst hl (c_X9_noLot l D y b z G (wU I 22 0 0) J hL lo) (cwV 1 X.1.2.2.2.2 gX9_sell_X9_noLot rfl rfl rfl (by decide +kernel) ⟨Nat.le_of_ble_eq_true rfl, Nat.le_of_ble_eq_true rfl⟩) (w_recv X hw (hL 22 (by decide)) rfl (by decide) k_X9) rfl rfl (Nat.le_of_ble_eq_true rfl) dX9_sell_8 ⟨Nat.le_of_ble_eq_true rfl, Nat.le_of_ble_eq_true rfl⟩ (fun r_8_1 u H locs hp_8 hw => ?_)
  obtain ⟨hp_8, rfl⟩ := hp_8
  dsimp only at hw
  rcases f_X9_noLot_01  (wU I 22 0 0) lo with q_8 | ⟨q_8, q0_8⟩
  · rw [q_8] at hp_8
    subst r_8_1
    refine lv_iconst (v := 1) hx hb dX9_sell_11 (by decide) ?_
    refine w_callVi (As := [.int 1, .int 1]) (rest := []) X hw hst hl (c_X9_throwsIf1 l D y b z G (wU I 22 0 0) J hL 1) (cwV 2 X.1.2.2.2.2 gX9_sell_X9_throwsIf rfl rfl rfl (by decide +kernel) ⟨Nat.le_of_ble_eq_true rfl, Nat.le_of_ble_eq_true rfl⟩) (w_recv X hw (hL 22 (by decide)) rfl (by decide) k_X9) rfl rfl (Nat.le_of_ble_eq_true rfl) dX9_sell_12 ⟨Nat.le_of_ble_eq_true rfl, Nat.le_of_ble_eq_true rfl⟩ (fun r_12_2 u H locs hp_12 hw => ?_)
    obtain ⟨G_12_2, I_12_2, J_12_2⟩ := u
    dsimp only at hw hp_12
    obtain ⟨⟨hp_12, hI_12_2⟩, eG_12, eJ_12⟩ := hp_12
    subst G_12_2 J_12_2
    subst r_12_2
    refine lv_if_eq (tgt := 20) hx hb dX9_sell_15 (by decide) (fun c_15 => ?_) (fun c_15 => ?_)
    · exact absurd c_15 (by decide)
    · refine lv_iconst (v := 0) hx hb dX9_sell_18 (by decide) ?_
      have hp_19 : po_c_X9_sell 0 (G, I_12_2, J) := by
          obtain rfl := hI_12_2.symm
          rw [epo]
          have ef : f_X9_sell I lo = (0, (wU (wU I 22 0 0) 22 0 1)) := by unfold f_X9_sell; rw [if_pos q_8]
          exact ⟨⟨by rw [ef], by rw [ef]⟩, rfl, rfl⟩
      exact w_iret X hr hlk hw hp_19 (Nat.le_of_ble_eq_true rfl) (Nat.le_of_ble_eq_true rfl) dX9_sell_19
  · rw [q0_8] at hp_8
    subst r_8_1
    refine lv_iconst (v := 1) hx hb dX9_sell_11 (by decide) ?_
    refine w_callVi (As := [.int 0, .int 1]) (rest := []) X hw hst hl (c_X9_throwsIf0 l D y b z G (wU I 22 0 0) J hL 1) (cwV 2 X.1.2.2.2.2 gX9_sell_X9_throwsIf rfl rfl rfl (by decide +kernel) ⟨Nat.le_of_ble_eq_true rfl, Nat.le_of_ble_eq_true rfl⟩) (w_recv X hw (hL 22 (by decide)) rfl (by decide) k_X9) rfl rfl (Nat.le_of_ble_eq_true rfl) dX9_sell_12 ⟨Nat.le_of_ble_eq_true rfl, Nat.le_of_ble_eq_true rfl⟩ (fun r_12_3 u H locs hp_12 hw => ?_)
    obtain ⟨hp_12, rfl⟩ := hp_12
    dsimp only at hw
    subst r_12_3
    refine lv_if_eq (tgt := 20) hx hb dX9_sell_15 (by decide) (fun c_15 => ?_) (fun c_15 => ?_)
    · refine lv_aload_n hx hb dX9_sell_20 rfl (lv_at hl 0 rfl) ?_
      refine w_get X hw 10 19 (hL 22 (by decide)) rfl (by decide) k_X9 in_X9_sell_X9 (by decide) (by decide +kernel) rfl (v := .ref (G.1 49)) rfl dX9_sell_21 ?_
      refine lv_iload_n hx hb dX9_sell_24 rfl (lv_at hl 1 rfl) ?_
      have h_25 : vp_in lo 40 := by have h8 := ix_L hN q_8; rw [vp_in_iff]; omega
      refine w_ild X hw (hL 49 (by decide)) rfl h_25 dX9_sell_25 ?_
      refine W.eq (g2 := F0 m 26 ls [.int (I 49 lo.toNatClampNeg)]) rfl ?_
      refine lv_if_lt (tgt := 31) hx hb dX9_sell_26 (by decide) (fun c_26 => ?_) (fun c_26 => ?_)
      · refine lv_iconst (v := -1) hx hb dX9_sell_31 (by decide) ?_
        refine lv_istore_n (lv' := [(2, .int (-1)), (0, .ref (G.1 22)), (1, .int lo)]) hx hb dX9_sell_32 rfl hl (by decide) rfl (fun ls hl => ?_)
        refine lv_iconst (v := 0) hx hb dX9_sell_33 (by decide) ?_
        refine lv_istore_n (lv' := [(3, .int 0), (2, .int (-1)), (0, .ref (G.1 22)), (1, .int lo)]) hx hb dX9_sell_34 rfl hl (by decide) rfl (fun ls hl => ?_)
        refine lp_X9_sell_a  X hst hL (Nat.le_of_ble_eq_true rfl) (Nat.le_of_ble_eq_true rfl) (Nat.le_of_ble_eq_true rfl) (Nat.le_of_ble_eq_true rfl) lo (by have h8 := ix_L hN q_8; omega) 9 (wU I 22 0 0) 0 (-1) _ _ _ (by decide) (by decide) hw (lv_sub hl [0, 1, 2, 3] rfl) (fun H locs ls hw hl => ?_)
        obtain ⟨Q_4, eQ_4⟩ : ∃ q9 : wI × Int32 × Int32, q9 = l_X9_sell_a  9 (wU I 22 0 0) 0 (-1) lo := ⟨_, rfl⟩
        rw [← eQ_4] at hw hl
        rw [show Q_4.1 = (wU I 22 0 0) from by rw [eQ_4]; exact ro_X9_sell_a _ _ _ _ _] at hw
        refine lv_iload_n hx hb dX9_sell_92 rfl (lv_at hl 1 rfl) ?_
        refine lv_if_ge (tgt := 98) hx hb dX9_sell_93 (by decide) (fun c_93 => ?_) (fun c_93 => ?_)
        · refine lv_aload_n hx hb dX9_sell_98 rfl (lv_at hl 2 rfl) ?_
          refine w_get X hw 10 17 (hL 22 (by decide)) rfl (by decide) k_X9 in_X9_sell_X9 (by decide) (by decide +kernel) rfl (v := .ref (G.1 47)) rfl dX9_sell_99 ?_
          refine lv_iload_n hx hb dX9_sell_102 rfl (lv_at hl 3 rfl) ?_
          have h_103 : vp_in lo 40 := by have h8 := ix_L hN q_8; rw [vp_in_iff]; omega
          refine w_ild X hw (hL 47 (by decide)) rfl h_103 dX9_sell_103 ?_
          refine W.eq (g2 := F0 m 104 ls [.int (I 47 lo.toNatClampNeg)]) rfl ?_
          refine lv_topi (fun x_5 ex_5 => ?_)
          refine lv_istore_n (lv' := [(3, .int x_5), (2, .int Q_4.2.2), (0, .ref (G.1 22)), (1, .int lo)]) hx hb dX9_sell_104 rfl hl (by decide) rfl (fun ls hl => ?_)
          refine lv_iconst (v := 0) hx hb dX9_sell_105 (by decide) ?_
          refine lv_istore (lv' := [(4, .int 0), (3, .int x_5), (2, .int Q_4.2.2), (0, .ref (G.1 22)), (1, .int lo)]) hx hb dX9_sell_106 hl (by decide) rfl (fun ls hl => ?_)
          refine lp_X9_sell_b  X hst hL (Nat.le_of_ble_eq_true rfl) (Nat.le_of_ble_eq_true rfl) (Nat.le_of_ble_eq_true rfl) (Nat.le_of_ble_eq_true rfl) Q_4.2.2 lo (by have h8 := ix_L hN q_8; omega) 9 (wU I 22 0 0) 0 x_5 _ _ _ (by decide) (by decide) hw (lv_sub hl [0, 1, 2, 3, 4] rfl) (fun H locs ls hw hl => ?_)
          obtain ⟨Q_6, eQ_6⟩ : ∃ q9 : wI × Int32 × Int32, q9 = l_X9_sell_b  9 (wU I 22 0 0) 0 x_5 Q_4.2.2 lo := ⟨_, rfl⟩
          rw [← eQ_6] at hw hl
          rw [show Q_6.1 = (wU I 22 0 0) from by rw [eQ_6]; exact ro_X9_sell_b _ _ _ _ _ _] at hw
          refine lv_aload_n hx hb dX9_sell_144 rfl (lv_at hl 3 rfl) ?_
          refine w_get X hw 10 19 (hL 22 (by decide)) rfl (by decide) k_X9 in_X9_sell_X9 (by decide) (by decide +kernel) rfl (v := .ref (G.1 49)) rfl dX9_sell_145 ?_
          refine lv_iload_n hx hb dX9_sell_148 rfl (lv_at hl 4 rfl) ?_
          refine lv_iload_n hx hb dX9_sell_149 rfl (lv_at hl 2 rfl) ?_
          refine lv_topi (fun x_7 ex_7 => ?_)
          have h_150 : vp_in lo 40 := by have h8 := ix_L hN q_8; rw [vp_in_iff]; omega
          refine w_ist X hw (hL 49 (by decide)) rfl h_150 dX9_sell_150 (fun H locs hw => ?_)
          refine lv_aload_n hx hb dX9_sell_151 rfl (lv_at hl 3 rfl) ?_
          refine w_get X hw 10 20 (hL 22 (by decide)) rfl (by decide) k_X9 in_X9_sell_X9 (by decide) (by decide +kernel) rfl (v := .ref (G.1 50)) rfl dX9_sell_152 ?_
          refine lv_iload_n hx hb dX9_sell_155 rfl (lv_at hl 4 rfl) ?_
          refine lv_iload_n hx hb dX9_sell_156 rfl (lv_at hl 1 rfl) ?_
          refine lv_topi (fun x_8 ex_8 => ?_)
          have h_157 : vp_in lo 40 := by have h8 := ix_L hN q_8; rw [vp_in_iff]; omega
          refine w_ist X hw (hL 50 (by decide)) rfl h_157 dX9_sell_157 (fun H locs hw => ?_)
          refine lv_iload_n hx hb dX9_sell_158 rfl (lv_at hl 2 rfl) ?_
          have hp_159 : po_c_X9_sell Q_4.2.2 (G, (wU (wU (wU I 22 0 0) 49 lo.toNatClampNeg x_7) 50 lo.toNatClampNeg x_8), J) := by
              obtain rfl := eQ_4.symm
              obtain rfl := ex_5.symm
              obtain rfl := eQ_6.symm
              obtain rfl := ex_7.symm
              obtain rfl := ex_8.symm
              rw [epo]
              have ef : f_X9_sell I lo = ((l_X9_sell_a  9 (wU I 22 0 0) 0 (-1) lo).2.2, (wU (wU (wU I 22 0 0) 49 lo.toNatClampNeg (l_X9_sell_a  9 (wU I 22 0 0) 0 (-1) lo).2.2) 50 lo.toNatClampNeg (l_X9_sell_b  9 (wU I 22 0 0) 0 (I 47 lo.toNatClampNeg) (l_X9_sell_a  9 (wU I 22 0 0) 0 (-1) lo).2.2 lo).2.2)) := by unfold f_X9_sell; rw [if_neg q_8, if_pos c_26, if_pos c_93]
              exact ⟨⟨by rw [ef], by rw [ef]⟩, rfl, rfl⟩
          exact w_iret X hr hlk hw hp_159 (Nat.le_of_ble_eq_true rfl) (Nat.le_of_ble_eq_true rfl) dX9_sell_159
        · refine lv_iconst (v := -1) hx hb dX9_sell_96 (by decide) ?_
          have hp_97 : po_c_X9_sell (-1) (G, (wU I 22 0 0), J) := by
              obtain rfl := eQ_4.symm
              rw [epo]
              have ef : f_X9_sell I lo = ((-1), (wU I 22 0 0)) := by unfold f_X9_sell; rw [if_neg q_8, if_pos c_26, if_neg c_93]
              exact ⟨⟨by rw [ef], by rw [ef]⟩, rfl, rfl⟩
          exact w_iret X hr hlk hw hp_97 (Nat.le_of_ble_eq_true rfl) (Nat.le_of_ble_eq_true rfl) dX9_sell_97
      · refine lv_iconst (v := -1) hx hb dX9_sell_29 (by decide) ?_
        have hp_30 : po_c_X9_sell (-1) (G, (wU I 22 0 0), J) := by
            rw [epo]
            have ef : f_X9_sell I lo = ((-1), (wU I 22 0 0)) := by unfold f_X9_sell; rw [if_neg q_8, if_neg c_26]
            exact ⟨⟨by rw [ef], by rw [ef]⟩, rfl, rfl⟩
        exact w_iret X hr hlk hw hp_30 (Nat.le_of_ble_eq_true rfl) (Nat.le_of_ble_eq_true rfl) dX9_sell_30
    · exact absurd (by decide) c_15
set_option maxRecDepth 20000 in
theorem in_X9_offer_X9 : ∀ w ∈ u_ws RX9 TX9 42, w ∈ wsX9_offer := fun _ h => List.mem_cons_of_mem _ (List.mem_append_right _ h)
def l_X9_offer  : Nat → wI → Int32 → Int32 → Int64 → Int32 → Int32 → wI × Int32 × Int32 × Int64
  | 0, I, pk, n, hv, lo, w => (I, pk, n, hv)
  | nf + 1, I, pk, n, hv, lo, w => (if (I 22 16) ≤ pk then (I, pk, n, hv) else (if (I 45 (((6 : Int32) * pk) + 5).toNatClampNeg) = lo then (l_X9_offer nf I (pk + 1) (n + 1) (hv + (((((I 45 (((6 : Int32) * pk) + 2).toNatClampNeg).toInt64) * ((I 45 (((6 : Int32) * pk) + 3).toNatClampNeg).toInt64)) * ((I 45 (((6 : Int32) * pk) + 4).toNatClampNeg).toInt64)) / 1000)) lo w) else (l_X9_offer nf I (pk + 1) n hv lo w)))
set_option maxHeartbeats 4000000 in
set_option maxRecDepth 100000 in
theorem lp_X9_offer {p : Program} {l : Launch} {e : Env} {R : Room} {s : State} {m : MethodId} {args : Array Value} {below : List Frame} {meth : Method} {c : Code} {cells slots : Nat} {Q : State → Prop} {D : va_G} {y : Nat → ClassId} {b : Nat} {z : Nat → Nat} {G : wG} {J : wJ}  (X : wCx p m c cX9_offer 8 s args wsX9_offer yX9_offer.cls D y b) (hst : St z b s) (hL : w_full G) (hRf : 0 ≤ R.frames) (hRl : 0 ≤ R.locals) (hRc : cells ≤ R.cells) (hRs : slots ≤ R.slots) (lo : Int32) (w : Int32)  : ∀ (nf : Nat) (I : wI) (pk : Int32) (n : Int32) (hv : Int64) (H : Heap) (locs : List Loc) (ls : Array Slot), (0 ≤ pk.toInt ∧ pk.toInt ≤ (I 22 16).toInt ∧ (I 22 16).toInt ≤ 200) → (((I 22 16).toInt - pk.toInt).toNat < nf) → Wh D y b G I J s H locs → lv_has ls 8 [(6, .int pk), (3, .int n), (4, .long hv), (0, .ref (G.1 22)), (1, .int lo), (2, .int w)] → (∀ (H : Heap) (locs : List Loc) (ls : Array Slot), Wh D y b G (l_X9_offer nf I pk n hv lo w).1 J s H locs → lv_has ls 8 [(6, .int (l_X9_offer nf I pk n hv lo w).2.1), (3, .int (l_X9_offer nf I pk n hv lo w).2.2.1), (4, .long (l_X9_offer nf I pk n hv lo w).2.2.2), (0, .ref (G.1 22)), (1, .int lo), (2, .int w)] → W p l e R s m args below meth c H locs cells slots Q (F0 m 110 ls [])) → W p l e R s m args below meth c H locs cells slots Q (F0 m 28 ls []) := by
  have hx := X.1.1
  have hb := X.1.2.1
  intro nf
  induction nf with
  | zero => intro I pk n hv H locs ls hi hm; exact absurd hm (by omega)
  | succ nf ih =>
    intro I pk n hv H locs ls hi hm hw hl kk
    refine lv_iload hx hb dX9_offer_28 (lv_at hl 0 rfl) ?_
    refine lv_aload_n hx hb dX9_offer_30 rfl (lv_at hl 3 rfl) ?_
    refine w_get X hw 10 16 (hL 22 (by decide)) rfl (by decide) k_X9 in_X9_offer_X9 (by decide) (by decide +kernel) rfl (v := .int (I 22 16)) rfl dX9_offer_31 ?_
    refine lv_icmp_ge (tgt := 110) hx hb dX9_offer_34 (by decide) (fun c_34 => ?_) (fun c_34 => ?_)
    · have hw9 := hw
      have hl9 := hl
      have el : l_X9_offer (nf + 1) I pk n hv lo w = (I, pk, n, hv) := by rw [l_X9_offer]; rw [if_pos c_34]
      exact kk _ _ _ (by rw [el]; exact hw9) (by rw [el]; exact (lv_sub hl9 [0, 1, 2, 3, 4, 5] rfl))
    · refine lv_bipush (v := 6) hx hb dX9_offer_37 (by decide) ?_
      refine lv_iload hx hb dX9_offer_39 (lv_at hl 0 rfl) ?_
      refine lv_imul hx hb dX9_offer_41 ?_
      refine lv_topi (fun x_1 ex_1 => ?_)
      refine lv_istore (lv' := [(7, .int x_1), (6, .int pk), (3, .int n), (4, .long hv), (0, .ref (G.1 22)), (1, .int lo), (2, .int w)]) hx hb dX9_offer_42 hl (by decide) rfl (fun ls hl => ?_)
      refine lv_aload_n hx hb dX9_offer_44 rfl (lv_at hl 4 rfl) ?_
      refine w_get X hw 10 15 (hL 22 (by decide)) rfl (by decide) k_X9 in_X9_offer_X9 (by decide) (by decide +kernel) rfl (v := .ref (G.1 45)) rfl dX9_offer_45 ?_
      refine lv_iload hx hb dX9_offer_48 (lv_at hl 0 rfl) ?_
      refine lv_iconst (v := 5) hx hb dX9_offer_50 (by decide) ?_
      refine lv_iadd hx hb dX9_offer_51 ?_
      have h_52 : vp_in (x_1 + 5) 1200 := by rw [ex_1]; exact ix_6 ⟨hi.1, by simp only [i_le, i_lt] at c_34; omega⟩ ⟨by decide, by decide⟩
      refine w_ild X hw (hL 45 (by decide)) rfl h_52 dX9_offer_52 ?_
      refine lv_iload_n hx hb dX9_offer_53 rfl (lv_at hl 5 rfl) ?_
      refine lv_icmp_eq (tgt := 60) hx hb dX9_offer_54 (by decide) (fun c_54 => ?_) (fun c_54 => ?_)
      · obtain ⟨x_2, ex_2⟩ : ∃ y : Int32, y = n + 1 := ⟨_, rfl⟩
        refine lv_iinc (v := x_2) (lv' := [(3, .int x_2), (7, .int x_1), (6, .int pk), (4, .long hv), (0, .ref (G.1 22)), (1, .int lo), (2, .int w)]) hx hb dX9_offer_60 hl (k := 2) rfl (by rw [ex_2]; rfl) (by decide) rfl (fun ls hl => ?_)
        refine lv_lload hx hb dX9_offer_63 (lv_at hl 3 rfl) ?_
        refine lv_aload_n hx hb dX9_offer_65 rfl (lv_at hl 4 rfl) ?_
        refine w_get X hw 10 15 (hL 22 (by decide)) rfl (by decide) k_X9 in_X9_offer_X9 (by decide) (by decide +kernel) rfl (v := .ref (G.1 45)) rfl dX9_offer_66 ?_
        refine lv_iload hx hb dX9_offer_69 (lv_at hl 1 rfl) ?_
        refine lv_iconst (v := 2) hx hb dX9_offer_71 (by decide) ?_
        refine lv_iadd hx hb dX9_offer_72 ?_
        have h_73 : vp_in (x_1 + 2) 1200 := by rw [ex_1]; exact ix_6 ⟨hi.1, by simp only [i_le, i_lt] at c_34; omega⟩ ⟨by decide, by decide⟩
        refine w_ild X hw (hL 45 (by decide)) rfl h_73 dX9_offer_73 ?_
        refine lv_i2l hx hb dX9_offer_74 rfl ?_
        refine lv_aload_n hx hb dX9_offer_75 rfl (lv_at hl 4 rfl) ?_
        refine w_get X hw 10 15 (hL 22 (by decide)) rfl (by decide) k_X9 in_X9_offer_X9 (by decide) (by decide +kernel) rfl (v := .ref (G.1 45)) rfl dX9_offer_76 ?_
        refine lv_iload hx hb dX9_offer_79 (lv_at hl 1 rfl) ?_
        refine lv_iconst (v := 3) hx hb dX9_offer_81 (by decide) ?_
        refine lv_iadd hx hb dX9_offer_82 ?_
        have h_83 : vp_in (x_1 + 3) 1200 := by rw [ex_1]; exact ix_6 ⟨hi.1, by simp only [i_le, i_lt] at c_34; omega⟩ ⟨by decide, by decide⟩
        refine w_ild X hw (hL 45 (by decide)) rfl h_83 dX9_offer_83 ?_
        refine lv_i2l hx hb dX9_offer_84 rfl ?_
        refine lv_lmul hx hb dX9_offer_85 ?_
        refine lv_aload_n hx hb dX9_offer_86 rfl (lv_at hl 4 rfl) ?_
        refine w_get X hw 10 15 (hL 22 (by decide)) rfl (by decide) k_X9 in_X9_offer_X9 (by decide) (by decide +kernel) rfl (v := .ref (G.1 45)) rfl dX9_offer_87 ?_
        refine lv_iload hx hb dX9_offer_90 (lv_at hl 1 rfl) ?_
        refine lv_iconst (v := 4) hx hb dX9_offer_92 (by decide) ?_
        refine lv_iadd hx hb dX9_offer_93 ?_
        have h_94 : vp_in (x_1 + 4) 1200 := by rw [ex_1]; exact ix_6 ⟨hi.1, by simp only [i_le, i_lt] at c_34; omega⟩ ⟨by decide, by decide⟩
        refine w_ild X hw (hL 45 (by decide)) rfl h_94 dX9_offer_94 ?_
        refine lv_i2l hx hb dX9_offer_95 rfl ?_
        refine lv_lmul hx hb dX9_offer_96 ?_
        refine lv_ldc2 (v := 1000) hx hb X.1.2.2.2.1 (X.1.2.2.2.2 (.constantLong RX9 211 1000) (by decide +kernel)) dX9_offer_97 ?_
        refine lv_ldiv hx hb dX9_offer_100 (by decide) ?_
        refine lv_ladd hx hb dX9_offer_101 ?_
        refine lv_topl (fun x_3 ex_3 => ?_)
        refine lv_lstore (lv' := [(4, .long x_3), (3, .int x_2), (7, .int x_1), (6, .int pk), (0, .ref (G.1 22)), (1, .int lo), (2, .int w)]) hx hb dX9_offer_102 hl (by decide) rfl (fun ls hl => ?_)
        obtain ⟨x_4, ex_4⟩ : ∃ y : Int32, y = pk + 1 := ⟨_, rfl⟩
        refine lv_iinc (v := x_4) (lv' := [(6, .int x_4), (4, .long x_3), (3, .int x_2), (7, .int x_1), (0, .ref (G.1 22)), (1, .int lo), (2, .int w)]) hx hb dX9_offer_104 hl (k := 3) rfl (by rw [ex_4]; rfl) (by decide) rfl (fun ls hl => ?_)
        refine lv_goto (tgt := 28) hx hb dX9_offer_107 (by decide) ?_
        have hw9 := hw
        have hl9 := hl
        obtain rfl := ex_1.symm
        obtain rfl := ex_2.symm
        obtain rfl := ex_3.symm
        obtain rfl := ex_4.symm
        have el : l_X9_offer (nf + 1) I pk n hv lo w = l_X9_offer nf I (pk + 1) (n + 1) (hv + (((((I 45 (((6 : Int32) * pk) + 2).toNatClampNeg).toInt64) * ((I 45 (((6 : Int32) * pk) + 3).toNatClampNeg).toInt64)) * ((I 45 (((6 : Int32) * pk) + 4).toNatClampNeg).toInt64)) / 1000)) lo w := by rw [l_X9_offer]; rw [if_neg c_34, if_pos c_54]
        exact ih I (pk + 1) (n + 1) (hv + (((((I 45 (((6 : Int32) * pk) + 2).toNatClampNeg).toInt64) * ((I 45 (((6 : Int32) * pk) + 3).toNatClampNeg).toInt64)) * ((I 45 (((6 : Int32) * pk) + 4).toNatClampNeg).toInt64)) / 1000)) _ _ _ (by have e1 := i_inc (k := pk) (by omega); simp only [i_le, i_lt, Int32.reduceToInt] at c_34; exact ⟨by omega, by omega, hi.2.2⟩) (by have e1 := i_inc (k := pk) (by omega); simp only [i_le, i_lt, Int32.reduceToInt] at c_34; omega) hw9 (lv_sub hl9 [0, 2, 1, 4, 5, 6] rfl) (fun H locs ls hw hl => kk H locs ls (by rw [el]; exact hw) (by rw [el]; exact hl))
      · refine lv_goto (tgt := 104) hx hb dX9_offer_57 (by decide) ?_
        obtain ⟨x_5, ex_5⟩ : ∃ y : Int32, y = pk + 1 := ⟨_, rfl⟩
        refine lv_iinc (v := x_5) (lv' := [(6, .int x_5), (7, .int x_1), (3, .int n), (4, .long hv), (0, .ref (G.1 22)), (1, .int lo), (2, .int w)]) hx hb dX9_offer_104 hl (k := 1) rfl (by rw [ex_5]; rfl) (by decide) rfl (fun ls hl => ?_)
        refine lv_goto (tgt := 28) hx hb dX9_offer_107 (by decide) ?_
        have hw9 := hw
        have hl9 := hl
        obtain rfl := ex_1.symm
        obtain rfl := ex_5.symm
        have el : l_X9_offer (nf + 1) I pk n hv lo w = l_X9_offer nf I (pk + 1) n hv lo w := by rw [l_X9_offer]; rw [if_neg c_34, if_neg c_54]
        exact ih I (pk + 1) n hv _ _ _ (by have e1 := i_inc (k := pk) (by omega); simp only [i_le, i_lt, Int32.reduceToInt] at c_34; exact ⟨by omega, by omega, hi.2.2⟩) (by have e1 := i_inc (k := pk) (by omega); simp only [i_le, i_lt, Int32.reduceToInt] at c_34; omega) hw9 (lv_sub hl9 [0, 2, 3, 4, 5, 6] rfl) (fun H locs ls hw hl => kk H locs ls (by rw [el]; exact hw) (by rw [el]; exact hl))
theorem ro_X9_offer : ∀ (nf : Nat) (I : wI) (pk : Int32) (n : Int32) (hv : Int64) (lo : Int32) (w : Int32), (l_X9_offer nf I pk n hv lo w).1 = I := by
  intro nf
  induction nf with
  | zero => intros; rfl
  | succ nf ih =>
    intro I pk n hv lo w
    rw [l_X9_offer]
    repeat' split
    all_goals first | with_reducible rfl | exact ih _ _ _ _ _ _
def f_X9_offer (I : wI) (lo : Int32) (w : Int32) : Int32 × wI := (if f_X9_noLot (wU I 22 0 0) lo = 1 then (0, (wU (wU I 22 0 0) 22 0 1)) else (if w = 0 then (I 47 lo.toNatClampNeg, (wU I 22 0 0)) else (if w = 1 then ((l_X9_offer  201 (wU I 22 0 0) 0 0 0 lo w).2.2.1, (wU I 22 0 0)) else (if w = 2 then ((l_X9_offer  201 (wU I 22 0 0) 0 0 0 lo w).2.2.2.toInt32, (wU I 22 0 0)) else (if w = 3 then (I 49 lo.toNatClampNeg, (wU I 22 0 0)) else (if w = 4 then (I 50 lo.toNatClampNeg, (wU I 22 0 0)) else (0, (wU (wU I 22 0 0) 22 0 2))))))))
theorem fr_f_X9_offer (I : wI) (lo : Int32) (w : Int32) (q9 : Nat) (h22 : q9 ≠ 22) : (f_X9_offer I lo w).2 q9 = I q9 := by
  unfold f_X9_offer
  repeat' split
  all_goals first | with_reducible rfl | (simp only [wU_ne _ _ _ h22])
set_option maxHeartbeats 4000000 in
set_option maxRecDepth 100000 in
theorem c_X9_offer (l : Launch) (D : va_G) (y : Nat → ClassId) (b : Nat) (z : Nat → Nat) (G : wG) (I : wI) (J : wJ) (hL : w_full G) (lo : Int32) (w : Int32) (hN : 0 ≤ (I 22 21).toInt ∧ (I 22 21).toInt ≤ 40) (hP : 0 ≤ (I 22 16).toInt ∧ (I 22 16).toInt ≤ 200) : mI l yX9_offer wsX9_offer { frames := 2, cells := 0, slots := 0, locals := 43 } D y b z G I J [.ref (G.1 22), .int lo, .int w] (fun r u => (r = (f_X9_offer I lo w).1 ∧ u.2.1 = (f_X9_offer I lo w).2) ∧ u.1 = G ∧ u.2.2 = J) 0 0 := by
  refine w_enter (by decide) rfl (Nat.le_of_ble_eq_true rfl) rfl ?_
  intro p e s m below meth c ls X hr hlk hnm hw hst hl
  have hx := X.1.1
  have hb := X.1.2.1
  obtain ⟨po_c_X9_offer, epo⟩ : ∃ qpo9 : Int32 → wS → Prop, qpo9 = (fun r u => (r = (f_X9_offer I lo w).1 ∧ u.2.1 = (f_X9_offer I lo w).2) ∧ u.1 = G ∧ u.2.2 = J) := ⟨_, rfl⟩
  rw [← epo]
  refine lv_aload_n hx hb dX9_offer_0 rfl (lv_at hl 0 rfl) ?_
  refine lv_iconst (v := 0) hx hb dX9_offer_1 (by decide) ?_
  refine w_put X hw 10 0 (hL 22 (by decide)) rfl (by decide) k_X9 in_X9_offer_X9 (by decide) (by decide +kernel) rfl rfl (t := .int) (by decide +kernel) rfl rfl (fun _ => rfl) (fun _ => Nat.le_of_ble_eq_true rfl) dX9_offer_2 (fun H locs hw => ?_)
  refine lv_aload_n hx hb dX9_offer_5 rfl (lv_at hl 0 rfl) ?_
  refine lv_aload_n hx hb dX9_offer_6 rfl (lv_at hl 0 rfl) ?_
  refine lv_iload_n hx hb dX9_offer_7 rfl (lv_at hl 1 rfl) ?_
  refine w_callVi (As := [.int lo]) (rest := [.ref (G.1 22)]) X hw hst hl (c_X9_noLot l D y b z G (wU I 22 0 0) J hL lo) (cwV 1 X.1.2.2.2.2 gX9_offer_X9_noLot rfl rfl rfl (by decide +kernel) ⟨Nat.le_of_ble_eq_true rfl, Nat.le_of_ble_eq_true rfl⟩) (w_recv X hw (hL 22 (by decide)) rfl (by decide) k_X9) rfl rfl (Nat.le_of_ble_eq_true rfl) dX9_offer_8 ⟨Nat.le_of_ble_eq_true rfl, Nat.le_of_ble_eq_true rfl⟩ (fun r_8_1 u H locs hp_8 hw => ?_)
  obtain ⟨hp_8, rfl⟩ := hp_8
  dsimp only at hw
  rcases f_X9_noLot_01  (wU I 22 0 0) lo with q_8 | ⟨q_8, q0_8⟩
  · rw [q_8] at hp_8
    subst r_8_1
    refine lv_iconst (v := 1) hx hb dX9_offer_11 (by decide) ?_
    refine w_callVi (As := [.int 1, .int 1]) (rest := []) X hw hst hl (c_X9_throwsIf1 l D y b z G (wU I 22 0 0) J hL 1) (cwV 2 X.1.2.2.2.2 gX9_offer_X9_throwsIf rfl rfl rfl (by decide +kernel) ⟨Nat.le_of_ble_eq_true rfl, Nat.le_of_ble_eq_true rfl⟩) (w_recv X hw (hL 22 (by decide)) rfl (by decide) k_X9) rfl rfl (Nat.le_of_ble_eq_true rfl) dX9_offer_12 ⟨Nat.le_of_ble_eq_true rfl, Nat.le_of_ble_eq_true rfl⟩ (fun r_12_2 u H locs hp_12 hw => ?_)
    obtain ⟨G_12_2, I_12_2, J_12_2⟩ := u
    dsimp only at hw hp_12
    obtain ⟨⟨hp_12, hI_12_2⟩, eG_12, eJ_12⟩ := hp_12
    subst G_12_2 J_12_2
    subst r_12_2
    refine lv_if_eq (tgt := 20) hx hb dX9_offer_15 (by decide) (fun c_15 => ?_) (fun c_15 => ?_)
    · exact absurd c_15 (by decide)
    · refine lv_iconst (v := 0) hx hb dX9_offer_18 (by decide) ?_
      have hp_19 : po_c_X9_offer 0 (G, I_12_2, J) := by
          obtain rfl := hI_12_2.symm
          rw [epo]
          have ef : f_X9_offer I lo w = (0, (wU (wU I 22 0 0) 22 0 1)) := by unfold f_X9_offer; rw [if_pos q_8]
          exact ⟨⟨by rw [ef], by rw [ef]⟩, rfl, rfl⟩
      exact w_iret X hr hlk hw hp_19 (Nat.le_of_ble_eq_true rfl) (Nat.le_of_ble_eq_true rfl) dX9_offer_19
  · rw [q0_8] at hp_8
    subst r_8_1
    refine lv_iconst (v := 1) hx hb dX9_offer_11 (by decide) ?_
    refine w_callVi (As := [.int 0, .int 1]) (rest := []) X hw hst hl (c_X9_throwsIf0 l D y b z G (wU I 22 0 0) J hL 1) (cwV 2 X.1.2.2.2.2 gX9_offer_X9_throwsIf rfl rfl rfl (by decide +kernel) ⟨Nat.le_of_ble_eq_true rfl, Nat.le_of_ble_eq_true rfl⟩) (w_recv X hw (hL 22 (by decide)) rfl (by decide) k_X9) rfl rfl (Nat.le_of_ble_eq_true rfl) dX9_offer_12 ⟨Nat.le_of_ble_eq_true rfl, Nat.le_of_ble_eq_true rfl⟩ (fun r_12_3 u H locs hp_12 hw => ?_)
    obtain ⟨hp_12, rfl⟩ := hp_12
    dsimp only at hw
    subst r_12_3
    refine lv_if_eq (tgt := 20) hx hb dX9_offer_15 (by decide) (fun c_15 => ?_) (fun c_15 => ?_)
    · refine lv_iconst (v := 0) hx hb dX9_offer_20 (by decide) ?_
      refine lv_istore_n (lv' := [(3, .int 0), (0, .ref (G.1 22)), (1, .int lo), (2, .int w)]) hx hb dX9_offer_21 rfl hl (by decide) rfl (fun ls hl => ?_)
      refine lv_lconst (v := 0) hx hb dX9_offer_22 (by decide) ?_
      refine lv_lstore (lv' := [(4, .long 0), (3, .int 0), (0, .ref (G.1 22)), (1, .int lo), (2, .int w)]) hx hb dX9_offer_23 hl (by decide) rfl (fun ls hl => ?_)
      refine lv_iconst (v := 0) hx hb dX9_offer_25 (by decide) ?_
      refine lv_istore (lv' := [(6, .int 0), (4, .long 0), (3, .int 0), (0, .ref (G.1 22)), (1, .int lo), (2, .int w)]) hx hb dX9_offer_26 hl (by decide) rfl (fun ls hl => ?_)
      refine lp_X9_offer  X hst hL (Nat.le_of_ble_eq_true rfl) (Nat.le_of_ble_eq_true rfl) (Nat.le_of_ble_eq_true rfl) (Nat.le_of_ble_eq_true rfl) lo w  201 (wU I 22 0 0) 0 0 0 _ _ _ (⟨by decide, hP⟩) (show ((I 22 16).toInt - 0).toNat < 201 from by omega) hw (lv_sub hl [0, 2, 1, 3, 4, 5] rfl) (fun H locs ls hw hl => ?_)
      obtain ⟨Q_4, eQ_4⟩ : ∃ q9 : wI × Int32 × Int32 × Int64, q9 = l_X9_offer  201 (wU I 22 0 0) 0 0 0 lo w := ⟨_, rfl⟩
      rw [← eQ_4] at hw hl
      rw [show Q_4.1 = (wU I 22 0 0) from by rw [eQ_4]; exact ro_X9_offer _ _ _ _ _ _ _] at hw
      refine lv_iload_n hx hb dX9_offer_110 rfl (lv_at hl 5 rfl) ?_
      by_cases s_111_0 : w = 0
      · refine lv_tableIn (tgt := 144) hx hb dX9_offer_111 (by rw [s_111_0]; decide) (by rw [s_111_0]; decide) (by rw [s_111_0]; rfl) (by decide) ?_
        refine lv_aload_n hx hb dX9_offer_144 rfl (lv_at hl 3 rfl) ?_
        refine w_get X hw 10 17 (hL 22 (by decide)) rfl (by decide) k_X9 in_X9_offer_X9 (by decide) (by decide +kernel) rfl (v := .ref (G.1 47)) rfl dX9_offer_145 ?_
        refine lv_iload_n hx hb dX9_offer_148 rfl (lv_at hl 4 rfl) ?_
        have h_149 : vp_in lo 40 := by have h8 := ix_L hN q_8; rw [vp_in_iff]; omega
        refine w_ild X hw (hL 47 (by decide)) rfl h_149 dX9_offer_149 ?_
        refine W.eq (g2 := F0 m 150 ls [.int (I 47 lo.toNatClampNeg)]) rfl ?_
        have hp_150 : po_c_X9_offer (I 47 lo.toNatClampNeg) (G, (wU I 22 0 0), J) := by
            obtain rfl := eQ_4.symm
            rw [epo]
            have ef : f_X9_offer I lo w = (I 47 lo.toNatClampNeg, (wU I 22 0 0)) := by unfold f_X9_offer; rw [if_neg q_8, if_pos s_111_0]
            exact ⟨⟨by rw [ef], by rw [ef]⟩, rfl, rfl⟩
        exact w_iret X hr hlk hw hp_150 (Nat.le_of_ble_eq_true rfl) (Nat.le_of_ble_eq_true rfl) dX9_offer_150
      by_cases s_111_1 : w = 1
      · refine lv_tableIn (tgt := 151) hx hb dX9_offer_111 (by rw [s_111_1]; decide) (by rw [s_111_1]; decide) (by rw [s_111_1]; rfl) (by decide) ?_
        refine lv_iload_n hx hb dX9_offer_151 rfl (lv_at hl 1 rfl) ?_
        have hp_152 : po_c_X9_offer Q_4.2.2.1 (G, (wU I 22 0 0), J) := by
            obtain rfl := eQ_4.symm
            rw [epo]
            have ef : f_X9_offer I lo w = ((l_X9_offer  201 (wU I 22 0 0) 0 0 0 lo w).2.2.1, (wU I 22 0 0)) := by unfold f_X9_offer; rw [if_neg q_8, if_neg s_111_0, if_pos s_111_1]
            exact ⟨⟨by rw [ef], by rw [ef]⟩, rfl, rfl⟩
        exact w_iret X hr hlk hw hp_152 (Nat.le_of_ble_eq_true rfl) (Nat.le_of_ble_eq_true rfl) dX9_offer_152
      by_cases s_111_2 : w = 2
      · refine lv_tableIn (tgt := 153) hx hb dX9_offer_111 (by rw [s_111_2]; decide) (by rw [s_111_2]; decide) (by rw [s_111_2]; rfl) (by decide) ?_
        refine lv_lload hx hb dX9_offer_153 (lv_at hl 2 rfl) ?_
        refine lv_l2i hx hb dX9_offer_155 rfl ?_
        have hp_156 : po_c_X9_offer Q_4.2.2.2.toInt32 (G, (wU I 22 0 0), J) := by
            obtain rfl := eQ_4.symm
            rw [epo]
            have ef : f_X9_offer I lo w = ((l_X9_offer  201 (wU I 22 0 0) 0 0 0 lo w).2.2.2.toInt32, (wU I 22 0 0)) := by unfold f_X9_offer; rw [if_neg q_8, if_neg s_111_0, if_neg s_111_1, if_pos s_111_2]
            exact ⟨⟨by rw [ef], by rw [ef]⟩, rfl, rfl⟩
        exact w_iret X hr hlk hw hp_156 (Nat.le_of_ble_eq_true rfl) (Nat.le_of_ble_eq_true rfl) dX9_offer_156
      by_cases s_111_3 : w = 3
      · refine lv_tableIn (tgt := 157) hx hb dX9_offer_111 (by rw [s_111_3]; decide) (by rw [s_111_3]; decide) (by rw [s_111_3]; rfl) (by decide) ?_
        refine lv_aload_n hx hb dX9_offer_157 rfl (lv_at hl 3 rfl) ?_
        refine w_get X hw 10 19 (hL 22 (by decide)) rfl (by decide) k_X9 in_X9_offer_X9 (by decide) (by decide +kernel) rfl (v := .ref (G.1 49)) rfl dX9_offer_158 ?_
        refine lv_iload_n hx hb dX9_offer_161 rfl (lv_at hl 4 rfl) ?_
        have h_162 : vp_in lo 40 := by have h8 := ix_L hN q_8; rw [vp_in_iff]; omega
        refine w_ild X hw (hL 49 (by decide)) rfl h_162 dX9_offer_162 ?_
        refine W.eq (g2 := F0 m 163 ls [.int (I 49 lo.toNatClampNeg)]) rfl ?_
        have hp_163 : po_c_X9_offer (I 49 lo.toNatClampNeg) (G, (wU I 22 0 0), J) := by
            obtain rfl := eQ_4.symm
            rw [epo]
            have ef : f_X9_offer I lo w = (I 49 lo.toNatClampNeg, (wU I 22 0 0)) := by unfold f_X9_offer; rw [if_neg q_8, if_neg s_111_0, if_neg s_111_1, if_neg s_111_2, if_pos s_111_3]
            exact ⟨⟨by rw [ef], by rw [ef]⟩, rfl, rfl⟩
        exact w_iret X hr hlk hw hp_163 (Nat.le_of_ble_eq_true rfl) (Nat.le_of_ble_eq_true rfl) dX9_offer_163
      by_cases s_111_4 : w = 4
      · refine lv_tableIn (tgt := 164) hx hb dX9_offer_111 (by rw [s_111_4]; decide) (by rw [s_111_4]; decide) (by rw [s_111_4]; rfl) (by decide) ?_
        refine lv_aload_n hx hb dX9_offer_164 rfl (lv_at hl 3 rfl) ?_
        refine w_get X hw 10 20 (hL 22 (by decide)) rfl (by decide) k_X9 in_X9_offer_X9 (by decide) (by decide +kernel) rfl (v := .ref (G.1 50)) rfl dX9_offer_165 ?_
        refine lv_iload_n hx hb dX9_offer_168 rfl (lv_at hl 4 rfl) ?_
        have h_169 : vp_in lo 40 := by have h8 := ix_L hN q_8; rw [vp_in_iff]; omega
        refine w_ild X hw (hL 50 (by decide)) rfl h_169 dX9_offer_169 ?_
        refine W.eq (g2 := F0 m 170 ls [.int (I 50 lo.toNatClampNeg)]) rfl ?_
        have hp_170 : po_c_X9_offer (I 50 lo.toNatClampNeg) (G, (wU I 22 0 0), J) := by
            obtain rfl := eQ_4.symm
            rw [epo]
            have ef : f_X9_offer I lo w = (I 50 lo.toNatClampNeg, (wU I 22 0 0)) := by unfold f_X9_offer; rw [if_neg q_8, if_neg s_111_0, if_neg s_111_1, if_neg s_111_2, if_neg s_111_3, if_pos s_111_4]
            exact ⟨⟨by rw [ef], by rw [ef]⟩, rfl, rfl⟩
        exact w_iret X hr hlk hw hp_170 (Nat.le_of_ble_eq_true rfl) (Nat.le_of_ble_eq_true rfl) dX9_offer_170
      refine lv_tableOut (tgt := 171) hx hb dX9_offer_111 (sw_out w 0 4 (fun j h1 h2 => by
        rcases (show j = 0 ∨ j = 1 ∨ j = 2 ∨ j = 3 ∨ j = 4 by omega) with rfl | rfl | rfl | rfl | rfl
        · exact lv_neT s_111_0 (by decide)
        · exact lv_neT s_111_1 (by decide)
        · exact lv_neT s_111_2 (by decide)
        · exact lv_neT s_111_3 (by decide)
        · exact lv_neT s_111_4 (by decide))) (by decide) ?_
      refine lv_aload_n hx hb dX9_offer_171 rfl (lv_at hl 3 rfl) ?_
      refine lv_iconst (v := 2) hx hb dX9_offer_172 (by decide) ?_
      refine w_put X hw 10 0 (hL 22 (by decide)) rfl (by decide) k_X9 in_X9_offer_X9 (by decide) (by decide +kernel) rfl rfl (t := .int) (by decide +kernel) rfl rfl (fun _ => rfl) (fun _ => Nat.le_of_ble_eq_true rfl) dX9_offer_173 (fun H locs hw => ?_)
      refine lv_iconst (v := 0) hx hb dX9_offer_176 (by decide) ?_
      have hp_177 : po_c_X9_offer 0 (G, (wU (wU I 22 0 0) 22 0 2), J) := by
          obtain rfl := eQ_4.symm
          rw [epo]
          have ef : f_X9_offer I lo w = (0, (wU (wU I 22 0 0) 22 0 2)) := by unfold f_X9_offer; rw [if_neg q_8, if_neg s_111_0, if_neg s_111_1, if_neg s_111_2, if_neg s_111_3, if_neg s_111_4]
          exact ⟨⟨by rw [ef], by rw [ef]⟩, rfl, rfl⟩
      exact w_iret X hr hlk hw hp_177 (Nat.le_of_ble_eq_true rfl) (Nat.le_of_ble_eq_true rfl) dX9_offer_177
    · exact absurd (by decide) c_15
set_option maxRecDepth 20000 in
theorem in_X9_heaviest_X9 : ∀ w ∈ u_ws RX9 TX9 42, w ∈ wsX9_heaviest := fun _ h => List.mem_cons_of_mem _ (List.mem_append_right _ h)
def l_X9_heaviest_s  : Nat → wI → Int32 → Int32 → Int32 → Int32 → wI × Int32 × Int32
  | 0, I, k, su, yr, mo => (I, k, su)
  | nf + 1, I, k, su, yr, mo => (if (I 22 39) ≤ k then (I, k, su) else (if (I 71 k.toNatClampNeg) = yr then (l_X9_heaviest_s nf I (k + 1) (su + (I 67 k.toNatClampNeg)) yr mo) else (l_X9_heaviest_s nf I (k + 1) (su + 0) yr mo)))
set_option maxHeartbeats 4000000 in
set_option maxRecDepth 100000 in
theorem lp_X9_heaviest_s {p : Program} {l : Launch} {e : Env} {R : Room} {s : State} {m : MethodId} {args : Array Value} {below : List Frame} {meth : Method} {c : Code} {cells slots : Nat} {Q : State → Prop} {D : va_G} {y : Nat → ClassId} {b : Nat} {z : Nat → Nat} {G : wG} {J : wJ}  (X : wCx p m c cX9_heaviest 5 s args wsX9_heaviest yX9_heaviest.cls D y b) (hst : St z b s) (hL : w_full G) (hRf : 0 ≤ R.frames) (hRl : 0 ≤ R.locals) (hRc : cells ≤ R.cells) (hRs : slots ≤ R.slots) (yr : Int32) (mo : Int32)  : ∀ (nf : Nat) (I : wI) (k : Int32) (su : Int32) (H : Heap) (locs : List Loc) (ls : Array Slot), (0 ≤ k.toInt ∧ k.toInt ≤ (I 22 39).toInt ∧ (I 22 39).toInt ≤ 6) → (((I 22 39).toInt - k.toInt).toNat < nf) → Wh D y b G I J s H locs → lv_has ls 5 [(4, .int k), (3, .int su), (2, .int yr), (1, .int mo), (0, .ref (G.1 22))] → (∀ (H : Heap) (locs : List Loc) (ls : Array Slot), Wh D y b G (l_X9_heaviest_s nf I k su yr mo).1 J s H locs → lv_has ls 5 [(4, .int (l_X9_heaviest_s nf I k su yr mo).2.1), (3, .int (l_X9_heaviest_s nf I k su yr mo).2.2), (2, .int yr), (1, .int mo), (0, .ref (G.1 22))] → W p l e R s m args below meth c H locs cells slots Q (F0 m 55 ls [])) → W p l e R s m args below meth c H locs cells slots Q (F0 m 15 ls []) := by
  have hx := X.1.1
  have hb := X.1.2.1
  intro nf
  induction nf with
  | zero => intro I k su H locs ls hi hm; exact absurd hm (by omega)
  | succ nf ih =>
    intro I k su H locs ls hi hm hw hl kk
    refine lv_iload hx hb dX9_heaviest_15 (lv_at hl 0 rfl) ?_
    refine lv_aload_n hx hb dX9_heaviest_17 rfl (lv_at hl 4 rfl) ?_
    refine w_get X hw 10 39 (hL 22 (by decide)) rfl (by decide) k_X9 in_X9_heaviest_X9 (by decide) (by decide +kernel) rfl (v := .int (I 22 39)) rfl dX9_heaviest_18 ?_
    refine lv_icmp_ge (tgt := 55) hx hb dX9_heaviest_21 (by decide) (fun c_21 => ?_) (fun c_21 => ?_)
    · have hw9 := hw
      have hl9 := hl
      have el : l_X9_heaviest_s (nf + 1) I k su yr mo = (I, k, su) := by rw [l_X9_heaviest_s]; rw [if_pos c_21]
      exact kk _ _ _ (by rw [el]; exact hw9) (by rw [el]; exact (lv_sub hl9 [0, 1, 2, 3, 4] rfl))
    · refine lv_iload_n hx hb dX9_heaviest_24 rfl (lv_at hl 1 rfl) ?_
      refine lv_aload_n hx hb dX9_heaviest_25 rfl (lv_at hl 4 rfl) ?_
      refine w_get X hw 10 41 (hL 22 (by decide)) rfl (by decide) k_X9 in_X9_heaviest_X9 (by decide) (by decide +kernel) rfl (v := .ref (G.1 71)) rfl dX9_heaviest_26 ?_
      refine lv_iload hx hb dX9_heaviest_29 (lv_at hl 0 rfl) ?_
      have h_31 : vp_in k 6 := by rw [vp_in_iff]; simp only [i_le, i_lt, Int32.reduceToInt] at c_21; omega
      refine w_ild X hw (hL 71 (by decide)) rfl h_31 dX9_heaviest_31 ?_
      refine lv_iload_n hx hb dX9_heaviest_32 rfl (lv_at hl 2 rfl) ?_
      refine lv_icmp_ne (tgt := 46) hx hb dX9_heaviest_33 (by decide) (fun c_33 => ?_) (fun c_33 => ?_)
      · refine lv_iconst (v := 0) hx hb dX9_heaviest_46 (by decide) ?_
        refine lv_iadd hx hb dX9_heaviest_47 ?_
        refine lv_topi (fun x_1 ex_1 => ?_)
        refine lv_istore_n (lv' := [(3, .int x_1), (4, .int k), (2, .int yr), (1, .int mo), (0, .ref (G.1 22))]) hx hb dX9_heaviest_48 rfl hl (by decide) rfl (fun ls hl => ?_)
        obtain ⟨x_2, ex_2⟩ : ∃ y : Int32, y = k + 1 := ⟨_, rfl⟩
        refine lv_iinc (v := x_2) (lv' := [(4, .int x_2), (3, .int x_1), (2, .int yr), (1, .int mo), (0, .ref (G.1 22))]) hx hb dX9_heaviest_49 hl (k := 1) rfl (by rw [ex_2]; rfl) (by decide) rfl (fun ls hl => ?_)
        refine lv_goto (tgt := 15) hx hb dX9_heaviest_52 (by decide) ?_
        have hw9 := hw
        have hl9 := hl
        obtain rfl := ex_1.symm
        obtain rfl := ex_2.symm
        have el : l_X9_heaviest_s (nf + 1) I k su yr mo = l_X9_heaviest_s nf I (k + 1) (su + 0) yr mo := by rw [l_X9_heaviest_s]; rw [if_neg c_21, if_neg c_33]
        exact ih I (k + 1) (su + 0) _ _ _ (by have e1 := i_inc (k := k) (by omega); simp only [i_le, i_lt, Int32.reduceToInt] at c_21; exact ⟨by omega, by omega, hi.2.2⟩) (by have e1 := i_inc (k := k) (by omega); simp only [i_le, i_lt, Int32.reduceToInt] at c_21; omega) hw9 (lv_sub hl9 [0, 1, 2, 3, 4] rfl) (fun H locs ls hw hl => kk H locs ls (by rw [el]; exact hw) (by rw [el]; exact hl))
      · refine lv_aload_n hx hb dX9_heaviest_36 rfl (lv_at hl 4 rfl) ?_
        refine w_get X hw 10 37 (hL 22 (by decide)) rfl (by decide) k_X9 in_X9_heaviest_X9 (by decide) (by decide +kernel) rfl (v := .ref (G.1 67)) rfl dX9_heaviest_37 ?_
        refine lv_iload hx hb dX9_heaviest_40 (lv_at hl 0 rfl) ?_
        have h_42 : vp_in k 6 := by rw [vp_in_iff]; simp only [i_le, i_lt, Int32.reduceToInt] at c_21; omega
        refine w_ild X hw (hL 67 (by decide)) rfl h_42 dX9_heaviest_42 ?_
        refine lv_goto (tgt := 47) hx hb dX9_heaviest_43 (by decide) ?_
        refine lv_iadd hx hb dX9_heaviest_47 ?_
        refine lv_topi (fun x_3 ex_3 => ?_)
        refine lv_istore_n (lv' := [(3, .int x_3), (4, .int k), (2, .int yr), (1, .int mo), (0, .ref (G.1 22))]) hx hb dX9_heaviest_48 rfl hl (by decide) rfl (fun ls hl => ?_)
        obtain ⟨x_4, ex_4⟩ : ∃ y : Int32, y = k + 1 := ⟨_, rfl⟩
        refine lv_iinc (v := x_4) (lv' := [(4, .int x_4), (3, .int x_3), (2, .int yr), (1, .int mo), (0, .ref (G.1 22))]) hx hb dX9_heaviest_49 hl (k := 1) rfl (by rw [ex_4]; rfl) (by decide) rfl (fun ls hl => ?_)
        refine lv_goto (tgt := 15) hx hb dX9_heaviest_52 (by decide) ?_
        have hw9 := hw
        have hl9 := hl
        obtain rfl := ex_3.symm
        obtain rfl := ex_4.symm
        have el : l_X9_heaviest_s (nf + 1) I k su yr mo = l_X9_heaviest_s nf I (k + 1) (su + (I 67 k.toNatClampNeg)) yr mo := by rw [l_X9_heaviest_s]; rw [if_neg c_21, if_pos c_33]
        exact ih I (k + 1) (su + (I 67 k.toNatClampNeg)) _ _ _ (by have e1 := i_inc (k := k) (by omega); simp only [i_le, i_lt, Int32.reduceToInt] at c_21; exact ⟨by omega, by omega, hi.2.2⟩) (by have e1 := i_inc (k := k) (by omega); simp only [i_le, i_lt, Int32.reduceToInt] at c_21; omega) hw9 (lv_sub hl9 [0, 1, 2, 3, 4] rfl) (fun H locs ls hw hl => kk H locs ls (by rw [el]; exact hw) (by rw [el]; exact hl))
theorem ro_X9_heaviest_s : ∀ (nf : Nat) (I : wI) (k : Int32) (su : Int32) (yr : Int32) (mo : Int32), (l_X9_heaviest_s nf I k su yr mo).1 = I := by
  intro nf
  induction nf with
  | zero => intros; rfl
  | succ nf ih =>
    intro I k su yr mo
    rw [l_X9_heaviest_s]
    repeat' split
    all_goals first | with_reducible rfl | exact ih _ _ _ _ _
def l_X9_heaviest_y  : Nat → wI → Int32 → Int32 → wI × Int32 × Int32
  | 0, I, yr, mo => (I, yr, mo)
  | nf + 1, I, yr, mo => (if 9 ≤ yr then (I, yr, mo) else (l_X9_heaviest_y nf I (yr + 1) (if mo < (l_X9_heaviest_s  7 I 0 0 yr mo).2.2 then (l_X9_heaviest_s  7 I 0 0 yr mo).2.2 else mo) ))
set_option maxHeartbeats 4000000 in
set_option maxRecDepth 100000 in
theorem lp_X9_heaviest_y {p : Program} {l : Launch} {e : Env} {R : Room} {s : State} {m : MethodId} {args : Array Value} {below : List Frame} {meth : Method} {c : Code} {cells slots : Nat} {Q : State → Prop} {D : va_G} {y : Nat → ClassId} {b : Nat} {z : Nat → Nat} {G : wG} {J : wJ}  (X : wCx p m c cX9_heaviest 5 s args wsX9_heaviest yX9_heaviest.cls D y b) (hst : St z b s) (hL : w_full G) (hRf : 1 ≤ R.frames) (hRl : 21 ≤ R.locals) (hRc : cells ≤ R.cells) (hRs : slots ≤ R.slots)   : ∀ (nf : Nat) (I : wI) (yr : Int32) (mo : Int32) (H : Heap) (locs : List Loc) (ls : Array Slot), (0 ≤ yr.toInt ∧ yr.toInt ≤ 9 ∧ 0 ≤ (I 22 39).toInt ∧ (I 22 39).toInt ≤ 6) → ((9 - yr.toInt).toNat < nf) → Wh D y b G I J s H locs → lv_has ls 5 [(2, .int yr), (1, .int mo), (0, .ref (G.1 22))] → (∀ (H : Heap) (locs : List Loc) (ls : Array Slot), Wh D y b G (l_X9_heaviest_y nf I yr mo ).1 J s H locs → lv_has ls 5 [(2, .int (l_X9_heaviest_y nf I yr mo ).2.1), (1, .int (l_X9_heaviest_y nf I yr mo ).2.2), (0, .ref (G.1 22))] → W p l e R s m args below meth c H locs cells slots Q (F0 m 67 ls [])) → W p l e R s m args below meth c H locs cells slots Q (F0 m 4 ls []) := by
  have hx := X.1.1
  have hb := X.1.2.1
  intro nf
  induction nf with
  | zero => intro I yr mo H locs ls hi hm; exact absurd hm (by omega)
  | succ nf ih =>
    intro I yr mo H locs ls hi hm hw hl kk
    refine lv_iload_n hx hb dX9_heaviest_4 rfl (lv_at hl 0 rfl) ?_
    refine lv_bipush (v := 9) hx hb dX9_heaviest_5 (by decide) ?_
    refine lv_icmp_ge (tgt := 67) hx hb dX9_heaviest_7 (by decide) (fun c_7 => ?_) (fun c_7 => ?_)
    · have hw9 := hw
      have hl9 := hl
      have el : l_X9_heaviest_y (nf + 1) I yr mo  = (I, yr, mo) := by rw [l_X9_heaviest_y]; rw [if_pos c_7]
      exact kk _ _ _ (by rw [el]; exact hw9) (by rw [el]; exact (lv_sub hl9 [0, 1, 2] rfl))
    · refine lv_iconst (v := 0) hx hb dX9_heaviest_10 (by decide) ?_
      refine lv_istore_n (lv' := [(3, .int 0), (2, .int yr), (1, .int mo), (0, .ref (G.1 22))]) hx hb dX9_heaviest_11 rfl hl (by decide) rfl (fun ls hl => ?_)
      refine lv_iconst (v := 0) hx hb dX9_heaviest_12 (by decide) ?_
      refine lv_istore (lv' := [(4, .int 0), (3, .int 0), (2, .int yr), (1, .int mo), (0, .ref (G.1 22))]) hx hb dX9_heaviest_13 hl (by decide) rfl (fun ls hl => ?_)
      refine lp_X9_heaviest_s  X hst hL (Nat.le_trans (Nat.le_of_ble_eq_true rfl) hRf) (Nat.le_trans (Nat.le_of_ble_eq_true rfl) hRl) hRc hRs yr mo  7 I 0 0 _ _ _ (⟨by decide, hi.2.2⟩) (show ((I 22 39).toInt - 0).toNat < 7 from by have := hi.2.2; omega) hw (lv_sub hl [0, 1, 2, 3, 4] rfl) (fun H locs ls hw hl => ?_)
      obtain ⟨Q_1, eQ_1⟩ : ∃ q9 : wI × Int32 × Int32, q9 = l_X9_heaviest_s  7 I 0 0 yr mo := ⟨_, rfl⟩
      rw [← eQ_1] at hw hl
      rw [show Q_1.1 = I from by rw [eQ_1]; exact ro_X9_heaviest_s _ _ _ _ _ _] at hw
      refine lv_iload_n hx hb dX9_heaviest_55 rfl (lv_at hl 3 rfl) ?_
      refine lv_iload_n hx hb dX9_heaviest_56 rfl (lv_at hl 1 rfl) ?_
      refine va_mmax hx hb (by rw [X.1.2.2.1]; exact hl.1.symm) X.1.2.2.2.1 (X.1.2.2.2.2 (.methodLink RX9 132 Lib.Math.max.name) (by decide +kernel)) (X.1.2.2.2.2 (.static Lib.Math.max.name) (by decide +kernel)) (X.1.2.2.2.2 (.initialized "java/lang/Math") (by decide +kernel)) (X.1.2.2.2.2 (.code Lib.Math.max.name Lib.Math.max.code 2 (some .int)) (by decide +kernel)) (Nat.le_trans (Nat.le_of_ble_eq_true rfl) hRf) (Nat.le_trans (Nat.le_of_ble_eq_true rfl) hRl) hRc hRs dX9_heaviest_57 ?_
      refine lv_topi (fun x_2 ex_2 => ?_)
      refine lv_istore_n (lv' := [(1, .int x_2), (4, .int Q_1.2.1), (3, .int Q_1.2.2), (2, .int yr), (0, .ref (G.1 22))]) hx hb dX9_heaviest_60 rfl hl (by decide) rfl (fun ls hl => ?_)
      obtain ⟨x_3, ex_3⟩ : ∃ y : Int32, y = yr + 1 := ⟨_, rfl⟩
      refine lv_iinc (v := x_3) (lv' := [(2, .int x_3), (1, .int x_2), (4, .int Q_1.2.1), (3, .int Q_1.2.2), (0, .ref (G.1 22))]) hx hb dX9_heaviest_61 hl (k := 3) rfl (by rw [ex_3]; rfl) (by decide) rfl (fun ls hl => ?_)
      refine lv_goto (tgt := 4) hx hb dX9_heaviest_64 (by decide) ?_
      have hw9 := hw
      have hl9 := hl
      obtain rfl := ex_2.symm
      obtain rfl := ex_3.symm
      have el : l_X9_heaviest_y (nf + 1) I yr mo  = l_X9_heaviest_y nf I (yr + 1) (if mo < Q_1.2.2 then Q_1.2.2 else mo)  := by obtain rfl := eQ_1.symm; rw [l_X9_heaviest_y]; rw [if_neg c_7]
      exact ih I (yr + 1) (if mo < Q_1.2.2 then Q_1.2.2 else mo) _ _ _ (by have e1 := i_inc (k := yr) (by omega); simp only [i_le, i_lt, Int32.reduceToInt] at c_7; exact ⟨by omega, by omega, hi.2.2⟩) (by have e1 := i_inc (k := yr) (by omega); simp only [i_le, i_lt, Int32.reduceToInt] at c_7; omega) hw9 (lv_sub hl9 [0, 1, 4] rfl) (fun H locs ls hw hl => kk H locs ls (by rw [el]; exact hw) (by rw [el]; exact hl))
theorem ro_X9_heaviest_y : ∀ (nf : Nat) (I : wI) (yr : Int32) (mo : Int32) , (l_X9_heaviest_y nf I yr mo ).1 = I := by
  intro nf
  induction nf with
  | zero => intros; rfl
  | succ nf ih =>
    intro I yr mo 
    rw [l_X9_heaviest_y]
    repeat' split
    all_goals first | with_reducible rfl | exact ih _ _ _ 
def f_X9_heaviest (I : wI)  : Int32 := ((l_X9_heaviest_y  10 I 0 0).2.2)
set_option maxHeartbeats 4000000 in
set_option maxRecDepth 100000 in
theorem c_X9_heaviest (l : Launch) (D : va_G) (y : Nat → ClassId) (b : Nat) (z : Nat → Nat) (G : wG) (I : wI) (J : wJ) (hL : w_full G)  (hS : 0 ≤ (I 22 39).toInt ∧ (I 22 39).toInt ≤ 6) : mI l yX9_heaviest wsX9_heaviest { frames := 1, cells := 0, slots := 0, locals := 21 } D y b z G I J [.ref (G.1 22)] (fun r u => r = f_X9_heaviest I ∧ u = (G, I, J)) 0 0 := by
  refine w_enter (by decide) rfl (Nat.le_of_ble_eq_true rfl) rfl ?_
  intro p e s m below meth c ls X hr hlk hnm hw hst hl
  have hx := X.1.1
  have hb := X.1.2.1
  obtain ⟨po_c_X9_heaviest, epo⟩ : ∃ qpo9 : Int32 → wS → Prop, qpo9 = (fun r u => r = f_X9_heaviest I ∧ u = (G, I, J)) := ⟨_, rfl⟩
  rw [← epo]
  refine lv_iconst (v := 0) hx hb dX9_heaviest_0 (by decide) ?_
  refine lv_istore_n (lv' := [(1, .int 0), (0, .ref (G.1 22))]) hx hb dX9_heaviest_1 rfl hl (by decide) rfl (fun ls hl => ?_)
  refine lv_iconst (v := 0) hx hb dX9_heaviest_2 (by decide) ?_
  refine lv_istore_n (lv' := [(2, .int 0), (1, .int 0), (0, .ref (G.1 22))]) hx hb dX9_heaviest_3 rfl hl (by decide) rfl (fun ls hl => ?_)
  refine lp_X9_heaviest_y  X hst hL (Nat.le_of_ble_eq_true rfl) (Nat.le_of_ble_eq_true rfl) (Nat.le_of_ble_eq_true rfl) (Nat.le_of_ble_eq_true rfl)   10 I 0 0 _ _ _ (⟨by decide, by decide, hS⟩) (by decide) hw (lv_sub hl [0, 1, 2] rfl) (fun H locs ls hw hl => ?_)
  obtain ⟨Q_1, eQ_1⟩ : ∃ q9 : wI × Int32 × Int32, q9 = l_X9_heaviest_y  10 I 0 0 := ⟨_, rfl⟩
  rw [← eQ_1] at hw hl
  rw [show Q_1.1 = I from by rw [eQ_1]; exact ro_X9_heaviest_y _ _ _ _ ] at hw
  refine lv_iload_n hx hb dX9_heaviest_67 rfl (lv_at hl 1 rfl) ?_
  have hp_68 : po_c_X9_heaviest Q_1.2.2 (G, I, J) := by
      obtain rfl := eQ_1.symm
      rw [epo]
      refine ⟨Eq.symm ?_, rfl⟩
      rfl
  exact w_iret X hr hlk hw hp_68 (Nat.le_of_ble_eq_true rfl) (Nat.le_of_ble_eq_true rfl) dX9_heaviest_68
