theorem ly_inv {k : Int32} (h : ¬ 9 ≤ k) (hi : 0 ≤ k.toInt ∧ k.toInt ≤ 9) : 0 ≤ (k + 1).toInt ∧ (k + 1).toInt ≤ 9 := by
  simp only [i_le, Int32.reduceToInt] at h
  rw [i_inc (by omega)]; omega
theorem ly_m {k : Int32} {nf : Nat} (h : ¬ 9 ≤ k) (hk : 0 ≤ k.toInt ∧ k.toInt ≤ 9) (hm : (9 - k.toInt).toNat < nf + 1) : (9 - (k + 1).toInt).toNat < nf := by
  simp only [i_le, Int32.reduceToInt] at h
  rw [i_inc (by omega)]; omega
theorem ly_k {k : Int32} (h : ¬ 9 ≤ k) (hk : 0 ≤ k.toInt ∧ k.toInt ≤ 9) : vp_in k 9 := by
  simp only [i_le, Int32.reduceToInt] at h
  rw [vp_in_iff]; omega
theorem ly_s {s2 st : Int32} (hs : 0 ≤ s2.toInt ∧ s2.toInt < st.toInt) (h6 : st.toInt ≤ 6) : vp_in s2 6 := by
  rw [vp_in_iff]; omega
set_option maxRecDepth 20000 in
theorem in_X9_lays_X9 : ∀ w ∈ u_ws RX9 TX9 42, w ∈ wsX9_lays := fun _ h => List.mem_cons_of_mem _ (List.mem_append_right _ h)
def l_X9_lays (g : wI → Int32 × wI) : Nat → wI → Int32 → Int32 → Int32 → Int32 × wI
  | 0, I, k, s2, bd => (0, I)
  | nf + 1, I, k, s2, bd => (if 9 ≤ k then (0, I) else (if (((I 68 s2.toNatClampNeg) >>> (k &&& 31)) &&& 1) = 0 then (l_X9_lays g nf I (k + 1) s2 bd) else (if ((I 70 k.toNatClampNeg) + (I 67 s2.toNatClampNeg)) ≤ bd then (if ((g (wU (wU I 70 k.toNatClampNeg ((I 70 k.toNatClampNeg) + (I 67 s2.toNatClampNeg))) 71 s2.toNatClampNeg k)).1) = 0 then (l_X9_lays g nf (wU ((g (wU (wU I 70 k.toNatClampNeg ((I 70 k.toNatClampNeg) + (I 67 s2.toNatClampNeg))) 71 s2.toNatClampNeg k)).2) 70 k.toNatClampNeg ((((g (wU (wU I 70 k.toNatClampNeg ((I 70 k.toNatClampNeg) + (I 67 s2.toNatClampNeg))) 71 s2.toNatClampNeg k)).2) 70 k.toNatClampNeg) - (((g (wU (wU I 70 k.toNatClampNeg ((I 70 k.toNatClampNeg) + (I 67 s2.toNatClampNeg))) 71 s2.toNatClampNeg k)).2) 67 s2.toNatClampNeg))) (k + 1) s2 bd) else (1, (wU ((g (wU (wU I 70 k.toNatClampNeg ((I 70 k.toNatClampNeg) + (I 67 s2.toNatClampNeg))) 71 s2.toNatClampNeg k)).2) 70 k.toNatClampNeg ((((g (wU (wU I 70 k.toNatClampNeg ((I 70 k.toNatClampNeg) + (I 67 s2.toNatClampNeg))) 71 s2.toNatClampNeg k)).2) 70 k.toNatClampNeg) - (((g (wU (wU I 70 k.toNatClampNeg ((I 70 k.toNatClampNeg) + (I 67 s2.toNatClampNeg))) 71 s2.toNatClampNeg k)).2) 67 s2.toNatClampNeg))))) else (l_X9_lays g nf I (k + 1) s2 bd))))
set_option maxHeartbeats 4000000 in
set_option maxRecDepth 100000 in
theorem lt_X9_lays {p : Program} {l : Launch} {e : Env} {R : Room} {s : State} {m : MethodId} {args : Array Value} {below : List Frame} {meth : Method} {c : Code} {D : va_G} {y : Nat → ClassId} {b : Nat} {z : Nat → Nat} {G : wG} {J : wJ} (g : wI → Int32 × wI) (X : wCx p m c cX9_lays 5 s args wsX9_lays yX9_lays.cls D y b) (hst : St z b s) (hL : w_full G)  (hr : meth.sig.returnType = (some .boolean)) (hlk : meth.locks = false) (po : Int32 → wS → Prop) (s2 : Int32) (bd : Int32) {rm : Room} {st : Int32} (hRf : rm.frames + 1 ≤ R.frames) (hRl : 8 + (5 + 11) + rm.locals ≤ R.locals) (hgf : ∀ (I : wI) (q : Nat), q ≠ 70 → q ≠ 71 → (g I).2 q = I q) (hs0 : (0 ≤ s2.toInt ∧ s2.toInt < st.toInt) ∧ st.toInt ≤ 6) (hg : ∀ (I : wI), I 22 39 = st → mI l yX9_lays wsX9_lays { frames := rm.frames, cells := 0, slots := 0, locals := rm.locals } D y b z G I J [.ref (G.1 22), .int (s2 + 1), .int bd] (fun r u => (r = (g I).1 ∧ u.2.1 = (g I).2) ∧ u.1 = G ∧ u.2.2 = J) 0 0) : ∀ (nf : Nat) (I : wI) (k : Int32) (H : Heap) (locs : List Loc) (ls : Array Slot), (I 22 39 = st ∧ 0 ≤ k.toInt ∧ k.toInt ≤ 9) → ((9 - k.toInt).toNat < nf) → Wh D y b G I J s H locs → lv_has ls 5 [(3, .int k), (0, .ref (G.1 22)), (1, .int s2), (2, .int bd)] → po (l_X9_lays g nf I k s2 bd).1 (G, (l_X9_lays g nf I k s2 bd).2, J) → W p l e R s m args below meth c H locs 0 0 (MQ below (va_Qi po (wB D y b) (fun q => b ≤ q)) args s 0 0 (fun q => b ≤ q)) (F0 m 12 ls []) := by
  have hx := X.1.1
  have hb := X.1.2.1
  intro nf
  induction nf with
  | zero => intro I k H locs ls hi hm; exact absurd hm (Nat.not_lt_zero _)
  | succ nf ih =>
    intro I k H locs ls hi hm hw hl hpo
    refine lv_iload_n hx hb dX9_lays_12 rfl (lv_at hl 0 rfl) ?_
    refine lv_bipush (v := 9) hx hb dX9_lays_13 (by decide) ?_
    refine lv_icmp_ge (tgt := 111) hx hb dX9_lays_15 (by decide) (fun c_15 => ?_) (fun c_15 => ?_)
    · refine lv_iconst (v := 0) hx hb dX9_lays_111 (by decide) ?_
      have hp_112 : po 0 (G, I, J) := by
          have el : l_X9_lays g (nf + 1) I k s2 bd = (0, I) := by rw [l_X9_lays]; rw [if_pos c_15]
          rw [el] at hpo
          dsimp only at hpo
          exact hpo
      exact w_zret X hr (by decide) hlk hw hp_112 (Nat.le_of_ble_eq_true rfl) (Nat.le_of_ble_eq_true rfl) dX9_lays_112
    · have hks := ly_k c_15 hi.2
      have hss := ly_s hs0.1 hs0.2
      refine lv_aload_n hx hb dX9_lays_18 rfl (lv_at hl 1 rfl) ?_
      refine w_get X hw 10 38 (hL 22 (by decide)) rfl (by decide) k_X9 in_X9_lays_X9 (by decide) (by decide +kernel) rfl (v := .ref (G.1 68)) rfl dX9_lays_19 ?_
      refine lv_iload_n hx hb dX9_lays_22 rfl (lv_at hl 2 rfl) ?_
      have h_23 : vp_in s2 6 := hss
      refine w_ild X hw (hL 68 (by decide)) rfl h_23 dX9_lays_23 ?_
      refine lv_iload_n hx hb dX9_lays_24 rfl (lv_at hl 0 rfl) ?_
      refine lv_ishr hx hb dX9_lays_25 ?_
      refine lv_iconst (v := 1) hx hb dX9_lays_26 (by decide) ?_
      refine lv_iand hx hb dX9_lays_27 ?_
      refine lv_if_eq (tgt := 105) hx hb dX9_lays_28 (by decide) (fun c_28 => ?_) (fun c_28 => ?_)
      · obtain ⟨x_1, ex_1⟩ : ∃ y : Int32, y = k + 1 := ⟨_, rfl⟩
        refine lv_iinc (v := x_1) (lv' := [(3, .int x_1), (0, .ref (G.1 22)), (1, .int s2), (2, .int bd)]) hx hb dX9_lays_105 hl (k := 0) rfl (by rw [ex_1]; rfl) (by decide) rfl (fun ls hl => ?_)
        refine lv_goto (tgt := 12) hx hb dX9_lays_108 (by decide) ?_
        have hw9 := hw
        have hl9 := hl
        obtain rfl := ex_1.symm
        have el : l_X9_lays g (nf + 1) I k s2 bd = l_X9_lays g nf I (k + 1) s2 bd := by rw [l_X9_lays]; rw [if_neg c_15, if_pos c_28]
        exact ih I (k + 1) _ _ _ (⟨hi.1, ly_inv c_15 hi.2⟩) (ly_m c_15 hi.2 hm) hw9 (lv_sub hl9 [0, 1, 2, 3] rfl) (by rw [← el]; exact hpo)
      · refine lv_aload_n hx hb dX9_lays_31 rfl (lv_at hl 1 rfl) ?_
        refine w_get X hw 10 40 (hL 22 (by decide)) rfl (by decide) k_X9 in_X9_lays_X9 (by decide) (by decide +kernel) rfl (v := .ref (G.1 70)) rfl dX9_lays_32 ?_
        refine lv_iload_n hx hb dX9_lays_35 rfl (lv_at hl 0 rfl) ?_
        have h_36 : vp_in k 9 := hks
        refine w_ild X hw (hL 70 (by decide)) rfl h_36 dX9_lays_36 ?_
        refine lv_aload_n hx hb dX9_lays_37 rfl (lv_at hl 1 rfl) ?_
        refine w_get X hw 10 37 (hL 22 (by decide)) rfl (by decide) k_X9 in_X9_lays_X9 (by decide) (by decide +kernel) rfl (v := .ref (G.1 67)) rfl dX9_lays_38 ?_
        refine lv_iload_n hx hb dX9_lays_41 rfl (lv_at hl 2 rfl) ?_
        have h_42 : vp_in s2 6 := hss
        refine w_ild X hw (hL 67 (by decide)) rfl h_42 dX9_lays_42 ?_
        refine lv_iadd hx hb dX9_lays_43 ?_
        refine lv_iload_n hx hb dX9_lays_44 rfl (lv_at hl 3 rfl) ?_
        refine lv_icmp_le (tgt := 51) hx hb dX9_lays_45 (by decide) (fun c_45 => ?_) (fun c_45 => ?_)
        · refine lv_aload_n hx hb dX9_lays_51 rfl (lv_at hl 1 rfl) ?_
          refine w_get X hw 10 40 (hL 22 (by decide)) rfl (by decide) k_X9 in_X9_lays_X9 (by decide) (by decide +kernel) rfl (v := .ref (G.1 70)) rfl dX9_lays_52 ?_
          refine lv_iload_n hx hb dX9_lays_55 rfl (lv_at hl 0 rfl) ?_
          refine lv_dup2_11 hx hb dX9_lays_56 rfl rfl ?_
          have h_57 : vp_in k 9 := hks
          refine w_ild X hw (hL 70 (by decide)) rfl h_57 dX9_lays_57 ?_
          refine lv_aload_n hx hb dX9_lays_58 rfl (lv_at hl 1 rfl) ?_
          refine w_get X hw 10 37 (hL 22 (by decide)) rfl (by decide) k_X9 in_X9_lays_X9 (by decide) (by decide +kernel) rfl (v := .ref (G.1 67)) rfl dX9_lays_59 ?_
          refine lv_iload_n hx hb dX9_lays_62 rfl (lv_at hl 2 rfl) ?_
          have h_63 : vp_in s2 6 := hss
          refine w_ild X hw (hL 67 (by decide)) rfl h_63 dX9_lays_63 ?_
          refine lv_iadd hx hb dX9_lays_64 ?_
          refine lv_topi (fun x_2 ex_2 => ?_)
          have h_65 : vp_in k 9 := hks
          refine w_ist X hw (hL 70 (by decide)) rfl h_65 dX9_lays_65 (fun H locs hw => ?_)
          refine lv_aload_n hx hb dX9_lays_66 rfl (lv_at hl 1 rfl) ?_
          refine w_get X hw 10 41 (hL 22 (by decide)) rfl (by decide) k_X9 in_X9_lays_X9 (by decide) (by decide +kernel) rfl (v := .ref (G.1 71)) rfl dX9_lays_67 ?_
          refine lv_iload_n hx hb dX9_lays_70 rfl (lv_at hl 2 rfl) ?_
          refine lv_iload_n hx hb dX9_lays_71 rfl (lv_at hl 0 rfl) ?_
          have h_72 : vp_in s2 6 := hss
          refine w_ist X hw (hL 71 (by decide)) rfl h_72 dX9_lays_72 (fun H locs hw => ?_)
          refine lv_aload_n hx hb dX9_lays_73 rfl (lv_at hl 1 rfl) ?_
          refine lv_iload_n hx hb dX9_lays_74 rfl (lv_at hl 2 rfl) ?_
          refine lv_iconst (v := 1) hx hb dX9_lays_75 (by decide) ?_
          refine lv_iadd hx hb dX9_lays_76 ?_
          refine lv_iload_n hx hb dX9_lays_77 rfl (lv_at hl 3 rfl) ?_
          refine w_callVi (As := [.int (s2 + 1), .int bd]) (rest := []) X hw hst hl (hg (wU (wU I 70 k.toNatClampNeg x_2) 71 s2.toNatClampNeg k) hi.1) (cwV 2 X.1.2.2.2.2 gX9_lays_X9_lays rfl rfl rfl (by decide +kernel) ⟨hRf, hRl⟩) (w_recv X hw (hL 22 (by decide)) rfl (by decide) k_X9) rfl rfl (Nat.le_of_ble_eq_true rfl) dX9_lays_78 ⟨Nat.zero_le _, Nat.zero_le _⟩ (fun r_78_3 u H locs hp_78 hw => ?_)
          obtain ⟨G_78_3, I_78_3, J_78_3⟩ := u
          dsimp only at hw hp_78
          obtain ⟨⟨hp_78, hI_78_3⟩, eG_78, eJ_78⟩ := hp_78
          subst G_78_3 J_78_3
          refine lv_istore (lv' := [(4, .int r_78_3), (3, .int k), (0, .ref (G.1 22)), (1, .int s2), (2, .int bd)]) hx hb dX9_lays_81 hl (by decide) rfl (fun ls hl => ?_)
          refine lv_aload_n hx hb dX9_lays_83 rfl (lv_at hl 2 rfl) ?_
          refine w_get X hw 10 40 (hL 22 (by decide)) rfl (by decide) k_X9 in_X9_lays_X9 (by decide) (by decide +kernel) rfl (v := .ref (G.1 70)) rfl dX9_lays_84 ?_
          refine lv_iload_n hx hb dX9_lays_87 rfl (lv_at hl 1 rfl) ?_
          refine lv_dup2_11 hx hb dX9_lays_88 rfl rfl ?_
          have h_89 : vp_in k 9 := hks
          refine w_ild X hw (hL 70 (by decide)) rfl h_89 dX9_lays_89 ?_
          refine lv_aload_n hx hb dX9_lays_90 rfl (lv_at hl 2 rfl) ?_
          refine w_get X hw 10 37 (hL 22 (by decide)) rfl (by decide) k_X9 in_X9_lays_X9 (by decide) (by decide +kernel) rfl (v := .ref (G.1 67)) rfl dX9_lays_91 ?_
          refine lv_iload_n hx hb dX9_lays_94 rfl (lv_at hl 3 rfl) ?_
          have h_95 : vp_in s2 6 := hss
          refine w_ild X hw (hL 67 (by decide)) rfl h_95 dX9_lays_95 ?_
          refine lv_isub hx hb dX9_lays_96 ?_
          refine lv_topi (fun x_4 ex_4 => ?_)
          have h_97 : vp_in k 9 := hks
          refine w_ist X hw (hL 70 (by decide)) rfl h_97 dX9_lays_97 (fun H locs hw => ?_)
          refine lv_iload hx hb dX9_lays_98 (lv_at hl 0 rfl) ?_
          refine lv_if_eq (tgt := 105) hx hb dX9_lays_100 (by decide) (fun c_100 => ?_) (fun c_100 => ?_)
          · obtain ⟨x_5, ex_5⟩ : ∃ y : Int32, y = k + 1 := ⟨_, rfl⟩
            refine lv_iinc (v := x_5) (lv' := [(3, .int x_5), (4, .int r_78_3), (0, .ref (G.1 22)), (1, .int s2), (2, .int bd)]) hx hb dX9_lays_105 hl (k := 1) rfl (by rw [ex_5]; rfl) (by decide) rfl (fun ls hl => ?_)
            refine lv_goto (tgt := 12) hx hb dX9_lays_108 (by decide) ?_
            have hw9 := hw
            have hl9 := hl
            obtain rfl := ex_2.symm
            obtain rfl := hI_78_3.symm
            obtain rfl := hp_78.symm
            obtain rfl := ex_4.symm
            obtain rfl := ex_5.symm
            have el : l_X9_lays g (nf + 1) I k s2 bd = l_X9_lays g nf (wU ((g (wU (wU I 70 k.toNatClampNeg ((I 70 k.toNatClampNeg) + (I 67 s2.toNatClampNeg))) 71 s2.toNatClampNeg k)).2) 70 k.toNatClampNeg ((((g (wU (wU I 70 k.toNatClampNeg ((I 70 k.toNatClampNeg) + (I 67 s2.toNatClampNeg))) 71 s2.toNatClampNeg k)).2) 70 k.toNatClampNeg) - (((g (wU (wU I 70 k.toNatClampNeg ((I 70 k.toNatClampNeg) + (I 67 s2.toNatClampNeg))) 71 s2.toNatClampNeg k)).2) 67 s2.toNatClampNeg))) (k + 1) s2 bd := by rw [l_X9_lays]; rw [if_neg c_15, if_neg c_28, if_pos c_45, if_pos c_100]
            exact ih (wU ((g (wU (wU I 70 k.toNatClampNeg ((I 70 k.toNatClampNeg) + (I 67 s2.toNatClampNeg))) 71 s2.toNatClampNeg k)).2) 70 k.toNatClampNeg ((((g (wU (wU I 70 k.toNatClampNeg ((I 70 k.toNatClampNeg) + (I 67 s2.toNatClampNeg))) 71 s2.toNatClampNeg k)).2) 70 k.toNatClampNeg) - (((g (wU (wU I 70 k.toNatClampNeg ((I 70 k.toNatClampNeg) + (I 67 s2.toNatClampNeg))) 71 s2.toNatClampNeg k)).2) 67 s2.toNatClampNeg))) (k + 1) _ _ _ (by rw [show ∀ (q v : _) (I9 : wI), wU I9 70 q v 22 = I9 22 from fun _ _ _ => rfl, hgf _ 22 (by decide) (by decide)]; exact ⟨hi.1, ly_inv c_15 hi.2⟩) (ly_m c_15 hi.2 hm) hw9 (lv_sub hl9 [0, 2, 3, 4] rfl) (by rw [← el]; exact hpo)
          · refine lv_iconst (v := 1) hx hb dX9_lays_103 (by decide) ?_
            have hp_104 : po 1 (G, (wU I_78_3 70 k.toNatClampNeg x_4), J) := by
                obtain rfl := ex_2.symm
                obtain rfl := hI_78_3.symm
                obtain rfl := hp_78.symm
                obtain rfl := ex_4.symm
                have el : l_X9_lays g (nf + 1) I k s2 bd = (1, (wU ((g (wU (wU I 70 k.toNatClampNeg ((I 70 k.toNatClampNeg) + (I 67 s2.toNatClampNeg))) 71 s2.toNatClampNeg k)).2) 70 k.toNatClampNeg ((((g (wU (wU I 70 k.toNatClampNeg ((I 70 k.toNatClampNeg) + (I 67 s2.toNatClampNeg))) 71 s2.toNatClampNeg k)).2) 70 k.toNatClampNeg) - (((g (wU (wU I 70 k.toNatClampNeg ((I 70 k.toNatClampNeg) + (I 67 s2.toNatClampNeg))) 71 s2.toNatClampNeg k)).2) 67 s2.toNatClampNeg)))) := by rw [l_X9_lays]; rw [if_neg c_15, if_neg c_28, if_pos c_45, if_neg c_100]
                rw [el] at hpo
                dsimp only at hpo
                exact hpo
            exact w_zret X hr (by decide) hlk hw hp_104 (Nat.le_of_ble_eq_true rfl) (Nat.le_of_ble_eq_true rfl) dX9_lays_104
        · refine lv_goto (tgt := 105) hx hb dX9_lays_48 (by decide) ?_
          obtain ⟨x_6, ex_6⟩ : ∃ y : Int32, y = k + 1 := ⟨_, rfl⟩
          refine lv_iinc (v := x_6) (lv' := [(3, .int x_6), (0, .ref (G.1 22)), (1, .int s2), (2, .int bd)]) hx hb dX9_lays_105 hl (k := 0) rfl (by rw [ex_6]; rfl) (by decide) rfl (fun ls hl => ?_)
          refine lv_goto (tgt := 12) hx hb dX9_lays_108 (by decide) ?_
          have hw9 := hw
          have hl9 := hl
          obtain rfl := ex_6.symm
          have el : l_X9_lays g (nf + 1) I k s2 bd = l_X9_lays g nf I (k + 1) s2 bd := by rw [l_X9_lays]; rw [if_neg c_15, if_neg c_28, if_neg c_45]
          exact ih I (k + 1) _ _ _ (⟨hi.1, ly_inv c_15 hi.2⟩) (ly_m c_15 hi.2 hm) hw9 (lv_sub hl9 [0, 1, 2, 3] rfl) (by rw [← el]; exact hpo)
theorem frl_X9_lays {g : wI → Int32 × wI} (hgf : ∀ (I : wI) (q : Nat), q ≠ 70 → q ≠ 71 → (g I).2 q = I q) : ∀ (nf : Nat) (I : wI) (k s2 bd : Int32) (q : Nat), q ≠ 70 → q ≠ 71 → (l_X9_lays g nf I k s2 bd).2 q = I q := by
  intro nf
  induction nf with
  | zero => intros; rfl
  | succ nf ih =>
    intro I k s2 bd q h1 h2
    rw [l_X9_lays]
    repeat' split
    all_goals first | rfl | (rw [ih _ _ _ _ q h1 h2]; done) | (rw [ih _ _ _ _ q h1 h2]; simp only [wU_ne _ _ _ h1, wU_ne _ _ _ h2, hgf _ q h1 h2]) | (simp only [wU_ne _ _ _ h1, wU_ne _ _ _ h2, hgf _ q h1 h2])
def f_X9_lays : Nat → wI → Int32 → Int32 → Int32 × wI
  | 0, I, _, _ => (0, I)
  | d + 1, I, s2, bd => if s2 = I 22 39 then (1, I) else l_X9_lays (fun I' => f_X9_lays d I' (s2 + 1) bd) 10 I 0 s2 bd
theorem fr_f_X9_lays : ∀ (d : Nat) (I : wI) (s2 bd : Int32) (q : Nat), q ≠ 70 → q ≠ 71 → (f_X9_lays d I s2 bd).2 q = I q := by
  intro d
  induction d with
  | zero => intros; rfl
  | succ d ih =>
    intro I s2 bd q h1 h2
    rw [f_X9_lays]
    split
    · rfl
    · exact frl_X9_lays (fun I q h1 h2 => ih I (s2 + 1) bd q h1 h2) 10 I 0 s2 bd q h1 h2
theorem ly_lt {s2 st : Int32} (h : ¬ s2 = st) (h1 : s2.toInt ≤ st.toInt) : s2.toInt < st.toInt := by
  have : ¬ s2.toInt = st.toInt := fun e => h (i_eq.mpr e)
  omega
theorem ly_nx {s2 st : Int32} {d : Nat} (hs : 0 ≤ s2.toInt ∧ s2.toInt < st.toInt) (h6 : st.toInt ≤ 6) (hd : (st.toInt - s2.toInt).toNat < d + 1) : 0 ≤ (s2 + 1).toInt ∧ (s2 + 1).toInt ≤ st.toInt ∧ st.toInt ≤ 6 ∧ (st.toInt - (s2 + 1).toInt).toNat < d := by
  rw [i_inc (by omega)]; omega
theorem rm_24 (d : Nat) : 8 + (5 + 11) + 24 * d ≤ 24 * (d + 1) := by omega
set_option maxHeartbeats 4000000 in
set_option maxRecDepth 100000 in
theorem c_X9_lays (l : Launch) (D : va_G) (y : Nat → ClassId) (b : Nat) (z : Nat → Nat) (G : wG) (J : wJ) (hL : w_full G) : ∀ (d : Nat) (I : wI) (s2 bd : Int32), (0 ≤ s2.toInt ∧ s2.toInt ≤ (I 22 39).toInt ∧ (I 22 39).toInt ≤ 6 ∧ ((I 22 39).toInt - s2.toInt).toNat < d) → mI l yX9_lays wsX9_lays { frames := d, cells := 0, slots := 0, locals := 24 * d } D y b z G I J [.ref (G.1 22), .int s2, .int bd] (fun r u => (r = (f_X9_lays d I s2 bd).1 ∧ u.2.1 = (f_X9_lays d I s2 bd).2) ∧ u.1 = G ∧ u.2.2 = J) 0 0 := by
  intro d
  induction d with
  | zero => intro I s2 bd h; exact absurd h.2.2.2 (Nat.not_lt_zero _)
  | succ d ih =>
    intro I s2 bd hp
    refine w_enter (by decide) rfl (Nat.le_of_ble_eq_true rfl) rfl ?_
    intro p e s m below meth c ls X hr hlk hnm hw hst hl
    have hx := X.1.1
    have hb := X.1.2.1
    refine lv_iload_n hx hb dX9_lays_0 rfl (lv_at hl 1 rfl) ?_
    refine lv_aload_n hx hb dX9_lays_1 rfl (lv_at hl 0 rfl) ?_
    refine w_get X hw 10 39 (hL 22 (by decide)) rfl (by decide) k_X9 in_X9_lays_X9 (by decide) (by decide +kernel) rfl (v := .int (I 22 39)) rfl dX9_lays_2 ?_
    refine lv_icmp_ne (tgt := 10) hx hb dX9_lays_5 (by decide) (fun c_5 => ?_) (fun c_5 => ?_)
    · refine lv_iconst (v := 0) hx hb dX9_lays_10 (by decide) ?_
      refine lv_istore_n (lv' := [(3, .int 0), (0, .ref (G.1 22)), (1, .int s2), (2, .int bd)]) hx hb dX9_lays_11 rfl hl (by decide) rfl (fun ls hl => ?_)
      exact lt_X9_lays (rm := { frames := d, cells := 0, slots := 0, locals := 24 * d }) (fun I' => f_X9_lays d I' (s2 + 1) bd) X hst hL hr hlk _ s2 bd (Nat.le_refl _) (rm_24 d) (fun I q h1 h2 => fr_f_X9_lays d I (s2 + 1) bd q h1 h2) ⟨⟨hp.1, ly_lt c_5 hp.2.1⟩, hp.2.2.1⟩ (fun I' h => ih I' (s2 + 1) bd (by rw [h]; exact ly_nx ⟨hp.1, ly_lt c_5 hp.2.1⟩ hp.2.2.1 hp.2.2.2)) 10 I 0 _ _ _ ⟨rfl, by decide, by decide⟩ (by decide) hw (lv_sub hl [0, 1, 2, 3] rfl) ⟨⟨by rw [f_X9_lays, if_neg c_5], by rw [f_X9_lays, if_neg c_5]⟩, rfl, rfl⟩
    · refine lv_iconst (v := 1) hx hb dX9_lays_8 (by decide) ?_
      have hp_9 : (fun (r : Int32) (u : wS) => (r = (f_X9_lays (d + 1) I s2 bd).1 ∧ u.2.1 = (f_X9_lays (d + 1) I s2 bd).2) ∧ u.1 = G ∧ u.2.2 = J) 1 (G, I, J) := ⟨⟨by rw [f_X9_lays, if_pos c_5], by rw [f_X9_lays, if_pos c_5]⟩, rfl, rfl⟩
      exact w_zret X hr (by decide) hlk hw hp_9 (Nat.le_of_ble_eq_true rfl) (Nat.le_of_ble_eq_true rfl) dX9_lays_9
