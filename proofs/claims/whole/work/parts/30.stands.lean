def f_X5_tryYear (g : wI → Int32 → wI) (I : wI) (s2 k bu : Int32) : wI := (if (I 16 6) ≤ (if bu < ((I 19 k.toNatClampNeg) + (I 17 s2.toNatClampNeg)) then ((I 19 k.toNatClampNeg) + (I 17 s2.toNatClampNeg)) else bu) then I else (wU (g (wU (wU I 20 s2.toNatClampNeg k) 19 k.toNatClampNeg ((I 19 k.toNatClampNeg) + (I 17 s2.toNatClampNeg))) (if bu < ((I 19 k.toNatClampNeg) + (I 17 s2.toNatClampNeg)) then ((I 19 k.toNatClampNeg) + (I 17 s2.toNatClampNeg)) else bu)) 19 k.toNatClampNeg (I 19 k.toNatClampNeg)))
set_option maxRecDepth 20000 in
theorem in_X5_tryYear_X5 : ∀ w ∈ u_ws RX5 TX5 8, w ∈ wsX5_tryYear := fun _ h => List.mem_cons_of_mem _ (List.mem_append_right _ h)
set_option maxHeartbeats 4000000 in
set_option maxRecDepth 100000 in
theorem c_X5_tryYear (l : Launch) (D : va_G) (y : Nat → ClassId) (b : Nat) (z : Nat → Nat) (G : wG) (I : wI) (J : wJ) (hL : w_full G) (g : wI → Int32 → wI) (s2 k bu : Int32) (hs : vp_in s2 6) (hk : vp_in k 9) {rm : Room} {sz : Int32} (hz : I 16 5 = sz)
    (hg : ∀ (I : wI) (gr : Int32), I 16 5 = sz → mV l yX5_tryFrom wsX5_tryFrom { frames := rm.frames, cells := 0, slots := 0, locals := rm.locals } D y b z G I J [.ref (G.1 16), .int (s2 + 1), .int gr] (fun u => u.2.1 = g I gr ∧ u.1 = G ∧ u.2.2 = J) 0 0) :
    mV l yX5_tryYear wsX5_tryYear { frames := rm.frames + 1, cells := 0, slots := 0, locals := 8 + (4 + 11) + rm.locals } D y b z G I J [.ref (G.1 16), .int s2, .int k, .int bu] (fun u => u.2.1 = f_X5_tryYear g I s2 k bu ∧ u.1 = G ∧ u.2.2 = J) 0 0 := by
  refine w_enter (by decide) rfl (Nat.le_of_ble_eq_true rfl) rfl ?_
  intro p e s m below meth c ls X hr hlk hnm hw hst hl
  have hx := X.1.1
  have hb := X.1.2.1
  have hRf : 1 ≤ rm.frames + 1 := Nat.le_add_left _ _
  have hRl : 21 ≤ 8 + (4 + 11) + rm.locals := Nat.le_trans (by decide) (Nat.le_add_right _ _)
  have hRc : 0 ≤ 0 := Nat.le_refl _
  have hRs : 0 ≤ 0 := Nat.le_refl _
  refine lv_aload_n hx hb dX5_tryYear_0 rfl (lv_at hl 0 rfl) ?_
  refine w_get X hw 6 2 (hL 16 (by decide)) rfl (by decide) k_X5 in_X5_tryYear_X5 (by decide) (by decide +kernel) rfl (v := .ref (G.1 19)) rfl dX5_tryYear_1 ?_
  refine lv_iload_n hx hb dX5_tryYear_4 rfl (lv_at hl 2 rfl) ?_
  have h_5 : vp_in k 9 := hk
  refine w_ild X hw (hL 19 (by decide)) rfl h_5 dX5_tryYear_5 ?_
  refine lv_topi (fun x_1 ex_1 => ?_)
  refine lv_istore (lv' := [(4, .int x_1), (0, .ref (G.1 16)), (1, .int s2), (2, .int k), (3, .int bu)]) hx hb dX5_tryYear_6 hl (by decide) rfl (fun ls hl => ?_)
  refine lv_iload_n hx hb dX5_tryYear_8 rfl (lv_at hl 4 rfl) ?_
  refine lv_iload hx hb dX5_tryYear_9 (lv_at hl 0 rfl) ?_
  refine lv_aload_n hx hb dX5_tryYear_11 rfl (lv_at hl 1 rfl) ?_
  refine w_get X hw 6 0 (hL 16 (by decide)) rfl (by decide) k_X5 in_X5_tryYear_X5 (by decide) (by decide +kernel) rfl (v := .ref (G.1 17)) rfl dX5_tryYear_12 ?_
  refine lv_iload_n hx hb dX5_tryYear_15 rfl (lv_at hl 2 rfl) ?_
  have h_16 : vp_in s2 6 := hs
  refine w_ild X hw (hL 17 (by decide)) rfl h_16 dX5_tryYear_16 ?_
  refine lv_iadd hx hb dX5_tryYear_17 ?_
  refine va_mmax hx hb (by rw [X.1.2.2.1]; exact hl.1.symm) X.1.2.2.2.1 (X.1.2.2.2.2 (.methodLink RX5 52 Lib.Math.max.name) (by decide +kernel)) (X.1.2.2.2.2 (.static Lib.Math.max.name) (by decide +kernel)) (X.1.2.2.2.2 (.initialized "java/lang/Math") (by decide +kernel)) (X.1.2.2.2.2 (.code Lib.Math.max.name Lib.Math.max.code 2 (some .int)) (by decide +kernel)) (Nat.le_trans (Nat.le_of_ble_eq_true rfl) hRf) (Nat.le_trans (Nat.le_of_ble_eq_true rfl) hRl) hRc hRs dX5_tryYear_18 ?_
  refine lv_topi (fun x_2 ex_2 => ?_)
  refine lv_istore (lv' := [(5, .int x_2), (4, .int x_1), (0, .ref (G.1 16)), (1, .int s2), (2, .int k), (3, .int bu)]) hx hb dX5_tryYear_21 hl (by decide) rfl (fun ls hl => ?_)
  refine lv_iload hx hb dX5_tryYear_23 (lv_at hl 0 rfl) ?_
  refine lv_aload_n hx hb dX5_tryYear_25 rfl (lv_at hl 2 rfl) ?_
  refine w_get X hw 6 6 (hL 16 (by decide)) rfl (by decide) k_X5 in_X5_tryYear_X5 (by decide) (by decide +kernel) rfl (v := .int (I 16 6)) rfl dX5_tryYear_26 ?_
  refine lv_icmp_ge (tgt := 71) hx hb dX5_tryYear_29 (by decide) (fun c_29 => ?_) (fun c_29 => ?_)
  · have hp_71 : (fun (u : wS) => u.2.1 = f_X5_tryYear g I s2 k bu ∧ u.1 = G ∧ u.2.2 = J) (G, I, J) := by
        obtain rfl := ex_1.symm
        obtain rfl := ex_2.symm
        refine ⟨?_, rfl, rfl⟩
        show _ = f_X5_tryYear g I s2 k bu
        rw [f_X5_tryYear, if_pos c_29]
    exact w_vret X hr hlk hw hp_71 (Nat.le_of_ble_eq_true rfl) (Nat.le_of_ble_eq_true rfl) dX5_tryYear_71
  · refine lv_aload_n hx hb dX5_tryYear_32 rfl (lv_at hl 2 rfl) ?_
    refine w_get X hw 6 3 (hL 16 (by decide)) rfl (by decide) k_X5 in_X5_tryYear_X5 (by decide) (by decide +kernel) rfl (v := .ref (G.1 20)) rfl dX5_tryYear_33 ?_
    refine lv_iload_n hx hb dX5_tryYear_36 rfl (lv_at hl 3 rfl) ?_
    refine lv_iload_n hx hb dX5_tryYear_37 rfl (lv_at hl 4 rfl) ?_
    have h_38 : vp_in s2 6 := hs
    refine w_ist X hw (hL 20 (by decide)) rfl h_38 dX5_tryYear_38 (fun H locs hw => ?_)
    refine lv_aload_n hx hb dX5_tryYear_39 rfl (lv_at hl 2 rfl) ?_
    refine w_get X hw 6 2 (hL 16 (by decide)) rfl (by decide) k_X5 in_X5_tryYear_X5 (by decide) (by decide +kernel) rfl (v := .ref (G.1 19)) rfl dX5_tryYear_40 ?_
    refine lv_iload_n hx hb dX5_tryYear_43 rfl (lv_at hl 4 rfl) ?_
    refine lv_iload hx hb dX5_tryYear_44 (lv_at hl 1 rfl) ?_
    refine lv_aload_n hx hb dX5_tryYear_46 rfl (lv_at hl 2 rfl) ?_
    refine w_get X hw 6 0 (hL 16 (by decide)) rfl (by decide) k_X5 in_X5_tryYear_X5 (by decide) (by decide +kernel) rfl (v := .ref (G.1 17)) rfl dX5_tryYear_47 ?_
    refine lv_iload_n hx hb dX5_tryYear_50 rfl (lv_at hl 3 rfl) ?_
    have h_51 : vp_in s2 6 := hs
    refine w_ild X hw (hL 17 (by decide)) rfl h_51 dX5_tryYear_51 ?_
    refine W.eq (g2 := F0 m 52 ls [.int (I 17 s2.toNatClampNeg), .int x_1, .int k, .ref (G.1 19)]) rfl ?_
    refine lv_iadd hx hb dX5_tryYear_52 ?_
    refine lv_topi (fun x_3 ex_3 => ?_)
    have h_53 : vp_in k 9 := hk
    refine w_ist X hw (hL 19 (by decide)) rfl h_53 dX5_tryYear_53 (fun H locs hw => ?_)
    refine lv_aload_n hx hb dX5_tryYear_54 rfl (lv_at hl 2 rfl) ?_
    refine lv_iload_n hx hb dX5_tryYear_55 rfl (lv_at hl 3 rfl) ?_
    refine lv_iconst (v := 1) hx hb dX5_tryYear_56 (by decide) ?_
    refine lv_iadd hx hb dX5_tryYear_57 ?_
    refine lv_iload hx hb dX5_tryYear_58 (lv_at hl 0 rfl) ?_
    refine w_callVv (As := [.int (s2 + 1), .int x_2]) (rest := []) X hw hst hl (hg (wU (wU I 20 s2.toNatClampNeg k) 19 k.toNatClampNeg x_3) x_2 hz) (cwV 2 X.1.2.2.2.2 gX5_tryYear_X5_tryFrom rfl rfl rfl (by decide +kernel) ⟨Nat.le_refl _, Nat.le_refl _⟩) (w_recv X hw (hL 16 (by decide)) rfl (by decide) k_X5) rfl rfl (Nat.le_of_ble_eq_true rfl) dX5_tryYear_60 ⟨Nat.zero_le _, Nat.zero_le _⟩ (fun u H locs hp_60 hw => ?_)
    obtain ⟨G_60_4, I_60_4, J_60_4⟩ := u
    dsimp only at hw hp_60
    obtain ⟨hI_60_4, eG_60, eJ_60⟩ := hp_60
    subst G_60_4 J_60_4
    refine lv_aload_n hx hb dX5_tryYear_63 rfl (lv_at hl 2 rfl) ?_
    refine w_get X hw 6 2 (hL 16 (by decide)) rfl (by decide) k_X5 in_X5_tryYear_X5 (by decide) (by decide +kernel) rfl (v := .ref (G.1 19)) rfl dX5_tryYear_64 ?_
    refine lv_iload_n hx hb dX5_tryYear_67 rfl (lv_at hl 4 rfl) ?_
    refine lv_iload hx hb dX5_tryYear_68 (lv_at hl 1 rfl) ?_
    have h_70 : vp_in k 9 := hk
    refine w_ist X hw (hL 19 (by decide)) rfl h_70 dX5_tryYear_70 (fun H locs hw => ?_)
    have hp_71 : (fun (u : wS) => u.2.1 = f_X5_tryYear g I s2 k bu ∧ u.1 = G ∧ u.2.2 = J) (G, (wU I_60_4 19 k.toNatClampNeg x_1), J) := by
        obtain rfl := ex_1.symm
        obtain rfl := ex_2.symm
        obtain rfl := ex_3.symm
        obtain rfl := hI_60_4.symm
        refine ⟨?_, rfl, rfl⟩
        show _ = f_X5_tryYear g I s2 k bu
        rw [f_X5_tryYear, if_neg c_29]
    exact w_vret X hr hlk hw hp_71 (Nat.le_of_ble_eq_true rfl) (Nat.le_of_ble_eq_true rfl) dX5_tryYear_71
set_option maxRecDepth 20000 in
theorem in_X5_tryFrom_X5 : ∀ w ∈ u_ws RX5 TX5 8, w ∈ wsX5_tryFrom := fun _ h => List.mem_cons_of_mem _ (List.mem_append_right _ h)
def l_X5_tryFrom (g : wI → Int32 → wI) : Nat → wI → Int32 → Int32 → Int32 → wI × Int32
  | 0, I, k, s2, bu => (I, k)
  | nf + 1, I, k, s2, bu => (if 9 ≤ k then (I, k) else (if (((I 18 s2.toNatClampNeg) >>> (k &&& 31)) &&& 1) = 1 then (l_X5_tryFrom g nf (g I k) (k + 1) s2 bu) else (l_X5_tryFrom g nf I (k + 1) s2 bu)))
set_option maxHeartbeats 4000000 in
set_option maxRecDepth 100000 in
theorem lp_X5_tryFrom {p : Program} {l : Launch} {e : Env} {R : Room} {s : State} {m : MethodId} {args : Array Value} {below : List Frame} {meth : Method} {c : Code} {cells slots : Nat} {Q : State → Prop} {D : va_G} {y : Nat → ClassId} {b : Nat} {z : Nat → Nat} {G : wG} {J : wJ} (g : wI → Int32 → wI) (X : wCx p m c cX5_tryFrom 4 s args wsX5_tryFrom yX5_tryFrom.cls D y b) (hst : St z b s) (hL : w_full G) (hRf : 1 ≤ R.frames) (hRl : 25 ≤ R.locals) (hRc : cells ≤ R.cells) (hRs : slots ≤ R.slots) (s2 : Int32) (bu : Int32) {rm : Room} {sz : Int32} (hs : vp_in s2 6) (hRf9 : rm.frames + 1 ≤ R.frames) (hRl9 : 8 + (6 + 11) + rm.locals ≤ R.locals) (hgf : ∀ (I : wI) (k : Int32), g I k 16 5 = I 16 5) (hy : ∀ (I : wI) (k : Int32), vp_in k 9 → I 16 5 = sz → mV l yX5_tryYear wsX5_tryYear { frames := rm.frames, cells := 0, slots := 0, locals := rm.locals } D y b z G I J [.ref (G.1 16), .int s2, .int k, .int bu] (fun u => u.2.1 = g I k ∧ u.1 = G ∧ u.2.2 = J) 0 0) : ∀ (nf : Nat) (I : wI) (k : Int32) (H : Heap) (locs : List Loc) (ls : Array Slot), (I 16 5 = sz ∧ 0 ≤ k.toInt ∧ k.toInt ≤ 9) → ((9 - k.toInt).toNat < nf) → Wh D y b G I J s H locs → lv_has ls 4 [(3, .int k), (0, .ref (G.1 16)), (1, .int s2), (2, .int bu)] → (∀ (H : Heap) (locs : List Loc) (ls : Array Slot), Wh D y b G (l_X5_tryFrom g nf I k s2 bu).1 J s H locs → lv_has ls 4 [(3, .int (l_X5_tryFrom g nf I k s2 bu).2), (0, .ref (G.1 16)), (1, .int s2), (2, .int bu)] → W p l e R s m args below meth c H locs cells slots Q (F0 m 55 ls [])) → W p l e R s m args below meth c H locs cells slots Q (F0 m 22 ls []) := by
  have hx := X.1.1
  have hb := X.1.2.1
  intro nf
  induction nf with
  | zero => intro I k H locs ls hi hm; exact absurd hm (by omega)
  | succ nf ih =>
    intro I k H locs ls hi hm hw hl kk
    refine lv_iload_n hx hb dX5_tryFrom_22 rfl (lv_at hl 0 rfl) ?_
    refine lv_bipush (v := 9) hx hb dX5_tryFrom_23 (by decide) ?_
    refine lv_icmp_ge (tgt := 55) hx hb dX5_tryFrom_25 (by decide) (fun c_25 => ?_) (fun c_25 => ?_)
    · have hw9 := hw
      have hl9 := hl
      have el : l_X5_tryFrom g (nf + 1) I k s2 bu = (I, k) := by rw [l_X5_tryFrom]; rw [if_pos c_25]
      exact kk _ _ _ (by rw [el]; exact hw9) (by rw [el]; exact (lv_sub hl9 [0, 1, 2, 3] rfl))
    · refine lv_aload_n hx hb dX5_tryFrom_28 rfl (lv_at hl 1 rfl) ?_
      refine w_get X hw 6 1 (hL 16 (by decide)) rfl (by decide) k_X5 in_X5_tryFrom_X5 (by decide) (by decide +kernel) rfl (v := .ref (G.1 18)) rfl dX5_tryFrom_29 ?_
      refine lv_iload_n hx hb dX5_tryFrom_32 rfl (lv_at hl 2 rfl) ?_
      have h_33 : vp_in s2 6 := hs
      refine w_ild X hw (hL 18 (by decide)) rfl h_33 dX5_tryFrom_33 ?_
      refine lv_iload_n hx hb dX5_tryFrom_34 rfl (lv_at hl 0 rfl) ?_
      refine lv_ishr hx hb dX5_tryFrom_35 ?_
      refine lv_iconst (v := 1) hx hb dX5_tryFrom_36 (by decide) ?_
      refine lv_iand hx hb dX5_tryFrom_37 ?_
      refine lv_iconst (v := 1) hx hb dX5_tryFrom_38 (by decide) ?_
      refine lv_icmp_ne (tgt := 49) hx hb dX5_tryFrom_39 (by decide) (fun c_39 => ?_) (fun c_39 => ?_)
      · obtain ⟨x_1, ex_1⟩ : ∃ y : Int32, y = k + 1 := ⟨_, rfl⟩
        refine lv_iinc (v := x_1) (lv' := [(3, .int x_1), (0, .ref (G.1 16)), (1, .int s2), (2, .int bu)]) hx hb dX5_tryFrom_49 hl (k := 0) rfl (by rw [ex_1]; rfl) (by decide) rfl (fun ls hl => ?_)
        refine lv_goto (tgt := 22) hx hb dX5_tryFrom_52 (by decide) ?_
        have hw9 := hw
        have hl9 := hl
        obtain rfl := ex_1.symm
        have el : l_X5_tryFrom g (nf + 1) I k s2 bu = l_X5_tryFrom g nf I (k + 1) s2 bu := by rw [l_X5_tryFrom]; rw [if_neg c_25, if_neg c_39]
        exact ih I (k + 1) _ _ _ (⟨hi.1, c9_inv c_25 hi.2⟩) (c9_m c_25 hi.2 hm) hw9 (lv_sub hl9 [0, 1, 2, 3] rfl) (fun H locs ls hw hl => kk H locs ls (by rw [el]; exact hw) (by rw [el]; exact hl))
      · refine lv_aload_n hx hb dX5_tryFrom_42 rfl (lv_at hl 1 rfl) ?_
        refine lv_iload_n hx hb dX5_tryFrom_43 rfl (lv_at hl 2 rfl) ?_
        refine lv_iload_n hx hb dX5_tryFrom_44 rfl (lv_at hl 0 rfl) ?_
        refine lv_iload_n hx hb dX5_tryFrom_45 rfl (lv_at hl 3 rfl) ?_
        refine w_callVv (As := [.int s2, .int k, .int bu]) (rest := []) X hw hst hl (hy I k (c9_i c_25 hi.2) hi.1) (cwV 3 X.1.2.2.2.2 gX5_tryFrom_X5_tryYear rfl rfl rfl (by decide +kernel) ⟨hRf9, hRl9⟩) (w_recv X hw (hL 16 (by decide)) rfl (by decide) k_X5) rfl rfl (Nat.le_of_ble_eq_true rfl) dX5_tryFrom_46 ⟨hRc, hRs⟩ (fun u H locs hp_46 hw => ?_)
        obtain ⟨G_46_2, I_46_2, J_46_2⟩ := u
        dsimp only at hw hp_46
        obtain ⟨hI_46_2, eG_46, eJ_46⟩ := hp_46
        subst G_46_2 J_46_2
        obtain ⟨x_3, ex_3⟩ : ∃ y : Int32, y = k + 1 := ⟨_, rfl⟩
        refine lv_iinc (v := x_3) (lv' := [(3, .int x_3), (0, .ref (G.1 16)), (1, .int s2), (2, .int bu)]) hx hb dX5_tryFrom_49 hl (k := 0) rfl (by rw [ex_3]; rfl) (by decide) rfl (fun ls hl => ?_)
        refine lv_goto (tgt := 22) hx hb dX5_tryFrom_52 (by decide) ?_
        have hw9 := hw
        have hl9 := hl
        obtain rfl := hI_46_2.symm
        obtain rfl := ex_3.symm
        have el : l_X5_tryFrom g (nf + 1) I k s2 bu = l_X5_tryFrom g nf (g I k) (k + 1) s2 bu := by rw [l_X5_tryFrom]; rw [if_neg c_25, if_pos c_39]
        exact ih (g I k) (k + 1) _ _ _ (⟨(hgf _ _).trans hi.1, c9_inv c_25 hi.2⟩) (c9_m c_25 hi.2 hm) hw9 (lv_sub hl9 [0, 1, 2, 3] rfl) (fun H locs ls hw hl => kk H locs ls (by rw [el]; exact hw) (by rw [el]; exact hl))
theorem fk_X5_keepTried (I : wI) (bu : Int32) : f_X5_keepTried I bu 16 5 = I 16 5 := congrFun (fr_X5_keepTried 7 (wU I 16 6 bu) 0 bu 16 (by decide)) 5
theorem fl_X5_tryFrom {g : wI → Int32 → wI} (hgf : ∀ (I : wI) (k : Int32), g I k 16 5 = I 16 5) : ∀ (nf : Nat) (I : wI) (k s2 bu : Int32), (l_X5_tryFrom g nf I k s2 bu).1 16 5 = I 16 5 := by
  intro nf
  induction nf with
  | zero => intros; rfl
  | succ nf ih =>
    intro I k s2 bu
    rw [l_X5_tryFrom]
    repeat' split
    all_goals first | rfl | exact ih _ _ _ _ | (rw [ih]; exact hgf _ _)
theorem fn_X5_tryFrom {g : wI → Int32 → wI} {q : Nat} (hgf : ∀ (I : wI) (k : Int32), g I k q = I q) : ∀ (nf : Nat) (I : wI) (k s2 bu : Int32), (l_X5_tryFrom g nf I k s2 bu).1 q = I q := by
  intro nf
  induction nf with
  | zero => intros; rfl
  | succ nf ih =>
    intro I k s2 bu
    rw [l_X5_tryFrom]
    repeat' split
    all_goals first | rfl | exact ih _ _ _ _ | (rw [ih]; exact hgf _ _)
def f_X5_tryFrom : Nat → wI → Int32 → Int32 → wI
  | 0, I, _, _ => I
  | d + 1, I, s2, bu => if I 16 5 ≤ s2 then f_X5_keepTried I bu else if s2 < 6 then (l_X5_tryFrom (fun I' k => f_X5_tryYear (fun I'' gr => f_X5_tryFrom d I'' (s2 + 1) gr) I' s2 k bu) 10 I 0 s2 bu).1 else f_X5_keepTried I bu
theorem fy_X5_tryYear {g : wI → Int32 → wI} (hgf : ∀ (I : wI) (k : Int32), g I k 16 5 = I 16 5) (I : wI) (s2 k bu : Int32) : f_X5_tryYear g I s2 k bu 16 5 = I 16 5 := by
  unfold f_X5_tryYear
  repeat' split
  all_goals first | rfl | exact hgf _ _
theorem fz_X5_tryFrom : ∀ (d : Nat) (I : wI) (s2 bu : Int32), f_X5_tryFrom d I s2 bu 16 5 = I 16 5 := by
  intro d
  induction d with
  | zero => intros; rfl
  | succ d ih =>
    intro I s2 bu
    rw [f_X5_tryFrom]
    split
    · exact fk_X5_keepTried I bu
    · split
      · exact fl_X5_tryFrom (fun I k => fy_X5_tryYear (fun I gr => ih I _ gr) I _ k _) 10 I 0 s2 bu
      · exact fk_X5_keepTried I bu
theorem tf_lt {s2 st : Int32} (h : ¬ st ≤ s2) (h0 : 0 ≤ s2.toInt) (h6 : st.toInt ≤ 6) : (0 ≤ s2.toInt ∧ s2.toInt < st.toInt) ∧ st.toInt ≤ 6 := by
  simp only [i_le] at h; omega
theorem tf_s {s2 : Int32} (h0 : 0 ≤ s2.toInt) (h : s2 < 6) : vp_in s2 6 := by
  simp only [i_lt, Int32.reduceToInt] at h
  rw [vp_in_iff]; omega
theorem tf_nx {s2 st : Int32} {d : Nat} (h : ¬ st ≤ s2) (hp : 0 ≤ s2.toInt ∧ s2.toInt ≤ st.toInt ∧ st.toInt ≤ 6 ∧ (st.toInt - s2.toInt).toNat < d + 1) : 0 ≤ (s2 + 1).toInt ∧ (s2 + 1).toInt ≤ st.toInt ∧ st.toInt ≤ 6 ∧ (st.toInt - (s2 + 1).toInt).toNat < d := by
  simp only [i_le] at h
  rw [i_inc (by omega)]; omega
theorem rm_48 (d : Nat) : 8 + (6 + 11) + (8 + (4 + 11) + 48 * d) ≤ 48 * (d + 1) := by omega
theorem rm_2 (d : Nat) : 2 * d + 1 + 1 ≤ 2 * (d + 1) := by omega
set_option maxHeartbeats 4000000 in
set_option maxRecDepth 100000 in
theorem c_X5_tryFrom (l : Launch) (D : va_G) (y : Nat → ClassId) (b : Nat) (z : Nat → Nat) (G : wG) (J : wJ) (hL : w_full G) : ∀ (d : Nat) (I : wI) (s2 bu : Int32), (0 ≤ s2.toInt ∧ s2.toInt ≤ (I 16 5).toInt ∧ (I 16 5).toInt ≤ 6 ∧ ((I 16 5).toInt - s2.toInt).toNat < d) → mV l yX5_tryFrom wsX5_tryFrom { frames := 2 * d, cells := 0, slots := 0, locals := 48 * d } D y b z G I J [.ref (G.1 16), .int s2, .int bu] (fun u => u.2.1 = f_X5_tryFrom d I s2 bu ∧ u.1 = G ∧ u.2.2 = J) 0 0 := by
  intro d
  induction d with
  | zero => intro I s2 bu h; exact absurd h.2.2.2 (Nat.not_lt_zero _)
  | succ d ih =>
    intro I s2 bu hp
    refine w_enter (by decide) rfl (Nat.le_of_ble_eq_true rfl) rfl ?_
    intro p e s m below meth c ls X hr hlk hnm hw hst hl
    have hx := X.1.1
    have hb := X.1.2.1
    have hRf : 2 ≤ 2 * (d + 1) := Nat.le_add_left _ _
    have hRl : 48 ≤ 48 * (d + 1) := Nat.le_add_left _ _
    have hRc : 0 ≤ 0 := Nat.le_refl _
    have hRs : 0 ≤ 0 := Nat.le_refl _
    refine lv_iload_n hx hb dX5_tryFrom_0 rfl (lv_at hl 1 rfl) ?_
    refine lv_aload_n hx hb dX5_tryFrom_1 rfl (lv_at hl 0 rfl) ?_
    refine w_get X hw 6 5 (hL 16 (by decide)) rfl (by decide) k_X5 in_X5_tryFrom_X5 (by decide) (by decide +kernel) rfl (v := .int (I 16 5)) rfl dX5_tryFrom_2 ?_
    refine lv_icmp_ge (tgt := 14) hx hb dX5_tryFrom_5 (by decide) (fun c_5 => ?_) (fun c_5 => ?_)
    · refine lv_aload_n hx hb dX5_tryFrom_14 rfl (lv_at hl 0 rfl) ?_
      refine lv_iload_n hx hb dX5_tryFrom_15 rfl (lv_at hl 2 rfl) ?_
      refine w_callVv (As := [.int bu]) (rest := []) X hw hst hl (c_X5_keepTried l D y b z G I J hL bu ⟨Int.le_trans hp.1 hp.2.1, hp.2.2.1⟩) (cwV 1 X.1.2.2.2.2 gX5_tryFrom_X5_keepTried rfl rfl rfl (by decide +kernel) ⟨Nat.le_trans (Nat.le_of_ble_eq_true rfl) hRf, Nat.le_trans (Nat.le_of_ble_eq_true rfl) hRl⟩) (w_recv X hw (hL 16 (by decide)) rfl (by decide) k_X5) rfl rfl (Nat.le_of_ble_eq_true rfl) dX5_tryFrom_16 ⟨hRc, hRs⟩ (fun u H locs hp_16 hw => ?_)
      obtain ⟨G_16_1, I_16_1, J_16_1⟩ := u
      dsimp only at hw hp_16
      obtain ⟨hI_16_1, eG_16, eJ_16⟩ := hp_16
      subst G_16_1 J_16_1
      have hp_19 : (fun (u : wS) => u.2.1 = f_X5_tryFrom (d + 1) I s2 bu ∧ u.1 = G ∧ u.2.2 = J) (G, I_16_1, J) := by
          obtain rfl := hI_16_1.symm
          exact ⟨by rw [f_X5_tryFrom, if_pos c_5], rfl, rfl⟩
      exact w_vret X hr hlk hw hp_19 (Nat.le_of_ble_eq_true rfl) (Nat.le_of_ble_eq_true rfl) dX5_tryFrom_19
    · refine lv_iload_n hx hb dX5_tryFrom_8 rfl (lv_at hl 1 rfl) ?_
      refine lv_bipush (v := 6) hx hb dX5_tryFrom_9 (by decide) ?_
      refine lv_icmp_lt (tgt := 20) hx hb dX5_tryFrom_11 (by decide) (fun c_11 => ?_) (fun c_11 => ?_)
      · refine lv_iconst (v := 0) hx hb dX5_tryFrom_20 (by decide) ?_
        refine lv_istore_n (lv' := [(3, .int 0), (0, .ref (G.1 16)), (1, .int s2), (2, .int bu)]) hx hb dX5_tryFrom_21 rfl hl (by decide) rfl (fun ls hl => ?_)
        have hss := tf_s hp.1 c_11
        refine lp_X5_tryFrom (fun I' k => f_X5_tryYear (fun I'' gr => f_X5_tryFrom d I'' (s2 + 1) gr) I' s2 k bu) X hst hL (Nat.le_trans (by decide) hRf) (Nat.le_trans (by decide) hRl) hRc hRs s2 bu (rm := { frames := 2 * d + 1, cells := 0, slots := 0, locals := 8 + (4 + 11) + 48 * d }) (sz := I 16 5) hss (rm_2 d) (rm_48 d) (fun I k => fy_X5_tryYear (fun I gr => fz_X5_tryFrom d I _ gr) I _ k _) (fun I' k hk hz => c_X5_tryYear l D y b z G I' J hL (fun I'' gr => f_X5_tryFrom d I'' (s2 + 1) gr) s2 k bu hss hk (rm := { frames := 2 * d, cells := 0, slots := 0, locals := 48 * d }) hz (fun I'' gr h => ih I'' (s2 + 1) gr (by rw [h]; exact tf_nx c_5 hp))) 10 I 0 _ _ _ ⟨rfl, by decide, by decide⟩ (by decide) hw (lv_sub hl [0, 1, 2, 3] rfl) (fun H locs ls hw hl => ?_)
        exact w_vret X hr hlk hw ⟨by rw [f_X5_tryFrom, if_neg c_5, if_pos c_11], rfl, rfl⟩ (Nat.le_refl _) (Nat.le_refl _) dX5_tryFrom_55
      · refine lv_aload_n hx hb dX5_tryFrom_14 rfl (lv_at hl 0 rfl) ?_
        refine lv_iload_n hx hb dX5_tryFrom_15 rfl (lv_at hl 2 rfl) ?_
        refine w_callVv (As := [.int bu]) (rest := []) X hw hst hl (c_X5_keepTried l D y b z G I J hL bu ⟨Int.le_trans hp.1 hp.2.1, hp.2.2.1⟩) (cwV 1 X.1.2.2.2.2 gX5_tryFrom_X5_keepTried rfl rfl rfl (by decide +kernel) ⟨Nat.le_trans (Nat.le_of_ble_eq_true rfl) hRf, Nat.le_trans (Nat.le_of_ble_eq_true rfl) hRl⟩) (w_recv X hw (hL 16 (by decide)) rfl (by decide) k_X5) rfl rfl (Nat.le_of_ble_eq_true rfl) dX5_tryFrom_16 ⟨hRc, hRs⟩ (fun u H locs hp_16 hw => ?_)
        obtain ⟨G_16_2, I_16_2, J_16_2⟩ := u
        dsimp only at hw hp_16
        obtain ⟨hI_16_2, eG_16, eJ_16⟩ := hp_16
        subst G_16_2 J_16_2
        have hp_19 : (fun (u : wS) => u.2.1 = f_X5_tryFrom (d + 1) I s2 bu ∧ u.1 = G ∧ u.2.2 = J) (G, I_16_2, J) := by
            obtain rfl := hI_16_2.symm
            exact ⟨by rw [f_X5_tryFrom, if_neg c_5, if_neg c_11], rfl, rfl⟩
        exact w_vret X hr hlk hw hp_19 (Nat.le_of_ble_eq_true rfl) (Nat.le_of_ble_eq_true rfl) dX5_tryFrom_19
