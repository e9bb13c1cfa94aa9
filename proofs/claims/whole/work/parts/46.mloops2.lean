set_option maxRecDepth 20000 in
theorem in_X9_years_X9 : ∀ w ∈ u_ws RX9 TX9 42, w ∈ wsX9_years := fun _ h => List.mem_cons_of_mem _ (List.mem_append_right _ h)
def l_X9_years_t  : Nat → wI → Int32 → Int32 → Int32 → Int32 → wI × Int32
  | 0, I, t, k, n, rain => (I, t)
  | nf + 1, I, t, k, n, rain => (if (I 22 12) ≤ t then (I, t) else (l_X9_years_t nf (f_X9_grows I t rain) (t + 1) k n rain))
set_option maxHeartbeats 4000000 in
set_option maxRecDepth 100000 in
theorem lp_X9_years_t {p : Program} {l : Launch} {e : Env} {R : Room} {s : State} {m : MethodId} {args : Array Value} {below : List Frame} {meth : Method} {c : Code} {cells slots : Nat} {Q : State → Prop} {D : va_G} {y : Nat → ClassId} {b : Nat} {z : Nat → Nat} {G : wG} {J : wJ}  (X : wCx p m c cX9_years 5 s args wsX9_years yX9_years.cls D y b) (hst : St z b s) (hL : w_full G) (hRf : 2 ≤ R.frames) (hRl : 45 ≤ R.locals) (hRc : cells ≤ R.cells) (hRs : slots ≤ R.slots) (k : Int32) (n : Int32) (rain : Int32)  : ∀ (nf : Nat) (I : wI) (t : Int32) (H : Heap) (locs : List Loc) (ls : Array Slot), (0 ≤ t.toInt ∧ t.toInt ≤ (I 22 12).toInt ∧ 0 ≤ (I 22 12).toInt ∧ (I 22 12).toInt ≤ 40) → (((I 22 12).toInt - t.toInt).toNat < nf) → Wh D y b G I J s H locs → lv_has ls 5 [(4, .int t), (3, .int k), (0, .ref (G.1 22)), (1, .int n), (2, .int rain)] → (∀ (H : Heap) (locs : List Loc) (ls : Array Slot), Wh D y b G (l_X9_years_t nf I t k n rain).1 J s H locs → lv_has ls 5 [(4, .int (l_X9_years_t nf I t k n rain).2), (3, .int k), (0, .ref (G.1 22)), (1, .int n), (2, .int rain)] → W p l e R s m args below meth c H locs cells slots Q (F0 m 83 ls [])) → W p l e R s m args below meth c H locs cells slots Q (F0 m 61 ls []) := by
  have hx := X.1.1
  have hb := X.1.2.1
  intro nf
  induction nf with
  | zero => intro I t H locs ls hi hm; exact absurd hm (by omega)
  | succ nf ih =>
    intro I t H locs ls hi hm hw hl kk
    refine lv_iload hx hb dX9_years_61 (lv_at hl 0 rfl) ?_
    refine lv_aload_n hx hb dX9_years_63 rfl (lv_at hl 2 rfl) ?_
    refine w_get X hw 10 12 (hL 22 (by decide)) rfl (by decide) k_X9 in_X9_years_X9 (by decide) (by decide +kernel) rfl (v := .int (I 22 12)) rfl dX9_years_64 ?_
    refine lv_icmp_ge (tgt := 83) hx hb dX9_years_67 (by decide) (fun c_67 => ?_) (fun c_67 => ?_)
    · have hw9 := hw
      have hl9 := hl
      have el : l_X9_years_t (nf + 1) I t k n rain = (I, t) := by rw [l_X9_years_t]; rw [if_pos c_67]
      exact kk _ _ _ (by rw [el]; exact hw9) (by rw [el]; exact (lv_sub hl9 [0, 1, 2, 3, 4] rfl))
    · refine lv_aload_n hx hb dX9_years_70 rfl (lv_at hl 2 rfl) ?_
      refine lv_iload hx hb dX9_years_71 (lv_at hl 0 rfl) ?_
      refine lv_iload_n hx hb dX9_years_73 rfl (lv_at hl 4 rfl) ?_
      refine w_callVv (As := [.int t, .int rain]) (rest := []) X hw hst hl (c_X9_grows l D y b z G I J hL t rain ⟨hi.1, by simp only [i_le, i_lt, Int32.reduceToInt] at c_67; omega⟩) (cwV 2 X.1.2.2.2.2 gX9_years_X9_grows rfl rfl rfl (by decide +kernel) ⟨Nat.le_trans (Nat.le_of_ble_eq_true rfl) hRf, Nat.le_trans (Nat.le_of_ble_eq_true rfl) hRl⟩) (w_recv X hw (hL 22 (by decide)) rfl (by decide) k_X9) rfl rfl (Nat.le_of_ble_eq_true rfl) dX9_years_74 ⟨hRc, hRs⟩ (fun u H locs hp_74 hw => ?_)
      obtain ⟨G_74_1, I_74_1, J_74_1⟩ := u
      dsimp only at hw hp_74
      obtain ⟨hI_74_1, eG_74, eJ_74⟩ := hp_74
      subst G_74_1 J_74_1
      obtain ⟨x_2, ex_2⟩ : ∃ y : Int32, y = t + 1 := ⟨_, rfl⟩
      refine lv_iinc (v := x_2) (lv' := [(4, .int x_2), (3, .int k), (0, .ref (G.1 22)), (1, .int n), (2, .int rain)]) hx hb dX9_years_77 hl (k := 0) rfl (by rw [ex_2]; rfl) (by decide) rfl (fun ls hl => ?_)
      refine lv_goto (tgt := 61) hx hb dX9_years_80 (by decide) ?_
      have hw9 := hw
      have hl9 := hl
      obtain rfl := hI_74_1.symm
      obtain rfl := ex_2.symm
      have el : l_X9_years_t (nf + 1) I t k n rain = l_X9_years_t nf (f_X9_grows I t rain) (t + 1) k n rain := by rw [l_X9_years_t]; rw [if_neg c_67]
      exact ih (f_X9_grows I t rain) (t + 1) _ _ _ (by have e1 := i_inc (k := t) (by omega); simp only [i_le, i_lt, Int32.reduceToInt] at c_67; have e9 : f_X9_grows I t rain 22 = I 22 := fr_f_X9_grows I t rain 22 (by decide) (by decide) (by decide) (by decide); rw [e9]; exact ⟨by omega, by omega, hi.2.2⟩) (by have e1 := i_inc (k := t) (by omega); simp only [i_le, i_lt, Int32.reduceToInt] at c_67; have e9 : f_X9_grows I t rain 22 = I 22 := fr_f_X9_grows I t rain 22 (by decide) (by decide) (by decide) (by decide); rw [e9]; omega) hw9 (lv_sub hl9 [0, 1, 2, 3, 4] rfl) (fun H locs ls hw hl => kk H locs ls (by rw [el]; exact hw) (by rw [el]; exact hl))
theorem fr_X9_years_t   : ∀ (nf : Nat) (I : wI) (t : Int32) (k : Int32) (n : Int32) (rain : Int32) (q9 : Nat) (h32 : q9 ≠ 32) (h33 : q9 ≠ 33) (h38 : q9 ≠ 38) (h41 : q9 ≠ 41), (l_X9_years_t nf I t k n rain).1 q9 = I q9 := by
  intro nf
  induction nf with
  | zero => intros; rfl
  | succ nf ih =>
    intro I t k n rain q9 h32 h33 h38 h41
    rw [l_X9_years_t]
    repeat' split
    all_goals first | with_reducible rfl | (rw [ih _ _ _ _ _ q9 h32 h33 h38 h41]; done) | (rw [ih _ _ _ _ _ q9 h32 h33 h38 h41]; simp only [wU_ne _ _ _ h32, wU_ne _ _ _ h33, wU_ne _ _ _ h38, wU_ne _ _ _ h41, fr_f_X9_grows _ _ _ _ h32 h33 h38 h41]) | (simp only [wU_ne _ _ _ h32, wU_ne _ _ _ h33, wU_ne _ _ _ h38, wU_ne _ _ _ h41, fr_f_X9_grows _ _ _ _ h32 h33 h38 h41])
def l_X9_years_k  : Nat → wI → Int32 → Int32 → Int32 → wI × Int32
  | 0, I, k, n, rain => (I, k)
  | nf + 1, I, k, n, rain => (if n ≤ k then (I, k) else (l_X9_years_k nf ((l_X9_years_t  41 (wU I 22 1 ((I 22 1) + 1)) 0 k n rain).1) (k + 1) n rain))
set_option maxHeartbeats 4000000 in
set_option maxRecDepth 100000 in
theorem lp_X9_years_k {p : Program} {l : Launch} {e : Env} {R : Room} {s : State} {m : MethodId} {args : Array Value} {below : List Frame} {meth : Method} {c : Code} {cells slots : Nat} {Q : State → Prop} {D : va_G} {y : Nat → ClassId} {b : Nat} {z : Nat → Nat} {G : wG} {J : wJ}  (X : wCx p m c cX9_years 5 s args wsX9_years yX9_years.cls D y b) (hst : St z b s) (hL : w_full G) (hRf : 2 ≤ R.frames) (hRl : 45 ≤ R.locals) (hRc : cells ≤ R.cells) (hRs : slots ≤ R.slots) (n : Int32) (rain : Int32)  : ∀ (nf : Nat) (I : wI) (k : Int32) (H : Heap) (locs : List Loc) (ls : Array Slot), (0 ≤ k.toInt ∧ k.toInt ≤ n.toInt ∧ 0 ≤ (I 22 12).toInt ∧ (I 22 12).toInt ≤ 40) → ((n.toInt - k.toInt).toNat < nf) → Wh D y b G I J s H locs → lv_has ls 5 [(3, .int k), (0, .ref (G.1 22)), (1, .int n), (2, .int rain)] → (∀ (H : Heap) (locs : List Loc) (ls : Array Slot), Wh D y b G (l_X9_years_k nf I k n rain).1 J s H locs → lv_has ls 5 [(3, .int (l_X9_years_k nf I k n rain).2), (0, .ref (G.1 22)), (1, .int n), (2, .int rain)] → W p l e R s m args below meth c H locs cells slots Q (F0 m 89 ls [])) → W p l e R s m args below meth c H locs cells slots Q (F0 m 43 ls []) := by
  have hx := X.1.1
  have hb := X.1.2.1
  intro nf
  induction nf with
  | zero => intro I k H locs ls hi hm; exact absurd hm (by omega)
  | succ nf ih =>
    intro I k H locs ls hi hm hw hl kk
    refine lv_iload_n hx hb dX9_years_43 rfl (lv_at hl 0 rfl) ?_
    refine lv_iload_n hx hb dX9_years_44 rfl (lv_at hl 2 rfl) ?_
    refine lv_icmp_ge (tgt := 89) hx hb dX9_years_45 (by decide) (fun c_45 => ?_) (fun c_45 => ?_)
    · have hw9 := hw
      have hl9 := hl
      have el : l_X9_years_k (nf + 1) I k n rain = (I, k) := by rw [l_X9_years_k]; rw [if_pos c_45]
      exact kk _ _ _ (by rw [el]; exact hw9) (by rw [el]; exact (lv_sub hl9 [0, 1, 2, 3] rfl))
    · refine lv_aload_n hx hb dX9_years_48 rfl (lv_at hl 1 rfl) ?_
      refine lv_dup hx hb dX9_years_49 rfl ?_
      refine w_get X hw 10 1 (hL 22 (by decide)) rfl (by decide) k_X9 in_X9_years_X9 (by decide) (by decide +kernel) rfl (v := .int (I 22 1)) rfl dX9_years_50 ?_
      refine lv_iconst (v := 1) hx hb dX9_years_53 (by decide) ?_
      refine lv_iadd hx hb dX9_years_54 ?_
      refine lv_topi (fun x_1 ex_1 => ?_)
      refine w_put X hw 10 1 (hL 22 (by decide)) rfl (by decide) k_X9 in_X9_years_X9 (by decide) (by decide +kernel) rfl rfl (t := .int) (by decide +kernel) rfl rfl (fun _ => rfl) (fun _ => Nat.le_of_ble_eq_true rfl) dX9_years_55 (fun H locs hw => ?_)
      refine lv_iconst (v := 0) hx hb dX9_years_58 (by decide) ?_
      refine lv_istore (lv' := [(4, .int 0), (3, .int k), (0, .ref (G.1 22)), (1, .int n), (2, .int rain)]) hx hb dX9_years_59 hl (by decide) rfl (fun ls hl => ?_)
      refine lp_X9_years_t  X hst hL (Nat.le_trans (Nat.le_of_ble_eq_true rfl) hRf) (Nat.le_trans (Nat.le_of_ble_eq_true rfl) hRl) hRc hRs k n rain  41 (wU I 22 1 x_1) 0 _ _ _ (⟨by decide, hi.2.2.1, hi.2.2⟩) (show ((I 22 12).toInt - 0).toNat < 41 from by have := hi.2.2; omega) hw (lv_sub hl [0, 1, 2, 3, 4] rfl) (fun H locs ls hw hl => ?_)
      obtain ⟨Q_2, eQ_2⟩ : ∃ q9 : wI × Int32, q9 = l_X9_years_t  41 (wU I 22 1 x_1) 0 k n rain := ⟨_, rfl⟩
      rw [← eQ_2] at hw hl
      have e9 : Q_2.1 22 12 = I 22 12 := by rw [eQ_2]; exact congrFun (fr_X9_years_t _ _ _ _ _ _ 22 (by decide) (by decide) (by decide) (by decide)) 12
      obtain ⟨x_3, ex_3⟩ : ∃ y : Int32, y = k + 1 := ⟨_, rfl⟩
      refine lv_iinc (v := x_3) (lv' := [(3, .int x_3), (4, .int Q_2.2), (0, .ref (G.1 22)), (1, .int n), (2, .int rain)]) hx hb dX9_years_83 hl (k := 1) rfl (by rw [ex_3]; rfl) (by decide) rfl (fun ls hl => ?_)
      refine lv_goto (tgt := 43) hx hb dX9_years_86 (by decide) ?_
      have hw9 := hw
      have hl9 := hl
      obtain rfl := ex_1.symm
      obtain rfl := ex_3.symm
      have el : l_X9_years_k (nf + 1) I k n rain = l_X9_years_k nf Q_2.1 (k + 1) n rain := by obtain rfl := eQ_2.symm; rw [l_X9_years_k]; rw [if_neg c_45]
      exact ih Q_2.1 (k + 1) _ _ _ (by have hbn := i_bd n; have e1 := i_inc (k := k) (by simp only [i_le, i_lt] at c_45; omega); simp only [i_le, i_lt, Int32.reduceToInt] at c_45; rw [e9]; exact ⟨by omega, by omega, hi.2.2⟩) (by have hbn := i_bd n; have e1 := i_inc (k := k) (by simp only [i_le, i_lt] at c_45; omega); simp only [i_le, i_lt, Int32.reduceToInt] at c_45; omega) hw9 (lv_sub hl9 [0, 2, 3, 4] rfl) (fun H locs ls hw hl => kk H locs ls (by rw [el]; exact hw) (by rw [el]; exact hl))
theorem fr_X9_years_k   : ∀ (nf : Nat) (I : wI) (k : Int32) (n : Int32) (rain : Int32) (q9 : Nat) (h22 : q9 ≠ 22) (h32 : q9 ≠ 32) (h33 : q9 ≠ 33) (h38 : q9 ≠ 38) (h41 : q9 ≠ 41), (l_X9_years_k nf I k n rain).1 q9 = I q9 := by
  intro nf
  induction nf with
  | zero => intros; rfl
  | succ nf ih =>
    intro I k n rain q9 h22 h32 h33 h38 h41
    rw [l_X9_years_k]
    repeat' split
    all_goals first | with_reducible rfl | (rw [ih _ _ _ _ q9 h22 h32 h33 h38 h41]; done) | (rw [ih _ _ _ _ q9 h22 h32 h33 h38 h41]; simp only [wU_ne _ _ _ h22, wU_ne _ _ _ h32, wU_ne _ _ _ h33, wU_ne _ _ _ h38, wU_ne _ _ _ h41, fr_X9_years_t _ _ _ _ _ _ _ h32 h33 h38 h41]) | (simp only [wU_ne _ _ _ h22, wU_ne _ _ _ h32, wU_ne _ _ _ h33, wU_ne _ _ _ h38, wU_ne _ _ _ h41, fr_X9_years_t _ _ _ _ _ _ _ h32 h33 h38 h41])
def f_X9_years (I : wI) (n : Int32) (rain : Int32) : Int32 × wI := (if f_X9_in (wU I 22 0 0) n 0 50 = 1 then (if f_X9_in (wU I 22 0 0) rain 0 200 = 1 then ((l_X9_years_k  51 (wU I 22 0 0) 0 n rain).1 22 1, (l_X9_years_k  51 (wU I 22 0 0) 0 n rain).1) else (0, (wU (wU I 22 0 0) 22 0 1))) else (0, (wU (wU I 22 0 0) 22 0 1)))
theorem fr_f_X9_years (I : wI) (n : Int32) (rain : Int32) (q9 : Nat) (h22 : q9 ≠ 22) (h32 : q9 ≠ 32) (h33 : q9 ≠ 33) (h38 : q9 ≠ 38) (h41 : q9 ≠ 41) : (f_X9_years I n rain).2 q9 = I q9 := by
  unfold f_X9_years
  repeat' split
  all_goals first | with_reducible rfl | (simp only [wU_ne _ _ _ h22, wU_ne _ _ _ h32, wU_ne _ _ _ h33, wU_ne _ _ _ h38, wU_ne _ _ _ h41, fr_X9_years_k _ _ _ _ _ _ h22 h32 h33 h38 h41])
set_option maxHeartbeats 4000000 in
set_option maxRecDepth 100000 in
theorem c_X9_years (l : Launch) (D : va_G) (y : Nat → ClassId) (b : Nat) (z : Nat → Nat) (G : wG) (I : wI) (J : wJ) (hL : w_full G) (n : Int32) (rain : Int32) (hT : 0 ≤ (I 22 12).toInt ∧ (I 22 12).toInt ≤ 40) : mI l yX9_years wsX9_years { frames := 2, cells := 0, slots := 0, locals := 45 } D y b z G I J [.ref (G.1 22), .int n, .int rain] (fun r u => (r = (f_X9_years I n rain).1 ∧ u.2.1 = (f_X9_years I n rain).2) ∧ u.1 = G ∧ u.2.2 = J) 0 0 := by
  refine w_enter (by decide) rfl (Nat.le_of_ble_eq_true rfl) rfl ?_
  intro p e s m below meth c ls X hr hlk hnm hw hst hl
  have hx := X.1.1
  have hb := X.1.2.1
  obtain ⟨po_c_X9_years, epo⟩ : ∃ qpo9 : Int32 → wS → Prop, qpo9 = (fun r u => (r = (f_X9_years I n rain).1 ∧ u.2.1 = (f_X9_years I n rain).2) ∧ u.1 = G ∧ u.2.2 = J) := ⟨_, rfl⟩
  rw [← epo]
  refine lv_aload_n hx hb dX9_years_0 rfl (lv_at hl 0 rfl) ?_
  refine lv_iconst (v := 0) hx hb dX9_years_1 (by decide) ?_
  refine w_put X hw 10 0 (hL 22 (by decide)) rfl (by decide) k_X9 in_X9_years_X9 (by decide) (by decide +kernel) rfl rfl (t := .int) (by decide +kernel) rfl rfl (fun _ => rfl) (fun _ => Nat.le_of_ble_eq_true rfl) dX9_years_2 (fun H locs hw => ?_)
  refine lv_aload_n hx hb dX9_years_5 rfl (lv_at hl 0 rfl) ?_
  refine lv_iload_n hx hb dX9_years_6 rfl (lv_at hl 1 rfl) ?_
  refine lv_iconst (v := 0) hx hb dX9_years_7 (by decide) ?_
  refine lv_bipush (v := 50) hx hb dX9_years_8 (by decide) ?_
  refine w_callSi (As := [.int n, .int 0, .int 50]) (rest := [.ref (G.1 22)]) X hw hst hl (c_X9_in l D y b z G (wU I 22 0 0) J hL n 0 50) (va_cwS 3 X.1.2.2.2.2 gX9_years_X9_in rfl rfl rfl (by decide +kernel) ⟨Nat.le_of_ble_eq_true rfl, Nat.le_of_ble_eq_true rfl⟩) rfl rfl (Nat.le_of_ble_eq_true rfl) dX9_years_10 ⟨Nat.le_of_ble_eq_true rfl, Nat.le_of_ble_eq_true rfl⟩ (fun r_10_1 u H locs hp_10 hw => ?_)
  obtain ⟨hp_10, rfl⟩ := hp_10
  dsimp only at hw
  rcases f_X9_in_01  (wU I 22 0 0) n 0 50 with q_10 | ⟨q_10, q0_10⟩
  · rw [q_10] at hp_10
    subst r_10_1
    refine lv_if_eq (tgt := 27) hx hb dX9_years_13 (by decide) (fun c_13 => ?_) (fun c_13 => ?_)
    · exact absurd c_13 (by decide)
    · refine lv_iload_n hx hb dX9_years_16 rfl (lv_at hl 2 rfl) ?_
      refine lv_iconst (v := 0) hx hb dX9_years_17 (by decide) ?_
      refine lv_sipush (v := 200) hx hb dX9_years_18 (by decide) ?_
      refine w_callSi (As := [.int rain, .int 0, .int 200]) (rest := [.ref (G.1 22)]) X hw hst hl (c_X9_in l D y b z G (wU I 22 0 0) J hL rain 0 200) (va_cwS 3 X.1.2.2.2.2 gX9_years_X9_in rfl rfl rfl (by decide +kernel) ⟨Nat.le_of_ble_eq_true rfl, Nat.le_of_ble_eq_true rfl⟩) rfl rfl (Nat.le_of_ble_eq_true rfl) dX9_years_21 ⟨Nat.le_of_ble_eq_true rfl, Nat.le_of_ble_eq_true rfl⟩ (fun r_21_2 u H locs hp_21 hw => ?_)
      obtain ⟨hp_21, rfl⟩ := hp_21
      dsimp only at hw
      rcases f_X9_in_01  (wU I 22 0 0) rain 0 200 with q_21 | ⟨q_21, q0_21⟩
      · rw [q_21] at hp_21
        subst r_21_2
        refine lv_if_ne (tgt := 31) hx hb dX9_years_24 (by decide) (fun c_24 => ?_) (fun c_24 => ?_)
        · refine lv_iconst (v := 0) hx hb dX9_years_31 (by decide) ?_
          refine lv_iconst (v := 1) hx hb dX9_years_32 (by decide) ?_
          refine w_callVi (As := [.int 0, .int 1]) (rest := []) X hw hst hl (c_X9_throwsIf0 l D y b z G (wU I 22 0 0) J hL 1) (cwV 2 X.1.2.2.2.2 gX9_years_X9_throwsIf rfl rfl rfl (by decide +kernel) ⟨Nat.le_of_ble_eq_true rfl, Nat.le_of_ble_eq_true rfl⟩) (w_recv X hw (hL 22 (by decide)) rfl (by decide) k_X9) rfl rfl (Nat.le_of_ble_eq_true rfl) dX9_years_33 ⟨Nat.le_of_ble_eq_true rfl, Nat.le_of_ble_eq_true rfl⟩ (fun r_33_3 u H locs hp_33 hw => ?_)
          obtain ⟨hp_33, rfl⟩ := hp_33
          dsimp only at hw
          subst r_33_3
          refine lv_if_eq (tgt := 41) hx hb dX9_years_36 (by decide) (fun c_36 => ?_) (fun c_36 => ?_)
          · refine lv_iconst (v := 0) hx hb dX9_years_41 (by decide) ?_
            refine lv_istore_n (lv' := [(3, .int 0), (0, .ref (G.1 22)), (1, .int n), (2, .int rain)]) hx hb dX9_years_42 rfl hl (by decide) rfl (fun ls hl => ?_)
            refine lp_X9_years_k  X hst hL (Nat.le_of_ble_eq_true rfl) (Nat.le_of_ble_eq_true rfl) (Nat.le_of_ble_eq_true rfl) (Nat.le_of_ble_eq_true rfl) n rain  51 (wU I 22 0 0) 0 _ _ _ (⟨by decide, by have h9 := ix_i q_10; simpa using h9.1, hT⟩) (by have h9 := ix_i q_10; simp only [Int32.reduceToInt] at h9 ⊢; omega) hw (lv_sub hl [0, 1, 2, 3] rfl) (fun H locs ls hw hl => ?_)
            obtain ⟨Q_4, eQ_4⟩ : ∃ q9 : wI × Int32, q9 = l_X9_years_k  51 (wU I 22 0 0) 0 n rain := ⟨_, rfl⟩
            rw [← eQ_4] at hw hl
            refine lv_aload_n hx hb dX9_years_89 rfl (lv_at hl 1 rfl) ?_
            refine w_get X hw 10 1 (hL 22 (by decide)) rfl (by decide) k_X9 in_X9_years_X9 (by decide) (by decide +kernel) rfl (v := .int (Q_4.1 22 1)) rfl dX9_years_90 ?_
            have hp_93 : po_c_X9_years (Q_4.1 22 1) (G, Q_4.1, J) := by
                obtain rfl := eQ_4.symm
                rw [epo]
                have ef : f_X9_years I n rain = ((l_X9_years_k  51 (wU I 22 0 0) 0 n rain).1 22 1, (l_X9_years_k  51 (wU I 22 0 0) 0 n rain).1) := by unfold f_X9_years; rw [if_pos q_10, if_pos q_21]
                exact ⟨⟨by rw [ef], by rw [ef]⟩, rfl, rfl⟩
            exact w_iret X hr hlk hw hp_93 (Nat.le_of_ble_eq_true rfl) (Nat.le_of_ble_eq_true rfl) dX9_years_93
          · exact absurd (by decide) c_36
        · exact absurd c_24 (by decide)
      · rw [q0_21] at hp_21
        subst r_21_2
        refine lv_if_ne (tgt := 31) hx hb dX9_years_24 (by decide) (fun c_24 => ?_) (fun c_24 => ?_)
        · exact absurd (by decide) c_24
        · refine lv_iconst (v := 1) hx hb dX9_years_27 (by decide) ?_
          refine lv_goto (tgt := 32) hx hb dX9_years_28 (by decide) ?_
          refine lv_iconst (v := 1) hx hb dX9_years_32 (by decide) ?_
          refine w_callVi (As := [.int 1, .int 1]) (rest := []) X hw hst hl (c_X9_throwsIf1 l D y b z G (wU I 22 0 0) J hL 1) (cwV 2 X.1.2.2.2.2 gX9_years_X9_throwsIf rfl rfl rfl (by decide +kernel) ⟨Nat.le_of_ble_eq_true rfl, Nat.le_of_ble_eq_true rfl⟩) (w_recv X hw (hL 22 (by decide)) rfl (by decide) k_X9) rfl rfl (Nat.le_of_ble_eq_true rfl) dX9_years_33 ⟨Nat.le_of_ble_eq_true rfl, Nat.le_of_ble_eq_true rfl⟩ (fun r_33_5 u H locs hp_33 hw => ?_)
          obtain ⟨G_33_5, I_33_5, J_33_5⟩ := u
          dsimp only at hw hp_33
          obtain ⟨⟨hp_33, hI_33_5⟩, eG_33, eJ_33⟩ := hp_33
          subst G_33_5 J_33_5
          subst r_33_5
          refine lv_if_eq (tgt := 41) hx hb dX9_years_36 (by decide) (fun c_36 => ?_) (fun c_36 => ?_)
          · exact absurd c_36 (by decide)
          · refine lv_iconst (v := 0) hx hb dX9_years_39 (by decide) ?_
            have hp_40 : po_c_X9_years 0 (G, I_33_5, J) := by
                obtain rfl := hI_33_5.symm
                rw [epo]
                have ef : f_X9_years I n rain = (0, (wU (wU I 22 0 0) 22 0 1)) := by unfold f_X9_years; rw [if_pos q_10, if_neg q_21]
                exact ⟨⟨by rw [ef], by rw [ef]⟩, rfl, rfl⟩
            exact w_iret X hr hlk hw hp_40 (Nat.le_of_ble_eq_true rfl) (Nat.le_of_ble_eq_true rfl) dX9_years_40
  · rw [q0_10] at hp_10
    subst r_10_1
    refine lv_if_eq (tgt := 27) hx hb dX9_years_13 (by decide) (fun c_13 => ?_) (fun c_13 => ?_)
    · refine lv_iconst (v := 1) hx hb dX9_years_27 (by decide) ?_
      refine lv_goto (tgt := 32) hx hb dX9_years_28 (by decide) ?_
      refine lv_iconst (v := 1) hx hb dX9_years_32 (by decide) ?_
      refine w_callVi (As := [.int 1, .int 1]) (rest := []) X hw hst hl (c_X9_throwsIf1 l D y b z G (wU I 22 0 0) J hL 1) (cwV 2 X.1.2.2.2.2 gX9_years_X9_throwsIf rfl rfl rfl (by decide +kernel) ⟨Nat.le_of_ble_eq_true rfl, Nat.le_of_ble_eq_true rfl⟩) (w_recv X hw (hL 22 (by decide)) rfl (by decide) k_X9) rfl rfl (Nat.le_of_ble_eq_true rfl) dX9_years_33 ⟨Nat.le_of_ble_eq_true rfl, Nat.le_of_ble_eq_true rfl⟩ (fun r_33_6 u H locs hp_33 hw => ?_)
      obtain ⟨G_33_6, I_33_6, J_33_6⟩ := u
      dsimp only at hw hp_33
      obtain ⟨⟨hp_33, hI_33_6⟩, eG_33, eJ_33⟩ := hp_33
      subst G_33_6 J_33_6
      subst r_33_6
      refine lv_if_eq (tgt := 41) hx hb dX9_years_36 (by decide) (fun c_36 => ?_) (fun c_36 => ?_)
      · exact absurd c_36 (by decide)
      · refine lv_iconst (v := 0) hx hb dX9_years_39 (by decide) ?_
        have hp_40 : po_c_X9_years 0 (G, I_33_6, J) := by
            obtain rfl := hI_33_6.symm
            rw [epo]
            have ef : f_X9_years I n rain = (0, (wU (wU I 22 0 0) 22 0 1)) := by unfold f_X9_years; rw [if_neg q_10]
            exact ⟨⟨by rw [ef], by rw [ef]⟩, rfl, rfl⟩
        exact w_iret X hr hlk hw hp_40 (Nat.le_of_ble_eq_true rfl) (Nat.le_of_ble_eq_true rfl) dX9_years_40
    · exact absurd (by decide) c_13
set_option maxRecDepth 20000 in
theorem in_X9_feed_X9 : ∀ w ∈ u_ws RX9 TX9 42, w ∈ wsX9_feed := fun _ h => List.mem_cons_of_mem _ (List.mem_append_right _ h)
def l_X9_feed  : Nat → wI → Int32 → Int32 → Int32 → Int32 → Int32 → Int32 → wI × Int32
  | 0, I, k, a, b2, c2, d, e2 => (I, k)
  | nf + 1, I, k, a, b2, c2, d, e2 => (if 20 ≤ k then (I, k) else (l_X9_feed nf (wU I 52 ((I 22 23) + k).toNatClampNeg (vp_nar .byte (((I 54 (k / 4).toNatClampNeg) >>> (((24 : Int32) - ((8 : Int32) * (k - k / 4 * 4))) &&& 31)).toInt8.toInt32))) (k + 1) a b2 c2 d e2))
set_option maxHeartbeats 4000000 in
set_option maxRecDepth 100000 in
theorem lp_X9_feed {p : Program} {l : Launch} {e : Env} {R : Room} {s : State} {m : MethodId} {args : Array Value} {below : List Frame} {meth : Method} {c : Code} {cells slots : Nat} {Q : State → Prop} {D : va_G} {y : Nat → ClassId} {b : Nat} {z : Nat → Nat} {G : wG} {J : wJ}  (X : wCx p m c cX9_feed 7 s args wsX9_feed yX9_feed.cls D y b) (hst : St z b s) (hL : w_full G) (hRf : 0 ≤ R.frames) (hRl : 0 ≤ R.locals) (hRc : cells ≤ R.cells) (hRs : slots ≤ R.slots) (a : Int32) (b2 : Int32) (c2 : Int32) (d : Int32) (e2 : Int32)  : ∀ (nf : Nat) (I : wI) (k : Int32) (H : Heap) (locs : List Loc) (ls : Array Slot), (0 ≤ k.toInt ∧ k.toInt ≤ 20 ∧ 0 ≤ (I 22 23).toInt ∧ (I 22 23).toInt ≤ 380) → ((20 - k.toInt).toNat < nf) → Wh D y b G I J s H locs → lv_has ls 7 [(6, .int k), (0, .ref (G.1 22)), (1, .int a), (2, .int b2), (3, .int c2), (4, .int d), (5, .int e2)] → (∀ (H : Heap) (locs : List Loc) (ls : Array Slot), Wh D y b G (l_X9_feed nf I k a b2 c2 d e2).1 J s H locs → lv_has ls 7 [(6, .int (l_X9_feed nf I k a b2 c2 d e2).2), (0, .ref (G.1 22)), (1, .int a), (2, .int b2), (3, .int c2), (4, .int d), (5, .int e2)] → W p l e R s m args below meth c H locs cells slots Q (F0 m 106 ls [])) → W p l e R s m args below meth c H locs cells slots Q (F0 m 60 ls []) := by
  have hx := X.1.1
  have hb := X.1.2.1
  intro nf
  induction nf with
  | zero => intro I k H locs ls hi hm; exact absurd hm (by omega)
  | succ nf ih =>
    intro I k H locs ls hi hm hw hl kk
    refine lv_iload hx hb dX9_feed_60 (lv_at hl 0 rfl) ?_
    refine lv_bipush (v := 20) hx hb dX9_feed_62 (by decide) ?_
    refine lv_icmp_ge (tgt := 106) hx hb dX9_feed_64 (by decide) (fun c_64 => ?_) (fun c_64 => ?_)
    · have hw9 := hw
      have hl9 := hl
      have el : l_X9_feed (nf + 1) I k a b2 c2 d e2 = (I, k) := by rw [l_X9_feed]; rw [if_pos c_64]
      exact kk _ _ _ (by rw [el]; exact hw9) (by rw [el]; exact (lv_sub hl9 [0, 1, 2, 3, 4, 5, 6] rfl))
    · refine lv_aload_n hx hb dX9_feed_67 rfl (lv_at hl 1 rfl) ?_
      refine w_get X hw 10 22 (hL 22 (by decide)) rfl (by decide) k_X9 in_X9_feed_X9 (by decide) (by decide +kernel) rfl (v := .ref (G.1 52)) rfl dX9_feed_68 ?_
      refine lv_aload_n hx hb dX9_feed_71 rfl (lv_at hl 1 rfl) ?_
      refine w_get X hw 10 23 (hL 22 (by decide)) rfl (by decide) k_X9 in_X9_feed_X9 (by decide) (by decide +kernel) rfl (v := .int (I 22 23)) rfl dX9_feed_72 ?_
      refine lv_iload hx hb dX9_feed_75 (lv_at hl 0 rfl) ?_
      refine lv_iadd hx hb dX9_feed_77 ?_
      refine lv_aload_n hx hb dX9_feed_78 rfl (lv_at hl 1 rfl) ?_
      refine w_get X hw 10 24 (hL 22 (by decide)) rfl (by decide) k_X9 in_X9_feed_X9 (by decide) (by decide +kernel) rfl (v := .ref (G.1 54)) rfl dX9_feed_79 ?_
      refine lv_iload hx hb dX9_feed_82 (lv_at hl 0 rfl) ?_
      refine lv_iconst (v := 4) hx hb dX9_feed_84 (by decide) ?_
      refine lv_idiv hx hb dX9_feed_85 (by decide) ?_
      have h_86 : vp_in (k / 4) 5 := ix_d4 hi.1 (by simp only [i_le, i_lt, Int32.reduceToInt] at c_64; omega)
      refine w_ild X hw (hL 54 (by decide)) rfl h_86 dX9_feed_86 ?_
      refine lv_bipush (v := 24) hx hb dX9_feed_87 (by decide) ?_
      refine lv_bipush (v := 8) hx hb dX9_feed_89 (by decide) ?_
      refine lv_iload hx hb dX9_feed_91 (lv_at hl 0 rfl) ?_
      refine lv_iconst (v := 4) hx hb dX9_feed_93 (by decide) ?_
      refine lv_irem hx hb dX9_feed_94 (by decide) ?_
      refine lv_imul hx hb dX9_feed_95 ?_
      refine lv_isub hx hb dX9_feed_96 ?_
      refine lv_ishr hx hb dX9_feed_97 ?_
      refine lv_i2b hx hb dX9_feed_98 rfl ?_
      refine lv_topi (fun x_1 ex_1 => ?_)
      have h_99 : vp_in ((I 22 23) + k) 400 := by simp only [i_le, i_lt, Int32.reduceToInt] at c_64; rw [vp_in_iff, i_add (by omega) (by omega)]; omega
      refine w_bst X hw (hL 52 (by decide)) rfl h_99 dX9_feed_99 (fun H locs hw => ?_)
      obtain ⟨x_2, ex_2⟩ : ∃ y : Int32, y = k + 1 := ⟨_, rfl⟩
      refine lv_iinc (v := x_2) (lv' := [(6, .int x_2), (0, .ref (G.1 22)), (1, .int a), (2, .int b2), (3, .int c2), (4, .int d), (5, .int e2)]) hx hb dX9_feed_100 hl (k := 0) rfl (by rw [ex_2]; rfl) (by decide) rfl (fun ls hl => ?_)
      refine lv_goto (tgt := 60) hx hb dX9_feed_103 (by decide) ?_
      have hw9 := hw
      have hl9 := hl
      obtain rfl := ex_1.symm
      obtain rfl := ex_2.symm
      have el : l_X9_feed (nf + 1) I k a b2 c2 d e2 = l_X9_feed nf (wU I 52 ((I 22 23) + k).toNatClampNeg (vp_nar .byte (((I 54 (k / 4).toNatClampNeg) >>> (((24 : Int32) - ((8 : Int32) * (k - k / 4 * 4))) &&& 31)).toInt8.toInt32))) (k + 1) a b2 c2 d e2 := by rw [l_X9_feed]; rw [if_neg c_64]
      exact ih (wU I 52 ((I 22 23) + k).toNatClampNeg (vp_nar .byte (((I 54 (k / 4).toNatClampNeg) >>> (((24 : Int32) - ((8 : Int32) * (k - k / 4 * 4))) &&& 31)).toInt8.toInt32))) (k + 1) _ _ _ (by have e1 := i_inc (k := k) (by omega); simp only [i_le, i_lt, Int32.reduceToInt] at c_64; exact ⟨by omega, by omega, hi.2.2⟩) (by have e1 := i_inc (k := k) (by omega); simp only [i_le, i_lt, Int32.reduceToInt] at c_64; omega) hw9 (lv_sub hl9 [0, 1, 2, 3, 4, 5, 6] rfl) (fun H locs ls hw hl => kk H locs ls (by rw [el]; exact hw) (by rw [el]; exact hl))
theorem fr_X9_feed   : ∀ (nf : Nat) (I : wI) (k : Int32) (a : Int32) (b2 : Int32) (c2 : Int32) (d : Int32) (e2 : Int32) (q9 : Nat) (h52 : q9 ≠ 52), (l_X9_feed nf I k a b2 c2 d e2).1 q9 = I q9 := by
  intro nf
  induction nf with
  | zero => intros; rfl
  | succ nf ih =>
    intro I k a b2 c2 d e2 q9 h52
    rw [l_X9_feed]
    repeat' split
    all_goals first | with_reducible rfl | (rw [ih _ _ _ _ _ _ _ q9 h52]; done) | (rw [ih _ _ _ _ _ _ _ q9 h52]; simp only [wU_ne _ _ _ h52]) | (simp only [wU_ne _ _ _ h52])
def f_X9_feed (I : wI) (a : Int32) (b2 : Int32) (c2 : Int32) (d : Int32) (e2 : Int32) : Int32 × wI := (if ((I 22 23) + 20) ≤ 400 then ((((l_X9_feed  21 (wU (wU (wU (wU (wU (wU I 22 0 0) 54 0 a) 54 1 b2) 54 2 c2) 54 3 d) 54 4 e2) 0 a b2 c2 d e2).1 22 23) + 20), (wU (l_X9_feed  21 (wU (wU (wU (wU (wU (wU I 22 0 0) 54 0 a) 54 1 b2) 54 2 c2) 54 3 d) 54 4 e2) 0 a b2 c2 d e2).1 22 23 (((l_X9_feed  21 (wU (wU (wU (wU (wU (wU I 22 0 0) 54 0 a) 54 1 b2) 54 2 c2) 54 3 d) 54 4 e2) 0 a b2 c2 d e2).1 22 23) + 20))) else ((-1), (wU I 22 0 0)))
theorem fr_f_X9_feed (I : wI) (a : Int32) (b2 : Int32) (c2 : Int32) (d : Int32) (e2 : Int32) (q9 : Nat) (h22 : q9 ≠ 22) (h52 : q9 ≠ 52) (h54 : q9 ≠ 54) : (f_X9_feed I a b2 c2 d e2).2 q9 = I q9 := by
  unfold f_X9_feed
  repeat' split
  all_goals first | with_reducible rfl | (simp only [wU_ne _ _ _ h22, wU_ne _ _ _ h52, wU_ne _ _ _ h54, fr_X9_feed _ _ _ _ _ _ _ _ _ h52])
set_option maxHeartbeats 4000000 in
set_option maxRecDepth 100000 in
theorem c_X9_feed (l : Launch) (D : va_G) (y : Nat → ClassId) (b : Nat) (z : Nat → Nat) (G : wG) (I : wI) (J : wJ) (hL : w_full G) (a : Int32) (b2 : Int32) (c2 : Int32) (d : Int32) (e2 : Int32) (hN : 0 ≤ (I 22 23).toInt ∧ (I 22 23).toInt ≤ 400) : mI l yX9_feed wsX9_feed { frames := 0, cells := 0, slots := 0, locals := 0 } D y b z G I J [.ref (G.1 22), .int a, .int b2, .int c2, .int d, .int e2] (fun r u => (r = (f_X9_feed I a b2 c2 d e2).1 ∧ u.2.1 = (f_X9_feed I a b2 c2 d e2).2) ∧ u.1 = G ∧ u.2.2 = J) 0 0 := by
  refine w_enter (by decide) rfl (Nat.le_of_ble_eq_true rfl) rfl ?_
  intro p e s m below meth c ls X hr hlk hnm hw hst hl
  have hx := X.1.1
  have hb := X.1.2.1
  obtain ⟨po_c_X9_feed, epo⟩ : ∃ qpo9 : Int32 → wS → Prop, qpo9 = (fun r u => (r = (f_X9_feed I a b2 c2 d e2).1 ∧ u.2.1 = (f_X9_feed I a b2 c2 d e2).2) ∧ u.1 = G ∧ u.2.2 = J) := ⟨_, rfl⟩
  rw [← epo]
  refine lv_aload_n hx hb dX9_feed_0 rfl (lv_at hl 0 rfl) ?_
  refine lv_iconst (v := 0) hx hb dX9_feed_1 (by decide) ?_
  refine w_put X hw 10 0 (hL 22 (by decide)) rfl (by decide) k_X9 in_X9_feed_X9 (by decide) (by decide +kernel) rfl rfl (t := .int) (by decide +kernel) rfl rfl (fun _ => rfl) (fun _ => Nat.le_of_ble_eq_true rfl) dX9_feed_2 (fun H locs hw => ?_)
  refine lv_aload_n hx hb dX9_feed_5 rfl (lv_at hl 0 rfl) ?_
  refine w_get X hw 10 23 (hL 22 (by decide)) rfl (by decide) k_X9 in_X9_feed_X9 (by decide) (by decide +kernel) rfl (v := .int (I 22 23)) rfl dX9_feed_6 ?_
  refine lv_bipush (v := 20) hx hb dX9_feed_9 (by decide) ?_
  refine lv_iadd hx hb dX9_feed_11 ?_
  refine lv_sipush (v := 400) hx hb dX9_feed_12 (by decide) ?_
  refine lv_icmp_le (tgt := 20) hx hb dX9_feed_15 (by decide) (fun c_15 => ?_) (fun c_15 => ?_)
  · refine lv_aload_n hx hb dX9_feed_20 rfl (lv_at hl 0 rfl) ?_
    refine w_get X hw 10 24 (hL 22 (by decide)) rfl (by decide) k_X9 in_X9_feed_X9 (by decide) (by decide +kernel) rfl (v := .ref (G.1 54)) rfl dX9_feed_21 ?_
    refine lv_iconst (v := 0) hx hb dX9_feed_24 (by decide) ?_
    refine lv_iload_n hx hb dX9_feed_25 rfl (lv_at hl 1 rfl) ?_
    have h_26 : vp_in 0 5 := by unfold vp_in; decide
    refine w_ist X hw (hL 54 (by decide)) rfl h_26 dX9_feed_26 (fun H locs hw => ?_)
    refine lv_aload_n hx hb dX9_feed_27 rfl (lv_at hl 0 rfl) ?_
    refine w_get X hw 10 24 (hL 22 (by decide)) rfl (by decide) k_X9 in_X9_feed_X9 (by decide) (by decide +kernel) rfl (v := .ref (G.1 54)) rfl dX9_feed_28 ?_
    refine lv_iconst (v := 1) hx hb dX9_feed_31 (by decide) ?_
    refine lv_iload_n hx hb dX9_feed_32 rfl (lv_at hl 2 rfl) ?_
    have h_33 : vp_in 1 5 := by unfold vp_in; decide
    refine w_ist X hw (hL 54 (by decide)) rfl h_33 dX9_feed_33 (fun H locs hw => ?_)
    refine lv_aload_n hx hb dX9_feed_34 rfl (lv_at hl 0 rfl) ?_
    refine w_get X hw 10 24 (hL 22 (by decide)) rfl (by decide) k_X9 in_X9_feed_X9 (by decide) (by decide +kernel) rfl (v := .ref (G.1 54)) rfl dX9_feed_35 ?_
    refine lv_iconst (v := 2) hx hb dX9_feed_38 (by decide) ?_
    refine lv_iload_n hx hb dX9_feed_39 rfl (lv_at hl 3 rfl) ?_
    have h_40 : vp_in 2 5 := by unfold vp_in; decide
    refine w_ist X hw (hL 54 (by decide)) rfl h_40 dX9_feed_40 (fun H locs hw => ?_)
    refine lv_aload_n hx hb dX9_feed_41 rfl (lv_at hl 0 rfl) ?_
    refine w_get X hw 10 24 (hL 22 (by decide)) rfl (by decide) k_X9 in_X9_feed_X9 (by decide) (by decide +kernel) rfl (v := .ref (G.1 54)) rfl dX9_feed_42 ?_
    refine lv_iconst (v := 3) hx hb dX9_feed_45 (by decide) ?_
    refine lv_iload hx hb dX9_feed_46 (lv_at hl 4 rfl) ?_
    have h_48 : vp_in 3 5 := by unfold vp_in; decide
    refine w_ist X hw (hL 54 (by decide)) rfl h_48 dX9_feed_48 (fun H locs hw => ?_)
    refine lv_aload_n hx hb dX9_feed_49 rfl (lv_at hl 0 rfl) ?_
    refine w_get X hw 10 24 (hL 22 (by decide)) rfl (by decide) k_X9 in_X9_feed_X9 (by decide) (by decide +kernel) rfl (v := .ref (G.1 54)) rfl dX9_feed_50 ?_
    refine lv_iconst (v := 4) hx hb dX9_feed_53 (by decide) ?_
    refine lv_iload hx hb dX9_feed_54 (lv_at hl 5 rfl) ?_
    have h_56 : vp_in 4 5 := by unfold vp_in; decide
    refine w_ist X hw (hL 54 (by decide)) rfl h_56 dX9_feed_56 (fun H locs hw => ?_)
    refine lv_iconst (v := 0) hx hb dX9_feed_57 (by decide) ?_
    refine lv_istore (lv' := [(6, .int 0), (0, .ref (G.1 22)), (1, .int a), (2, .int b2), (3, .int c2), (4, .int d), (5, .int e2)]) hx hb dX9_feed_58 hl (by decide) rfl (fun ls hl => ?_)
    refine lp_X9_feed  X hst hL (Nat.le_of_ble_eq_true rfl) (Nat.le_of_ble_eq_true rfl) (Nat.le_of_ble_eq_true rfl) (Nat.le_of_ble_eq_true rfl) a b2 c2 d e2  21 (wU (wU (wU (wU (wU (wU I 22 0 0) 54 0 a) 54 1 b2) 54 2 c2) 54 3 d) 54 4 e2) 0 _ _ _ (⟨by decide, by decide, hN.1, (show (I 22 23).toInt ≤ 380 from by have h20 : (20 : Int32).toInt = 20 := rfl; simp only [i_le, i_lt, Int32.reduceToInt] at c_15; rw [i_add (by rw [h20]; omega) (by rw [h20]; omega), h20] at c_15; omega)⟩) (by decide) hw (lv_sub hl [0, 1, 2, 3, 4, 5, 6] rfl) (fun H locs ls hw hl => ?_)
    obtain ⟨Q_1, eQ_1⟩ : ∃ q9 : wI × Int32, q9 = l_X9_feed  21 (wU (wU (wU (wU (wU (wU I 22 0 0) 54 0 a) 54 1 b2) 54 2 c2) 54 3 d) 54 4 e2) 0 a b2 c2 d e2 := ⟨_, rfl⟩
    rw [← eQ_1] at hw hl
    refine lv_aload_n hx hb dX9_feed_106 rfl (lv_at hl 1 rfl) ?_
    refine lv_dup hx hb dX9_feed_107 rfl ?_
    refine w_get X hw 10 23 (hL 22 (by decide)) rfl (by decide) k_X9 in_X9_feed_X9 (by decide) (by decide +kernel) rfl (v := .int (Q_1.1 22 23)) rfl dX9_feed_108 ?_
    refine lv_bipush (v := 20) hx hb dX9_feed_111 (by decide) ?_
    refine lv_iadd hx hb dX9_feed_113 ?_
    refine lv_topi (fun x_2 ex_2 => ?_)
    refine w_put X hw 10 23 (hL 22 (by decide)) rfl (by decide) k_X9 in_X9_feed_X9 (by decide) (by decide +kernel) rfl rfl (t := .int) (by decide +kernel) rfl rfl (fun _ => rfl) (fun _ => Nat.le_of_ble_eq_true rfl) dX9_feed_114 (fun H locs hw => ?_)
    refine lv_aload_n hx hb dX9_feed_117 rfl (lv_at hl 1 rfl) ?_
    refine w_get X hw 10 23 (hL 22 (by decide)) rfl (by decide) k_X9 in_X9_feed_X9 (by decide) (by decide +kernel) rfl (v := .int x_2) rfl dX9_feed_118 ?_
    have hp_121 : po_c_X9_feed x_2 (G, (wU Q_1.1 22 23 x_2), J) := by
        obtain rfl := eQ_1.symm
        obtain rfl := ex_2.symm
        rw [epo]
        have ef : f_X9_feed I a b2 c2 d e2 = ((((l_X9_feed  21 (wU (wU (wU (wU (wU (wU I 22 0 0) 54 0 a) 54 1 b2) 54 2 c2) 54 3 d) 54 4 e2) 0 a b2 c2 d e2).1 22 23) + 20), (wU (l_X9_feed  21 (wU (wU (wU (wU (wU (wU I 22 0 0) 54 0 a) 54 1 b2) 54 2 c2) 54 3 d) 54 4 e2) 0 a b2 c2 d e2).1 22 23 (((l_X9_feed  21 (wU (wU (wU (wU (wU (wU I 22 0 0) 54 0 a) 54 1 b2) 54 2 c2) 54 3 d) 54 4 e2) 0 a b2 c2 d e2).1 22 23) + 20))) := by unfold f_X9_feed; rw [if_pos c_15]
        exact ⟨⟨by rw [ef], by rw [ef]⟩, rfl, rfl⟩
    exact w_iret X hr hlk hw hp_121 (Nat.le_of_ble_eq_true rfl) (Nat.le_of_ble_eq_true rfl) dX9_feed_121
  · refine lv_iconst (v := -1) hx hb dX9_feed_18 (by decide) ?_
    have hp_19 : po_c_X9_feed (-1) (G, (wU I 22 0 0), J) := by
        rw [epo]
        have ef : f_X9_feed I a b2 c2 d e2 = ((-1), (wU I 22 0 0)) := by unfold f_X9_feed; rw [if_neg c_15]
        exact ⟨⟨by rw [ef], by rw [ef]⟩, rfl, rfl⟩
    exact w_iret X hr hlk hw hp_19 (Nat.le_of_ble_eq_true rfl) (Nat.le_of_ble_eq_true rfl) dX9_feed_19
