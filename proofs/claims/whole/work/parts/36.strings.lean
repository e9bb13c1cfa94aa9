/-! words of the law's text -/
def w_lw (k : Nat) : Int32 := Int32.ofNat (w_wd.getD k []).length
def w_ch (k : Nat) (i : Int32) : Int32 := (w_wd.getD k []).getD i.toNatClampNeg 0
theorem St.x {z : Nat → Nat} {b : Nat} {U : State} (h : St z b U) : Sx z b U := h.2.2.2.2.2.2.2
theorem w_strec {D : va_G} {y : Nat → ClassId} {b : Nat} {G : wG} {I : wI} {J : wJ} {s : State} {H : Heap} {locs : List Loc} {a v k : Nat} (hs : w_st b a v k s) (hw : Wh D y b G I J s H locs) : ∃ cell : Cell, H[a]? = some cell ∧ cell.vm.isStatics = false ∧ s.vm.findClass "java/lang/String" = some cell.cls := by
  obtain ⟨cell, h1, h2, h3, -⟩ := hs.1.kept hw.2.2.2.1
  exact ⟨cell, h1, h2, h3⟩
theorem w_sh0 (x : Int32) : x >>> ((0 : Int32) &&& 31) = x := by
  have h : ((0 : Int32) &&& 31) = 0 := by decide
  rw [h]
  apply Int32.toBitVec_inj.mp
  simp
theorem w_lw_6 : ∀ k, k < 6 → 0 < (w_wd.getD k []).length ∧ (w_wd.getD k []).length ≤ 6 ∧ (w_lw k).toInt = ((w_wd.getD k []).length : Int) := by decide +kernel
theorem w_ch_6 : ∀ k, k < 6 → ∀ j, j < (w_wd.getD k []).length → (((w_wd.getD k []).getD j 0 &&& 255).toUInt32 % 65536).toInt32 = (w_wd.getD k []).getD j 0 := by decide +kernel
theorem w_chn_6 : ∀ k, k < 6 → ∀ j, j < (w_wd.getD k []).length → narrow .char (.int ((w_wd.getD k []).getD j 0)) = .int ((w_wd.getD k []).getD j 0) := by decide +kernel
theorem w_lwlt {k : Nat} {i : Int32} (hk : k < 6) (h0 : ¬ i < 0) (h1 : i < w_lw k) : i.toNatClampNeg < (w_wd.getD k []).length := by
  have h2 := (w_lw_6 k hk).2.2
  simp only [i_lt, i_cl, Int32.reduceToInt] at *
  omega
theorem w_chx {k : Nat} {i : Int32} (hk : k < 6) (h0 : ¬ i < 0) (h1 : i < w_lw k) : ((w_ch k i &&& 255).toUInt32 % 65536).toInt32 = w_ch k i := w_ch_6 k hk _ (w_lwlt hk h0 h1)
theorem w_chn {k : Nat} {i : Int32} (hk : k < 6) (h0 : ¬ i < 0) (h1 : i < w_lw k) : narrow .char (.int (w_ch k i)) = .int (w_ch k i) := w_chn_6 k hk _ (w_lwlt hk h0 h1)
section WCALL2
variable {p : Program} {l : Launch} {e : Env} {R : Room} {s : State} {m : MethodId} {args : Array Value} {below : List Frame} {meth : Method} {c : Code} {H : Heap} {locs : List Loc} {cells slots : Nat} {Q : State → Prop}
variable {cc : ByteArray} {nL pc : Nat} {Ts : List Cond} {own : String} {D : va_G} {y : Nat → ClassId} {b : Nat} {z : Nat → Nat} {G : wG} {I : wI} {J : wJ} {ls : Array Slot} {rest : List Value}
variable {yn : MethodName} {bytes : ByteArray} {maxL mc ms n index : Nat} {ret : Option FieldType} {ws : List Cond} {rm : Room} {C : String} {a : Addr} {As st0 : List Value} {lv : List (Nat × Value)}
theorem w_callSv {post : wS → Prop} (X : wCx p m c cc nL s args Ts own D y b) (hw : Wh D y b G I J s H locs) (hst : St z b s) (hl : lv_has ls nL lv) (hM : mV l yn ws rm D y b z G I J As post mc ms) (cw : CallB R s args own index yn bytes maxL ret ws rm mc ms n ∧ (Cond.static yn).before args s = true)
    (hn : As.length = n) (hstack : st0 = As.reverse ++ rest) (hW : (rest.map fun v => v.category).sum ≤ 8) (hdg : decode cc pc = .ok (.invokestatic index, 3)) (hf : cells + mc ≤ R.cells ∧ slots + ms ≤ R.slots)
    (kk : ∀ (u : wS) (H : Heap) (locs : List Loc), post u → Wh D y b u.1 u.2.1 u.2.2 s H locs → W p l e R s m args below meth c H locs (cells + mc) (slots + ms) Q (F0 m (pc + 3) ls rest)) : W p l e R s m args below meth c H locs cells slots Q (F0 m pc ls st0) :=
  va_callv (va_runS (As := As) (rest := rest) X.1 hM cw ⟨Wd.blind, w_pre X hw hst⟩ rfl hn hl.1 hstack (lv_room hW) hdg hf) hw.2.2 (fun _ _ h => h) (fun _ h => h) (fun u t H1 locs1 ht _ hp hB _ _ hS => kk u H1 locs1 hp ⟨ht ▸ hB.1, hB.2, hS⟩)
end WCALL2
set_option maxHeartbeats 4000000 in
set_option maxRecDepth 100000 in
theorem c_St_coder (l : Launch) (D : va_G) (y : Nat → ClassId) (b : Nat) (z : Nat → Nat) (G : wG) (I : wI) (J : wJ) (hL : w_full G) (a v kw : Nat) (hkw : kw < 6) (hsT : ∀ U, St z b U → w_st b a v kw U) : mI l yJ0_coder_7d493 wsJ0_coder_7d493 { frames := 0, cells := 0, slots := 0, locals := 0 } D y b z G I J [.ref a] (fun r u => r = 0 ∧ u = (G, I, J)) 0 0 := by
  refine w_enter (by decide) rfl (Nat.le_of_ble_eq_true rfl) rfl ?_
  intro p e s m below meth c ls X hr hlk hnm hw hst hl
  have hx := X.1.1
  have hb := X.1.2.1
  obtain ⟨po_c_St_coder, epo⟩ : ∃ qpo9 : Int32 → wS → Prop, qpo9 = (fun r u => r = 0 ∧ u = (G, I, J)) := ⟨_, rfl⟩
  rw [← epo]
  refine va_gets hx hb hst.x.2.2.2.2.1 hw.2.2 X.1.2.2.2.1 (X.1.2.2.2.2 (.fieldLink RJ0 38 "java/lang/String" "COMPACT_STRINGS" "Z") (by decide +kernel)) (fun _ h => h) dJ0_coder_7d493_0 ?_
  refine lv_if_eq (tgt := 13) hx hb dJ0_coder_7d493_3 (by decide) (fun c_3 => ?_) (fun c_3 => ?_)
  · exact absurd c_3 (by decide)
  · refine lv_aload_n hx hb dJ0_coder_7d493_6 rfl (lv_at hl 0 rfl) ?_
    refine vk_getf hx hb (hsT s hst).2.1 hw.2.2 X.1.2.2.2.1 (X.1.2.2.2.2 (.fieldLink RJ0 15 "java/lang/String" "coder" "B") (by decide +kernel)) (fun _ h => h) dJ0_coder_7d493_7 ?_
    refine lv_goto (tgt := 14) hx hb dJ0_coder_7d493_10 (by decide) ?_
    have hp_14 : po_c_St_coder 0 (G, I, J) := by rw [epo]; exact ⟨rfl, rfl⟩
    exact w_zret X hr rfl hlk hw hp_14 (Nat.le_of_ble_eq_true rfl) (Nat.le_of_ble_eq_true rfl) dJ0_coder_7d493_14
set_option maxHeartbeats 4000000 in
set_option maxRecDepth 100000 in
theorem c_St_isLatin1 (l : Launch) (D : va_G) (y : Nat → ClassId) (b : Nat) (z : Nat → Nat) (G : wG) (I : wI) (J : wJ) (hL : w_full G) (a v kw : Nat) (hkw : kw < 6) (hsT : ∀ U, St z b U → w_st b a v kw U) : mI l yJ0_isLatin1_aae02 wsJ0_isLatin1_aae02 { frames := 0, cells := 0, slots := 0, locals := 0 } D y b z G I J [.ref a] (fun r u => r = 1 ∧ u = (G, I, J)) 0 0 := by
  refine w_enter (by decide) rfl (Nat.le_of_ble_eq_true rfl) rfl ?_
  intro p e s m below meth c ls X hr hlk hnm hw hst hl
  have hx := X.1.1
  have hb := X.1.2.1
  obtain ⟨po_c_St_isLatin1, epo⟩ : ∃ qpo9 : Int32 → wS → Prop, qpo9 = (fun r u => r = 1 ∧ u = (G, I, J)) := ⟨_, rfl⟩
  rw [← epo]
  refine va_gets hx hb hst.x.2.2.2.2.1 hw.2.2 X.1.2.2.2.1 (X.1.2.2.2.2 (.fieldLink RJ0 38 "java/lang/String" "COMPACT_STRINGS" "Z") (by decide +kernel)) (fun _ h => h) dJ0_isLatin1_aae02_0 ?_
  refine lv_if_eq (tgt := 17) hx hb dJ0_isLatin1_aae02_3 (by decide) (fun c_3 => ?_) (fun c_3 => ?_)
  · exact absurd c_3 (by decide)
  · refine lv_aload_n hx hb dJ0_isLatin1_aae02_6 rfl (lv_at hl 0 rfl) ?_
    refine vk_getf hx hb (hsT s hst).2.1 hw.2.2 X.1.2.2.2.1 (X.1.2.2.2.2 (.fieldLink RJ0 15 "java/lang/String" "coder" "B") (by decide +kernel)) (fun _ h => h) dJ0_isLatin1_aae02_7 ?_
    refine lv_if_ne (tgt := 17) hx hb dJ0_isLatin1_aae02_10 (by decide) (fun c_10 => ?_) (fun c_10 => ?_)
    · exact absurd (by decide) c_10
    · refine lv_iconst (v := 1) hx hb dJ0_isLatin1_aae02_13 (by decide) ?_
      refine lv_goto (tgt := 18) hx hb dJ0_isLatin1_aae02_14 (by decide) ?_
      have hp_18 : po_c_St_isLatin1 1 (G, I, J) := by rw [epo]; exact ⟨rfl, rfl⟩
      exact w_zret X hr rfl hlk hw hp_18 (Nat.le_of_ble_eq_true rfl) (Nat.le_of_ble_eq_true rfl) dJ0_isLatin1_aae02_18
set_option maxHeartbeats 4000000 in
set_option maxRecDepth 100000 in
theorem c_St_length (l : Launch) (D : va_G) (y : Nat → ClassId) (b : Nat) (z : Nat → Nat) (G : wG) (I : wI) (J : wJ) (hL : w_full G) (a v kw : Nat) (hkw : kw < 6) (hsT : ∀ U, St z b U → w_st b a v kw U) : mI l yJ0_length_8abf5 wsJ0_length_8abf5 { frames := 1, cells := 0, slots := 0, locals := 20 } D y b z G I J [.ref a] (fun r u => r = w_lw kw ∧ u = (G, I, J)) 0 0 := by
  refine w_enter (by decide) rfl (Nat.le_of_ble_eq_true rfl) rfl ?_
  intro p e s m below meth c ls X hr hlk hnm hw hst hl
  have hx := X.1.1
  have hb := X.1.2.1
  obtain ⟨po_c_St_length, epo⟩ : ∃ qpo9 : Int32 → wS → Prop, qpo9 = (fun r u => r = w_lw kw ∧ u = (G, I, J)) := ⟨_, rfl⟩
  rw [← epo]
  refine lv_aload_n hx hb dJ0_length_8abf5_0 rfl (lv_at hl 0 rfl) ?_
  refine vk_getf hx hb (hsT s hst).2.2.1 hw.2.2 X.1.2.2.2.1 (X.1.2.2.2.2 (.fieldLink RJ0 9 "java/lang/String" "value" "[B") (by decide +kernel)) (fun _ h => h) dJ0_length_8abf5_1 ?_
  refine va_tlen hx hb (hsT s hst).2.2.2 hw.2.2 (v := w_lw kw) rfl dJ0_length_8abf5_4 ?_
  refine lv_aload_n hx hb dJ0_length_8abf5_5 rfl (lv_at hl 0 rfl) ?_
  refine w_callVi (As := []) (rest := [.int (w_lw kw)]) X hw hst hl (c_St_coder l D y b z G I J hL a v kw hkw hsT) (cwV 0 X.1.2.2.2.2 gJ0_length_8abf5_J0_coder_7d493 rfl rfl rfl (by decide +kernel) ⟨Nat.le_of_ble_eq_true rfl, Nat.le_of_ble_eq_true rfl⟩) (w_strec (hsT s hst) hw) rfl rfl (Nat.le_of_ble_eq_true rfl) dJ0_length_8abf5_6 ⟨Nat.le_of_ble_eq_true rfl, Nat.le_of_ble_eq_true rfl⟩ (fun r_6_1 u H locs hp_6 hw => ?_)
  obtain ⟨hp_6, rfl⟩ := hp_6
  dsimp only at hw
  subst r_6_1
  refine lv_ishr hx hb dJ0_length_8abf5_9 ?_
  have hp_10 : po_c_St_length ((w_lw kw) >>> ((0 : Int32) &&& 31)) (G, I, J) := by rw [epo]; exact ⟨w_sh0 _, rfl⟩
  exact w_iret X hr hlk hw hp_10 (Nat.le_of_ble_eq_true rfl) (Nat.le_of_ble_eq_true rfl) dJ0_length_8abf5_10
set_option maxHeartbeats 4000000 in
set_option maxRecDepth 100000 in
theorem c_J3_ref (l : Launch) (D : va_G) (y : Nat → ClassId) (b : Nat) (z : Nat → Nat) (G : wG) (I : wI) (J : wJ) (hL : w_full G) (fm : Nat) (i n2 : Int32) (h0 : ¬ i < 0) (h1 : i < n2) : mI l yJ3_checkIndex_8e157 wsJ3_checkIndex_8e157 { frames := 0, cells := 0, slots := 0, locals := 0 } D y b z G I J [.int i, .int n2, .ref fm] (fun r u => r = i ∧ u = (G, I, J)) 0 0 := by
  refine w_enter (by decide) rfl (Nat.le_of_ble_eq_true rfl) rfl ?_
  intro p e s m below meth c ls X hr hlk hnm hw hst hl
  have hx := X.1.1
  have hb := X.1.2.1
  obtain ⟨po_c_J3_ref, epo⟩ : ∃ qpo9 : Int32 → wS → Prop, qpo9 = (fun r u => r = i ∧ u = (G, I, J)) := ⟨_, rfl⟩
  rw [← epo]
  refine lv_iload_n hx hb dJ3_checkIndex_8e157_0 rfl (lv_at hl 0 rfl) ?_
  refine lv_if_lt (tgt := 9) hx hb dJ3_checkIndex_8e157_1 (by decide) (fun c_1 => ?_) (fun c_1 => ?_)
  · exact absurd c_1 h0
  · refine lv_iload_n hx hb dJ3_checkIndex_8e157_4 rfl (lv_at hl 0 rfl) ?_
    refine lv_iload_n hx hb dJ3_checkIndex_8e157_5 rfl (lv_at hl 1 rfl) ?_
    refine lv_icmp_lt (tgt := 16) hx hb dJ3_checkIndex_8e157_6 (by decide) (fun c_6 => ?_) (fun c_6 => ?_)
    · refine lv_iload_n hx hb dJ3_checkIndex_8e157_16 rfl (lv_at hl 0 rfl) ?_
      have hp_17 : po_c_J3_ref i (G, I, J) := by rw [epo]; exact ⟨rfl, rfl⟩
      exact w_iret X hr hlk hw hp_17 (Nat.le_of_ble_eq_true rfl) (Nat.le_of_ble_eq_true rfl) dJ3_checkIndex_8e157_17
    · exact absurd h1 c_6
set_option maxHeartbeats 4000000 in
set_option maxRecDepth 100000 in
theorem c_St_checkIndex (l : Launch) (D : va_G) (y : Nat → ClassId) (b : Nat) (z : Nat → Nat) (G : wG) (I : wI) (J : wJ) (hL : w_full G) (i n2 : Int32) (h0 : ¬ i < 0) (h1 : i < n2) : mV l yJ0_checkIndex_df160 wsJ0_checkIndex_df160 { frames := 1, cells := 0, slots := 0, locals := 22 } D y b z G I J [.int i, .int n2] (fun u => u = (G, I, J)) 0 0 := by
  refine w_enter (by decide) rfl (Nat.le_of_ble_eq_true rfl) rfl ?_
  intro p e s m below meth c ls X hr hlk hnm hw hst hl
  have hx := X.1.1
  have hb := X.1.2.1
  obtain ⟨po_c_St_checkIndex, epo⟩ : ∃ qpo9 : wS → Prop, qpo9 = (fun u => u = (G, I, J)) := ⟨_, rfl⟩
  rw [← epo]
  refine lv_iload_n hx hb dJ0_checkIndex_df160_0 rfl (lv_at hl 0 rfl) ?_
  refine lv_iload_n hx hb dJ0_checkIndex_df160_1 rfl (lv_at hl 1 rfl) ?_
  rcases hst.x.2.2.2.2.2.1 with hzq | ⟨fm, hzq⟩
  · refine va_gets hx hb hzq hw.2.2 X.1.2.2.2.1 (X.1.2.2.2.2 (.fieldLink RJ0 1053 "jdk/internal/util/Preconditions" "SIOOBE_FORMATTER" "Ljava/util/function/BiFunction;") (by decide +kernel)) (fun _ h => h) dJ0_checkIndex_df160_2 ?_
    refine w_callSi (As := [.int i, .int n2, .null]) (rest := []) X hw hst hl (c_J3_null l D y b z G I J hL i n2 h0 h1) (va_cwS 3 X.1.2.2.2.2 gJ0_checkIndex_df160_J3_checkIndex_8e157 rfl rfl rfl (by decide +kernel) ⟨Nat.le_of_ble_eq_true rfl, Nat.le_of_ble_eq_true rfl⟩) rfl rfl (Nat.le_of_ble_eq_true rfl) dJ0_checkIndex_df160_5 ⟨Nat.le_of_ble_eq_true rfl, Nat.le_of_ble_eq_true rfl⟩ (fun r_5_1 u H locs hp_5 hw => ?_)
    obtain ⟨hp_5, rfl⟩ := hp_5
    dsimp only at hw
    refine lv_pop hx hb dJ0_checkIndex_df160_8 rfl ?_
    have hp_9 : po_c_St_checkIndex (G, I, J) := by rw [epo]
    exact w_vret X hr hlk hw hp_9 (Nat.le_of_ble_eq_true rfl) (Nat.le_of_ble_eq_true rfl) dJ0_checkIndex_df160_9
  · refine va_gets hx hb hzq hw.2.2 X.1.2.2.2.1 (X.1.2.2.2.2 (.fieldLink RJ0 1053 "jdk/internal/util/Preconditions" "SIOOBE_FORMATTER" "Ljava/util/function/BiFunction;") (by decide +kernel)) (fun _ h => h) dJ0_checkIndex_df160_2 ?_
    refine w_callSi (As := [.int i, .int n2, .ref fm]) (rest := []) X hw hst hl (c_J3_ref l D y b z G I J hL fm i n2 h0 h1) (va_cwS 3 X.1.2.2.2.2 gJ0_checkIndex_df160_J3_checkIndex_8e157 rfl rfl rfl (by decide +kernel) ⟨Nat.le_of_ble_eq_true rfl, Nat.le_of_ble_eq_true rfl⟩) rfl rfl (Nat.le_of_ble_eq_true rfl) dJ0_checkIndex_df160_5 ⟨Nat.le_of_ble_eq_true rfl, Nat.le_of_ble_eq_true rfl⟩ (fun r_5_2 u H locs hp_5 hw => ?_)
    obtain ⟨hp_5, rfl⟩ := hp_5
    dsimp only at hw
    refine lv_pop hx hb dJ0_checkIndex_df160_8 rfl ?_
    have hp_9 : po_c_St_checkIndex (G, I, J) := by rw [epo]
    exact w_vret X hr hlk hw hp_9 (Nat.le_of_ble_eq_true rfl) (Nat.le_of_ble_eq_true rfl) dJ0_checkIndex_df160_9
set_option maxHeartbeats 4000000 in
set_option maxRecDepth 100000 in
theorem c_St_charAt1 (l : Launch) (D : va_G) (y : Nat → ClassId) (b : Nat) (z : Nat → Nat) (G : wG) (I : wI) (J : wJ) (hL : w_full G) (a v kw : Nat) (hkw : kw < 6) (hsT : ∀ U, St z b U → w_st b a v kw U) (i : Int32) (h0 : ¬ i < 0) (h1 : i < w_lw kw) : mI l yJ1_charAt_3b067 wsJ1_charAt_3b067 { frames := 2, cells := 0, slots := 0, locals := 43 } D y b z G I J [.ref v, .int i] (fun r u => r = w_ch kw i ∧ u = (G, I, J)) 0 0 := by
  refine w_enter (by decide) rfl (Nat.le_of_ble_eq_true rfl) rfl ?_
  intro p e s m below meth c ls X hr hlk hnm hw hst hl
  have hx := X.1.1
  have hb := X.1.2.1
  obtain ⟨po_c_St_charAt1, epo⟩ : ∃ qpo9 : Int32 → wS → Prop, qpo9 = (fun r u => r = w_ch kw i ∧ u = (G, I, J)) := ⟨_, rfl⟩
  rw [← epo]
  refine lv_iload_n hx hb dJ1_charAt_3b067_0 rfl (lv_at hl 1 rfl) ?_
  refine lv_aload_n hx hb dJ1_charAt_3b067_1 rfl (lv_at hl 0 rfl) ?_
  refine va_tlen hx hb (hsT s hst).2.2.2 hw.2.2 (v := w_lw kw) rfl dJ1_charAt_3b067_2 ?_
  refine w_callSv (As := [.int i, .int (w_lw kw)]) (rest := []) X hw hst hl (c_St_checkIndex l D y b z G I J hL i (w_lw kw) h0 h1) (va_cwS 2 X.1.2.2.2.2 gJ1_charAt_3b067_J0_checkIndex_df160 rfl rfl rfl (by decide +kernel) ⟨Nat.le_of_ble_eq_true rfl, Nat.le_of_ble_eq_true rfl⟩) rfl rfl (Nat.le_of_ble_eq_true rfl) dJ1_charAt_3b067_3 ⟨Nat.le_of_ble_eq_true rfl, Nat.le_of_ble_eq_true rfl⟩ (fun u H locs hp_3 hw => ?_)
  obtain rfl := hp_3
  dsimp only at hw
  refine lv_aload_n hx hb dJ1_charAt_3b067_6 rfl (lv_at hl 0 rfl) ?_
  refine lv_iload_n hx hb dJ1_charAt_3b067_7 rfl (lv_at hl 1 rfl) ?_
  refine va_tb hx hb (hsT s hst).2.2.2 hw.2.2 (show vp_in i _ from ls_in h0 (w_lwlt hkw h0 h1)) (v := .int (w_ch kw i)) rfl dJ1_charAt_3b067_8 ?_
  refine lv_sipush (v := 255) hx hb dJ1_charAt_3b067_9 (by decide) ?_
  refine lv_iand hx hb dJ1_charAt_3b067_12 ?_
  refine lv_i2c hx hb dJ1_charAt_3b067_13 rfl ?_
  have hp_14 : po_c_St_charAt1 ((((w_ch kw i) &&& 255).toUInt32 % 65536).toInt32) (G, I, J) := by rw [epo]; exact ⟨w_chx hkw h0 h1, rfl⟩
  exact w_zret X hr (by rw [w_chx hkw h0 h1]; exact w_chn hkw h0 h1) hlk hw hp_14 (Nat.le_of_ble_eq_true rfl) (Nat.le_of_ble_eq_true rfl) dJ1_charAt_3b067_14
set_option maxHeartbeats 4000000 in
set_option maxRecDepth 100000 in
theorem c_St_charAt (l : Launch) (D : va_G) (y : Nat → ClassId) (b : Nat) (z : Nat → Nat) (G : wG) (I : wI) (J : wJ) (hL : w_full G) (a v kw : Nat) (hkw : kw < 6) (hsT : ∀ U, St z b U → w_st b a v kw U) (i : Int32) (h0 : ¬ i < 0) (h1 : i < w_lw kw) : mI l yJ0_charAt_5068e wsJ0_charAt_5068e { frames := 3, cells := 0, slots := 0, locals := 64 } D y b z G I J [.ref a, .int i] (fun r u => r = w_ch kw i ∧ u = (G, I, J)) 0 0 := by
  refine w_enter (by decide) rfl (Nat.le_of_ble_eq_true rfl) rfl ?_
  intro p e s m below meth c ls X hr hlk hnm hw hst hl
  have hx := X.1.1
  have hb := X.1.2.1
  obtain ⟨po_c_St_charAt, epo⟩ : ∃ qpo9 : Int32 → wS → Prop, qpo9 = (fun r u => r = w_ch kw i ∧ u = (G, I, J)) := ⟨_, rfl⟩
  rw [← epo]
  refine lv_aload_n hx hb dJ0_charAt_5068e_0 rfl (lv_at hl 0 rfl) ?_
  refine w_callVi (As := []) (rest := []) X hw hst hl (c_St_isLatin1 l D y b z G I J hL a v kw hkw hsT) (cwV 0 X.1.2.2.2.2 gJ0_charAt_5068e_J0_isLatin1_aae02 rfl rfl rfl (by decide +kernel) ⟨Nat.le_of_ble_eq_true rfl, Nat.le_of_ble_eq_true rfl⟩) (w_strec (hsT s hst) hw) rfl rfl (Nat.le_of_ble_eq_true rfl) dJ0_charAt_5068e_1 ⟨Nat.le_of_ble_eq_true rfl, Nat.le_of_ble_eq_true rfl⟩ (fun r_1_1 u H locs hp_1 hw => ?_)
  obtain ⟨hp_1, rfl⟩ := hp_1
  dsimp only at hw
  subst r_1_1
  refine lv_if_eq (tgt := 16) hx hb dJ0_charAt_5068e_4 (by decide) (fun c_4 => ?_) (fun c_4 => ?_)
  · exact absurd c_4 (by decide)
  · refine lv_aload_n hx hb dJ0_charAt_5068e_7 rfl (lv_at hl 0 rfl) ?_
    refine vk_getf hx hb (hsT s hst).2.2.1 hw.2.2 X.1.2.2.2.1 (X.1.2.2.2.2 (.fieldLink RJ0 9 "java/lang/String" "value" "[B") (by decide +kernel)) (fun _ h => h) dJ0_charAt_5068e_8 ?_
    refine lv_iload_n hx hb dJ0_charAt_5068e_11 rfl (lv_at hl 1 rfl) ?_
    refine w_callSi (As := [.ref v, .int i]) (rest := []) X hw hst hl (c_St_charAt1 l D y b z G I J hL a v kw hkw hsT i h0 h1) (va_cwS 2 X.1.2.2.2.2 gJ0_charAt_5068e_J1_charAt_3b067 rfl rfl rfl (by decide +kernel) ⟨Nat.le_of_ble_eq_true rfl, Nat.le_of_ble_eq_true rfl⟩) rfl rfl (Nat.le_of_ble_eq_true rfl) dJ0_charAt_5068e_12 ⟨Nat.le_of_ble_eq_true rfl, Nat.le_of_ble_eq_true rfl⟩ (fun r_12_2 u H locs hp_12 hw => ?_)
    obtain ⟨hp_12, rfl⟩ := hp_12
    dsimp only at hw
    have hp_15 : po_c_St_charAt r_12_2 (G, I, J) := by rw [epo]; exact ⟨hp_12, rfl⟩
    exact w_zret X hr (by rw [hp_12]; exact w_chn hkw h0 h1) hlk hw hp_15 (Nat.le_of_ble_eq_true rfl) (Nat.le_of_ble_eq_true rfl) dJ0_charAt_5068e_15
set_option maxHeartbeats 4000000 in
set_option maxRecDepth 100000 in
theorem c_X1_word (l : Launch) (D : va_G) (y : Nat → ClassId) (b : Nat) (z : Nat → Nat) (G : wG) (I : wI) (J : wJ) (hL : w_full G) (k : Int32) (hk : vp_in k 6) : mR l yX1_word wsX1_word { frames := 0, cells := 0, slots := 0, locals := 0 } D y b z G I J [.int k] (fun u => u.1 = z (10 + k.toNatClampNeg) ∧ u.2 = (G, I, J)) 0 0 := by
  refine w_enter (by decide) rfl (Nat.le_of_ble_eq_true rfl) rfl ?_
  intro p e s m below meth c ls X hr hlk hnm hw hst hl
  have hx := X.1.1
  have hb := X.1.2.1
  obtain ⟨po_c_X1_word, epo⟩ : ∃ qpo9 : Nat × wS → Prop, qpo9 = (fun u => u.1 = z (10 + k.toNatClampNeg) ∧ u.2 = (G, I, J)) := ⟨_, rfl⟩
  rw [← epo]
  refine lv_iload_n hx hb dX1_word_0 rfl (lv_at hl 0 rfl) ?_
  by_cases s_1_0 : k = 0
  · refine lv_tableIn (tgt := 40) hx hb dX1_word_1 (by rw [s_1_0]; decide) (by rw [s_1_0]; decide) (by rw [s_1_0]; rfl) (by decide) ?_
    refine va_ldcS hx hb X.1.2.2.2.1 (hst.x.2.2.1 0 (by decide)).1 dX1_word_40 ?_
    have hp_42 : po_c_X1_word (z 10, G, I, J) := by rw [epo]; exact ⟨by rw [s_1_0]; rfl, rfl⟩
    exact w_aret X hr (Or.inl ⟨_, rfl⟩) hlk hw hp_42 (Nat.le_of_ble_eq_true rfl) (Nat.le_of_ble_eq_true rfl) dX1_word_42
  by_cases s_1_1 : k = 1
  · refine lv_tableIn (tgt := 43) hx hb dX1_word_1 (by rw [s_1_1]; decide) (by rw [s_1_1]; decide) (by rw [s_1_1]; rfl) (by decide) ?_
    refine va_ldcS hx hb X.1.2.2.2.1 (hst.x.2.2.1 1 (by decide)).1 dX1_word_43 ?_
    have hp_45 : po_c_X1_word (z 11, G, I, J) := by rw [epo]; exact ⟨by rw [s_1_1]; rfl, rfl⟩
    exact w_aret X hr (Or.inl ⟨_, rfl⟩) hlk hw hp_45 (Nat.le_of_ble_eq_true rfl) (Nat.le_of_ble_eq_true rfl) dX1_word_45
  by_cases s_1_2 : k = 2
  · refine lv_tableIn (tgt := 46) hx hb dX1_word_1 (by rw [s_1_2]; decide) (by rw [s_1_2]; decide) (by rw [s_1_2]; rfl) (by decide) ?_
    refine va_ldcS hx hb X.1.2.2.2.1 (hst.x.2.2.1 2 (by decide)).1 dX1_word_46 ?_
    have hp_48 : po_c_X1_word (z 12, G, I, J) := by rw [epo]; exact ⟨by rw [s_1_2]; rfl, rfl⟩
    exact w_aret X hr (Or.inl ⟨_, rfl⟩) hlk hw hp_48 (Nat.le_of_ble_eq_true rfl) (Nat.le_of_ble_eq_true rfl) dX1_word_48
  by_cases s_1_3 : k = 3
  · refine lv_tableIn (tgt := 49) hx hb dX1_word_1 (by rw [s_1_3]; decide) (by rw [s_1_3]; decide) (by rw [s_1_3]; rfl) (by decide) ?_
    refine va_ldcS hx hb X.1.2.2.2.1 (hst.x.2.2.1 3 (by decide)).1 dX1_word_49 ?_
    have hp_51 : po_c_X1_word (z 13, G, I, J) := by rw [epo]; exact ⟨by rw [s_1_3]; rfl, rfl⟩
    exact w_aret X hr (Or.inl ⟨_, rfl⟩) hlk hw hp_51 (Nat.le_of_ble_eq_true rfl) (Nat.le_of_ble_eq_true rfl) dX1_word_51
  by_cases s_1_4 : k = 4
  · refine lv_tableIn (tgt := 52) hx hb dX1_word_1 (by rw [s_1_4]; decide) (by rw [s_1_4]; decide) (by rw [s_1_4]; rfl) (by decide) ?_
    refine va_ldcS hx hb X.1.2.2.2.1 (hst.x.2.2.1 4 (by decide)).1 dX1_word_52 ?_
    have hp_54 : po_c_X1_word (z 14, G, I, J) := by rw [epo]; exact ⟨by rw [s_1_4]; rfl, rfl⟩
    exact w_aret X hr (Or.inl ⟨_, rfl⟩) hlk hw hp_54 (Nat.le_of_ble_eq_true rfl) (Nat.le_of_ble_eq_true rfl) dX1_word_54
  by_cases s_1_5 : k = 5
  · refine lv_tableIn (tgt := 55) hx hb dX1_word_1 (by rw [s_1_5]; decide) (by rw [s_1_5]; decide) (by rw [s_1_5]; rfl) (by decide) ?_
    refine va_ldcS hx hb X.1.2.2.2.1 (hst.x.2.2.1 5 (by decide)).1 dX1_word_55 ?_
    have hp_57 : po_c_X1_word (z 15, G, I, J) := by rw [epo]; exact ⟨by rw [s_1_5]; rfl, rfl⟩
    exact w_aret X hr (Or.inl ⟨_, rfl⟩) hlk hw hp_57 (Nat.le_of_ble_eq_true rfl) (Nat.le_of_ble_eq_true rfl) dX1_word_57
  refine lv_tableOut (tgt := 58) hx hb dX1_word_1 (sw_out k 0 5 (fun j h1 h2 => by
    rcases (show j = 0 ∨ j = 1 ∨ j = 2 ∨ j = 3 ∨ j = 4 ∨ j = 5 by omega) with rfl | rfl | rfl | rfl | rfl | rfl
    · exact lv_neT s_1_0 (by decide)
    · exact lv_neT s_1_1 (by decide)
    · exact lv_neT s_1_2 (by decide)
    · exact lv_neT s_1_3 (by decide)
    · exact lv_neT s_1_4 (by decide)
    · exact lv_neT s_1_5 (by decide))) (by decide) ?_
  exact absurd hk (by intro hk; rw [vp_in_iff] at hk; have e0 : ¬ k.toInt = 0 := fun e => s_1_0 (i_eq.mpr e); have e1 : ¬ k.toInt = 1 := fun e => s_1_1 (i_eq.mpr e); have e2 : ¬ k.toInt = 2 := fun e => s_1_2 (i_eq.mpr e); have e3 : ¬ k.toInt = 3 := fun e => s_1_3 (i_eq.mpr e); have e4 : ¬ k.toInt = 4 := fun e => s_1_4 (i_eq.mpr e); have e5 : ¬ k.toInt = 5 := fun e => s_1_5 (i_eq.mpr e); omega)
set_option maxHeartbeats 4000000 in
set_option maxRecDepth 100000 in
theorem c_X9_word (l : Launch) (D : va_G) (y : Nat → ClassId) (b : Nat) (z : Nat → Nat) (G : wG) (I : wI) (J : wJ) (hL : w_full G) (k : Int32) (hk : vp_in k 6) : mR l yX9_word wsX9_word { frames := 0, cells := 0, slots := 0, locals := 0 } D y b z G I J [.int k] (fun u => u.1 = z (22 + k.toNatClampNeg) ∧ u.2 = (G, I, J)) 0 0 := by
  refine w_enter (by decide) rfl (Nat.le_of_ble_eq_true rfl) rfl ?_
  intro p e s m below meth c ls X hr hlk hnm hw hst hl
  have hx := X.1.1
  have hb := X.1.2.1
  obtain ⟨po_c_X9_word, epo⟩ : ∃ qpo9 : Nat × wS → Prop, qpo9 = (fun u => u.1 = z (22 + k.toNatClampNeg) ∧ u.2 = (G, I, J)) := ⟨_, rfl⟩
  rw [← epo]
  refine lv_iload_n hx hb dX9_word_0 rfl (lv_at hl 0 rfl) ?_
  by_cases s_1_0 : k = 0
  · refine lv_tableIn (tgt := 36) hx hb dX9_word_1 (by rw [s_1_0]; decide) (by rw [s_1_0]; decide) (by rw [s_1_0]; rfl) (by decide) ?_
    refine va_ldcS hx hb X.1.2.2.2.1 (hst.x.2.2.2.1 0 (by decide)).1 dX9_word_36 ?_
    have hp_38 : po_c_X9_word (z 22, G, I, J) := by rw [epo]; exact ⟨by rw [s_1_0]; rfl, rfl⟩
    exact w_aret X hr (Or.inl ⟨_, rfl⟩) hlk hw hp_38 (Nat.le_of_ble_eq_true rfl) (Nat.le_of_ble_eq_true rfl) dX9_word_38
  by_cases s_1_1 : k = 1
  · refine lv_tableIn (tgt := 39) hx hb dX9_word_1 (by rw [s_1_1]; decide) (by rw [s_1_1]; decide) (by rw [s_1_1]; rfl) (by decide) ?_
    refine va_ldcS hx hb X.1.2.2.2.1 (hst.x.2.2.2.1 1 (by decide)).1 dX9_word_39 ?_
    have hp_41 : po_c_X9_word (z 23, G, I, J) := by rw [epo]; exact ⟨by rw [s_1_1]; rfl, rfl⟩
    exact w_aret X hr (Or.inl ⟨_, rfl⟩) hlk hw hp_41 (Nat.le_of_ble_eq_true rfl) (Nat.le_of_ble_eq_true rfl) dX9_word_41
  by_cases s_1_2 : k = 2
  · refine lv_tableIn (tgt := 42) hx hb dX9_word_1 (by rw [s_1_2]; decide) (by rw [s_1_2]; decide) (by rw [s_1_2]; rfl) (by decide) ?_
    refine va_ldcS hx hb X.1.2.2.2.1 (hst.x.2.2.2.1 2 (by decide)).1 dX9_word_42 ?_
    have hp_44 : po_c_X9_word (z 24, G, I, J) := by rw [epo]; exact ⟨by rw [s_1_2]; rfl, rfl⟩
    exact w_aret X hr (Or.inl ⟨_, rfl⟩) hlk hw hp_44 (Nat.le_of_ble_eq_true rfl) (Nat.le_of_ble_eq_true rfl) dX9_word_44
  by_cases s_1_3 : k = 3
  · refine lv_tableIn (tgt := 45) hx hb dX9_word_1 (by rw [s_1_3]; decide) (by rw [s_1_3]; decide) (by rw [s_1_3]; rfl) (by decide) ?_
    refine va_ldcS hx hb X.1.2.2.2.1 (hst.x.2.2.2.1 3 (by decide)).1 dX9_word_45 ?_
    have hp_47 : po_c_X9_word (z 25, G, I, J) := by rw [epo]; exact ⟨by rw [s_1_3]; rfl, rfl⟩
    exact w_aret X hr (Or.inl ⟨_, rfl⟩) hlk hw hp_47 (Nat.le_of_ble_eq_true rfl) (Nat.le_of_ble_eq_true rfl) dX9_word_47
  by_cases s_1_4 : k = 4
  · refine lv_tableIn (tgt := 48) hx hb dX9_word_1 (by rw [s_1_4]; decide) (by rw [s_1_4]; decide) (by rw [s_1_4]; rfl) (by decide) ?_
    refine va_ldcS hx hb X.1.2.2.2.1 (hst.x.2.2.2.1 4 (by decide)).1 dX9_word_48 ?_
    have hp_50 : po_c_X9_word (z 26, G, I, J) := by rw [epo]; exact ⟨by rw [s_1_4]; rfl, rfl⟩
    exact w_aret X hr (Or.inl ⟨_, rfl⟩) hlk hw hp_50 (Nat.le_of_ble_eq_true rfl) (Nat.le_of_ble_eq_true rfl) dX9_word_50
  refine lv_tableOut (tgt := 51) hx hb dX9_word_1 (sw_out k 0 4 (fun j h1 h2 => by
    rcases (show j = 0 ∨ j = 1 ∨ j = 2 ∨ j = 3 ∨ j = 4 by omega) with rfl | rfl | rfl | rfl | rfl
    · exact lv_neT s_1_0 (by decide)
    · exact lv_neT s_1_1 (by decide)
    · exact lv_neT s_1_2 (by decide)
    · exact lv_neT s_1_3 (by decide)
    · exact lv_neT s_1_4 (by decide))) (by decide) ?_
  refine va_ldcS hx hb X.1.2.2.2.1 (hst.x.2.2.2.1 5 (by decide)).1 dX9_word_51 ?_
  have hp_53 : po_c_X9_word (z 27, G, I, J) := by rw [epo]; exact ⟨by rw [show k = 5 from i_eq.mpr (by rw [vp_in_iff] at hk; have e0 : ¬ k.toInt = 0 := fun e => s_1_0 (i_eq.mpr e); have e1 : ¬ k.toInt = 1 := fun e => s_1_1 (i_eq.mpr e); have e2 : ¬ k.toInt = 2 := fun e => s_1_2 (i_eq.mpr e); have e3 : ¬ k.toInt = 3 := fun e => s_1_3 (i_eq.mpr e); have e4 : ¬ k.toInt = 4 := fun e => s_1_4 (i_eq.mpr e); show k.toInt = 5; omega)]; rfl, rfl⟩
  exact w_aret X hr (Or.inl ⟨_, rfl⟩) hlk hw hp_53 (Nat.le_of_ble_eq_true rfl) (Nat.le_of_ble_eq_true rfl) dX9_word_53
