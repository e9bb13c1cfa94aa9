theorem fits_le {I : wI} {s2 fr : Int32} (h : f_X9_fits I s2 fr = 1) : fr + I 61 s2.toNatClampNeg ≤ I 22 29 := by
  revert h
  unfold f_X9_fits
  split
  · next h => exact fun _ => h
  · exact fun h => absurd h (by decide)
set_option maxRecDepth 20000 in
theorem in_X9_punch_X9 : ∀ w ∈ u_ws RX9 TX9 42, w ∈ wsX9_punch := fun _ h => List.mem_cons_of_mem _ (List.mem_append_right _ h)
def l_X9_punch_s  : Nat → wI → Int32 → Int32 → Int32 → wI × Int32
  | 0, I, s2, fr, mny => (I, s2)
  | nf + 1, I, s2, fr, mny => (if (I 22 34) ≤ s2 then (I, s2) else (if f_X9_fits I s2 fr = 1 then (if ((I 62 s2.toNatClampNeg) + (I 65 (fr + (I 61 s2.toNatClampNeg)).toNatClampNeg)) < (I 65 fr.toNatClampNeg) then (l_X9_punch_s nf I (s2 + 1) fr mny) else (if ((I 62 s2.toNatClampNeg) + (I 65 (fr + (I 61 s2.toNatClampNeg)).toNatClampNeg)) = (I 65 fr.toNatClampNeg) then (if ((1 : Int32) + (I 66 (fr + (I 61 s2.toNatClampNeg)).toNatClampNeg)) < (I 66 fr.toNatClampNeg) then (l_X9_punch_s nf (wU (wU I 65 fr.toNatClampNeg ((I 62 s2.toNatClampNeg) + (I 65 (fr + (I 61 s2.toNatClampNeg)).toNatClampNeg))) 66 fr.toNatClampNeg ((1 : Int32) + (I 66 (fr + (I 61 s2.toNatClampNeg)).toNatClampNeg))) (s2 + 1) fr mny) else (l_X9_punch_s nf I (s2 + 1) fr mny)) else (l_X9_punch_s nf (wU (wU I 65 fr.toNatClampNeg ((I 62 s2.toNatClampNeg) + (I 65 (fr + (I 61 s2.toNatClampNeg)).toNatClampNeg))) 66 fr.toNatClampNeg ((1 : Int32) + (I 66 (fr + (I 61 s2.toNatClampNeg)).toNatClampNeg))) (s2 + 1) fr mny))) else (l_X9_punch_s nf I (s2 + 1) fr mny)))
set_option maxHeartbeats 4000000 in
set_option maxRecDepth 100000 in
theorem lp_X9_punch_s {p : Program} {l : Launch} {e : Env} {R : Room} {s : State} {m : MethodId} {args : Array Value} {below : List Frame} {meth : Method} {c : Code} {cells slots : Nat} {Q : State → Prop} {D : va_G} {y : Nat → ClassId} {b : Nat} {z : Nat → Nat} {G : wG} {J : wJ}  (X : wCx p m c cX9_punch 6 s args wsX9_punch yX9_punch.cls D y b) (hst : St z b s) (hL : w_full G) (hRf : 1 ≤ R.frames) (hRl : 24 ≤ R.locals) (hRc : cells ≤ R.cells) (hRs : slots ≤ R.slots) (fr : Int32) (mny : Int32)  : ∀ (nf : Nat) (I : wI) (s2 : Int32) (H : Heap) (locs : List Loc) (ls : Array Slot), (0 ≤ s2.toInt ∧ s2.toInt ≤ (I 22 34).toInt ∧ (I 22 34).toInt ≤ 6 ∧ 0 ≤ fr.toInt ∧ fr.toInt < (I 22 29).toInt ∧ (I 22 29).toInt ≤ 60 ∧ (∀ j : Nat, j < 6 → 0 ≤ (I 61 j).toInt ∧ (I 61 j).toInt ≤ 12)) → (((I 22 34).toInt - s2.toInt).toNat < nf) → Wh D y b G I J s H locs → lv_has ls 6 [(3, .int s2), (2, .int fr), (0, .ref (G.1 22)), (1, .int mny)] → (∀ (H : Heap) (locs : List Loc) (ls : Array Slot), Wh D y b G (l_X9_punch_s nf I s2 fr mny).1 J s H locs → lv_has ls 6 [(3, .int (l_X9_punch_s nf I s2 fr mny).2), (2, .int fr), (0, .ref (G.1 22)), (1, .int mny)] → W p l e R s m args below meth c H locs cells slots Q (F0 m 183 ls [])) → W p l e R s m args below meth c H locs cells slots Q (F0 m 66 ls []) := by
  have hx := X.1.1
  have hb := X.1.2.1
  intro nf
  induction nf with
  | zero => intro I s2 H locs ls hi hm; exact absurd hm (by omega)
  | succ nf ih =>
    intro I s2 H locs ls hi hm hw hl kk
    refine lv_iload_n hx hb dX9_punch_66 rfl (lv_at hl 0 rfl) ?_
    refine lv_aload_n hx hb dX9_punch_67 rfl (lv_at hl 2 rfl) ?_
    refine w_get X hw 10 34 (hL 22 (by decide)) rfl (by decide) k_X9 in_X9_punch_X9 (by decide) (by decide +kernel) rfl (v := .int (I 22 34)) rfl dX9_punch_68 ?_
    refine lv_icmp_ge (tgt := 183) hx hb dX9_punch_71 (by decide) (fun c_71 => ?_) (fun c_71 => ?_)
    · have hw9 := hw
      have hl9 := hl
      have el : l_X9_punch_s (nf + 1) I s2 fr mny = (I, s2) := by rw [l_X9_punch_s]; rw [if_pos c_71]
      exact kk _ _ _ (by rw [el]; exact hw9) (by rw [el]; exact (lv_sub hl9 [0, 1, 2, 3] rfl))
    · have hs9 : s2.toInt < 6 := by simp only [i_le, i_lt] at c_71; omega
      have hsv : vp_in s2 6 := by rw [vp_in_iff]; exact ⟨hi.1, hs9⟩
      have hfr : vp_in fr 61 := by rw [vp_in_iff]; omega
      have hz9 := hi.2.2.2.2.2.2 s2.toNatClampNeg (by rw [i_cl]; omega)
      refine lv_aload_n hx hb dX9_punch_74 rfl (lv_at hl 2 rfl) ?_
      refine lv_iload_n hx hb dX9_punch_75 rfl (lv_at hl 0 rfl) ?_
      refine lv_iload_n hx hb dX9_punch_76 rfl (lv_at hl 1 rfl) ?_
      refine w_callVi (As := [.int s2, .int fr]) (rest := []) X hw hst hl (c_X9_fits l D y b z G I J hL s2 fr hsv ⟨hi.2.2.2.1, by omega⟩ hz9 hi.2.2.2.2.2.1) (cwV 2 X.1.2.2.2.2 gX9_punch_X9_fits rfl rfl rfl (by decide +kernel) ⟨Nat.le_trans (Nat.le_of_ble_eq_true rfl) hRf, Nat.le_trans (Nat.le_of_ble_eq_true rfl) hRl⟩) (w_recv X hw (hL 22 (by decide)) rfl (by decide) k_X9) rfl rfl (Nat.le_of_ble_eq_true rfl) dX9_punch_77 ⟨hRc, hRs⟩ (fun r_77_1 u H locs hp_77 hw => ?_)
      obtain ⟨hp_77, rfl⟩ := hp_77
      dsimp only at hw
      rcases f_X9_fits_01  I s2 fr with q_77 | ⟨q_77, q0_77⟩
      · rw [q_77] at hp_77
        subst r_77_1
        refine lv_if_ne (tgt := 86) hx hb dX9_punch_80 (by decide) (fun c_80 => ?_) (fun c_80 => ?_)
        · have hsum : vp_in (fr + I 61 s2.toNatClampNeg) 61 := by have h9 := fits_le q_77; simp only [i_le] at h9; rw [i_add (by omega) (by omega)] at h9; rw [vp_in_iff, i_add (by omega) (by omega)]; omega
          refine lv_aload_n hx hb dX9_punch_86 rfl (lv_at hl 2 rfl) ?_
          refine w_get X hw 10 32 (hL 22 (by decide)) rfl (by decide) k_X9 in_X9_punch_X9 (by decide) (by decide +kernel) rfl (v := .ref (G.1 62)) rfl dX9_punch_87 ?_
          refine lv_iload_n hx hb dX9_punch_90 rfl (lv_at hl 0 rfl) ?_
          have h_91 : vp_in s2 6 := hsv
          refine w_ild X hw (hL 62 (by decide)) rfl h_91 dX9_punch_91 ?_
          refine lv_aload_n hx hb dX9_punch_92 rfl (lv_at hl 2 rfl) ?_
          refine w_get X hw 10 35 (hL 22 (by decide)) rfl (by decide) k_X9 in_X9_punch_X9 (by decide) (by decide +kernel) rfl (v := .ref (G.1 65)) rfl dX9_punch_93 ?_
          refine lv_iload_n hx hb dX9_punch_96 rfl (lv_at hl 1 rfl) ?_
          refine lv_aload_n hx hb dX9_punch_97 rfl (lv_at hl 2 rfl) ?_
          refine w_get X hw 10 31 (hL 22 (by decide)) rfl (by decide) k_X9 in_X9_punch_X9 (by decide) (by decide +kernel) rfl (v := .ref (G.1 61)) rfl dX9_punch_98 ?_
          refine lv_iload_n hx hb dX9_punch_101 rfl (lv_at hl 0 rfl) ?_
          have h_102 : vp_in s2 6 := hsv
          refine w_ild X hw (hL 61 (by decide)) rfl h_102 dX9_punch_102 ?_
          refine lv_iadd hx hb dX9_punch_103 ?_
          have h_104 : vp_in (fr + (I 61 s2.toNatClampNeg)) 61 := hsum
          refine w_ild X hw (hL 65 (by decide)) rfl h_104 dX9_punch_104 ?_
          refine lv_iadd hx hb dX9_punch_105 ?_
          refine lv_topi (fun x_2 ex_2 => ?_)
          refine lv_istore (lv' := [(4, .int x_2), (3, .int s2), (2, .int fr), (0, .ref (G.1 22)), (1, .int mny)]) hx hb dX9_punch_106 hl (by decide) rfl (fun ls hl => ?_)
          refine lv_iconst (v := 1) hx hb dX9_punch_108 (by decide) ?_
          refine lv_aload_n hx hb dX9_punch_109 rfl (lv_at hl 3 rfl) ?_
          refine w_get X hw 10 36 (hL 22 (by decide)) rfl (by decide) k_X9 in_X9_punch_X9 (by decide) (by decide +kernel) rfl (v := .ref (G.1 66)) rfl dX9_punch_110 ?_
          refine lv_iload_n hx hb dX9_punch_113 rfl (lv_at hl 2 rfl) ?_
          refine lv_aload_n hx hb dX9_punch_114 rfl (lv_at hl 3 rfl) ?_
          refine w_get X hw 10 31 (hL 22 (by decide)) rfl (by decide) k_X9 in_X9_punch_X9 (by decide) (by decide +kernel) rfl (v := .ref (G.1 61)) rfl dX9_punch_115 ?_
          refine lv_iload_n hx hb dX9_punch_118 rfl (lv_at hl 1 rfl) ?_
          have h_119 : vp_in s2 6 := hsv
          refine w_ild X hw (hL 61 (by decide)) rfl h_119 dX9_punch_119 ?_
          refine lv_iadd hx hb dX9_punch_120 ?_
          have h_121 : vp_in (fr + (I 61 s2.toNatClampNeg)) 61 := hsum
          refine w_ild X hw (hL 66 (by decide)) rfl h_121 dX9_punch_121 ?_
          refine lv_iadd hx hb dX9_punch_122 ?_
          refine lv_topi (fun x_3 ex_3 => ?_)
          refine lv_istore (lv' := [(5, .int x_3), (4, .int x_2), (3, .int s2), (2, .int fr), (0, .ref (G.1 22)), (1, .int mny)]) hx hb dX9_punch_123 hl (by decide) rfl (fun ls hl => ?_)
          refine lv_iload hx hb dX9_punch_125 (lv_at hl 1 rfl) ?_
          refine lv_aload_n hx hb dX9_punch_127 rfl (lv_at hl 4 rfl) ?_
          refine w_get X hw 10 35 (hL 22 (by decide)) rfl (by decide) k_X9 in_X9_punch_X9 (by decide) (by decide +kernel) rfl (v := .ref (G.1 65)) rfl dX9_punch_128 ?_
          refine lv_iload_n hx hb dX9_punch_131 rfl (lv_at hl 3 rfl) ?_
          have h_132 : vp_in fr 61 := hfr
          refine w_ild X hw (hL 65 (by decide)) rfl h_132 dX9_punch_132 ?_
          refine lv_icmp_lt (tgt := 177) hx hb dX9_punch_133 (by decide) (fun c_133 => ?_) (fun c_133 => ?_)
          · obtain ⟨x_4, ex_4⟩ : ∃ y : Int32, y = s2 + 1 := ⟨_, rfl⟩
            refine lv_iinc (v := x_4) (lv' := [(3, .int x_4), (5, .int x_3), (4, .int x_2), (2, .int fr), (0, .ref (G.1 22)), (1, .int mny)]) hx hb dX9_punch_177 hl (k := 2) rfl (by rw [ex_4]; rfl) (by decide) rfl (fun ls hl => ?_)
            refine lv_goto (tgt := 66) hx hb dX9_punch_180 (by decide) ?_
            have hw9 := hw
            have hl9 := hl
            obtain rfl := ex_2.symm
            obtain rfl := ex_3.symm
            obtain rfl := ex_4.symm
            have el : l_X9_punch_s (nf + 1) I s2 fr mny = l_X9_punch_s nf I (s2 + 1) fr mny := by rw [l_X9_punch_s]; rw [if_neg c_71, if_pos q_77, if_pos c_133]
            exact ih I (s2 + 1) _ _ _ (by have e1 := i_inc (k := s2) (by omega); simp only [i_le, i_lt] at c_71; exact ⟨by omega, (show (s2 + 1).toInt ≤ (I 22 34).toInt from by omega), hi.2.2⟩) (by have e1 := i_inc (k := s2) (by omega); simp only [i_le, i_lt] at c_71; exact (show ((I 22 34).toInt - (s2 + 1).toInt).toNat < nf from by omega)) hw9 (lv_sub hl9 [0, 3, 4, 5] rfl) (fun H locs ls hw hl => kk H locs ls (by rw [el]; exact hw) (by rw [el]; exact hl))
          · refine lv_iload hx hb dX9_punch_136 (lv_at hl 1 rfl) ?_
            refine lv_aload_n hx hb dX9_punch_138 rfl (lv_at hl 4 rfl) ?_
            refine w_get X hw 10 35 (hL 22 (by decide)) rfl (by decide) k_X9 in_X9_punch_X9 (by decide) (by decide +kernel) rfl (v := .ref (G.1 65)) rfl dX9_punch_139 ?_
            refine lv_iload_n hx hb dX9_punch_142 rfl (lv_at hl 3 rfl) ?_
            have h_143 : vp_in fr 61 := hfr
            refine w_ild X hw (hL 65 (by decide)) rfl h_143 dX9_punch_143 ?_
            refine lv_icmp_ne (tgt := 161) hx hb dX9_punch_144 (by decide) (fun c_144 => ?_) (fun c_144 => ?_)
            · refine lv_aload_n hx hb dX9_punch_161 rfl (lv_at hl 4 rfl) ?_
              refine w_get X hw 10 35 (hL 22 (by decide)) rfl (by decide) k_X9 in_X9_punch_X9 (by decide) (by decide +kernel) rfl (v := .ref (G.1 65)) rfl dX9_punch_162 ?_
              refine lv_iload_n hx hb dX9_punch_165 rfl (lv_at hl 3 rfl) ?_
              refine lv_iload hx hb dX9_punch_166 (lv_at hl 1 rfl) ?_
              have h_168 : vp_in fr 61 := hfr
              refine w_ist X hw (hL 65 (by decide)) rfl h_168 dX9_punch_168 (fun H locs hw => ?_)
              refine lv_aload_n hx hb dX9_punch_169 rfl (lv_at hl 4 rfl) ?_
              refine w_get X hw 10 36 (hL 22 (by decide)) rfl (by decide) k_X9 in_X9_punch_X9 (by decide) (by decide +kernel) rfl (v := .ref (G.1 66)) rfl dX9_punch_170 ?_
              refine lv_iload_n hx hb dX9_punch_173 rfl (lv_at hl 3 rfl) ?_
              refine lv_iload hx hb dX9_punch_174 (lv_at hl 0 rfl) ?_
              have h_176 : vp_in fr 61 := hfr
              refine w_ist X hw (hL 66 (by decide)) rfl h_176 dX9_punch_176 (fun H locs hw => ?_)
              obtain ⟨x_5, ex_5⟩ : ∃ y : Int32, y = s2 + 1 := ⟨_, rfl⟩
              refine lv_iinc (v := x_5) (lv' := [(3, .int x_5), (5, .int x_3), (4, .int x_2), (2, .int fr), (0, .ref (G.1 22)), (1, .int mny)]) hx hb dX9_punch_177 hl (k := 2) rfl (by rw [ex_5]; rfl) (by decide) rfl (fun ls hl => ?_)
              refine lv_goto (tgt := 66) hx hb dX9_punch_180 (by decide) ?_
              have hw9 := hw
              have hl9 := hl
              obtain rfl := ex_2.symm
              obtain rfl := ex_3.symm
              obtain rfl := ex_5.symm
              have el : l_X9_punch_s (nf + 1) I s2 fr mny = l_X9_punch_s nf (wU (wU I 65 fr.toNatClampNeg ((I 62 s2.toNatClampNeg) + (I 65 (fr + (I 61 s2.toNatClampNeg)).toNatClampNeg))) 66 fr.toNatClampNeg ((1 : Int32) + (I 66 (fr + (I 61 s2.toNatClampNeg)).toNatClampNeg))) (s2 + 1) fr mny := by rw [l_X9_punch_s]; rw [if_neg c_71, if_pos q_77, if_neg c_133, if_neg c_144]
              exact ih (wU (wU I 65 fr.toNatClampNeg ((I 62 s2.toNatClampNeg) + (I 65 (fr + (I 61 s2.toNatClampNeg)).toNatClampNeg))) 66 fr.toNatClampNeg ((1 : Int32) + (I 66 (fr + (I 61 s2.toNatClampNeg)).toNatClampNeg))) (s2 + 1) _ _ _ (by have e1 := i_inc (k := s2) (by omega); simp only [i_le, i_lt] at c_71; exact ⟨by omega, (show (s2 + 1).toInt ≤ (I 22 34).toInt from by omega), hi.2.2⟩) (by have e1 := i_inc (k := s2) (by omega); simp only [i_le, i_lt] at c_71; exact (show ((I 22 34).toInt - (s2 + 1).toInt).toNat < nf from by omega)) hw9 (lv_sub hl9 [0, 3, 4, 5] rfl) (fun H locs ls hw hl => kk H locs ls (by rw [el]; exact hw) (by rw [el]; exact hl))
            · refine lv_iload hx hb dX9_punch_147 (lv_at hl 0 rfl) ?_
              refine lv_aload_n hx hb dX9_punch_149 rfl (lv_at hl 4 rfl) ?_
              refine w_get X hw 10 36 (hL 22 (by decide)) rfl (by decide) k_X9 in_X9_punch_X9 (by decide) (by decide +kernel) rfl (v := .ref (G.1 66)) rfl dX9_punch_150 ?_
              refine lv_iload_n hx hb dX9_punch_153 rfl (lv_at hl 3 rfl) ?_
              have h_154 : vp_in fr 61 := hfr
              refine w_ild X hw (hL 66 (by decide)) rfl h_154 dX9_punch_154 ?_
              refine lv_icmp_lt (tgt := 161) hx hb dX9_punch_155 (by decide) (fun c_155 => ?_) (fun c_155 => ?_)
              · refine lv_aload_n hx hb dX9_punch_161 rfl (lv_at hl 4 rfl) ?_
                refine w_get X hw 10 35 (hL 22 (by decide)) rfl (by decide) k_X9 in_X9_punch_X9 (by decide) (by decide +kernel) rfl (v := .ref (G.1 65)) rfl dX9_punch_162 ?_
                refine lv_iload_n hx hb dX9_punch_165 rfl (lv_at hl 3 rfl) ?_
                refine lv_iload hx hb dX9_punch_166 (lv_at hl 1 rfl) ?_
                have h_168 : vp_in fr 61 := hfr
                refine w_ist X hw (hL 65 (by decide)) rfl h_168 dX9_punch_168 (fun H locs hw => ?_)
                refine lv_aload_n hx hb dX9_punch_169 rfl (lv_at hl 4 rfl) ?_
                refine w_get X hw 10 36 (hL 22 (by decide)) rfl (by decide) k_X9 in_X9_punch_X9 (by decide) (by decide +kernel) rfl (v := .ref (G.1 66)) rfl dX9_punch_170 ?_
                refine lv_iload_n hx hb dX9_punch_173 rfl (lv_at hl 3 rfl) ?_
                refine lv_iload hx hb dX9_punch_174 (lv_at hl 0 rfl) ?_
                have h_176 : vp_in fr 61 := hfr
                refine w_ist X hw (hL 66 (by decide)) rfl h_176 dX9_punch_176 (fun H locs hw => ?_)
                obtain ⟨x_6, ex_6⟩ : ∃ y : Int32, y = s2 + 1 := ⟨_, rfl⟩
                refine lv_iinc (v := x_6) (lv' := [(3, .int x_6), (5, .int x_3), (4, .int x_2), (2, .int fr), (0, .ref (G.1 22)), (1, .int mny)]) hx hb dX9_punch_177 hl (k := 2) rfl (by rw [ex_6]; rfl) (by decide) rfl (fun ls hl => ?_)
                refine lv_goto (tgt := 66) hx hb dX9_punch_180 (by decide) ?_
                have hw9 := hw
                have hl9 := hl
                obtain rfl := ex_2.symm
                obtain rfl := ex_3.symm
                obtain rfl := ex_6.symm
                have el : l_X9_punch_s (nf + 1) I s2 fr mny = l_X9_punch_s nf (wU (wU I 65 fr.toNatClampNeg ((I 62 s2.toNatClampNeg) + (I 65 (fr + (I 61 s2.toNatClampNeg)).toNatClampNeg))) 66 fr.toNatClampNeg ((1 : Int32) + (I 66 (fr + (I 61 s2.toNatClampNeg)).toNatClampNeg))) (s2 + 1) fr mny := by rw [l_X9_punch_s]; rw [if_neg c_71, if_pos q_77, if_neg c_133, if_pos c_144, if_pos c_155]
                exact ih (wU (wU I 65 fr.toNatClampNeg ((I 62 s2.toNatClampNeg) + (I 65 (fr + (I 61 s2.toNatClampNeg)).toNatClampNeg))) 66 fr.toNatClampNeg ((1 : Int32) + (I 66 (fr + (I 61 s2.toNatClampNeg)).toNatClampNeg))) (s2 + 1) _ _ _ (by have e1 := i_inc (k := s2) (by omega); simp only [i_le, i_lt] at c_71; exact ⟨by omega, (show (s2 + 1).toInt ≤ (I 22 34).toInt from by omega), hi.2.2⟩) (by have e1 := i_inc (k := s2) (by omega); simp only [i_le, i_lt] at c_71; exact (show ((I 22 34).toInt - (s2 + 1).toInt).toNat < nf from by omega)) hw9 (lv_sub hl9 [0, 3, 4, 5] rfl) (fun H locs ls hw hl => kk H locs ls (by rw [el]; exact hw) (by rw [el]; exact hl))
              · refine lv_goto (tgt := 177) hx hb dX9_punch_158 (by decide) ?_
                obtain ⟨x_7, ex_7⟩ : ∃ y : Int32, y = s2 + 1 := ⟨_, rfl⟩
                refine lv_iinc (v := x_7) (lv' := [(3, .int x_7), (5, .int x_3), (4, .int x_2), (2, .int fr), (0, .ref (G.1 22)), (1, .int mny)]) hx hb dX9_punch_177 hl (k := 2) rfl (by rw [ex_7]; rfl) (by decide) rfl (fun ls hl => ?_)
                refine lv_goto (tgt := 66) hx hb dX9_punch_180 (by decide) ?_
                have hw9 := hw
                have hl9 := hl
                obtain rfl := ex_2.symm
                obtain rfl := ex_3.symm
                obtain rfl := ex_7.symm
                have el : l_X9_punch_s (nf + 1) I s2 fr mny = l_X9_punch_s nf I (s2 + 1) fr mny := by rw [l_X9_punch_s]; rw [if_neg c_71, if_pos q_77, if_neg c_133, if_pos c_144, if_neg c_155]
                exact ih I (s2 + 1) _ _ _ (by have e1 := i_inc (k := s2) (by omega); simp only [i_le, i_lt] at c_71; exact ⟨by omega, (show (s2 + 1).toInt ≤ (I 22 34).toInt from by omega), hi.2.2⟩) (by have e1 := i_inc (k := s2) (by omega); simp only [i_le, i_lt] at c_71; exact (show ((I 22 34).toInt - (s2 + 1).toInt).toNat < nf from by omega)) hw9 (lv_sub hl9 [0, 3, 4, 5] rfl) (fun H locs ls hw hl => kk H locs ls (by rw [el]; exact hw) (by rw [el]; exact hl))
        · exact absurd c_80 (by decide)
      · rw [q0_77] at hp_77
        subst r_77_1
        refine lv_if_ne (tgt := 86) hx hb dX9_punch_80 (by decide) (fun c_80 => ?_) (fun c_80 => ?_)
        · exact absurd (by decide) c_80
        · refine lv_goto (tgt := 177) hx hb dX9_punch_83 (by decide) ?_
          obtain ⟨x_8, ex_8⟩ : ∃ y : Int32, y = s2 + 1 := ⟨_, rfl⟩
          refine lv_iinc (v := x_8) (lv' := [(3, .int x_8), (2, .int fr), (0, .ref (G.1 22)), (1, .int mny)]) hx hb dX9_punch_177 hl (k := 0) rfl (by rw [ex_8]; rfl) (by decide) rfl (fun ls hl => ?_)
          refine lv_goto (tgt := 66) hx hb dX9_punch_180 (by decide) ?_
          have hw9 := hw
          have hl9 := hl
          obtain rfl := ex_8.symm
          have el : l_X9_punch_s (nf + 1) I s2 fr mny = l_X9_punch_s nf I (s2 + 1) fr mny := by rw [l_X9_punch_s]; rw [if_neg c_71, if_neg q_77]
          exact ih I (s2 + 1) _ _ _ (by have e1 := i_inc (k := s2) (by omega); simp only [i_le, i_lt] at c_71; exact ⟨by omega, (show (s2 + 1).toInt ≤ (I 22 34).toInt from by omega), hi.2.2⟩) (by have e1 := i_inc (k := s2) (by omega); simp only [i_le, i_lt] at c_71; exact (show ((I 22 34).toInt - (s2 + 1).toInt).toNat < nf from by omega)) hw9 (lv_sub hl9 [0, 1, 2, 3] rfl) (fun H locs ls hw hl => kk H locs ls (by rw [el]; exact hw) (by rw [el]; exact hl))
theorem fr_X9_punch_s   : ∀ (nf : Nat) (I : wI) (s2 : Int32) (fr : Int32) (mny : Int32) (q9 : Nat) (h65 : q9 ≠ 65) (h66 : q9 ≠ 66), (l_X9_punch_s nf I s2 fr mny).1 q9 = I q9 := by
  intro nf
  induction nf with
  | zero => intros; rfl
  | succ nf ih =>
    intro I s2 fr mny q9 h65 h66
    rw [l_X9_punch_s]
    repeat' split
    all_goals first | with_reducible rfl | (rw [ih _ _ _ _ q9 h65 h66]; done) | (rw [ih _ _ _ _ q9 h65 h66]; simp only [wU_ne _ _ _ h65, wU_ne _ _ _ h66]) | (simp only [wU_ne _ _ _ h65, wU_ne _ _ _ h66])
