theorem f_noL_iff {I : wI} {v : Int32} : f_X9_noLot I v = 1 ↔ ¬ (0 ≤ v ∧ v ≤ I 22 21 - 1) := by
  unfold f_X9_noLot
  split
  · next h => rw [f_in_iff] at h; exact ⟨fun q => absurd q (by decide), fun q => absurd h q⟩
  · next h => rw [f_in_iff] at h; exact ⟨fun _ => h, fun _ => rfl⟩
theorem f_noP_iff {I : wI} {v : Int32} : f_X9_noPlank I v = 1 ↔ ¬ (0 ≤ v ∧ v ≤ I 22 16 - 1) := by
  unfold f_X9_noPlank
  split
  · next h => rw [f_in_iff] at h; exact ⟨fun q => absurd q (by decide), fun q => absurd h q⟩
  · next h => rw [f_in_iff] at h; exact ⟨fun _ => h, fun _ => rfl⟩
theorem ix_L {I : wI} {t k : Int32} (hN : 0 ≤ (I 22 21).toInt ∧ (I 22 21).toInt ≤ 40) (h : ¬ f_X9_noLot (wU I 22 0 k) t = 1) : 0 ≤ t.toInt ∧ t.toInt < (I 22 21).toInt := by
  rw [f_noL_iff] at h
  have h3 : 0 ≤ t ∧ t ≤ I 22 21 - 1 := Classical.not_not.mp h
  exact in_1 hN.1 h3
theorem ix_P {I : wI} {t k : Int32} (hN : 0 ≤ (I 22 16).toInt ∧ (I 22 16).toInt ≤ 200) (h : ¬ f_X9_noPlank (wU I 22 0 k) t = 1) : 0 ≤ t.toInt ∧ t.toInt < (I 22 16).toInt := by
  rw [f_noP_iff] at h
  have h3 : 0 ≤ t ∧ t ≤ I 22 16 - 1 := Classical.not_not.mp h
  exact in_1 hN.1 h3
theorem i_6k {p k : Int32} (hp : 0 ≤ p.toInt ∧ p.toInt < 200) (hk : 0 ≤ k.toInt ∧ k.toInt < 6) : (6 * p + k).toInt = 6 * p.toInt + k.toInt := by
  have h6 : (6 : Int32).toInt = 6 := rfl
  have e : (6 * p).toInt = 6 * p.toInt := by rw [i_mul (by rw [h6]; omega) (by rw [h6]; omega), h6]
  rw [i_add (by rw [e]; omega) (by rw [e]; omega), e]
theorem ix_6 {p k : Int32} (hp : 0 ≤ p.toInt ∧ p.toInt < 200) (hk : 0 ≤ k.toInt ∧ k.toInt < 6) : vp_in (6 * p + k) 1200 := by
  rw [vp_in_iff, i_6k hp hk]; omega
theorem ix_60 {p : Int32} (hp : 0 ≤ p.toInt ∧ p.toInt < 200) : vp_in (6 * p) 1200 := by
  have h6 : (6 : Int32).toInt = 6 := rfl
  have e : (6 * p).toInt = 6 * p.toInt := by rw [i_mul (by rw [h6]; omega) (by rw [h6]; omega), h6]
  rw [vp_in_iff, e]; omega
theorem i_8k {p k : Int32} (hp : 0 ≤ p.toInt ∧ p.toInt < 40) (hk : 0 ≤ k.toInt ∧ k.toInt < 8) : (8 * p + k).toInt = 8 * p.toInt + k.toInt := by
  have h6 : (8 : Int32).toInt = 8 := rfl
  have e : (8 * p).toInt = 8 * p.toInt := by rw [i_mul (by rw [h6]; omega) (by rw [h6]; omega), h6]
  rw [i_add (by rw [e]; omega) (by rw [e]; omega), e]
theorem ix_8 {p k : Int32} (hp : 0 ≤ p.toInt ∧ p.toInt < 40) (hk : 0 ≤ k.toInt ∧ k.toInt < 8) : vp_in (8 * p + k) 320 := by
  rw [vp_in_iff, i_8k hp hk]; omega
theorem ag_0 {I : wI} {t h : Int32} (hq : f_X9_against I t h ≤ 0) : ¬ I 22 16 = 200 := by
  intro e
  revert hq
  unfold f_X9_against
  simp only [e]
  repeat' split
  all_goals first | exact fun h => absurd h (by decide) | (intro _; contradiction)
theorem ix_i {I : wI} {v lo hi : Int32} (h : f_X9_in I v lo hi = 1) : lo.toInt ≤ v.toInt ∧ v.toInt ≤ hi.toInt := by
  have := f_in_iff.mp h
  simpa only [i_le] using this
theorem ag_1 {q : Int32} (hP : 0 ≤ q.toInt ∧ q.toInt ≤ 200) (h : ¬ q = 200) : q.toInt < 200 := by
  have h2 : (200 : Int32).toInt = 200 := rfl
  have h3 : ¬ q.toInt = 200 := fun e => h (i_eq.mpr (e.trans h2.symm))
  omega
theorem i_d4 {k : Int32} (h : 0 ≤ k.toInt) : (k / 4).toInt = k.toInt / 4 := by
  rw [Int32.toInt_div]
  have h4 : (4 : Int32).toInt = 4 := rfl
  rw [h4, Int.tdiv_eq_ediv_of_nonneg h]
  have hb := i_bd k
  exact i_bm (by omega) (by omega)
theorem ix_d4 {k : Int32} (h : 0 ≤ k.toInt) (h2 : k.toInt < 20) : vp_in (k / 4) 5 := by
  rw [vp_in_iff, i_d4 h]; omega
theorem i_m1 {q : Int32} (h : -2147483648 < q.toInt) : (q - 1).toInt = q.toInt - 1 := by
  have h1 : (1 : Int32).toInt = 1 := rfl
  have hb := i_bd q
  rw [i_sub (by rw [h1]; omega) (by rw [h1]; omega), h1]
theorem pf_inv {fr : Int32} {C : Int} (h0 : ¬ fr < 0) (h1 : fr.toInt < C) : -1 ≤ (fr + (-1)).toInt ∧ (fr + (-1)).toInt < C := by
  simp only [i_lt, Int32.reduceToInt] at h0
  rw [i_dec (by omega)]; omega
theorem pf_m {fr : Int32} {nf : Nat} (h0 : ¬ fr < 0) (hm : (fr.toInt + 1).toNat < nf + 1) : ((fr + (-1)).toInt + 1).toNat < nf := by
  simp only [i_lt, Int32.reduceToInt] at h0
  rw [i_dec (by omega)]; omega
theorem ix_at {a e : Int32} (hA : 0 ≤ a.toInt) (hE : e.toInt ≤ 400) (h : ¬ e ≤ a) : vp_in a 400 := by
  simp only [i_le] at h
  rw [vp_in_iff]; omega
theorem at_400 {a e : Int32} (h : ¬ e.toInt ≤ a.toInt) (hi : 0 ≤ a.toInt ∧ a.toInt ≤ e.toInt ∧ e.toInt ≤ 400) : a.toInt < 400 := by omega
