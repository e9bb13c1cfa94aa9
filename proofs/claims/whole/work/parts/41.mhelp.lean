/-! what the reference's small questions say -/
theorem f_in_iff {I : wI} {v lo hi : Int32} : f_X9_in I v lo hi = 1 ↔ lo ≤ v ∧ v ≤ hi := by
  unfold f_X9_in
  simp only [i_le, i_lt]
  constructor
  · intro h
    split at h
    · exact absurd h (by decide)
    · split at h
      · exact absurd h (by decide)
      · omega
  · intro h
    rw [if_neg (by omega), if_neg (by omega)]
theorem f_no_iff {I : wI} {v : Int32} : f_X9_noTree I v = 1 ↔ ¬ (0 ≤ v ∧ v ≤ I 22 12 - 1) := by
  unfold f_X9_noTree
  split
  · next h => rw [f_in_iff] at h; exact ⟨fun q => absurd q (by decide), fun q => absurd h q⟩
  · next h => rw [f_in_iff] at h; exact ⟨fun _ => h, fun _ => rfl⟩
theorem in_1 {t n : Int32} (hn : 0 ≤ n.toInt) (h : 0 ≤ t ∧ t ≤ n - 1) : 0 ≤ t.toInt ∧ t.toInt < n.toInt := by
  have hb := i_bd n
  have h1 : (1 : Int32).toInt = 1 := rfl
  have h2 : (n - 1).toInt = n.toInt - 1 := by rw [i_sub (by rw [h1]; omega) (by rw [h1]; omega), h1]
  simp only [i_le, h2, Int32.reduceToInt] at h
  omega
theorem ix_T2 {I : wI} {t k : Int32} (hT : 0 ≤ (I 22 12).toInt ∧ (I 22 12).toInt ≤ 40) (h : ¬ f_X9_noTree (wU I 22 0 k) t = 1) : 0 ≤ t.toInt ∧ t.toInt < 40 := by
  rw [f_no_iff] at h
  have h3 : 0 ≤ t ∧ t ≤ I 22 12 - 1 := Classical.not_not.mp h
  have := in_1 hT.1 h3
  omega
theorem ix_T {I : wI} {t k : Int32} (hT : 0 ≤ (I 22 12).toInt ∧ (I 22 12).toInt ≤ 40) (h : ¬ f_X9_noTree (wU I 22 0 k) t = 1) : vp_in t 40 := by
  rw [vp_in_iff]; exact ix_T2 hT h
