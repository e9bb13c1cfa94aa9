/-! helps for the bench -/
def p_lay (I : wI) (ce lo hi2 : Int32) : Int64 := ((lo.toInt64 &&& f_X0_lowest I 30) ||| ((hi2.toInt64 &&& f_X0_lowest I 30) <<< ((30 : Int32).toInt64 &&& 63))) &&& f_X0_lowest (wU I 10 6 ce) ce
theorem tl_b {be : Int32} (hb : 0 ≤ be.toInt ∧ be.toInt ≤ 60) : vp_in be 61 := by rw [vp_in_iff]; omega
theorem tl_i {be si : Int32} (h : ¬ be - si < 0) (hb : 0 ≤ be.toInt ∧ be.toInt ≤ 60) (hz : 0 ≤ si.toInt ∧ si.toInt ≤ 12) : vp_in (be - si) 61 := by
  simp only [i_lt, Int32.reduceToInt] at h
  rw [i_sub (by omega) (by omega)] at h
  rw [vp_in_iff, i_sub (by omega) (by omega)]; omega
theorem tl_n {k : Int32} (h : ¬ 6 ≤ k) (hi : 0 ≤ k.toInt ∧ k.toInt ≤ 6) : k.toNatClampNeg < 6 := by
  simp only [i_le, Int32.reduceToInt] at h
  rw [i_cl]; omega
theorem tl_60 {be : Int32} (h : ¬ 60 < be) : be.toInt ≤ 60 := by
  simp only [i_lt, Int32.reduceToInt] at h; omega
theorem tl_p {be : Int32} (h1 : 1 ≤ be.toInt) (h : ¬ 60 < be) : vp_in (be - 1) 61 := by
  have h9 : (1 : Int32).toInt = 1 := rfl
  simp only [i_lt, Int32.reduceToInt] at h
  rw [vp_in_iff, i_sub (by rw [h9]; omega) (by rw [h9]; omega), h9]; omega
theorem tl_inv {be : Int32} (h1 : 1 ≤ be.toInt) (h : ¬ 60 < be) : 1 ≤ (be + 1).toInt ∧ (be + 1).toInt ≤ 61 := by
  simp only [i_lt, Int32.reduceToInt] at h
  rw [i_inc (by omega)]; omega
theorem tl_m {be : Int32} {nf : Nat} (h1 : 1 ≤ be.toInt) (h : ¬ 60 < be) (hm : (61 - be.toInt).toNat < nf + 1) : (61 - (be + 1).toInt).toNat < nf := by
  simp only [i_lt, Int32.reduceToInt] at h
  rw [i_inc (by omega)]; omega
theorem c8_i {k : Int32} (h : ¬ 8 ≤ k) (hk : 0 ≤ k.toInt ∧ k.toInt ≤ 8) : vp_in k 8 := by
  simp only [i_le, Int32.reduceToInt] at h
  rw [vp_in_iff]; omega
theorem c8_inv {k : Int32} (h : ¬ 8 ≤ k) (hi : 0 ≤ k.toInt ∧ k.toInt ≤ 8) : 0 ≤ (k + 1).toInt ∧ (k + 1).toInt ≤ 8 := by
  simp only [i_le, Int32.reduceToInt] at h
  rw [i_inc (by omega)]; omega
theorem c8_m {k : Int32} {nf : Nat} (h : ¬ 8 ≤ k) (hk : 0 ≤ k.toInt ∧ k.toInt ≤ 8) (hm : (8 - k.toInt).toNat < nf + 1) : (8 - (k + 1).toInt).toNat < nf := by
  simp only [i_le, Int32.reduceToInt] at h
  rw [i_inc (by omega)]; omega
theorem z_0 : narrow .boolean (.int 0) = .int 0 := by decide
theorem z_1 : narrow .boolean (.int 1) = .int 1 := by decide
theorem li_inv {k n : Int32} {P : Prop} {B : Int} (h : ¬ n ≤ k) (hi : 0 ≤ k.toInt ∧ k.toInt ≤ n.toInt ∧ n.toInt ≤ B ∧ P) : 0 ≤ (k + 1).toInt ∧ (k + 1).toInt ≤ n.toInt ∧ n.toInt ≤ B ∧ P := by
  simp only [i_le] at h
  have hb := i_bd n
  rw [i_inc (by omega)]; exact ⟨by omega, by omega, hi.2.2⟩
theorem li_m {k n : Int32} {P : Prop} {B : Int} {nf : Nat} (h : ¬ n ≤ k) (hi : 0 ≤ k.toInt ∧ k.toInt ≤ n.toInt ∧ n.toInt ≤ B ∧ P) (hm : (n.toInt - k.toInt).toNat < nf + 1) : (n.toInt - (k + 1).toInt).toNat < nf := by
  simp only [i_le] at h
  have hb := i_bd n
  rw [i_inc (by omega)]; omega
theorem li_0 {n : Int32} (h : 0 ≤ n.toInt ∧ n.toInt ≤ 40) : (n.toInt - (0 : Int32).toInt).toNat < 41 := by
  simp only [Int32.reduceToInt]; omega
