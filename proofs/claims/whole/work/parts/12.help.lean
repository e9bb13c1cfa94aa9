/-! small helps -/
def w_fix : List Nat := [0, 1, 2, 3, 4, 5, 6, 7, 8, 9, 10, 11, 12, 13, 14, 15, 16, 17, 18, 19, 20, 21, 22, 32, 33, 34, 35, 36, 37, 38, 39, 40, 41, 43, 44, 45, 47, 48, 49, 50, 52, 54, 60, 61, 62, 63, 65, 66, 67, 68, 70, 71, 93]
def w_full (G : wG) : Prop := ∀ n ∈ w_fix, n ∈ G.2.1
theorem sw_out (x : Int32) (lo hi : Int) (f : ∀ j : Int, lo ≤ j → j ≤ hi → ¬ x.toInt = j) : x.toInt < lo ∨ hi < x.toInt := by
  by_cases h1 : x.toInt < lo
  · exact Or.inl h1
  · by_cases h2 : hi < x.toInt
    · exact Or.inr h2
    · exact absurd rfl (f x.toInt (by omega) (by omega))
theorem i_le {a b : Int32} : a ≤ b ↔ a.toInt ≤ b.toInt := Int32.le_iff_toInt_le
theorem i_lt {a b : Int32} : a < b ↔ a.toInt < b.toInt := Int32.lt_iff_toInt_lt
theorem i_eq {a b : Int32} : a = b ↔ a.toInt = b.toInt := ⟨fun h => by rw [h], Int32.toInt_inj.mp⟩
theorem i_bd (a : Int32) : -2147483648 ≤ a.toInt ∧ a.toInt < 2147483648 := by
  have h1 := a.minValue_le_toInt
  have h2 : a.toInt ≤ 2147483647 := a.toInt_le
  exact ⟨h1, by omega⟩
theorem i_bm {x : Int} (h1 : -2147483648 ≤ x) (h2 : x < 2147483648) : x.bmod (2 ^ 32) = x := by
  rw [Int.bmod_eq_of_le] <;> omega
theorem i_add {a b : Int32} (h1 : -2147483648 ≤ a.toInt + b.toInt) (h2 : a.toInt + b.toInt < 2147483648) : (a + b).toInt = a.toInt + b.toInt := by
  rw [Int32.toInt_add]; exact i_bm h1 h2
theorem i_sub {a b : Int32} (h1 : -2147483648 ≤ a.toInt - b.toInt) (h2 : a.toInt - b.toInt < 2147483648) : (a - b).toInt = a.toInt - b.toInt := by
  rw [Int32.toInt_sub]; exact i_bm h1 h2
theorem i_mul {a b : Int32} (h1 : -2147483648 ≤ a.toInt * b.toInt) (h2 : a.toInt * b.toInt < 2147483648) : (a * b).toInt = a.toInt * b.toInt := by
  rw [Int32.toInt_mul]; exact i_bm h1 h2
theorem i_cl {a : Int32} : a.toNatClampNeg = a.toInt.toNat := rfl
theorem w_if {P : Prop} [Decidable P] {r a b : Int32} (h : r = if P then a else b) : (P ∧ r = a) ∨ (¬ P ∧ r = b) := by
  by_cases hp : P
  · exact Or.inl ⟨hp, by rw [h, if_pos hp]⟩
  · exact Or.inr ⟨hp, by rw [h, if_neg hp]⟩
theorem wU_o (I : wI) {n q : Nat} (k j : Nat) (v : Int32) (h : q ≠ n) : wU I n k v q j = I q j := by rw [wU_ne _ _ _ h]
theorem wU_s (I : wI) (n k j : Nat) (v : Int32) : wU I n k v n j = if j = k then v else I n j := by rw [wU_self]; rfl
/-- one byte behind the tape -/
def tp_1 (I : wI) (x s : Int32) : wI := wU (wU I 2 (I 1 1).toNatClampNeg (vp_nar .byte (x.toUInt32 >>> (s.toUInt32 &&& Int32.toUInt32 31)).toInt32.toInt8.toInt32)) 1 1 (I 1 1 + 1)
def tp_4 (I : wI) (x : Int32) : wI := tp_1 (tp_1 (tp_1 (tp_1 I x 24) x 16) x 8) x 0
theorem tp_1_n (I : wI) (x s : Int32) : tp_1 I x s 1 1 = I 1 1 + 1 := by unfold tp_1; rw [wU_s, if_pos rfl]
def p_told (I : wI) (k : Int32) : Int32 := if 0 ≤ k ∧ k < 6 then I 4 k.toNatClampNeg else -1
/-- a tree's year -/
def p_age (I : wI) (n : Nat) (year : Int32) : Int32 := if I n 2 = -1 then 20 else year - I n 2
def p_more (age rain : Int32) : Int32 := (if (10 : Int32) < 40 - 2 * age then 40 - 2 * age else 10) * (50 + rain) / 100
def p_g1 (I : wI) (n : Nat) (rain : Int32) : wI := wU I n 0 (if I n 0 + 1 + rain / 100 < 600 then I n 0 + 1 + rain / 100 else 600)
def p_g2 (I : wI) (n : Nat) (more : Int32) : wI := wU (wU I n 6 (I n 6 + more)) n 1 (wU I n 6 (I n 6 + more) n 1 + more)
def p_g3 (I : wI) (n : Nat) : wI := if I n 1 ≤ 3000 then I else wU (wU I n 9 (I n 9 + (I n 1 - 3000))) n 1 3000
def p_grow (I : wI) (n : Nat) (year rain : Int32) : wI := p_g3 (p_g2 (p_g1 I n rain) n (p_more (p_age (p_g1 I n rain) n year) rain)) n
def p_bare (I : wI) (n : Nat) (year h : Int32) : wI := wU (wU (wU (wU I n 1 0) n 2 year) n 3 h) n 5 0
def p_weight (I : wI) (n : Nat) : Int32 := ((I n 2).toInt64 * (I n 3).toInt64 * (I n 4).toInt64 / 1000).toInt32
theorem i_inc {k : Int32} (h : k.toInt < 2147483647) : (k + 1).toInt = k.toInt + 1 := by
  have h1 : (1 : Int32).toInt = 1 := rfl
  have hb := i_bd k
  rw [i_add (by rw [h1]; omega) (by rw [h1]; omega), h1]
theorem i_dec {k : Int32} (h : -2147483648 < k.toInt) : (k + (-1)).toInt = k.toInt - 1 := by
  have h1 : (-1 : Int32).toInt = -1 := rfl
  have hb := i_bd k
  rw [i_add (by rw [h1]; omega) (by rw [h1]; omega), h1]; omega
theorem ix_tp {q n : Int32} (hs : n.toInt ≤ 400) (c1 : ¬ q < 0) (c9 : ¬ n ≤ q) : vp_in q 400 := by
  simp only [i_le, i_lt, Int32.reduceToInt] at *
  rw [vp_in_iff]; omega
theorem ix_k6 {k : Int32} (c1 : ¬ k < 0) (c2 : ¬ 6 ≤ k) : vp_in k 6 := by
  simp only [i_le, i_lt, Int32.reduceToInt] at *
  rw [vp_in_iff]; omega
theorem cn_i {k : Int32} (h : ¬ 6 ≤ k) (hi : 0 ≤ k.toInt ∧ k.toInt ≤ 6) : vp_in k 6 := by
  simp only [i_le, Int32.reduceToInt] at h
  rw [vp_in_iff]; omega
theorem cn_inv {k : Int32} (h : ¬ 6 ≤ k) (hi : 0 ≤ k.toInt ∧ k.toInt ≤ 6) : 0 ≤ (k + 1).toInt ∧ (k + 1).toInt ≤ 6 := by
  simp only [i_le, Int32.reduceToInt] at h
  rw [i_inc (by omega)]; omega
theorem cn_m {k : Int32} {nf : Nat} (h : ¬ 6 ≤ k) (hi : 0 ≤ k.toInt ∧ k.toInt ≤ 6) (hm : (6 - k.toInt).toNat < nf + 1) : (6 - (k + 1).toInt).toNat < nf := by
  simp only [i_le, Int32.reduceToInt] at h
  rw [i_inc (by omega)]; omega
theorem c6_i {k st : Int32} (h : ¬ st ≤ k) (hi : 0 ≤ k.toInt ∧ k.toInt ≤ st.toInt ∧ st.toInt ≤ 6) : vp_in k 6 := by
  simp only [i_le] at h
  rw [vp_in_iff]; omega
theorem c6_inv {k st : Int32} (h : ¬ st ≤ k) (hi : 0 ≤ k.toInt ∧ k.toInt ≤ st.toInt ∧ st.toInt ≤ 6) : 0 ≤ (k + 1).toInt ∧ (k + 1).toInt ≤ st.toInt ∧ st.toInt ≤ 6 := by
  simp only [i_le] at h
  rw [i_inc (by omega)]; omega
theorem c6_m {k st : Int32} {nf : Nat} (h : ¬ st ≤ k) (hi : 0 ≤ k.toInt ∧ k.toInt ≤ st.toInt ∧ st.toInt ≤ 6) (hm : (st.toInt - k.toInt).toNat < nf + 1) : (st.toInt - (k + 1).toInt).toNat < nf := by
  simp only [i_le] at h
  rw [i_inc (by omega)]; omega
theorem c6_0 {st : Int32} (hS : 0 ≤ st.toInt ∧ st.toInt ≤ 6) : (st.toInt - (0 : Int32).toInt).toNat < 7 := by
  simp only [Int32.reduceToInt]; omega
theorem at_inv {a e : Int32} (h : ¬ e ≤ a) (hi : 0 ≤ a.toInt ∧ a.toInt ≤ e.toInt ∧ e.toInt ≤ 400) : 0 ≤ (a + 1).toInt ∧ (a + 1).toInt ≤ e.toInt ∧ e.toInt ≤ 400 := by
  simp only [i_le] at h
  rw [i_inc (by omega)]; omega
theorem at_m {a e : Int32} {nf : Nat} (h : ¬ e ≤ a) (hi : 0 ≤ a.toInt ∧ a.toInt ≤ e.toInt ∧ e.toInt ≤ 400) (hm : (e.toInt - a.toInt).toNat < nf + 1) : (e.toInt - (a + 1).toInt).toNat < nf := by
  simp only [i_le] at h
  rw [i_inc (by omega)]; omega
theorem at_0 {a e : Int32} (hi : 0 ≤ a.toInt ∧ a.toInt ≤ e.toInt ∧ e.toInt ≤ 400) : (e.toInt - a.toInt).toNat < 401 := by omega
theorem nu_inv {k be : Int32} (h : ¬ be ≤ k) : (k + 1).toInt ≤ be.toInt := by
  simp only [i_le] at h
  have hb := i_bd be
  rw [i_inc (by omega)]; omega
theorem nu_m {k be : Int32} {nf : Nat} (h : ¬ be ≤ k) (hm : (be.toInt - k.toInt).toNat < nf + 1) : (be.toInt - (k + 1).toInt).toNat < nf := by
  simp only [i_le] at h
  have hb := i_bd be
  rw [i_inc (by omega)]; omega
theorem nu_0 {be pl x : Int32} (hp : 0 ≤ pl.toInt ∧ pl.toInt ≤ be.toInt ∧ be.toInt ≤ 400) (ex : x = be - pl) (h : x ≤ 4) : (be.toInt - pl.toInt).toNat < 5 := by
  rw [ex] at h
  simp only [i_le, Int32.reduceToInt] at h
  rw [i_sub (by omega) (by omega)] at h
  omega
theorem c9_i {k : Int32} (h : ¬ 9 ≤ k) (hk : 0 ≤ k.toInt ∧ k.toInt ≤ 9) : vp_in k 9 := by
  simp only [i_le, Int32.reduceToInt] at h
  rw [vp_in_iff]; omega
theorem c9_inv {k : Int32} (h : ¬ 9 ≤ k) (hi : 0 ≤ k.toInt ∧ k.toInt ≤ 9) : 0 ≤ (k + 1).toInt ∧ (k + 1).toInt ≤ 9 := by
  simp only [i_le, Int32.reduceToInt] at h
  rw [i_inc (by omega)]; omega
theorem c9_m {k : Int32} {nf : Nat} (h : ¬ 9 ≤ k) (hk : 0 ≤ k.toInt ∧ k.toInt ≤ 9) (hm : (9 - k.toInt).toNat < nf + 1) : (9 - (k + 1).toInt).toNat < nf := by
  simp only [i_le, Int32.reduceToInt] at h
  rw [i_inc (by omega)]; omega
