/-! THE NAMES OF THINGS. Every object and array of the two programs has a NAME, a number that never changes; r says where it lies.
0 the forest, 1 tape, 2 its bytes, 3 law, 4 its values, 5 reader, 6 its draft, 7 8 9 the lists of trees, planks, lots, 10 bench, 11..15 its rows, 16 stands, 17..21 its rows, 22 the reference, 30 + k its row in slot k, 72 the law's long[1], 90 91 92 the lists' rows, 100 + 4i tree i, 101 + 4i plank i, 102 + 4i lot i, 103 + 4i its bids -/
def w_tr (i : Nat) : Nat := 100 + 4 * i
def w_pk (i : Nat) : Nat := 101 + 4 * i
def w_lt (i : Nat) : Nat := 102 + 4 * i
def w_bd (i : Nat) : Nat := w_lt i + 1
/-- what kind of thing a name is: 0..10 the class in vwCl, 11 byte[], 12 int[], 13 boolean[], 14 Object[], 15 long[] -/
def w_kd (n : Nat) : Nat := if n < 100 then ([9, 7, 11, 2, 12, 3, 12, 0, 0, 0, 1, 12, 12, 12, 12, 12, 6, 12, 12, 12, 12, 12, 10, 99, 99, 99, 99, 99, 99, 99, 99, 99, 12, 12, 12, 12, 12, 13, 12, 12, 12, 12, 99, 12, 12, 12, 99, 12, 12, 12, 12, 99, 11, 99, 12, 99, 99, 99, 99, 99, 13, 12, 12, 12, 99, 12, 12, 12, 12, 99, 12, 12, 15, 99, 99, 99, 99, 99, 99, 99, 99, 99, 99, 99, 99, 99, 99, 99, 99, 99, 14, 14, 14, 14, 99, 99, 99, 99, 99, 99] : List Nat).getD n 99 else if n % 4 = 0 then 8 else if n % 4 = 1 then 5 else if n % 4 = 2 then 4 else 12
def w_ln (n : Nat) : Nat := if n < 100 then ([0, 0, 400, 0, 6, 0, 6, 0, 0, 0, 0, 6, 6, 6, 61, 61, 0, 6, 6, 9, 6, 6, 0, 0, 0, 0, 0, 0, 0, 0, 0, 0, 40, 40, 40, 40, 40, 40, 40, 40, 40, 40, 0, 6, 6, 1200, 0, 40, 320, 40, 40, 0, 400, 0, 5, 0, 0, 0, 0, 0, 60, 6, 6, 6, 0, 61, 61, 6, 6, 0, 9, 6, 0, 0, 0, 0, 0, 0, 0, 0, 0, 0, 0, 0, 0, 0, 0, 0, 0, 0, 0, 0, 0, 0, 0, 0, 0, 0, 0, 0] : List Nat).getD n 0 else 8
theorem w_kd_tr (i : Nat) : w_kd (w_tr i) = 8 := by unfold w_kd w_tr; rw [if_neg (by omega), if_pos (by omega)]
theorem w_kd_pk (i : Nat) : w_kd (w_pk i) = 5 := by unfold w_kd w_pk; rw [if_neg (by omega), if_neg (by omega), if_pos (by omega)]
theorem w_kd_lt (i : Nat) : w_kd (w_lt i) = 4 := by unfold w_kd w_lt; rw [if_neg (by omega), if_neg (by omega), if_neg (by omega), if_pos (by omega)]
theorem w_kd_bd (i : Nat) : w_kd (w_bd i) = 12 := by unfold w_kd w_bd w_lt; rw [if_neg (by omega), if_neg (by omega), if_neg (by omega), if_neg (by omega)]
theorem w_ln_bd (i : Nat) : w_ln (w_bd i) = 8 := by unfold w_ln w_bd w_lt; rw [if_neg (by omega)]
/-- what an object holds: x its ints by slot, z its longs by slot -/
def w_fl (r : Nat → Nat) (x : Nat → Int32) (z : Nat → Int64) (κ n : Nat) : List Value := match κ with
  | 0 => [.int (x 0), .ref (r (n + 83)), .int (x 2)]
  | 1 => [.ref (r (11)), .ref (r (12)), .ref (r (13)), .ref (r (14)), .ref (r (15)), .int (x 5), .int (x 6), .long (z 7)]
  | 2 => [.ref (r (4))]
  | 3 => [.ref (r (1)), .ref (r (3)), .ref (r (6)), .int (x 3)]
  | 4 => [.int (x 0), .ref (r (n + 1)), .int (x 2), .int (x 3), .int (x 4), .int (x 5)]
  | 5 => [.int (x 0), .int (x 1), .int (x 2), .int (x 3), .int (x 4), .int (x 5)]
  | 6 => [.ref (r (17)), .ref (r (18)), .ref (r (19)), .ref (r (20)), .ref (r (21)), .int (x 5), .int (x 6), .int (x 7)]
  | 7 => [.ref (r (2)), .int (x 1)]
  | 8 => [.int (x 0), .int (x 1), .int (x 2), .int (x 3), .int (x 4), .int (x 5), .int (x 6), .int (x 7), .int (x 8), .int (x 9)]
  | 9 => [.ref (r (1)), .ref (r (3)), .ref (r (5)), .ref (r (7)), .ref (r (8)), .ref (r (9)), .ref (r (10)), .ref (r (16)), .int (x 8), .int (x 9)]
  | 10 => [.int (x 0), .int (x 1), .ref (r (32)), .ref (r (33)), .ref (r (34)), .ref (r (35)), .ref (r (36)), .ref (r (37)), .ref (r (38)), .ref (r (39)), .ref (r (40)), .ref (r (41)), .int (x 12), .ref (r (43)), .ref (r (44)), .ref (r (45)), .int (x 16), .ref (r (47)), .ref (r (48)), .ref (r (49)), .ref (r (50)), .int (x 21), .ref (r (52)), .int (x 23), .ref (r (54)), .int (x 25), .int (x 26), .int (x 27), .int (x 28), .int (x 29), .ref (r (60)), .ref (r (61)), .ref (r (62)), .ref (r (63)), .int (x 34), .ref (r (65)), .ref (r (66)), .ref (r (67)), .ref (r (68)), .int (x 39), .ref (r (70)), .ref (r (71))]
  | _ => []
abbrev wI : Type := Nat → Nat → Int32
abbrev wJ : Type := Nat → Nat → Int64
/-- where things lie; which there are; what the rows of references hold; how long these are -/
abbrev wG : Type := (Nat → Nat) × List Nat × (Nat → Nat → Option Nat) × (Nat → Nat)
def w_ce (y : Nat → ClassId) (G : wG) (I : wI) (J : wJ) (n : Nat) : va_E :=
  if w_kd n ≤ 10 then .inr (w_kd n, w_fl G.1 (I n) (J n) (w_kd n) n)
  else if w_kd n = 14 then .inl (y 3, G.2.2.2 n, .inr (.inr (.inr (.inr (fun i => (G.2.2.1 n i).map G.1)))))
  else if w_kd n = 15 then .inl (y 4, 1, .inr (.inl (J n)))
  else .inl (y (w_kd n - 11), w_ln n, .inl (I n))
def w_ws (y : Nat → ClassId) (G : wG) (I : wI) (J : wJ) : va_W := G.2.1.map (fun n => (G.1 n, w_ce y G I J n))
def w_tys (y : Nat → ClassId) : List (ClassId × FieldType) := [(y 0, .byte), (y 1, .int), (y 2, .boolean), (y 3, .object "java/lang/Object"), (y 4, .long)]
def wU (I : wI) (n k : Nat) (v : Int32) : wI := va_up I n (upd (I n) k v)
def wV (J : wJ) (n k : Nat) (v : Int64) : wJ := va_up J n (vp_updL (J n) k v)
/-- the heap H holds the world; since the method's begin nothing below b has changed -/
def Wh (D : va_G) (y : Nat → ClassId) (b : Nat) (G : wG) (I : wI) (J : wJ) (s : State) (H : Heap) (locs : List Loc) : Prop :=
  va_P D vwCl (w_ws y G I J) H ∧ va_D (fun q => b ≤ q) (w_ws y G I J) ∧ va_S (fun q => b ≤ q) s.heap H locs
/-- what a method has of the machine: its code, its words, the tables of the classes -/
def wCx (p : Program) (m : MethodId) (c : Code) (cc : ByteArray) (nL : Nat) (s : State) (args : Array Value) (Ts : List Cond) (own : String) (D : va_G) (y : Nat → ClassId) (b : Nat) : Prop :=
  CallFix p m c cc nL s args Ts own ∧ va_K D vwCl (w_tys y) s ∧ b ≤ s.heap.size
def wK (κ : Nat) (C : String) (T : u_T) (ty : Nat → FieldType) (N : Nat) : Prop := vwCl[κ]? = some (C, T, N) ∧ (∀ k, k < N → parseFieldDescriptor (T k).2.2.1 = some (ty k)) ∧ (∀ a, a < N → ∀ b, b < N → a ≠ b → (T a).2.1 ≠ (T b).2.1)
theorem k_Jx4a65c : wK 0 RJx4a65c TJx4a65c tyJx4a65c 3 := ⟨rfl, tyJx4a65c_ok, nmJx4a65c⟩
theorem k_X0 : wK 1 RX0 TX0 tyX0 8 := ⟨rfl, tyX0_ok, nmX0⟩
theorem k_X1 : wK 2 RX1 TX1 tyX1 1 := ⟨rfl, tyX1_ok, nmX1⟩
theorem k_X2 : wK 3 RX2 TX2 tyX2 4 := ⟨rfl, tyX2_ok, nmX2⟩
theorem k_X3 : wK 4 RX3 TX3 tyX3 6 := ⟨rfl, tyX3_ok, nmX3⟩
theorem k_X4 : wK 5 RX4 TX4 tyX4 6 := ⟨rfl, tyX4_ok, nmX4⟩
theorem k_X5 : wK 6 RX5 TX5 tyX5 8 := ⟨rfl, tyX5_ok, nmX5⟩
theorem k_X6 : wK 7 RX6 TX6 tyX6 2 := ⟨rfl, tyX6_ok, nmX6⟩
theorem k_X7 : wK 8 RX7 TX7 tyX7 10 := ⟨rfl, tyX7_ok, nmX7⟩
theorem k_X8 : wK 9 RX8 TX8 tyX8 10 := ⟨rfl, tyX8_ok, nmX8⟩
theorem k_X9 : wK 10 RX9 TX9 tyX9 42 := ⟨rfl, tyX9_ok, nmX9⟩
theorem w_at {y : Nat → ClassId} {G : wG} {I : wI} {J : wJ} {n : Nat} (hn : n ∈ G.2.1) : ∃ k : Nat, G.2.1[k]? = some n ∧ (w_ws y G I J)[k]? = some (G.1 n, w_ce y G I J n) := by
  obtain ⟨k, hk⟩ := List.getElem?_of_mem hn
  exact ⟨k, hk, by simp [w_ws, List.getElem?_map, hk]⟩
/-- one thing is other than it was -/
theorem w_set {A : Nat → Prop} {y : Nat → ClassId} {G : wG} {I I' : wI} {J J' : wJ} {n k : Nat} (hD : va_D A (w_ws y G I J)) (hk : G.2.1[k]? = some n) (hne : ∀ q, q ≠ n → w_ce y G I' J' q = w_ce y G I J q) :
    (w_ws y G I J).set k (G.1 n, w_ce y G I' J' n) = w_ws y G I' J' := by
  apply List.ext_getElem?
  intro i
  rw [List.getElem?_set]
  by_cases hik : k = i
  · subst hik
    have hlt : k < (w_ws y G I J).length := by
      have := (List.getElem?_eq_some_iff.mp hk).1
      simpa [w_ws] using this
    rw [if_pos rfl, if_pos hlt]
    simp [w_ws, List.getElem?_map, hk]
  · rw [if_neg hik]
    simp only [w_ws, List.getElem?_map]
    cases hq : G.2.1[i]? with
    | none => rfl
    | some q =>
      have hqn : q ≠ n := by
        intro h
        subst h
        exact hik (hD.1 k i (G.1 q, w_ce y G I J q) (G.1 q, w_ce y G I J q) (by simp [w_ws, List.getElem?_map, hk]) (by simp [w_ws, List.getElem?_map, hq]) rfl)
      simp only [Option.map_some, hne q hqn]
theorem w_ce_o {y : Nat → ClassId} {G : wG} {I : wI} {J : wJ} {n κ : Nat} (h : w_kd n = κ) (h2 : κ ≤ 10) : w_ce y G I J n = .inr (κ, w_fl G.1 (I n) (J n) κ n) := by
  unfold w_ce; rw [h, if_pos h2]
theorem w_ce_i {y : Nat → ClassId} {G : wG} {I : wI} {J : wJ} {n κ : Nat} (h : w_kd n = κ) (h2 : 11 ≤ κ ∧ κ ≤ 13) : w_ce y G I J n = .inl (y (κ - 11), w_ln n, .inl (I n)) := by
  unfold w_ce; rw [h, if_neg (by omega), if_neg (by omega), if_neg (by omega)]
theorem w_ce_j {y : Nat → ClassId} {G : wG} {I : wI} {J : wJ} {n : Nat} (h : w_kd n = 15) : w_ce y G I J n = .inl (y 4, 1, .inr (.inl (J n))) := by
  unfold w_ce; rw [h]; rfl
theorem w_ce_q {y : Nat → ClassId} {G : wG} {I : wI} {J : wJ} {n : Nat} (h : w_kd n = 14) : w_ce y G I J n = .inl (y 3, G.2.2.2 n, .inr (.inr (.inr (.inr (fun i => (G.2.2.1 n i).map G.1))))) := by
  unfold w_ce; rw [h]; rfl
theorem w_ce_ne {y : Nat → ClassId} {G : wG} {I I' : wI} {J J' : wJ} {q : Nat} (h1 : I' q = I q) (h2 : J' q = J q) : w_ce y G I' J' q = w_ce y G I J q := by unfold w_ce; rw [h1, h2]
theorem wU_self (I : wI) (n k : Nat) (v : Int32) : wU I n k v n = upd (I n) k v := by simp [wU, va_up]
theorem wU_ne (I : wI) {n q : Nat} (k : Nat) (v : Int32) (h : q ≠ n) : wU I n k v q = I q := by simp [wU, va_up, h]
theorem wV_self (J : wJ) (n k : Nat) (v : Int64) : wV J n k v n = vp_updL (J n) k v := by simp [wV, va_up]
theorem wV_ne (J : wJ) {n q : Nat} (k : Nat) (v : Int64) (h : q ≠ n) : wV J n k v q = J q := by simp [wV, va_up, h]
section WROWS
variable {p : Program} {l : Launch} {e : Env} {R : Room} {s : State} {m : MethodId} {args : Array Value} {below : List Frame} {meth : Method} {c : Code} {H : Heap} {locs : List Loc} {cells slots : Nat} {Q : State → Prop}
variable {cc : ByteArray} {nL pc : Nat} {Ts : List Cond} {own : String} {D : va_G} {y : Nat → ClassId} {b : Nat} {G : wG} {I : wI} {J : wJ} {ls : Array Slot} {rest : List Value}
theorem w_get (X : wCx p m c cc nL s args Ts own D y b) (hw : Wh D y b G I J s H locs) {n : Nat} (κ k : Nat) (hn : n ∈ G.2.1) (hκ : w_kd n = κ) (h10 : κ ≤ 10) {C ref : String} {T : u_T} {ty : Nat → FieldType} {N index : Nat} (hT : wK κ C T ty N) (hin : ∀ w ∈ u_ws C T N, w ∈ Ts) (hk : k < N)
    (hl : Cond.fieldLink own index ref (T k).2.1 (T k).2.2.1 ∈ Ts) (hsame : (T k).1 = ref) {v : Value} (hv : (w_fl G.1 (I n) (J n) κ n)[k]? = some v) (hdg : decode cc pc = .ok (.getfield index, 3))
    (kk : W p l e R s m args below meth c H locs cells slots Q (F0 m (pc + 3) ls (v :: rest))) : W p l e R s m args below meth c H locs cells slots Q (F0 m pc ls (.ref (G.1 n) :: rest)) := by
  obtain ⟨⟨hx, hb, hml, hown, hts⟩, hK, hbs⟩ := X
  obtain ⟨q0, -, hq⟩ := w_at (y := y) (G := G) (I := I) (J := J) hn
  rw [w_ce_o hκ h10] at hq
  exact va_get hx hb hts hin hown hK hw.1 q0 hq hT.1 k hk (hts _ hl) (fun x h => by rw [← hsame]; exact h) hv hdg kk
theorem w_getN (X : wCx p m c cc nL s args Ts own D y b) (hw : Wh D y b G I J s H locs) {n : Nat} (κ k : Nat) (hn : n ∈ G.2.1) (hκ : w_kd n = κ) (h10 : κ ≤ 10) {C ref host : String} {T : u_T} {ty : Nat → FieldType} {N index : Nat} (hT : wK κ C T ty N) (hin : ∀ w ∈ u_ws C T N, w ∈ Ts) (hk : k < N)
    (hl : va_Nw (.fieldLinkNest own index ref (T k).2.1 (T k).2.2.1 host) s) (hsame : (T k).1 = ref) {v : Value} (hv : (w_fl G.1 (I n) (J n) κ n)[k]? = some v) (hdg : decode cc pc = .ok (.getfield index, 3))
    (kk : W p l e R s m args below meth c H locs cells slots Q (F0 m (pc + 3) ls (v :: rest))) : W p l e R s m args below meth c H locs cells slots Q (F0 m pc ls (.ref (G.1 n) :: rest)) := by
  obtain ⟨⟨hx, hb, hml, hown, hts⟩, hK, hbs⟩ := X
  obtain ⟨q0, -, hq⟩ := w_at (y := y) (G := G) (I := I) (J := J) hn
  rw [w_ce_o hκ h10] at hq
  exact va_getN hx hb hts hin hown hK hw.1 q0 hq hT.1 k hk (va_Nw.use rfl hl) (fun x h => by rw [← hsame]; exact h) hv hdg kk
theorem w_put (X : wCx p m c cc nL s args Ts own D y b) (hw : Wh D y b G I J s H locs) {n : Nat} (κ k : Nat) (hn : n ∈ G.2.1) (hκ : w_kd n = κ) (h10 : κ ≤ 10) {C ref : String} {T : u_T} {ty : Nat → FieldType} {N index : Nat} (hT : wK κ C T ty N) (hin : ∀ w ∈ u_ws C T N, w ∈ Ts) (hk : k < N)
    (hl : Cond.fieldLink own index ref (T k).2.1 (T k).2.2.1 ∈ Ts) (hsame : (T k).1 = ref) (hfin : (T k).2.2.2 = false) {t : FieldType} {v : Int32} (hd : parseFieldDescriptor (T k).2.2.1 = some t) (hnar : narrow t (.int v) = .int v) (hfit : fits t (.int v) = true)
    (hfs : ∀ x : Nat → Int32, (w_fl G.1 x (J n) κ n).set k (.int v) = w_fl G.1 (upd x k v) (J n) κ n) (hlen : ∀ x : Nat → Int32, k < (w_fl G.1 x (J n) κ n).length) (hdg : decode cc pc = .ok (.putfield index, 3))
    (kk : ∀ (H : Heap) (locs : List Loc), Wh D y b G (wU I n k v) J s H locs → W p l e R s m args below meth c H locs cells slots Q (F0 m (pc + 3) ls rest)) : W p l e R s m args below meth c H locs cells slots Q (F0 m pc ls (.int v :: .ref (G.1 n) :: rest)) := by
  obtain ⟨⟨hx, hb, hml, hown, hts⟩, hK, hbs⟩ := X
  obtain ⟨hP, hD, hS⟩ := hw
  obtain ⟨q0, hq0, hq⟩ := w_at (y := y) (G := G) (I := I) (J := J) hn
  rw [w_ce_o hκ h10] at hq
  have he : (w_ws y G I J).set q0 (G.1 n, .inr (κ, (w_fl G.1 (I n) (J n) κ n).set k (.int v))) = w_ws y G (wU I n k v) J := by
    rw [hfs (I n), ← wU_self, ← w_ce_o (y := y) (G := G) (I := wU I n k v) (J := J) hκ h10]
    exact w_set hD hq0 (fun q hq => w_ce_ne (wU_ne _ _ _ hq) rfl)
  refine va_put hx hb hts hin ty hT.2.1 hT.2.2 hown hK hP hD hS q0 hq hT.1 k hk (hts _ hl) (fun x h => by rw [← hsame]; exact h) hfin hd hnar hfit (hlen _) hdg (fun H1 locs1 h1 h2 h3 => ?_)
  rw [he] at h1 h2
  exact kk H1 locs1 ⟨h1, h2, h3⟩
theorem w_putN (X : wCx p m c cc nL s args Ts own D y b) (hw : Wh D y b G I J s H locs) {n : Nat} (κ k : Nat) (hn : n ∈ G.2.1) (hκ : w_kd n = κ) (h10 : κ ≤ 10) {C ref host : String} {T : u_T} {ty : Nat → FieldType} {N index : Nat} (hT : wK κ C T ty N) (hin : ∀ w ∈ u_ws C T N, w ∈ Ts) (hk : k < N)
    (hl : va_Nw (.fieldLinkNest own index ref (T k).2.1 (T k).2.2.1 host) s) (hsame : (T k).1 = ref) (hfin : (T k).2.2.2 = false) {t : FieldType} {v : Int32} (hd : parseFieldDescriptor (T k).2.2.1 = some t) (hnar : narrow t (.int v) = .int v) (hfit : fits t (.int v) = true)
    (hfs : ∀ x : Nat → Int32, (w_fl G.1 x (J n) κ n).set k (.int v) = w_fl G.1 (upd x k v) (J n) κ n) (hlen : ∀ x : Nat → Int32, k < (w_fl G.1 x (J n) κ n).length) (hdg : decode cc pc = .ok (.putfield index, 3))
    (kk : ∀ (H : Heap) (locs : List Loc), Wh D y b G (wU I n k v) J s H locs → W p l e R s m args below meth c H locs cells slots Q (F0 m (pc + 3) ls rest)) : W p l e R s m args below meth c H locs cells slots Q (F0 m pc ls (.int v :: .ref (G.1 n) :: rest)) := by
  obtain ⟨⟨hx, hb, hml, hown, hts⟩, hK, hbs⟩ := X
  obtain ⟨hP, hD, hS⟩ := hw
  obtain ⟨q0, hq0, hq⟩ := w_at (y := y) (G := G) (I := I) (J := J) hn
  rw [w_ce_o hκ h10] at hq
  have he : (w_ws y G I J).set q0 (G.1 n, .inr (κ, (w_fl G.1 (I n) (J n) κ n).set k (.int v))) = w_ws y G (wU I n k v) J := by
    rw [hfs (I n), ← wU_self, ← w_ce_o (y := y) (G := G) (I := wU I n k v) (J := J) hκ h10]
    exact w_set hD hq0 (fun q hq => w_ce_ne (wU_ne _ _ _ hq) rfl)
  refine va_putN hx hb hts hin ty hT.2.1 hT.2.2 hown hK hP hD hS q0 hq hT.1 k hk (va_Nw.use rfl hl) (fun x h => by rw [← hsame]; exact h) hfin hd hnar hfit (hlen _) hdg (fun H1 locs1 h1 h2 h3 => ?_)
  rw [he] at h1 h2
  exact kk H1 locs1 ⟨h1, h2, h3⟩
/-- the strip's flaws: the one long field -/
theorem w_putJ (X : wCx p m c cc nL s args Ts own D y b) (hw : Wh D y b G I J s H locs) {n : Nat} (κ k : Nat) (hn : n ∈ G.2.1) (hκ : w_kd n = κ) (h10 : κ ≤ 10) {C ref : String} {T : u_T} {ty : Nat → FieldType} {N index : Nat} (hT : wK κ C T ty N) (hin : ∀ w ∈ u_ws C T N, w ∈ Ts) (hk : k < N)
    (hl : Cond.fieldLink own index ref (T k).2.1 (T k).2.2.1 ∈ Ts) (hsame : (T k).1 = ref) (hfin : (T k).2.2.2 = false) {v : Int64} (hd : parseFieldDescriptor (T k).2.2.1 = some .long)
    (hfs : ∀ z : Nat → Int64, (w_fl G.1 (I n) z κ n).set k (.long v) = w_fl G.1 (I n) (vp_updL z k v) κ n) (hlen : ∀ z : Nat → Int64, k < (w_fl G.1 (I n) z κ n).length) (hdg : decode cc pc = .ok (.putfield index, 3))
    (kk : ∀ (H : Heap) (locs : List Loc), Wh D y b G I (wV J n k v) s H locs → W p l e R s m args below meth c H locs cells slots Q (F0 m (pc + 3) ls rest)) : W p l e R s m args below meth c H locs cells slots Q (F0 m pc ls (.long v :: .ref (G.1 n) :: rest)) := by
  obtain ⟨⟨hx, hb, hml, hown, hts⟩, hK, hbs⟩ := X
  obtain ⟨hP, hD, hS⟩ := hw
  obtain ⟨q0, hq0, hq⟩ := w_at (y := y) (G := G) (I := I) (J := J) hn
  rw [w_ce_o hκ h10] at hq
  have he : (w_ws y G I J).set q0 (G.1 n, .inr (κ, (w_fl G.1 (I n) (J n) κ n).set k (.long v))) = w_ws y G I (wV J n k v) := by
    rw [hfs (J n), ← wV_self, ← w_ce_o (y := y) (G := G) (I := I) (J := wV J n k v) hκ h10]
    exact w_set hD hq0 (fun q hq => w_ce_ne rfl (wV_ne _ _ _ hq))
  refine va_put hx hb hts hin ty hT.2.1 hT.2.2 hown hK hP hD hS q0 hq hT.1 k hk (hts _ hl) (fun x h => by rw [← hsame]; exact h) hfin hd rfl rfl (hlen _) hdg (fun H1 locs1 h1 h2 h3 => ?_)
  rw [he] at h1 h2
  exact kk H1 locs1 ⟨h1, h2, h3⟩
theorem w_ild (X : wCx p m c cc nL s args Ts own D y b) (hw : Wh D y b G I J s H locs) {n : Nat} (hn : n ∈ G.2.1) (hκ : w_kd n = 12) {i : Int32} (hin : vp_in i (w_ln n)) (hdg : decode cc pc = .ok (.iaload, 1))
    (kk : W p l e R s m args below meth c H locs cells slots Q (F0 m (pc + 1) ls (.int (I n i.toNatClampNeg) :: rest))) : W p l e R s m args below meth c H locs cells slots Q (F0 m pc ls (.int i :: .ref (G.1 n) :: rest)) := by
  obtain ⟨⟨hx, hb, hml, hown, hts⟩, hK, hbs⟩ := X
  obtain ⟨q0, -, hq⟩ := w_at (y := y) (G := G) (I := I) (J := J) hn
  rw [w_ce_i hκ (by omega)] at hq
  exact va_iald hx hb hK hw.1 q0 1 hq rfl hin hdg kk
theorem w_bld (X : wCx p m c cc nL s args Ts own D y b) (hw : Wh D y b G I J s H locs) {n : Nat} (hn : n ∈ G.2.1) (hκ : w_kd n = 11) {i : Int32} (hin : vp_in i (w_ln n)) (hdg : decode cc pc = .ok (.baload, 1))
    (kk : W p l e R s m args below meth c H locs cells slots Q (F0 m (pc + 1) ls (.int (I n i.toNatClampNeg) :: rest))) : W p l e R s m args below meth c H locs cells slots Q (F0 m pc ls (.int i :: .ref (G.1 n) :: rest)) := by
  obtain ⟨⟨hx, hb, hml, hown, hts⟩, hK, hbs⟩ := X
  obtain ⟨q0, -, hq⟩ := w_at (y := y) (G := G) (I := I) (J := J) hn
  rw [w_ce_i hκ (by omega)] at hq
  exact va_bald hx hb hK hw.1 q0 0 hq rfl hin hdg kk
theorem w_zld (X : wCx p m c cc nL s args Ts own D y b) (hw : Wh D y b G I J s H locs) {n : Nat} (hn : n ∈ G.2.1) (hκ : w_kd n = 13) {i : Int32} (hin : vp_in i (w_ln n)) (hdg : decode cc pc = .ok (.baload, 1))
    (kk : W p l e R s m args below meth c H locs cells slots Q (F0 m (pc + 1) ls (.int (I n i.toNatClampNeg) :: rest))) : W p l e R s m args below meth c H locs cells slots Q (F0 m pc ls (.int i :: .ref (G.1 n) :: rest)) := by
  obtain ⟨⟨hx, hb, hml, hown, hts⟩, hK, hbs⟩ := X
  obtain ⟨q0, -, hq⟩ := w_at (y := y) (G := G) (I := I) (J := J) hn
  rw [w_ce_i hκ (by omega)] at hq
  exact va_zald hx hb hK hw.1 q0 2 hq rfl hin hdg kk
theorem w_seti {n κ q0 k : Nat} {v : Int32} (hD : va_D (fun q => b ≤ q) (w_ws y G I J)) (hκ : w_kd n = κ) (h2 : 11 ≤ κ ∧ κ ≤ 13) (hq0 : G.2.1[q0]? = some n) : (w_ws y G I J).set q0 (G.1 n, .inl (y (κ - 11), w_ln n, .inl (upd (I n) k v))) = w_ws y G (wU I n k v) J := by
  rw [← wU_self, ← w_ce_i (y := y) (G := G) (I := wU I n k v) (J := J) hκ h2]
  exact w_set hD hq0 (fun q hq => w_ce_ne (wU_ne _ _ _ hq) rfl)
theorem w_ist (X : wCx p m c cc nL s args Ts own D y b) (hw : Wh D y b G I J s H locs) {n : Nat} (hn : n ∈ G.2.1) (hκ : w_kd n = 12) {i v : Int32} (hin : vp_in i (w_ln n)) (hdg : decode cc pc = .ok (.iastore, 1))
    (kk : ∀ (H : Heap) (locs : List Loc), Wh D y b G (wU I n i.toNatClampNeg v) J s H locs → W p l e R s m args below meth c H locs cells slots Q (F0 m (pc + 1) ls rest)) : W p l e R s m args below meth c H locs cells slots Q (F0 m pc ls (.int v :: .int i :: .ref (G.1 n) :: rest)) := by
  obtain ⟨⟨hx, hb, hml, hown, hts⟩, hK, hbs⟩ := X
  obtain ⟨hP, hD, hS⟩ := hw
  obtain ⟨q0, hq0, hq⟩ := w_at (y := y) (G := G) (I := I) (J := J) hn
  rw [w_ce_i hκ (by omega)] at hq
  refine va_iast hx hb hK hP hD hS q0 1 hq rfl hin hdg (fun H1 locs1 h1 h2 h3 => ?_)
  rw [w_seti hD hκ (by omega) hq0] at h1 h2
  exact kk H1 locs1 ⟨h1, h2, h3⟩
theorem w_bst (X : wCx p m c cc nL s args Ts own D y b) (hw : Wh D y b G I J s H locs) {n : Nat} (hn : n ∈ G.2.1) (hκ : w_kd n = 11) {i v : Int32} (hin : vp_in i (w_ln n)) (hdg : decode cc pc = .ok (.bastore, 1))
    (kk : ∀ (H : Heap) (locs : List Loc), Wh D y b G (wU I n i.toNatClampNeg (vp_nar .byte v)) J s H locs → W p l e R s m args below meth c H locs cells slots Q (F0 m (pc + 1) ls rest)) : W p l e R s m args below meth c H locs cells slots Q (F0 m pc ls (.int v :: .int i :: .ref (G.1 n) :: rest)) := by
  obtain ⟨⟨hx, hb, hml, hown, hts⟩, hK, hbs⟩ := X
  obtain ⟨hP, hD, hS⟩ := hw
  obtain ⟨q0, hq0, hq⟩ := w_at (y := y) (G := G) (I := I) (J := J) hn
  rw [w_ce_i hκ (by omega)] at hq
  refine va_bast hx hb hK hP hD hS q0 0 hq rfl hin hdg (fun H1 locs1 h1 h2 h3 => ?_)
  rw [w_seti hD hκ (by omega) hq0] at h1 h2
  exact kk H1 locs1 ⟨h1, h2, h3⟩
theorem w_zst (X : wCx p m c cc nL s args Ts own D y b) (hw : Wh D y b G I J s H locs) {n : Nat} (hn : n ∈ G.2.1) (hκ : w_kd n = 13) {i v : Int32} (hin : vp_in i (w_ln n)) (hdg : decode cc pc = .ok (.bastore, 1))
    (kk : ∀ (H : Heap) (locs : List Loc), Wh D y b G (wU I n i.toNatClampNeg (vp_nar .boolean v)) J s H locs → W p l e R s m args below meth c H locs cells slots Q (F0 m (pc + 1) ls rest)) : W p l e R s m args below meth c H locs cells slots Q (F0 m pc ls (.int v :: .int i :: .ref (G.1 n) :: rest)) := by
  obtain ⟨⟨hx, hb, hml, hown, hts⟩, hK, hbs⟩ := X
  obtain ⟨hP, hD, hS⟩ := hw
  obtain ⟨q0, hq0, hq⟩ := w_at (y := y) (G := G) (I := I) (J := J) hn
  rw [w_ce_i hκ (by omega)] at hq
  refine va_zast hx hb hK hP hD hS q0 2 hq rfl hin hdg (fun H1 locs1 h1 h2 h3 => ?_)
  rw [w_seti hD hκ (by omega) hq0] at h1 h2
  exact kk H1 locs1 ⟨h1, h2, h3⟩
theorem w_len (X : wCx p m c cc nL s args Ts own D y b) (hw : Wh D y b G I J s H locs) {n κ : Nat} (hn : n ∈ G.2.1) (hκ : w_kd n = κ) (h2 : 11 ≤ κ ∧ κ ≤ 13) (hdg : decode cc pc = .ok (.arraylength, 1))
    (kk : W p l e R s m args below meth c H locs cells slots Q (F0 m (pc + 1) ls (.int (Int32.ofNat (w_ln n)) :: rest))) : W p l e R s m args below meth c H locs cells slots Q (F0 m pc ls (.ref (G.1 n) :: rest)) := by
  obtain ⟨⟨hx, hb, hml, hown, hts⟩, hK, hbs⟩ := X
  obtain ⟨q0, -, hq⟩ := w_at (y := y) (G := G) (I := I) (J := J) hn
  rw [w_ce_i hκ h2] at hq
  rcases (show κ = 11 ∨ κ = 12 ∨ κ = 13 by omega) with h | h | h
  · subst h; exact va_alen hx hb hK hw.1 q0 0 hq rfl rfl hdg kk
  · subst h; exact va_alen hx hb hK hw.1 q0 1 hq rfl rfl hdg kk
  · subst h; exact va_alen hx hb hK hw.1 q0 2 hq rfl rfl hdg kk
theorem w_lld (X : wCx p m c cc nL s args Ts own D y b) (hw : Wh D y b G I J s H locs) {n : Nat} (hn : n ∈ G.2.1) (hκ : w_kd n = 15) {i : Int32} (hin : vp_in i 1) (hdg : decode cc pc = .ok (.laload, 1))
    (kk : W p l e R s m args below meth c H locs cells slots Q (F0 m (pc + 1) ls (.long (J n i.toNatClampNeg) :: rest))) : W p l e R s m args below meth c H locs cells slots Q (F0 m pc ls (.int i :: .ref (G.1 n) :: rest)) := by
  obtain ⟨⟨hx, hb, hml, hown, hts⟩, hK, hbs⟩ := X
  obtain ⟨q0, -, hq⟩ := w_at (y := y) (G := G) (I := I) (J := J) hn
  rw [w_ce_j hκ] at hq
  exact va_lald hx hb hK hw.1 q0 4 hq rfl hin hdg kk
theorem w_lst (X : wCx p m c cc nL s args Ts own D y b) (hw : Wh D y b G I J s H locs) {n : Nat} (hn : n ∈ G.2.1) (hκ : w_kd n = 15) {i : Int32} {v : Int64} (hin : vp_in i 1) (hdg : decode cc pc = .ok (.lastore, 1))
    (kk : ∀ (H : Heap) (locs : List Loc), Wh D y b G I (wV J n i.toNatClampNeg v) s H locs → W p l e R s m args below meth c H locs cells slots Q (F0 m (pc + 1) ls rest)) : W p l e R s m args below meth c H locs cells slots Q (F0 m pc ls (.long v :: .int i :: .ref (G.1 n) :: rest)) := by
  obtain ⟨⟨hx, hb, hml, hown, hts⟩, hK, hbs⟩ := X
  obtain ⟨hP, hD, hS⟩ := hw
  obtain ⟨q0, hq0, hq⟩ := w_at (y := y) (G := G) (I := I) (J := J) hn
  rw [w_ce_j hκ] at hq
  refine va_last hx hb hK hP hD hS q0 4 hq rfl hin hdg (fun H1 locs1 h1 h2 h3 => ?_)
  have he : (w_ws y G I J).set q0 (G.1 n, .inl (y 4, 1, .inr (.inl (vp_updL (J n) i.toNatClampNeg v)))) = w_ws y G I (wV J n i.toNatClampNeg v) := by
    rw [← wV_self, ← w_ce_j (y := y) (G := G) (I := I) (J := wV J n i.toNatClampNeg v) hκ]
    exact w_set hD hq0 (fun q hq => w_ce_ne rfl (wV_ne _ _ _ hq))
  rw [he] at h1 h2
  exact kk H1 locs1 ⟨h1, h2, h3⟩
end WROWS
