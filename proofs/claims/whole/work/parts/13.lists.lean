/-! an element of a list's row -/
section WLISTS
variable {p : Program} {l : Launch} {e : Env} {R : Room} {s : State} {m : MethodId} {args : Array Value} {below : List Frame} {meth : Method} {c : Code} {H : Heap} {locs : List Loc} {cells slots : Nat} {Q : State → Prop}
variable {cc : ByteArray} {nL pc : Nat} {Ts : List Cond} {own : String} {D : va_G} {y : Nat → ClassId} {b : Nat} {G : wG} {I : wI} {J : wJ} {ls : Array Slot} {rest : List Value}
theorem w_ald (X : wCx p m c cc nL s args Ts own D y b) (hw : Wh D y b G I J s H locs) {n q : Nat} (hn : n ∈ G.2.1) (hκ : w_kd n = 14) {i : Int32} (hin : vp_in i (G.2.2.2 n)) (hq : G.2.2.1 n i.toNatClampNeg = some q) (hdg : decode cc pc = .ok (.aaload, 1))
    (kk : W p l e R s m args below meth c H locs cells slots Q (F0 m (pc + 1) ls (.ref (G.1 q) :: rest))) : W p l e R s m args below meth c H locs cells slots Q (F0 m pc ls (.int i :: .ref (G.1 n) :: rest)) := by
  obtain ⟨⟨hx, hb, hml, hown, hts⟩, hK, hbs⟩ := X
  obtain ⟨q0, -, hq0⟩ := w_at (y := y) (G := G) (I := I) (J := J) hn
  rw [w_ce_q hκ] at hq0
  refine va_aldq hx hb hK hw.1 q0 3 hq0 rfl hin hdg ?_
  have e1 : va_rf ((G.2.2.1 n i.toNatClampNeg).map G.1) = .ref (G.1 q) := by rw [hq]; rfl
  rw [e1]
  exact kk
theorem w_cast (X : wCx p m c cc nL s args Ts own D y b) (hw : Wh D y b G I J s H locs) {n κ N index : Nat} {C : String} {T : u_T} {ty : Nat → FieldType} (hn : n ∈ G.2.1) (hκ : w_kd n = κ) (h10 : κ ≤ 10) (hT : wK κ C T ty N) (hl : Cond.classLink own index C ∈ Ts) (hdg : decode cc pc = .ok (.checkcast index, 3))
    (kk : W p l e R s m args below meth c H locs cells slots Q (F0 m (pc + 3) ls (.ref (G.1 n) :: rest))) : W p l e R s m args below meth c H locs cells slots Q (F0 m pc ls (.ref (G.1 n) :: rest)) :=
  va_castS X.1.1 X.1.2.1 X.1.2.2.2.1 (X.1.2.2.2.2 _ hl) (X.2.1.1 κ _ hT.1).2 (w_recv X hw hn hκ h10 hT) hdg kk
end WLISTS
/-- the list li holds the things el 0, el 1 .. -/
def wLT (G : wG) (li : Nat) (el : Nat → Nat) (n : Int) : Prop := ∀ i : Nat, (i : Int) < n → el i ∈ G.2.1 ∧ G.2.2.1 (li + 83) i = some (el i) ∧ li + 83 ∈ G.2.1 ∧ i < G.2.2.2 (li + 83)
theorem ls_k {k n : Int32} (c : ¬ n ≤ k) (h0 : 0 ≤ k.toInt) : ¬ k < 0 ∧ k < n ∧ (k.toNatClampNeg : Int) < n.toInt := by
  simp only [i_le, i_lt, i_cl, Int32.reduceToInt] at *
  omega
theorem ls_in {k : Int32} {n : Nat} (h0 : ¬ k < 0) (h : k.toNatClampNeg < n) : vp_in k n := fun q => q.elim h0 (fun q => absurd h (Nat.not_lt.mpr q))
