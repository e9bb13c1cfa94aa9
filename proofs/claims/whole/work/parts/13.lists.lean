/-! an element of a list's row -/
section WLISTS
variable {p : Program} {l : Launch} {e : Env} {R : Room} {s : State} {m : MethodId} {args : Array Value} {below : List Frame} {meth : Method} {c : Code} {H : Heap} {locs : List Loc} {cells slots : Nat} {Q : State → Prop}
variable {cc : ByteArray} {nL pc : Nat} {Ts : List Cond} {own : String} {D : va_G} {y : Nat → ClassId} {b : Nat} {G : wG} {I : wI} {J : wJ} {ls : Array Slot} {rest : List Value}
theorem w_ald (X : wCx p m c cc nL s args Ts own D y b) (hw : Wh D y b G I J s H locs) {n q : Nat} (hn : n ∈ G.2.1) (hκ : w_kd n = 14) {i : Int32} (hin : vp_in i (G.2.2.2 n)) (hq : G.2.2.1 n i.toNatClampNeg = some q) (hdg : decode cc pc = .ok (.aaload, 1))
    (kk : W p l e R s m args below meth c H locs cells slots Q (F0 m (pc + 1) ls (.ref (G.1 q) :: rest))) : W p l e R s m args below meth c H locs cells slots Q (F0 m pc ls (.int i :: .ref (G.1 n) :: rest)) := by
  obtain ⟨⟨hx, hb, hml, hown, hts⟩, hK, hbs⟩ := X
  obtain ⟨q0, -, hq0⟩ := w_at (y := y) (G := G) (I := I) (J := J) hn
  rw [w_ce_q hκ] at hq0
  refine va_aldq hx hb hK hw.1 q0 3 hq0 rfl hin hdg ?_
  have e1 : va_rf ((G.2.2.1 n i.toNatClampNeg).map G.1) = .ref (G.1 q) := by rw [hq]; rfl
  rw [e1]
  exact kk
end WLISTS
