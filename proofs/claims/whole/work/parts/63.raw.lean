/-! things under construction: the world is a base B, which nobody looks at, and a list l of cells written out -/
def Wr (D : va_G) (b : Nat) (B l : va_W) (s : State) (H : Heap) (locs : List Loc) : Prop :=
  va_P D vwCl (B ++ l) H ∧ va_D (fun q => b ≤ q) (B ++ l) ∧ va_S (fun q => b ≤ q) s.heap H locs
def Rd (D : va_G) (y : Nat → ClassId) (b : Nat) (z : Nat → Nat) (B l : va_W) (U : State) : Prop :=
  va_P D vwCl (B ++ l) U.heap ∧ va_K D vwCl (w_tys y) U ∧ va_D (fun q => b ≤ q) (B ++ l) ∧ b ≤ U.heap.size ∧ St z b U
def rB (D : va_G) (b : Nat) (B : va_W) (u : va_W) (t : State) : Prop := va_P D vwCl (B ++ u) t.heap ∧ va_D (fun q => b ≤ q) (B ++ u)
abbrev mC (l : Launch) (yn : MethodName) (ws : List Cond) (rm : Room) (D : va_G) (y : Nat → ClassId) (b : Nat) (z : Nat → Nat) (B l0 : va_W) (av : List Value) (post : va_W → Prop) (mc ms : Nat) : Prop :=
  Met l yn ws rm (va_Pc av (Rd D y b z B l0)) (va_Qv post (rB D b B) (fun q => b ≤ q)) mc ms (fun q => b ≤ q)
theorem r_at {B l : va_W} {k : Nat} {x : Nat × va_E} (h : l[k]? = some x) : (B ++ l)[B.length + k]? = some x := by
  rw [List.getElem?_append_right (Nat.le_add_right _ _), Nat.add_sub_cancel_left]; exact h
theorem r_set (B l : va_W) (k : Nat) (x : Nat × va_E) : (B ++ l).set (B.length + k) x = B ++ l.set k x := by
  rw [List.set_append_right _ _ (Nat.le_add_right _ _), Nat.add_sub_cancel_left]
section RROWS
variable {p : Program} {l : Launch} {e : Env} {R : Room} {s : State} {m : MethodId} {args : Array Value} {below : List Frame} {meth : Method} {c : Code} {H : Heap} {locs : List Loc} {cells slots : Nat} {Q : State → Prop}
variable {cc : ByteArray} {nL pc : Nat} {Ts : List Cond} {own : String} {D : va_G} {y : Nat → ClassId} {b : Nat} {z : Nat → Nat} {B l0 : va_W} {ls : Array Slot} {rest : List Value} {a : Nat}
theorem r_enter {yn : MethodName} {ws ws' : List Cond} {rm : Room} {Qc : Array Value → State → Outcome → State → Prop} {mc ms : Nat} {free : Addr → Prop} {maxL : Nat} {ret : Option FieldType} {av : List Value}
    (hy : plainName yn.cls = true) (hws : ws = Cond.code yn cc maxL ret :: ws') (hlen : (lg_sl av).length ≤ maxL) {lv : List (Nat × Value)} (hlv : lv_args 0 av = lv)
    (body : ∀ p e s m below meth c ls, wCx p m c cc maxL s av.toArray ws yn.cls D y b → meth.sig.returnType = ret → meth.locks = false → meth.name = yn.name → Wr D b B l0 s s.heap [] → St z b s → lv_has ls maxL lv →
      W p l e rm s m av.toArray below meth c s.heap [] 0 0 (MQ below Qc av.toArray s mc ms free) (F0 m 0 ls [])) : Met l yn ws rm (va_Pc av (Rd D y b z B l0)) Qc mc ms free := by
  refine Met.ofW hy hws ?_
  intro p e s m args below meth c s₁ B1 hml hv
  obtain ⟨rfl, hP, hK, hD, hbs, hst⟩ := hv
  rw [lg_entry_eq]
  exact body p e s m below meth c _ ⟨⟨B1.exec, B1.bytes, hml, findClass_of_methodNamed B1.named, atoms_spec (ws := ws) B1.pre⟩, hK, hbs⟩ B1.returns B1.notSynchronized (name_of_methodNamed B1.named B1.method).1 ⟨hP, hD, va_S.rf⟩ hst (hlv ▸ lv_entry av hlen)
theorem r_put (X : wCx p m c cc nL s args Ts own D y b) (hw : Wr D b B l0 s H locs) (i κ k : Nat) {fs : List Value} (hi : l0[i]? = some (a, .inr (κ, fs))) {C ref : String} {T : u_T} {ty : Nat → FieldType} {N index : Nat} (hT : wK κ C T ty N) (hin : ∀ w ∈ u_ws C T N, w ∈ Ts) (hk : k < N)
    (hl : Cond.fieldLink own index ref (T k).2.1 (T k).2.2.1 ∈ Ts) (hsame : (T k).1 = ref) (hfin : (T k).2.2.2 = false) {t : FieldType} {v : Value} (hd : parseFieldDescriptor (T k).2.2.1 = some t) (hnar : narrow t v = v) (hfit : fits t v = true) (hlen : k < fs.length) (hdg : decode cc pc = .ok (.putfield index, 3))
    (kk : ∀ (H : Heap) (locs : List Loc), Wr D b B (l0.set i (a, .inr (κ, fs.set k v))) s H locs → W p l e R s m args below meth c H locs cells slots Q (F0 m (pc + 3) ls rest)) : W p l e R s m args below meth c H locs cells slots Q (F0 m pc ls (v :: .ref a :: rest)) := by
  obtain ⟨⟨hx, hb, hml, hown, hts⟩, hK, hbs⟩ := X
  obtain ⟨hP, hD, hS⟩ := hw
  refine va_put hx hb hts hin ty hT.2.1 hT.2.2 hown hK hP hD hS (B.length + i) (r_at hi) hT.1 k hk (hts _ hl) (fun x h => by rw [← hsame]; exact h) hfin hd hnar hfit hlen hdg (fun H1 locs1 h1 h2 h3 => ?_)
  rw [r_set] at h1 h2
  exact kk H1 locs1 ⟨h1, h2, h3⟩
theorem r_putF (X : wCx p m c cc nL s args Ts own D y b) (hw : Wr D b B l0 s H locs) (hnm : meth.name = "<init>") (i κ k : Nat) {fs : List Value} (hi : l0[i]? = some (a, .inr (κ, fs))) {C ref : String} {T : u_T} {ty : Nat → FieldType} {N index : Nat} (hT : wK κ C T ty N) (hin : ∀ w ∈ u_ws C T N, w ∈ Ts) (hk : k < N)
    (hl : Cond.fieldLink own index ref (T k).2.1 (T k).2.2.1 ∈ Ts) (hsame : (T k).1 = ref) (hfin : (T k).2.2.2 = true) (hdecl : (T k).1 = own) {t : FieldType} {v : Value} (hd : parseFieldDescriptor (T k).2.2.1 = some t) (hnar : narrow t v = v) (hfit : fits t v = true) (hlen : k < fs.length) (hdg : decode cc pc = .ok (.putfield index, 3))
    (kk : ∀ (H : Heap) (locs : List Loc), Wr D b B (l0.set i (a, .inr (κ, fs.set k v))) s H locs → W p l e R s m args below meth c H locs cells slots Q (F0 m (pc + 3) ls rest)) : W p l e R s m args below meth c H locs cells slots Q (F0 m pc ls (v :: .ref a :: rest)) := by
  obtain ⟨⟨hx, hb, hml, hown, hts⟩, hK, hbs⟩ := X
  obtain ⟨hP, hD, hS⟩ := hw
  refine va_putF hx hb hts hin ty hT.2.1 hT.2.2 hown hK hP hD hS (B.length + i) (r_at hi) hT.1 k hk (hts _ hl) (fun x h => by rw [← hsame]; exact h) hfin hnm hdecl hd hnar hfit hlen hdg (fun H1 locs1 h1 h2 h3 => ?_)
  rw [r_set] at h1 h2
  exact kk H1 locs1 ⟨h1, h2, h3⟩
theorem r_ty {t : Nat} {ty : FieldType} {nm : String} {cA : ClassId} (hRA : ∀ c, va_RA s c ty → s.vm.findClass nm = some c) (ht : (w_tys y)[t]? = some (y t, ty)) (hK : va_K D vwCl (w_tys y) s) (hK2 : va_K D vwCl (w_tys y ++ [(cA, ty)]) s) : cA = y t := by
  have h1 := hRA _ (hK.2 t _ ht).2
  have h2 := hRA _ (hK2.2 (w_tys y).length (cA, ty) (by rw [List.getElem?_append_right (Nat.le_refl _), Nat.sub_self]; rfl)).2
  exact Option.some.inj (h2.symm.trans h1)
theorem r_newa (X : wCx p m c cc nL s args Ts own D y b) (hw : Wr D b B l0 s H locs) {atype : ArrayType} {ty : FieldType} (t : Nat) (nm : String) (hRA : ∀ c, va_RA s c ty → s.vm.findClass nm = some c) (ht : (w_tys y)[t]? = some (y t, ty)) (harr : Cond.arrayClass (newarray.typeOf atype) ∈ Ts) (hty : newarray.typeOf atype = ty)
    {n : Int32} {N' : Nat} {a0 : vp_A} (ha : ∀ cA : ClassId, vp_cell cA a0 = arrV cA N' (fun _ => defaultValue ty)) (hn : ¬ n < 0) (hN : n.toNatClampNeg = N') (hbytes : N' * componentBytes ty ≤ 536870912) (hcells : cells + 1 ≤ R.cells) (hslots : slots + N' ≤ R.slots) (hdg : decode cc pc = .ok (.newarray atype, 2))
    (kk : ∀ (q : Nat) (H : Heap), Wr D b B (l0 ++ [(q, .inl (y t, a0))]) s H locs → W p l e R s m args below meth c H locs (cells + 1) (slots + N') Q (F0 m (pc + 2) ls (.ref q :: rest))) : W p l e R s m args below meth c H locs cells slots Q (F0 m pc ls (.int n :: rest)) := by
  obtain ⟨⟨hx, hb, hml, hown, hts⟩, hK, hbs⟩ := X
  obtain ⟨hP, hD, hS⟩ := hw
  refine va_newa hx hb (hts _ harr) hty hK hP hD hS (fun q h => Nat.le_trans hbs h) ha hn hN hbytes hcells hslots hdg (fun q cA H1 hK2 h1 h2 h3 => ?_)
  obtain rfl := r_ty hRA ht hK hK2
  rw [List.append_assoc] at h1 h2
  exact kk q H1 ⟨h1, h2, h3⟩
theorem r_ist (X : wCx p m c cc nL s args Ts own D y b) (hw : Wr D b B l0 s H locs) (k : Nat) {n : Nat} {f : Nat → Int32} (hk : l0[k]? = some (a, .inl (y 1, n, .inl f))) {i v : Int32} (hin : vp_in i n) (hdg : decode cc pc = .ok (.iastore, 1))
    (kk : ∀ (H : Heap) (locs : List Loc), Wr D b B (l0.set k (a, .inl (y 1, n, .inl (upd f i.toNatClampNeg v)))) s H locs → W p l e R s m args below meth c H locs cells slots Q (F0 m (pc + 1) ls rest)) : W p l e R s m args below meth c H locs cells slots Q (F0 m pc ls (.int v :: .int i :: .ref a :: rest)) := by
  obtain ⟨⟨hx, hb, hml, hown, hts⟩, hK, hbs⟩ := X
  obtain ⟨hP, hD, hS⟩ := hw
  refine va_iast hx hb hK hP hD hS (B.length + k) 1 (r_at hk) rfl hin hdg (fun H1 locs1 h1 h2 h3 => ?_)
  rw [r_set] at h1 h2
  exact kk H1 locs1 ⟨h1, h2, h3⟩
theorem r_new (X : wCx p m c cc nL s args Ts own D y b) (hw : Wr D b B l0 s H locs) (κ : Nat) {C : String} {T : u_T} {ty : Nat → FieldType} {N index : Nat} (hT : wK κ C T ty N) (hin : ∀ w ∈ u_ws C T N, w ∈ Ts) (hcl : Cond.classLink own index C ∈ Ts) (hinst : Cond.instantiable C N ∈ Ts) (hini : Cond.initialized C ∈ Ts) {fs : List Value} (hfs : ∀ j, j < N → defaultValue (ty j) = vp_V fs j) (hcells : cells + 1 ≤ R.cells) (hslots : slots + N ≤ R.slots) (hdg : decode cc pc = .ok (.new index, 3))
    (kk : ∀ (q : Nat) (H : Heap), Wr D b B (l0 ++ [(q, .inr (κ, fs))]) s H locs → W p l e R s m args below meth c H locs (cells + 1) (slots + N) Q (F0 m (pc + 3) ls (.ref q :: rest))) : W p l e R s m args below meth c H locs cells slots Q (F0 m pc ls rest) := by
  obtain ⟨⟨hx, hb, hml, hown, hts⟩, hK, hbs⟩ := X
  obtain ⟨hP, hD, hS⟩ := hw
  refine va_new hx hb hts hin ty hT.2.1 hown (hts _ hcl) (hts _ hinst) (hts _ hini) hK hP hD hS (fun q h => Nat.le_trans hbs h) hT.1 hfs hcells hslots hdg (fun q H1 h1 h2 h3 => ?_)
  rw [List.append_assoc] at h1 h2
  exact kk q H1 ⟨h1, h2, h3⟩
theorem r_vret {post : va_W → Prop} {mc ms : Nat} (X : wCx p m c cc nL s args Ts own D y b) (hr : meth.sig.returnType = none) (hlk : meth.locks = false) (hw : Wr D b B l0 s H locs) (hp : post l0) (hc : cells ≤ mc) (hs : slots ≤ ms) (hdg : decode cc pc = .ok (.return_, 1)) :
    W p l e R s m args below meth c H locs cells slots (MQ below (va_Qv post (rB D b B) (fun q => b ≤ q)) args s mc ms (fun q => b ≤ q)) (F0 m pc ls []) :=
  W.widen hc hs (W.vret X.1.1 X.1.2.1 hr (fun t ht _ => ⟨⟨l0, rfl, hp, ⟨by rw [ht]; exact hw.1, hw.2.1⟩⟩, hw.2.2.F ht⟩) hw.2.2.2.2 hdg hlk)
theorem Rd.blind {av : List Value} : FrameBlind (va_Pc av (Rd D y b z B l0)) := by
  intro a U g mk h
  obtain ⟨h0, h1, h2, h3, h4, h5⟩ := h
  exact ⟨h0, h1, va_K.moved (u := U) (U := U.calling g mk a) (Vm.Alike.refl U.vm) h2, h3, h4, h5.same rfl rfl⟩
variable {yn : MethodName} {bytes : ByteArray} {maxL mc ms n index : Nat} {ws : List Cond} {rm : Room} {As st0 : List Value} {lv : List (Nat × Value)}
/-- a constructor of the last things, l1, of the list l0 ++ l1 -/
theorem r_callI {l1 : va_W} {post : va_W → Prop} (X : wCx p m c cc nL s args Ts own D y b) (hw : Wr D b B (l0 ++ l1) s H locs) (hst : St z b s) (hl : lv_has ls nL lv) (hM : mC l yn ws rm D y b z (B ++ l0) l1 (.ref a :: As) post mc ms) (cw : CallB R s args own index yn bytes maxL none ws rm mc ms n ∧ yn.name = "<init>" ∧ (Cond.instanceMethod yn).before args s = true)
    (hn : As.length = n) (hstack : st0 = As.reverse ++ .ref a :: rest) (hW : (rest.map fun v => v.category).sum ≤ 8) (hdg : decode cc pc = .ok (.invokespecial index, 3)) (hf : cells + mc ≤ R.cells ∧ slots + ms ≤ R.slots)
    (kk : ∀ (u : va_W) (H : Heap) (locs : List Loc), post u → Wr D b B (l0 ++ u) s H locs → W p l e R s m args below meth c H locs (cells + mc) (slots + ms) Q (F0 m (pc + 3) ls rest)) : W p l e R s m args below meth c H locs cells slots Q (F0 m pc ls st0) := by
  refine va_callv (va_runI (As := As) (rest := rest) X.1 hM cw ⟨Rd.blind, fun U hU hW => ⟨rfl, by rw [hU, List.append_assoc]; exact hw.1, va_K.moved hW.alike X.2.1, by rw [List.append_assoc]; exact hw.2.1, by rw [hU]; exact Nat.le_trans X.2.2 hw.2.2.1, hst.go hw.2.2 hU hW⟩⟩ rfl hn hl.1 hstack (lv_room hW) hdg hf) hw.2.2 (fun _ _ h => h) (fun _ h => h) (fun u t H1 locs1 ht _ hp hB _ _ hS => ?_)
  obtain ⟨h1, h2⟩ := hB
  rw [List.append_assoc] at h1 h2
  exact kk u H1 locs1 hp ⟨ht ▸ h1, h2, hS⟩
theorem r_callN {host : String} {l1 : va_W} {post : va_W → Prop} (X : wCx p m c cc nL s args Ts own D y b) (hw : Wr D b B (l0 ++ l1) s H locs) (hst : St z b s) (hl : lv_has ls nL lv) (hM : mC l yn ws rm D y b z (B ++ l0) l1 (.ref a :: As) post mc ms) (cw : va_CN R s args own index yn host bytes maxL none ws rm mc ms n ∧ yn.name = "<init>" ∧ (Cond.instanceMethod yn).before args s = true)
    (hn : As.length = n) (hstack : st0 = As.reverse ++ .ref a :: rest) (hW : (rest.map fun v => v.category).sum ≤ 8) (hdg : decode cc pc = .ok (.invokespecial index, 3)) (hf : cells + mc ≤ R.cells ∧ slots + ms ≤ R.slots)
    (kk : ∀ (u : va_W) (H : Heap) (locs : List Loc), post u → Wr D b B (l0 ++ u) s H locs → W p l e R s m args below meth c H locs (cells + mc) (slots + ms) Q (F0 m (pc + 3) ls rest)) : W p l e R s m args below meth c H locs cells slots Q (F0 m pc ls st0) := by
  refine va_callv (va_runIN (As := As) (rest := rest) X.1 hM cw ⟨Rd.blind, fun U hU hW => ⟨rfl, by rw [hU, List.append_assoc]; exact hw.1, va_K.moved hW.alike X.2.1, by rw [List.append_assoc]; exact hw.2.1, by rw [hU]; exact Nat.le_trans X.2.2 hw.2.2.1, hst.go hw.2.2 hU hW⟩⟩ rfl hn hl.1 hstack (lv_room hW) hdg hf) hw.2.2 (fun _ _ h => h) (fun _ h => h) (fun u t H1 locs1 ht _ hp hB _ _ hS => ?_)
  obtain ⟨h1, h2⟩ := hB
  rw [List.append_assoc] at h1 h2
  exact kk u H1 locs1 hp ⟨ht ▸ h1, h2, hS⟩
end RROWS
