/-! methods that may throw -/
def w_xn (k : Int32) : String := if k = 1 then "java/lang/IllegalArgumentException" else if k = 2 then "java/lang/UnsupportedOperationException" else if k = 3 then "java/lang/IndexOutOfBoundsException" else "java/util/NoSuchElementException"
def w_ns : List String := ["java/lang/RuntimeException", "java/lang/Exception"]
abbrev wX : Type := String × wS
def wBX (D : va_G) (y : Nat → ClassId) (b : Nat) : String → wX → State → Prop := fun E u t => E = u.1 ∧ wB D y b u.2 t
abbrev wXC (D : va_G) (y : Nat → ClassId) (b : Nat) (px : wX → Prop) : String → State → State → Prop := vx_X px (wBX D y b) (fun q => b ≤ q)
abbrev xI (l : Launch) (yn : MethodName) (ws : List Cond) (rm : Room) (D : va_G) (y : Nat → ClassId) (b : Nat) (z : Nat → Nat) (G : wG) (I : wI) (J : wJ) (av : List Value) (post : Int32 → wS → Prop) (px : wX → Prop) (mc ms : Nat) : Prop :=
  vx_Met l yn ws rm (wPc D y b z G I J av) (va_Qi post (wB D y b) (fun q => b ≤ q)) (wXC D y b px) mc ms (fun q => b ≤ q)
abbrev xV (l : Launch) (yn : MethodName) (ws : List Cond) (rm : Room) (D : va_G) (y : Nat → ClassId) (b : Nat) (z : Nat → Nat) (G : wG) (I : wI) (J : wJ) (av : List Value) (post : wS → Prop) (px : wX → Prop) (mc ms : Nat) : Prop :=
  vx_Met l yn ws rm (wPc D y b z G I J av) (va_Qv post (wB D y b) (fun q => b ≤ q)) (wXC D y b px) mc ms (fun q => b ≤ q)
abbrev xR (l : Launch) (yn : MethodName) (ws : List Cond) (rm : Room) (D : va_G) (y : Nat → ClassId) (b : Nat) (z : Nat → Nat) (G : wG) (I : wI) (J : wJ) (av : List Value) (post : Nat × wS → Prop) (px : wX → Prop) (mc ms : Nat) : Prop :=
  vx_Met l yn ws rm (wPc D y b z G I J av) (va_Qr post (wB1 D y b) (fun q => b ≤ q)) (wXC D y b px) mc ms (fun q => b ≤ q)
section WXROWS
variable {p : Program} {l : Launch} {e : Env} {R : Room} {s : State} {m : MethodId} {args : Array Value} {below : List Frame} {meth : Method} {c : Code} {H : Heap} {locs : List Loc} {cells slots : Nat} {Q : State → Prop}
variable {cc : ByteArray} {nL pc : Nat} {Ts : List Cond} {own : String} {D : va_G} {y : Nat → ClassId} {b : Nat} {z : Nat → Nat} {G : wG} {I : wI} {J : wJ} {ls : Array Slot} {rest : List Value}
theorem w_xenter {yn : MethodName} {ws ws' : List Cond} {rm : Room} {Qc : Array Value → State → Outcome → State → Prop} {XC : String → State → State → Prop} {mc ms : Nat} {free : Addr → Prop} {maxL : Nat} {ret : Option FieldType} {av : List Value}
    (hy : plainName yn.cls = true) (hws : ws = Cond.code yn cc maxL ret :: ws') (hlen : (lg_sl av).length ≤ maxL) {lv : List (Nat × Value)} (hlv : lv_args 0 av = lv)
    (body : ∀ p e s m below meth c ls, wCx p m c cc maxL s av.toArray ws yn.cls D y b → meth.sig.returnType = ret → meth.locks = false → meth.name = yn.name → Wh D y b G I J s s.heap [] → St z b s → (∀ x ∈ c.exceptionTable.toList, False) → lv_has ls maxL lv →
      W p l e rm s m av.toArray below meth c s.heap [] 0 0 (vx_MQ below Qc XC av.toArray s mc ms free) (F0 m 0 ls [])) : vx_Met l yn ws rm (wPc D y b z G I J av) Qc XC mc ms free := by
  refine vx_ofW hy hws ?_
  intro p e s m args below meth c s₁ B hml hto hv
  obtain ⟨rfl, hP, hK, hD, hbs, hst⟩ := hv
  rw [lg_entry_eq]
  exact body p e s m below meth c _ ⟨⟨B.exec, B.bytes, hml, findClass_of_methodNamed B.named, atoms_spec (ws := ws) B.pre⟩, hK, hbs⟩ B.returns B.notSynchronized (name_of_methodNamed B.named B.method).1 ⟨hP, hD, va_S.rf⟩ hst hto (hlv ▸ lv_entry av hlen)
theorem w_xF (hw : Wh D y b G I J s H locs) {t : State} (h1 : H.size ≤ t.heap.size) (h2 : ∀ q : Nat, q < H.size → t.heap[q]? = H[q]?) : wB D y b (G, I, J) t ∧ va_F (fun q => b ≤ q) s t := by
  refine ⟨⟨hw.1.kept (fun k q hk => h2 _ ?_), hw.2.1⟩, Nat.le_trans hw.2.2.1 h1, fun q g1 g2 => ?_⟩
  · exact (hw.1 k q hk).lt
  · rw [h2 q (Nat.lt_of_lt_of_le g1 hw.2.2.1)]
    exact hw.2.2.2.1 q g1 g2
theorem w_dcs (hst : St z b s) : ∀ w ∈ w_dc.map Cond.declares, w.before args s = true := by
  intro w hw
  obtain ⟨q, hq, rfl⟩ := List.mem_map.mp hw
  exact va_Nw.use rfl (hst.x.2.2.2.2.2.2.2.2.2.2 q hq)
theorem w_throwS {cls text : String} {ik is ic mc ms : Nat} {Qc : Array Value → State → Outcome → State → Prop} {px : wX → Prop} {lv : List (Nat × Value)} (X : wCx p m c cc nL s args Ts RX8 D y b) (hw : Wh D y b G I J s H locs) (hst : St z b s) (hls : l.stackTraces = false) (hout : ∀ x ∈ c.exceptionTable.toList, False) (hlk : meth.locks = false) (hl : lv_has ls nL lv)
    (hfit : Bundle.fit cls = true) (hk : Cond.classLink RX8 ik cls ∈ Ts) (hini : Cond.initialized cls ∈ Ts) (htx : (is, text) ∈ w_tx) (hat1 : ∀ w ∈ (vx_atS RX8 ic cls w_ns).filter goodWord, w ∈ Ts) (hat2 : ∀ w ∈ (vx_atS RX8 ic cls w_ns).filter (fun w => !goodWord w), w ∈ Cond.castable cls cls :: w_dc.map Cond.declares) (hca : (cls, cls) ∈ w_xc)
    (hgood : ∀ w ∈ Cond.classLink RX8 ik cls :: Cond.initialized cls :: vx_atS RX8 ic cls w_ns, vx_ot w = true)
    (d0 : decode cc pc = .ok (.new ik, 3)) (d3 : decode cc (pc + 3) = .ok (.dup, 1)) (d4 : decode cc (pc + 4) = .ok (.ldc is, 2)) (d6 : decode cc (pc + 6) = .ok (.invokespecial ic, 3)) (d9 : decode cc (pc + 9) = .ok (.athrow, 1))
    (hRf : 5 < R.frames) (hRl : (rest.map fun v => v.category).sum + 82 ≤ R.locals) (hRc : cells + 1 ≤ R.cells) (hRs : slots + 6 ≤ R.slots) (hpx : px (cls, G, I, J)) (hc : cells + 1 ≤ mc) (hs : slots + 6 ≤ ms) :
    W p l e R s m args below meth c H locs cells slots (vx_MQ below Qc (wXC D y b px) args s mc ms (fun q => b ≤ q)) (F0 m pc ls rest) := by
  obtain ⟨sa, hsa⟩ := hst.2.2.1 _ htx
  exact vx_throwS (A := fun q => b ≤ q) X.1.1 X.1.2.1 hls X.1.2.2.2.1 hfit (by decide +kernel) (X.1.2.2.2.2 _ hk) (X.1.2.2.2.2 _ hini) hsa (vx_hat (fun w h => X.1.2.2.2.2 w (hat1 w h)) hat2 (vx_c (va_Nw.use rfl (hst.x.1 _ hca)) (w_dcs hst))) hgood hst.2.2.2.1.1 hst.2.2.2.1.2 hw.2.2 (by rw [X.1.2.2.1]; exact hl.1) d0 d3 d4 d6 d9 (fun x h => (hout x h).elim) hRf hRl hRc hRs hlk
    (fun t _ h1 h2 => ⟨(cls, G, I, J), hpx, ⟨rfl, (w_xF hw h1 h2).1⟩, (w_xF hw h1 h2).2⟩) (fun q hq => hw.2.2.2.2 q hq) hc hs
theorem w_throwW {cls text : String} {ik is ic mc ms : Nat} {Qc : Array Value → State → Outcome → State → Prop} {px : wX → Prop} {lv : List (Nat × Value)} (X : wCx p m c cc nL s args Ts RX8 D y b) (hw : Wh D y b G I J s H locs) (hst : St z b s) (hls : l.stackTraces = false) (hout : ∀ x ∈ c.exceptionTable.toList, False) (hlk : meth.locks = false) (hl : lv_has ls nL lv)
    (hfit : Bundle.fit cls = true) (hk : Cond.classLink RX8 ik cls ∈ Ts) (hini : Cond.initialized cls ∈ Ts) (htx : (is, text) ∈ w_tx) (hat1 : ∀ w ∈ (vx_atS RX8 ic cls w_ns).filter goodWord, w ∈ Ts) (hat2 : ∀ w ∈ (vx_atS RX8 ic cls w_ns).filter (fun w => !goodWord w), w ∈ Cond.castable cls cls :: w_dc.map Cond.declares) (hca : (cls, cls) ∈ w_xc)
    (hgood : ∀ w ∈ Cond.classLink RX8 ik cls :: Cond.initialized cls :: vx_atS RX8 ic cls w_ns, vx_ot w = true)
    (d0 : decode cc pc = .ok (.new ik, 3)) (d3 : decode cc (pc + 3) = .ok (.dup, 1)) (d4 : decode cc (pc + 4) = .ok (.ldc_w is, 3)) (d7 : decode cc (pc + 7) = .ok (.invokespecial ic, 3)) (d10 : decode cc (pc + 10) = .ok (.athrow, 1))
    (hRf : 5 < R.frames) (hRl : (rest.map fun v => v.category).sum + 82 ≤ R.locals) (hRc : cells + 1 ≤ R.cells) (hRs : slots + 6 ≤ R.slots) (hpx : px (cls, G, I, J)) (hc : cells + 1 ≤ mc) (hs : slots + 6 ≤ ms) :
    W p l e R s m args below meth c H locs cells slots (vx_MQ below Qc (wXC D y b px) args s mc ms (fun q => b ≤ q)) (F0 m pc ls rest) := by
  obtain ⟨sa, hsa⟩ := hst.2.2.1 _ htx
  exact vx_throwSW (A := fun q => b ≤ q) X.1.1 X.1.2.1 hls X.1.2.2.2.1 hfit (by decide +kernel) (X.1.2.2.2.2 _ hk) (X.1.2.2.2.2 _ hini) hsa (vx_hat (fun w h => X.1.2.2.2.2 w (hat1 w h)) hat2 (vx_c (va_Nw.use rfl (hst.x.1 _ hca)) (w_dcs hst))) hgood hst.2.2.2.1.1 hst.2.2.2.1.2 hw.2.2 (by rw [X.1.2.2.1]; exact hl.1) d0 d3 d4 d7 d10 (fun x h => (hout x h).elim) hRf hRl hRc hRs hlk
    (fun t _ h1 h2 => ⟨(cls, G, I, J), hpx, ⟨rfl, (w_xF hw h1 h2).1⟩, (w_xF hw h1 h2).2⟩) (fun q hq => hw.2.2.2.2 q hq) hc hs
variable {yn : MethodName} {bytes : ByteArray} {maxL mc ms n index : Nat} {ret : Option FieldType} {ws : List Cond} {rm : Room} {C : String} {a : Addr} {As st0 : List Value} {lv : List (Nat × Value)}
theorem w_xpass {Qc : Array Value → State → Outcome → State → Prop} {px' : wX → Prop} {mc' ms' : Nat} {E : String} {ce : Cell} {q9 : Addr} {u : wX} {t : State} {H1 : Heap} {locs1 : List Loc} (hout : ∀ x ∈ c.exceptionTable.toList, False) (hlk : meth.locks = false) (ht : t.heap = H1) (hpx : px' u) (hB : wBX D y b E u t) (hS : va_S (fun q => b ≤ q) s.heap H1 locs1) (hce : H1[q9]? = some ce) (hcv : ce.vm = .none) (hcl : s.vm.findClass E = some ce.cls) (hc : cells ≤ mc') (hs : slots ≤ ms') :
    vx_W p l e R s m args below meth c H1 locs1 cells slots (vx_MQ below Qc (wXC D y b px') args s mc' ms' (fun q => b ≤ q)) (F0 m pc ls rest) q9 :=
  vx_out (fun x h => (hout x h).elim) hlk hce hcv hcl (fun t2 h2 _ => ⟨u, hpx, ⟨hB.1, ⟨by rw [h2, ← ht]; exact hB.2.1, hB.2.2⟩⟩, hS.F h2⟩) (fun q hq => hS.2.2 q hq) hc hs
theorem w_xcallVr {Qc : Array Value → State → Outcome → State → Prop} {post : Nat × wS → Prop} {px px' : wX → Prop} {mc' ms' : Nat} (X : wCx p m c cc nL s args Ts own D y b) (hw : Wh D y b G I J s H locs) (hst : St z b s) (hl : lv_has ls nL lv) (hM : xR l yn ws rm D y b z G I J (.ref a :: As) post px mc ms) (cw : CallW R s args own C index yn bytes maxL ret ws rm mc ms n) (hrec : ∃ cell : Cell, H[a]? = some cell ∧ cell.vm.isStatics = false ∧ s.vm.findClass C = some cell.cls)
    (hn : As.length = n) (hstack : st0 = As.reverse ++ .ref a :: rest) (hW : (rest.map fun v => v.category).sum ≤ 8) (hdg : decode cc pc = .ok (.invokevirtual index, 3)) (hf : cells + mc ≤ R.cells ∧ slots + ms ≤ R.slots) (hout : ∀ x ∈ c.exceptionTable.toList, False) (hlk : meth.locks = false) (hc : cells + mc ≤ mc') (hs : slots + ms ≤ ms') (hpx : ∀ u, px u → px' u)
    (kk : ∀ (u : Nat × wS) (H : Heap) (locs : List Loc), post u → Wh D y b u.2.1 u.2.2.1 u.2.2.2 s H locs → W p l e R s m args below meth c H locs (cells + mc) (slots + ms) (vx_MQ below Qc (wXC D y b px') args s mc' ms' (fun q => b ≤ q)) (F0 m (pc + 3) ls (.ref u.1 :: rest))) : W p l e R s m args below meth c H locs cells slots (vx_MQ below Qc (wXC D y b px') args s mc' ms' (fun q => b ≤ q)) (F0 m pc ls st0) := by
  intro T hT XX
  rcases (vx_runV (As := As) (rest := rest) X.1 hM cw ⟨Wd.blind, hrec, w_pre X hw hst⟩ rfl hn hl.1 hstack (lv_room hW) hdg hf) T hT XX with ⟨v, st₀, t, T', L, h0, X', hL, e1, e2, ⟨⟨u, ra, hv, hp, hb⟩, hF⟩, st⟩ | ⟨q, st₀, t, T', L, E, ce, h0, X', hL, e1, e2, ⟨u, hp, hb, hF⟩, hce, hcv, hcl, st⟩
  · cases hv
    obtain ⟨rfl, hB⟩ := hb
    obtain ⟨k1, k2, k3⟩ := vx_keep h0 e1 hw.2.2 (fun _ _ h => h) (fun _ h => h) hL hF
    obtain ⟨t2, a1, b1⟩ := kk u T'.heap (locs ++ L) hp ⟨by rw [e1]; exact hB.1, hB.2, k3⟩ T' rfl X'
    exact ⟨t2, st t2 a1, b1⟩
  · obtain ⟨k1, k2, k3⟩ := vx_keep h0 e1 hw.2.2 (fun _ _ h => h) (fun _ h => h) hL hF
    obtain ⟨t2, a1, b1⟩ := w_xpass (R := R) (rest := rest) (pc := pc) (ls := ls) (Qc := Qc) hout hlk e1.symm (hpx u hp) hb k3 (by rw [e1]; exact hce) hcv hcl hc hs T' rfl X'
    exact ⟨t2, st.trans a1, b1⟩
end WXROWS
theorem xg_IAE2 : ∀ w ∈ (vx_atS RX8 82 "java/lang/IllegalArgumentException" w_ns).filter (fun w => !goodWord w), w ∈ Cond.castable "java/lang/IllegalArgumentException" "java/lang/IllegalArgumentException" :: w_dc.map Cond.declares := by decide +kernel
theorem xg_UOE2 : ∀ w ∈ (vx_atS RX8 90 "java/lang/UnsupportedOperationException" w_ns).filter (fun w => !goodWord w), w ∈ Cond.castable "java/lang/UnsupportedOperationException" "java/lang/UnsupportedOperationException" :: w_dc.map Cond.declares := by decide +kernel
theorem xg_IOE2 : ∀ w ∈ (vx_atS RX8 290 "java/lang/IndexOutOfBoundsException" w_ns).filter (fun w => !goodWord w), w ∈ Cond.castable "java/lang/IndexOutOfBoundsException" "java/lang/IndexOutOfBoundsException" :: w_dc.map Cond.declares := by decide +kernel
theorem xg_NSE2 : ∀ w ∈ (vx_atS RX8 118 "java/util/NoSuchElementException" w_ns).filter (fun w => !goodWord w), w ∈ Cond.castable "java/util/NoSuchElementException" "java/util/NoSuchElementException" :: w_dc.map Cond.declares := by decide +kernel
theorem xg_IAE3 : ∀ w ∈ Cond.classLink RX8 78 "java/lang/IllegalArgumentException" :: Cond.initialized "java/lang/IllegalArgumentException" :: vx_atS RX8 82 "java/lang/IllegalArgumentException" w_ns, vx_ot w = true := by decide +kernel
theorem xg_UOE3 : ∀ w ∈ Cond.classLink RX8 86 "java/lang/UnsupportedOperationException" :: Cond.initialized "java/lang/UnsupportedOperationException" :: vx_atS RX8 90 "java/lang/UnsupportedOperationException" w_ns, vx_ot w = true := by decide +kernel
theorem xg_IOE3 : ∀ w ∈ Cond.classLink RX8 286 "java/lang/IndexOutOfBoundsException" :: Cond.initialized "java/lang/IndexOutOfBoundsException" :: vx_atS RX8 290 "java/lang/IndexOutOfBoundsException" w_ns, vx_ot w = true := by decide +kernel
theorem xg_NSE3 : ∀ w ∈ Cond.classLink RX8 114 "java/util/NoSuchElementException" :: Cond.initialized "java/util/NoSuchElementException" :: vx_atS RX8 118 "java/util/NoSuchElementException" w_ns, vx_ot w = true := by decide +kernel
theorem xn_1 : w_xn 1 = "java/lang/IllegalArgumentException" := by decide
theorem xn_2 : w_xn 2 = "java/lang/UnsupportedOperationException" := by decide
theorem xn_3 : w_xn 3 = "java/lang/IndexOutOfBoundsException" := by decide
theorem xn_4 : w_xn 4 = "java/util/NoSuchElementException" := by decide
