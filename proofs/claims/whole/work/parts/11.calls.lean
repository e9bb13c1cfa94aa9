/-! WHAT DOES NOT CHANGE: links among nest mates, texts, the static rows; all lie below b. z: where the static things lie -/
def w_nf : List (String × Nat × String × String × String) := [(RX8, 127, "CorkForest$Tree", "marked", "Z"), (RX8, 139, "CorkForest$Tree", "girth", "I"), (RX8, 142, "CorkForest$Tree", "bark", "I"), (RX8, 152, "CorkForest$Tree", "rests", "I"), (RX8, 158, "CorkForest$Tree", "stripped", "I"), (RX8, 161, "CorkForest$Tree", "high", "I"), (RX8, 164, "CorkForest$Tree", "grown", "I"), (RX8, 167, "CorkForest$Tree", "inPlanks", "I"), (RX8, 170, "CorkForest$Tree", "burnt", "I"), (RX8, 173, "CorkForest$Tree", "shed", "I"), (RX8, 182, "CorkForest$Plank", "tree", "I"), (RX8, 185, "CorkForest$Plank", "year", "I"), (RX8, 186, "CorkForest$Plank", "high", "I"), (RX8, 187, "CorkForest$Plank", "wide", "I"), (RX8, 190, "CorkForest$Plank", "thick", "I"), (RX8, 193, "CorkForest$Plank", "lot", "I"), (RX8, 222, "CorkForest$Lot", "floor", "I"), (RX8, 225, "CorkForest$Lot", "bids", "[I"), (RX8, 232, "CorkForest$Lot", "buyer", "I"), (RX8, 235, "CorkForest$Lot", "boards", "I"), (RX8, 238, "CorkForest$Lot", "weight", "I"), (RX8, 241, "CorkForest$Lot", "price", "I"), (RX1, 9, "CorkForest", "LAW_AT_FIRST", "[I"), (RX2, 63, "CorkForest", "LAW_MOST", "[I")]
def w_nm : List (Nat × MethodName) := [(9, yX6_init), (18, yX1_init), (47, yX0_init), (54, yX5_init)]
def w_tx : List (Nat × String) := [(80, "no such girth"), (88, "no room for a tree"), (99, "no such number of years"), (101, "no such rain"), (112, "the text is wrong"), (116, "the law has no such clause"), (131, "no such height"), (176, "a tree has no such thing"), (196, "a plank has no such thing"), (199, "no such floor"), (201, "no room for a lot"), (218, "no such bidder"), (220, "no such money"), (244, "a lot has no such thing"), (246, "no such number of cells"), (252, "no such size"), (254, "no such worth"), (256, "no such number of flaws"), (274, "no such yield"), (276, "no such set of years"), (288, "no such stand"), (312, "no such tree"), (318, "no such plank"), (320, "no such lot")]
def l_first : Nat → Int32 := fun k => ([9, 70, 250, 200, 5, 270] : List Int32).getD k 0
def l_most : Nat → Int32 := fun k => ([50, 600, 400, 400, 30, 3000] : List Int32).getD k 0
/-- what speaks of text, lists, casts -/
def w_tw : List String := ["years", "girth", "height", "first", "rest", "thick"]
def w_wd : List (List Int32) := [[121, 101, 97, 114, 115], [103, 105, 114, 116, 104], [104, 101, 105, 103, 104, 116], [102, 105, 114, 115, 116], [114, 101, 115, 116], [116, 104, 105, 99, 107]]
def w_mk : List Nat := [165, 167, 168, 170, 172, 174]
def w_xc : List (String × String) := [("java/lang/IllegalArgumentException", "java/lang/IllegalArgumentException"), ("java/lang/UnsupportedOperationException", "java/lang/UnsupportedOperationException"), ("java/lang/IndexOutOfBoundsException", "java/lang/IndexOutOfBoundsException"), ("java/util/NoSuchElementException", "java/util/NoSuchElementException"), (RX7, "java/lang/Object"), (RX4, "java/lang/Object"), (RX3, "java/lang/Object"), ("[I", "java/lang/Cloneable")]
def w_nc : List (String × String) := [("java/lang/UnsupportedOperationException", "java/lang/IllegalArgumentException"), ("java/lang/IllegalArgumentException", "java/lang/IndexOutOfBoundsException"), ("java/util/NoSuchElementException", "java/lang/IndexOutOfBoundsException")]
def w_dc : List MethodName := [⟨"java/lang/RuntimeException", "<init>", "(Ljava/lang/String;)V"⟩, ⟨"java/lang/Exception", "<init>", "(Ljava/lang/String;)V"⟩, ⟨"java/lang/Throwable", "<init>", "(Ljava/lang/String;)V"⟩]
def w_st (b a v k : Nat) (U : State) : Prop := va_O "java/lang/String" a (fun q => b ≤ q) U U.heap ∧ va_OF "java/lang/String" "coder" "B" (.int 0) a (fun q => b ≤ q) U U.heap ∧ va_OF "java/lang/String" "value" "[B" (.ref v) a (fun q => b ≤ q) U U.heap ∧ va_T .byte v (w_wd.getD k []).length (fun j => .int ((w_wd.getD k []).getD j 0)) (fun q => b ≤ q) U U.heap
def Sx (z : Nat → Nat) (b : Nat) (U : State) : Prop :=
  (∀ q ∈ w_xc, va_Nw (.castable q.1 q.2) U) ∧
  (∀ q ∈ w_nc, va_Nc q.1 q.2 U) ∧
  (∀ k, k < 6 → vk_R RX1 (23 + 2 * k) (w_tw.getD k "") (z (10 + k)) U ∧ w_st b (z (10 + k)) (z (16 + k)) k U) ∧
  (∀ k, k < 6 → vk_R RX9 (w_mk.getD k 0) (w_tw.getD k "") (z (22 + k)) U ∧ w_st b (z (22 + k)) (z (28 + k)) k U) ∧
  va_Z "java/lang/String" "COMPACT_STRINGS" "Z" (.int 1) (fun q => b ≤ q) U U.heap ∧
  va_Zq "jdk/internal/util/Preconditions" "SIOOBE_FORMATTER" "Ljava/util/function/BiFunction;" (fun q => b ≤ q) U U.heap ∧
  (va_Z "java/util/ArrayList" "DEFAULTCAPACITY_EMPTY_ELEMENTDATA" "[Ljava/lang/Object;" (.ref (z 3)) (fun q => b ≤ q) U U.heap ∧ va_T (.object "java/lang/Object") (z 3) 0 (fun _ => .null) (fun q => b ≤ q) U U.heap) ∧
  va_Mi "[Ljava/lang/Object;" (z 4) U ∧ va_Dc U ∧ va_AO "java/lang/Object" U ∧ (∀ q ∈ w_dc, va_Nw (.declares q) U)
theorem w_st.go {b a v k : Nat} {s U : State} (h : w_st b a v k s) (hk : ∀ a : Nat, a < s.heap.size → ¬ (fun q => b ≤ q) a → U.heap[a]? = s.heap[a]?) (hW : s.WarmedH U.vm) : w_st b a v k U :=
  ⟨(h.1.moved hW.alike).kept hk, (h.2.1.moved hW.alike).kept hk, (h.2.2.1.moved hW.alike).kept hk, (h.2.2.2.moved hW.alike).kept hk⟩
theorem Sx.go {z : Nat → Nat} {b : Nat} {s U : State} (h : Sx z b s) (hk : ∀ a : Nat, a < s.heap.size → ¬ (fun q => b ≤ q) a → U.heap[a]? = s.heap[a]?) (hW : s.WarmedH U.vm) : Sx z b U := by
  obtain ⟨h1, h2, h3, h4, h5, h6, ⟨h7, h8⟩, h9, h10, h11, h12⟩ := h
  exact ⟨fun q hq => va_Nw.warmC hW (h1 q hq), fun q hq => va_Nc.moved hW.alike (h2 q hq), fun k hq => ⟨(h3 k hq).1.warm hW, (h3 k hq).2.go hk hW⟩, fun k hq => ⟨(h4 k hq).1.warm hW, (h4 k hq).2.go hk hW⟩,
    (h5.moved hW.alike).kept hk, (h6.moved hW.alike).kept hk, ⟨(h7.moved hW.alike).kept hk, (h8.moved hW.alike).kept hk⟩, h9.moved hW.alike, h10.moved hW.alike, h11.moved hW.alike, fun q hq => va_Nw.warmD hW (h12 q hq)⟩
def St (z : Nat → Nat) (b : Nat) (U : State) : Prop :=
  (∀ q ∈ w_nf, va_Nw (.fieldLinkNest q.1 q.2.1 q.2.2.1 q.2.2.2.1 q.2.2.2.2 "CorkForest") U) ∧
  (∀ q ∈ w_nm, va_Nw (.methodLinkNest RX8 q.1 q.2 "CorkForest") U) ∧
  (∀ q ∈ w_tx, ∃ a, vk_R RX8 q.1 q.2 a U) ∧
  (vx_Zq Bundle.tN "UNASSIGNED_STACK" Bundle.steD (fun q => b ≤ q) U U.heap ∧ vx_Zq Bundle.tN "SUPPRESSED_SENTINEL" Bundle.listD (fun q => b ≤ q) U U.heap) ∧
  (va_Z "CorkForest" "LAW_AT_FIRST" "[I" (.ref (z 0)) (fun q => b ≤ q) U U.heap ∧ va_T .int (z 0) 6 (fun k => .int (l_first k)) (fun q => b ≤ q) U U.heap) ∧
  (va_Z "CorkForest" "LAW_MOST" "[I" (.ref (z 1)) (fun q => b ≤ q) U U.heap ∧ va_T .int (z 1) 6 (fun k => .int (l_most k)) (fun q => b ≤ q) U U.heap) ∧
  (va_Z "CorkForestModel" "BOUNDS" "[I" (.ref (z 2)) (fun q => b ≤ q) U U.heap ∧ va_T .int (z 2) 6 (fun k => .int (l_most k)) (fun q => b ≤ q) U U.heap) ∧ Sx z b U
theorem St.go {z : Nat → Nat} {b : Nat} {s U : State} {H : Heap} {locs : List Loc} (h : St z b s) (hS : va_S (fun q => b ≤ q) s.heap H locs) (hU : U.heap = H) (hW : s.WarmedH U.vm) : St z b U := by
  obtain ⟨h1, h2, h3, ⟨h4, h5⟩, ⟨h6, h7⟩, ⟨h8, h9⟩, ⟨h10, h11⟩, h12⟩ := h
  have hk : ∀ a : Nat, a < s.heap.size → ¬ (fun q => b ≤ q) a → U.heap[a]? = s.heap[a]? := fun a ha hn => by rw [hU]; exact hS.2.1 a ha hn
  refine ⟨fun q hq => va_Nw.warmF hW (h1 q hq), fun q hq => va_Nw.warmM hW (h2 q hq), fun q hq => ?_, ⟨(h4.moved hW.alike).kept hk, (h5.moved hW.alike).kept hk⟩, ⟨(h6.moved hW.alike).kept hk, (h7.moved hW.alike).kept hk⟩, ⟨(h8.moved hW.alike).kept hk, (h9.moved hW.alike).kept hk⟩, ⟨(h10.moved hW.alike).kept hk, (h11.moved hW.alike).kept hk⟩, h12.go hk hW⟩
  obtain ⟨a, ha⟩ := h3 q hq
  exact ⟨a, ha.warm hW⟩
theorem St.same {z : Nat → Nat} {b : Nat} {s U : State} (h : St z b s) (hU : U.heap = s.heap) (hv : U.vm = s.vm) : St z b U := by
  refine h.go (H := s.heap) (locs := []) va_S.rf hU ?_
  rw [hv]; exact State.WarmedH.refl s
/-- the whole state that a method finds -/
def Wd (D : va_G) (y : Nat → ClassId) (b : Nat) (z : Nat → Nat) (G : wG) (I : wI) (J : wJ) (U : State) : Prop :=
  va_P D vwCl (w_ws y G I J) U.heap ∧ va_K D vwCl (w_tys y) U ∧ va_D (fun q => b ≤ q) (w_ws y G I J) ∧ b ≤ U.heap.size ∧ St z b U
abbrev wS : Type := wG × wI × wJ
def wB (D : va_G) (y : Nat → ClassId) (b : Nat) (u : wS) (t : State) : Prop := va_P D vwCl (w_ws y u.1 u.2.1 u.2.2) t.heap ∧ va_D (fun q => b ≤ q) (w_ws y u.1 u.2.1 u.2.2)
def wB1 (D : va_G) (y : Nat → ClassId) (b : Nat) (u : Nat × wS) (a : Nat) (t : State) : Prop := a = u.1 ∧ wB D y b u.2 t
abbrev wPc (D : va_G) (y : Nat → ClassId) (b : Nat) (z : Nat → Nat) (G : wG) (I : wI) (J : wJ) (av : List Value) : Array Value → State → Prop := va_Pc av (Wd D y b z G I J)
/-- contracts: of a method that answers an int (a boolean), nothing, a long, a reference -/
abbrev mI (l : Launch) (yn : MethodName) (ws : List Cond) (rm : Room) (D : va_G) (y : Nat → ClassId) (b : Nat) (z : Nat → Nat) (G : wG) (I : wI) (J : wJ) (av : List Value) (post : Int32 → wS → Prop) (mc ms : Nat) : Prop :=
  Met l yn ws rm (wPc D y b z G I J av) (va_Qi post (wB D y b) (fun q => b ≤ q)) mc ms (fun q => b ≤ q)
abbrev mV (l : Launch) (yn : MethodName) (ws : List Cond) (rm : Room) (D : va_G) (y : Nat → ClassId) (b : Nat) (z : Nat → Nat) (G : wG) (I : wI) (J : wJ) (av : List Value) (post : wS → Prop) (mc ms : Nat) : Prop :=
  Met l yn ws rm (wPc D y b z G I J av) (va_Qv post (wB D y b) (fun q => b ≤ q)) mc ms (fun q => b ≤ q)
abbrev mL (l : Launch) (yn : MethodName) (ws : List Cond) (rm : Room) (D : va_G) (y : Nat → ClassId) (b : Nat) (z : Nat → Nat) (G : wG) (I : wI) (J : wJ) (av : List Value) (post : Int64 → wS → Prop) (mc ms : Nat) : Prop :=
  Met l yn ws rm (wPc D y b z G I J av) (va_Ql post (wB D y b) (fun q => b ≤ q)) mc ms (fun q => b ≤ q)
abbrev mR (l : Launch) (yn : MethodName) (ws : List Cond) (rm : Room) (D : va_G) (y : Nat → ClassId) (b : Nat) (z : Nat → Nat) (G : wG) (I : wI) (J : wJ) (av : List Value) (post : Nat × wS → Prop) (mc ms : Nat) : Prop :=
  Met l yn ws rm (wPc D y b z G I J av) (va_Qr post (wB1 D y b) (fun q => b ≤ q)) mc ms (fun q => b ≤ q)
theorem Wd.blind {D : va_G} {y : Nat → ClassId} {b : Nat} {z : Nat → Nat} {G : wG} {I : wI} {J : wJ} {av : List Value} : FrameBlind (wPc D y b z G I J av) := by
  intro a U g mk h
  obtain ⟨h0, h1, h2, h3, h4, h5⟩ := h
  exact ⟨h0, h1, va_K.moved (u := U) (U := U.calling g mk a) (Vm.Alike.refl U.vm) h2, h3, h4, h5.same rfl rfl⟩
section WCALLS
variable {p : Program} {l : Launch} {e : Env} {R : Room} {s : State} {m : MethodId} {args : Array Value} {below : List Frame} {meth : Method} {c : Code} {H : Heap} {locs : List Loc} {cells slots : Nat} {Q : State → Prop}
variable {cc : ByteArray} {nL pc : Nat} {Ts : List Cond} {own : String} {D : va_G} {y : Nat → ClassId} {b : Nat} {z : Nat → Nat} {G : wG} {I : wI} {J : wJ} {ls : Array Slot} {rest : List Value}
theorem w_enter {yn : MethodName} {ws ws' : List Cond} {rm : Room} {Qc : Array Value → State → Outcome → State → Prop} {mc ms : Nat} {free : Addr → Prop} {maxL : Nat} {ret : Option FieldType} {av : List Value}
    (hy : plainName yn.cls = true) (hws : ws = Cond.code yn cc maxL ret :: ws') (hlen : (lg_sl av).length ≤ maxL) {lv : List (Nat × Value)} (hlv : lv_args 0 av = lv)
    (body : ∀ p e s m below meth c ls, wCx p m c cc maxL s av.toArray ws yn.cls D y b → meth.sig.returnType = ret → meth.locks = false → meth.name = yn.name → Wh D y b G I J s s.heap [] → St z b s → lv_has ls maxL lv →
      W p l e rm s m av.toArray below meth c s.heap [] 0 0 (MQ below Qc av.toArray s mc ms free) (F0 m 0 ls [])) : Met l yn ws rm (wPc D y b z G I J av) Qc mc ms free := by
  refine Met.ofW hy hws ?_
  intro p e s m args below meth c s₁ B hml hv
  obtain ⟨rfl, hP, hK, hD, hbs, hst⟩ := hv
  rw [lg_entry_eq]
  exact body p e s m below meth c _ ⟨⟨B.exec, B.bytes, hml, findClass_of_methodNamed B.named, atoms_spec (ws := ws) B.pre⟩, hK, hbs⟩ B.returns B.notSynchronized (name_of_methodNamed B.named B.method).1 ⟨hP, hD, va_S.rf⟩ hst (hlv ▸ lv_entry av hlen)
theorem w_recv (X : wCx p m c cc nL s args Ts own D y b) (hw : Wh D y b G I J s H locs) {n κ N : Nat} {C : String} {T : u_T} {ty : Nat → FieldType} (hn : n ∈ G.2.1) (hκ : w_kd n = κ) (h10 : κ ≤ 10) (hT : wK κ C T ty N) : ∃ cell : Cell, H[G.1 n]? = some cell ∧ cell.vm.isStatics = false ∧ s.vm.findClass C = some cell.cls := by
  obtain ⟨q0, -, hq⟩ := w_at (y := y) (G := G) (I := I) (J := J) hn
  rw [w_ce_o hκ h10] at hq
  exact va_recv X.2.1 hw.1 hT.1 hq
theorem w_pre (X : wCx p m c cc nL s args Ts own D y b) (hw : Wh D y b G I J s H locs) (hst : St z b s) {av : List Value} : ∀ U : State, U.heap = H → s.WarmedH U.vm → wPc D y b z G I J av av.toArray U := by
  intro U hU hW
  exact ⟨rfl, by rw [hU]; exact hw.1, va_K.moved hW.alike X.2.1, hw.2.1, by rw [hU]; exact Nat.le_trans X.2.2 hw.2.2.1, hst.go hw.2.2 hU hW⟩
variable {yn : MethodName} {bytes : ByteArray} {maxL mc ms n index : Nat} {ret : Option FieldType} {ws : List Cond} {rm : Room} {C : String} {a : Addr} {As st0 : List Value} {lv : List (Nat × Value)}
theorem w_callVi {post : Int32 → wS → Prop} (X : wCx p m c cc nL s args Ts own D y b) (hw : Wh D y b G I J s H locs) (hst : St z b s) (hl : lv_has ls nL lv) (hM : mI l yn ws rm D y b z G I J (.ref a :: As) post mc ms) (cw : CallW R s args own C index yn bytes maxL ret ws rm mc ms n) (hrec : ∃ cell : Cell, H[a]? = some cell ∧ cell.vm.isStatics = false ∧ s.vm.findClass C = some cell.cls)
    (hn : As.length = n) (hstack : st0 = As.reverse ++ .ref a :: rest) (hW : (rest.map fun v => v.category).sum ≤ 8) (hdg : decode cc pc = .ok (.invokevirtual index, 3)) (hf : cells + mc ≤ R.cells ∧ slots + ms ≤ R.slots)
    (kk : ∀ (r : Int32) (u : wS) (H : Heap) (locs : List Loc), post r u → Wh D y b u.1 u.2.1 u.2.2 s H locs → W p l e R s m args below meth c H locs (cells + mc) (slots + ms) Q (F0 m (pc + 3) ls (.int r :: rest))) : W p l e R s m args below meth c H locs cells slots Q (F0 m pc ls st0) :=
  va_calli (va_runV (As := As) (rest := rest) X.1 hM cw ⟨Wd.blind, hrec, w_pre X hw hst⟩ rfl hn hl.1 hstack (lv_room hW) hdg hf) hw.2.2 (fun _ _ h => h) (fun _ h => h) (fun r u t H1 locs1 ht _ hp hB _ _ hS => kk r u H1 locs1 hp ⟨ht ▸ hB.1, hB.2, hS⟩)
theorem w_callVv {post : wS → Prop} (X : wCx p m c cc nL s args Ts own D y b) (hw : Wh D y b G I J s H locs) (hst : St z b s) (hl : lv_has ls nL lv) (hM : mV l yn ws rm D y b z G I J (.ref a :: As) post mc ms) (cw : CallW R s args own C index yn bytes maxL ret ws rm mc ms n) (hrec : ∃ cell : Cell, H[a]? = some cell ∧ cell.vm.isStatics = false ∧ s.vm.findClass C = some cell.cls)
    (hn : As.length = n) (hstack : st0 = As.reverse ++ .ref a :: rest) (hW : (rest.map fun v => v.category).sum ≤ 8) (hdg : decode cc pc = .ok (.invokevirtual index, 3)) (hf : cells + mc ≤ R.cells ∧ slots + ms ≤ R.slots)
    (kk : ∀ (u : wS) (H : Heap) (locs : List Loc), post u → Wh D y b u.1 u.2.1 u.2.2 s H locs → W p l e R s m args below meth c H locs (cells + mc) (slots + ms) Q (F0 m (pc + 3) ls rest)) : W p l e R s m args below meth c H locs cells slots Q (F0 m pc ls st0) :=
  va_callv (va_runV (As := As) (rest := rest) X.1 hM cw ⟨Wd.blind, hrec, w_pre X hw hst⟩ rfl hn hl.1 hstack (lv_room hW) hdg hf) hw.2.2 (fun _ _ h => h) (fun _ h => h) (fun u t H1 locs1 ht _ hp hB _ _ hS => kk u H1 locs1 hp ⟨ht ▸ hB.1, hB.2, hS⟩)
theorem w_callSi {post : Int32 → wS → Prop} (X : wCx p m c cc nL s args Ts own D y b) (hw : Wh D y b G I J s H locs) (hst : St z b s) (hl : lv_has ls nL lv) (hM : mI l yn ws rm D y b z G I J As post mc ms) (cw : CallB R s args own index yn bytes maxL ret ws rm mc ms n ∧ (Cond.static yn).before args s = true)
    (hn : As.length = n) (hstack : st0 = As.reverse ++ rest) (hW : (rest.map fun v => v.category).sum ≤ 8) (hdg : decode cc pc = .ok (.invokestatic index, 3)) (hf : cells + mc ≤ R.cells ∧ slots + ms ≤ R.slots)
    (kk : ∀ (r : Int32) (u : wS) (H : Heap) (locs : List Loc), post r u → Wh D y b u.1 u.2.1 u.2.2 s H locs → W p l e R s m args below meth c H locs (cells + mc) (slots + ms) Q (F0 m (pc + 3) ls (.int r :: rest))) : W p l e R s m args below meth c H locs cells slots Q (F0 m pc ls st0) :=
  va_calli (va_runS (As := As) (rest := rest) X.1 hM cw ⟨Wd.blind, w_pre X hw hst⟩ rfl hn hl.1 hstack (lv_room hW) hdg hf) hw.2.2 (fun _ _ h => h) (fun _ h => h) (fun r u t H1 locs1 ht _ hp hB _ _ hS => kk r u H1 locs1 hp ⟨ht ▸ hB.1, hB.2, hS⟩)
theorem w_callSl {post : Int64 → wS → Prop} (X : wCx p m c cc nL s args Ts own D y b) (hw : Wh D y b G I J s H locs) (hst : St z b s) (hl : lv_has ls nL lv) (hM : mL l yn ws rm D y b z G I J As post mc ms) (cw : CallB R s args own index yn bytes maxL ret ws rm mc ms n ∧ (Cond.static yn).before args s = true)
    (hn : As.length = n) (hstack : st0 = As.reverse ++ rest) (hW : (rest.map fun v => v.category).sum ≤ 8) (hdg : decode cc pc = .ok (.invokestatic index, 3)) (hf : cells + mc ≤ R.cells ∧ slots + ms ≤ R.slots)
    (kk : ∀ (r : Int64) (u : wS) (H : Heap) (locs : List Loc), post r u → Wh D y b u.1 u.2.1 u.2.2 s H locs → W p l e R s m args below meth c H locs (cells + mc) (slots + ms) Q (F0 m (pc + 3) ls (.long r :: rest))) : W p l e R s m args below meth c H locs cells slots Q (F0 m pc ls st0) :=
  va_calll (va_runS (As := As) (rest := rest) X.1 hM cw ⟨Wd.blind, w_pre X hw hst⟩ rfl hn hl.1 hstack (lv_room hW) hdg hf) hw.2.2 (fun _ _ h => h) (fun _ h => h) (fun r u t H1 locs1 ht _ hp hB _ _ hS => kk r u H1 locs1 hp ⟨ht ▸ hB.1, hB.2, hS⟩)
theorem w_callVr {post : Nat × wS → Prop} (X : wCx p m c cc nL s args Ts own D y b) (hw : Wh D y b G I J s H locs) (hst : St z b s) (hl : lv_has ls nL lv) (hM : mR l yn ws rm D y b z G I J (.ref a :: As) post mc ms) (cw : CallW R s args own C index yn bytes maxL ret ws rm mc ms n) (hrec : ∃ cell : Cell, H[a]? = some cell ∧ cell.vm.isStatics = false ∧ s.vm.findClass C = some cell.cls)
    (hn : As.length = n) (hstack : st0 = As.reverse ++ .ref a :: rest) (hW : (rest.map fun v => v.category).sum ≤ 8) (hdg : decode cc pc = .ok (.invokevirtual index, 3)) (hf : cells + mc ≤ R.cells ∧ slots + ms ≤ R.slots)
    (kk : ∀ (u : Nat × wS) (H : Heap) (locs : List Loc), post u → Wh D y b u.2.1 u.2.2.1 u.2.2.2 s H locs → W p l e R s m args below meth c H locs (cells + mc) (slots + ms) Q (F0 m (pc + 3) ls (.ref u.1 :: rest))) : W p l e R s m args below meth c H locs cells slots Q (F0 m pc ls st0) :=
  va_callr (va_runV (As := As) (rest := rest) X.1 hM cw ⟨Wd.blind, hrec, w_pre X hw hst⟩ rfl hn hl.1 hstack (lv_room hW) hdg hf) hw.2.2 (fun _ _ h => h) (fun _ h => h) (fun u ra t H1 locs1 ht _ hp hB _ _ hS => by obtain ⟨rfl, hB⟩ := hB; exact kk u H1 locs1 hp ⟨ht ▸ hB.1, hB.2, hS⟩)
theorem w_callSr {post : Nat × wS → Prop} (X : wCx p m c cc nL s args Ts own D y b) (hw : Wh D y b G I J s H locs) (hst : St z b s) (hl : lv_has ls nL lv) (hM : mR l yn ws rm D y b z G I J As post mc ms) (cw : CallB R s args own index yn bytes maxL ret ws rm mc ms n ∧ (Cond.static yn).before args s = true)
    (hn : As.length = n) (hstack : st0 = As.reverse ++ rest) (hW : (rest.map fun v => v.category).sum ≤ 8) (hdg : decode cc pc = .ok (.invokestatic index, 3)) (hf : cells + mc ≤ R.cells ∧ slots + ms ≤ R.slots)
    (kk : ∀ (u : Nat × wS) (H : Heap) (locs : List Loc), post u → Wh D y b u.2.1 u.2.2.1 u.2.2.2 s H locs → W p l e R s m args below meth c H locs (cells + mc) (slots + ms) Q (F0 m (pc + 3) ls (.ref u.1 :: rest))) : W p l e R s m args below meth c H locs cells slots Q (F0 m pc ls st0) :=
  va_callr (va_runS (As := As) (rest := rest) X.1 hM cw ⟨Wd.blind, w_pre X hw hst⟩ rfl hn hl.1 hstack (lv_room hW) hdg hf) hw.2.2 (fun _ _ h => h) (fun _ h => h) (fun u ra t H1 locs1 ht _ hp hB _ _ hS => by obtain ⟨rfl, hB⟩ := hB; exact kk u H1 locs1 hp ⟨ht ▸ hB.1, hB.2, hS⟩)
theorem w_iret {post : Int32 → wS → Prop} {v : Int32} (X : wCx p m c cc nL s args Ts own D y b) (hr : meth.sig.returnType = some .int) (hlk : meth.locks = false) (hw : Wh D y b G I J s H locs) (hp : post v (G, I, J)) (hc : cells ≤ mc) (hs : slots ≤ ms) (hdg : decode cc pc = .ok (.ireturn, 1)) :
    W p l e R s m args below meth c H locs cells slots (MQ below (va_Qi post (wB D y b) (fun q => b ≤ q)) args s mc ms (fun q => b ≤ q)) (F0 m pc ls [.int v]) :=
  W.widen hc hs (W.iret X.1.1 X.1.2.1 hr (fun t ht _ => ⟨⟨v, (G, I, J), rfl, hp, ⟨by rw [ht]; exact hw.1, hw.2.1⟩⟩, hw.2.2.F ht⟩) hw.2.2.2.2 hdg hlk)
theorem w_zret {post : Int32 → wS → Prop} {v : Int32} {ty : FieldType} (X : wCx p m c cc nL s args Ts own D y b) (hr : meth.sig.returnType = some ty) (hnar : narrow ty (.int v) = .int v) (hlk : meth.locks = false) (hw : Wh D y b G I J s H locs) (hp : post v (G, I, J)) (hc : cells ≤ mc) (hs : slots ≤ ms) (hdg : decode cc pc = .ok (.ireturn, 1)) :
    W p l e R s m args below meth c H locs cells slots (MQ below (va_Qi post (wB D y b) (fun q => b ≤ q)) args s mc ms (fun q => b ≤ q)) (F0 m pc ls [.int v]) :=
  W.widen hc hs (W.zret X.1.1 X.1.2.1 hr hnar (fun t ht _ => ⟨⟨v, (G, I, J), rfl, hp, ⟨by rw [ht]; exact hw.1, hw.2.1⟩⟩, hw.2.2.F ht⟩) hw.2.2.2.2 hdg hlk)
theorem w_vret {post : wS → Prop} (X : wCx p m c cc nL s args Ts own D y b) (hr : meth.sig.returnType = none) (hlk : meth.locks = false) (hw : Wh D y b G I J s H locs) (hp : post (G, I, J)) (hc : cells ≤ mc) (hs : slots ≤ ms) (hdg : decode cc pc = .ok (.return_, 1)) :
    W p l e R s m args below meth c H locs cells slots (MQ below (va_Qv post (wB D y b) (fun q => b ≤ q)) args s mc ms (fun q => b ≤ q)) (F0 m pc ls []) :=
  W.widen hc hs (W.vret X.1.1 X.1.2.1 hr (fun t ht _ => ⟨⟨(G, I, J), rfl, hp, ⟨by rw [ht]; exact hw.1, hw.2.1⟩⟩, hw.2.2.F ht⟩) hw.2.2.2.2 hdg hlk)
theorem w_lret {post : Int64 → wS → Prop} {v : Int64} (X : wCx p m c cc nL s args Ts own D y b) (hr : meth.sig.returnType = some .long) (hlk : meth.locks = false) (hw : Wh D y b G I J s H locs) (hp : post v (G, I, J)) (hc : cells ≤ mc) (hs : slots ≤ ms) (hdg : decode cc pc = .ok (.lreturn, 1)) :
    W p l e R s m args below meth c H locs cells slots (MQ below (va_Ql post (wB D y b) (fun q => b ≤ q)) args s mc ms (fun q => b ≤ q)) (F0 m pc ls [.long v]) :=
  W.widen hc hs (W.lret X.1.1 X.1.2.1 hr (fun t ht _ => ⟨⟨v, (G, I, J), rfl, hp, ⟨by rw [ht]; exact hw.1, hw.2.1⟩⟩, hw.2.2.F ht⟩) hw.2.2.2.2 hdg hlk)
theorem w_aret {post : Nat × wS → Prop} {v : Nat} {rt : FieldType} (X : wCx p m c cc nL s args Ts own D y b) (hr : meth.sig.returnType = some rt) (hrt : (∃ n, rt = .object n) ∨ ∃ t, rt = .array t) (hlk : meth.locks = false) (hw : Wh D y b G I J s H locs) (hp : post (v, G, I, J)) (hc : cells ≤ mc) (hs : slots ≤ ms) (hdg : decode cc pc = .ok (.areturn, 1)) :
    W p l e R s m args below meth c H locs cells slots (MQ below (va_Qr post (wB1 D y b) (fun q => b ≤ q)) args s mc ms (fun q => b ≤ q)) (F0 m pc ls [.ref v]) :=
  W.widen hc hs (W.aret X.1.1 X.1.2.1 hr hrt (Or.inr ⟨v, rfl⟩) (fun t ht _ => ⟨⟨(v, G, I, J), v, rfl, hp, rfl, ⟨by rw [ht]; exact hw.1, hw.2.1⟩⟩, hw.2.2.F ht⟩) hw.2.2.2.2 hdg hlk)
end WCALLS
