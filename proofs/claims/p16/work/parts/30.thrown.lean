-- methods that may throw
def FrT (s t : State) (L : List Loc) (k n : Nat) : Prop := s.WarmedH t.vm ∧ s.sameButNew ({ t with vm := s.vm } : State) L k n
def MetT (l : Launch) (y : MethodName) (ws : List Cond) (rm : Room) (Pc : Array Value → State → Prop) (Qc : Array Value → State → Outcome → State → Prop) (mc ms : Nat) (free : Addr → Prop) : Prop :=
  MetFree l y (headSpec ws rm) Pc (fun _ _ _ _ _ => True) (fun a st o t => Qc a st o t ∧ ∃ L, FrT st t L mc ms ∧ ∀ q ∈ L, free q.base)
def MQT (below : List Frame) (Qc : Array Value → State → Outcome → State → Prop) (a : Array Value) (s : State) (mc ms : Nat) (free : Addr → Prop) : State → Prop := fun t =>
  ∃ o, t.status = .running ∧ Ended t below o ∧ Qc a s o t ∧ ∃ L, FrT s t L mc ms ∧ ∀ q ∈ L, free q.base
theorem MQ.toT {below : List Frame} {Qc : Array Value → State → Outcome → State → Prop} {a : Array Value} {s : State} {mc ms : Nat} {free : Addr → Prop} {t : State} (h : MQ below Qc a s mc ms free t) : MQT below Qc a s mc ms free t := by
  obtain ⟨o, h1, h2, h3, L, ⟨-, hW, hs⟩, hL⟩ := h
  exact ⟨o, h1, h2, h3, L, ⟨hW, hs⟩, hL⟩
theorem MetT.ofW {l : Launch} {y : MethodName} {ws ws' : List Cond} {rm : Room} {Pc : Array Value → State → Prop} {Qc : Array Value → State → Outcome → State → Prop} {mc ms : Nat} {free : Addr → Prop} {cc : ByteArray} {maxL : Nat} {ret : Option FieldType}
    (hy : plainName y.cls = true) (hw : ws = Cond.code y cc maxL ret :: ws')
    (body : ∀ p e s m args below meth c s₁, BodyLoose p l y (headSpec ws rm) cc maxL ret e s m args below meth c s₁ → c.maxLocals = maxL → c.exceptionTable.isEmpty = true → Pc args s →
      W p l e (headSpec ws rm).room s m args below meth c s.heap [] 0 0 (MQT below Qc args s mc ms free) (entryFrame m args maxL)) : MetT l y ws rm Pc Qc mc ms free := by
  refine MetFree.of_bodyS (code := cc) (maxLocals := maxL) (ret := ret) hy ?_ ?_
  · intro args s m h hn
    obtain ⟨meth, c, h1, h2, h3, h4, h5, h6, -, -⟩ := Cond.code_spec hn (atoms_spec (ws := ws) h _ (by rw [hw]; exact List.mem_cons_self))
    exact ⟨meth, c, h1, h2, h3, h4, h5, h6⟩
  · intro p e s m args below meth c s₁ B hml hP _
    have hh0 : s₁.heap = s.heap := by rw [B.state]; rfl
    have hcw := atoms_spec (ws := ws) B.pre (Cond.code y cc maxL ret) (by rw [hw]; exact List.mem_cons_self)
    obtain ⟨t, a1, o, b1, b2, b3⟩ := body p e s m args below meth c s₁ B hml (B.noHandlers hcw) hP s₁ hh0 (Stand.of_body B)
    exact ⟨t, o, a1, b1, b2, ⟨b3.1, b3.2⟩⟩
def exN (x : Int32) : String := if x = 1 then "java/lang/IllegalArgumentException" else if x = 2 then "java/lang/IllegalStateException" else "java/lang/IndexOutOfBoundsException"
def exUp : List String := ["java/lang/RuntimeException", "java/lang/Exception"]
def exSt : List Cond := [.laysStatic Bundle.tN "UNASSIGNED_STACK" Bundle.steD, .laysStatic Bundle.tN "SUPPRESSED_SENTINEL" Bundle.listD, .isRef (.static Bundle.tN "UNASSIGNED_STACK" Bundle.steD), .isRef (.static Bundle.tN "SUPPRESSED_SENTINEL" Bundle.listD)]
theorem ex_all {ws : List Cond} (h : ws.all (fun w => (decide (w ∈ lw_tbl) && goodWord w) || (decide (w ∈ exSt) || decide (w ∈ ckW))) = true) : ∀ w ∈ ws, w ∈ tb ∨ w ∈ exSt ∨ w ∈ ckW := fun w hw => by
  have h1 := List.all_eq_true.mp h w hw
  simp only [Bool.or_eq_true, Bool.and_eq_true, decide_eq_true_eq] at h1
  rcases h1 with h1 | h1
  · exact Or.inl (List.mem_filter.mpr h1)
  · exact Or.inr h1
/-- the end of a method that answers ov, or throws: ex says which (0: answers) -/
def Qt (ex : Int32) (ov : Option Value) (B : State → Prop) (A : Nat → Prop) : Array Value → State → Outcome → State → Prop := fun _ st oc t =>
  ((ex = 0 ∧ oc = .returned ov) ∨ (ex ≠ 0 ∧ ∃ (a : Nat) (cell : Cell), oc = .threw a ∧ st.heap.size ≤ a ∧ t.heap[a]? = some cell ∧ cell.vm.isStatics = false ∧ t.vm.findClass (exN ex) = some cell.cls)) ∧ B t ∧ va_F A st t
theorem sbn_keep {s t : State} {k n : Nat} (h : s.sameButNew t [] k n) {a : Nat} (ha : a < s.heap.size) : t.heap[a]? = s.heap[a]? := by
  have hc : s.heap[a]? = some s.heap[a] := Array.getElem?_eq_getElem ha
  obtain ⟨c', h1, h2, h3, h4⟩ := h.2.2.2.2.2 a _ hc
  have h5 : c'.slots = (s.heap[a]).slots := by
    apply Array.ext_getElem?
    intro i
    exact h4 i (by simp)
  rw [h1, hc, h2, h5]
section TH
variable {p : Program} {l : Launch} {e : Env} {R : Room} {s : State} {m : MethodId} {args : Array Value} {below : List Frame} {meth : Method} {c : Code} {H : Heap} {locs : List Loc} {cells slots : Nat} {Q : State → Prop}
variable {cc : ByteArray} {pc : Nat} {ls : Array Slot} {rest : List Value} {D : va_G} {K : Nat → ClassId} {A : Nat → Prop} {w' : va_W}
theorem W.imp {Q' : State → Prop} {g : JFrame} (h : ∀ t, Q t → Q' t) (k : W p l e R s m args below meth c H locs cells slots Q g) : W p l e R s m args below meth c H locs cells slots Q' g := fun T hT X => (k T hT X).imp fun t z => ⟨z.1, h t z.2⟩
def QT (below : List Frame) (args : Array Value) (s : State) (D : va_G) (K : Nat → ClassId) (A : Nat → Prop) (w' : va_W) (ex : Int32) (ov : Option Value) : State → Prop := MQT below (Qt ex ov (mEnd D K w' ()) A) args s 1 6 A
theorem ret_ti {r : Int32} (hexec : p.tables.exec = Jvm.exec) (hb : c.code = cc) (hr : meth.sig.returnType = some .int) (hlocks : meth.locks = false) (hK : va_K D vwCl (TY K) s) (hP : va_P D vwCl w' H) (hS : va_S A s.heap H locs) (hdg : decode cc pc = .ok (.ireturn, 1)) :
    W p l e R s m args below meth c H locs 0 0 (QT below args s D K A w' 0 (some (.int r))) (F0 m pc ls [.int r]) :=
  W.widen (k := 1) (n := 6) (by decide) (by decide) (W.imp (fun t => MQ.toT) (W.iret (v := r) hexec hb hr (fun t ht hW => ⟨Or.inl ⟨rfl, rfl⟩, ⟨by rw [ht]; exact hP, va_K.moved hW.alike hK⟩, hS.F ht⟩) hS.2.2 hdg hlocks))
theorem ret_tl {r : Int64} (hexec : p.tables.exec = Jvm.exec) (hb : c.code = cc) (hr : meth.sig.returnType = some .long) (hlocks : meth.locks = false) (hK : va_K D vwCl (TY K) s) (hP : va_P D vwCl w' H) (hS : va_S A s.heap H locs) (hdg : decode cc pc = .ok (.lreturn, 1)) :
    W p l e R s m args below meth c H locs 0 0 (QT below args s D K A w' 0 (some (.long r))) (F0 m pc ls [.long r]) :=
  W.widen (k := 1) (n := 6) (by decide) (by decide) (W.imp (fun t => MQ.toT) (W.lret (v := r) hexec hb hr (fun t ht hW => ⟨Or.inl ⟨rfl, rfl⟩, ⟨by rw [ht]; exact hP, va_K.moved hW.alike hK⟩, hS.F ht⟩) hS.2.2 hdg hlocks))
theorem ret_tv (hexec : p.tables.exec = Jvm.exec) (hb : c.code = cc) (hr : meth.sig.returnType = none) (hlocks : meth.locks = false) (hK : va_K D vwCl (TY K) s) (hP : va_P D vwCl w' H) (hS : va_S A s.heap H locs) (hdg : decode cc pc = .ok (.return_, 1)) :
    W p l e R s m args below meth c H locs 0 0 (QT below args s D K A w' 0 none) (F0 m pc ls []) :=
  W.widen (k := 1) (n := 6) (by decide) (by decide) (W.imp (fun t => MQ.toT) (W.vret hexec hb hr (fun t ht hW => ⟨Or.inl ⟨rfl, rfl⟩, ⟨by rw [ht]; exact hP, va_K.moved hW.alike hK⟩, hS.F ht⟩) hS.2.2 hdg hlocks))
/-- ldc_w of a String constant -/
theorem ldcwS {T : State} (X : Stand p l e R s m args below meth c T locs cells slots) (hexec : p.tables.exec = Jvm.exec) {own text : String} {index : Nat} {a : Addr} (hown : s.vm.findClass own = some m.cls)
    (hconst : (Cond.stringRef own index text).before args s = true) (hev : (Term.string own index).eval args s none [] s = some (.ref a)) {g : JFrame} (hg : g.method = m) (hdg : decode c.code g.pc = .ok (.ldc_w index, 3)) :
    ∀ target, Steps p.tables e below (T.setTop { g with pc := g.pc + 3, stack := .ref a :: g.stack }) target → Steps p.tables e below (T.setTop g) target := by
  obtain ⟨k, cf, i, a', hk, hcf, hcp, -, hr, hev'⟩ := Cond.stringRef_spec hown hconst
  cases hev.symm.trans hev'
  obtain ⟨k', hk', he⟩ := X.warmed.alike.2.2 _ _ hk
  have hr' : k'.resolved[index]? = some (some (.string a)) := by
    rcases X.warmed.entry hk hk' index with h | ⟨h, -⟩
    · rw [h]; exact hr
    · rw [hr] at h; cases h
  intro target hrest
  subst hg
  jvm_step X.here [hexec, hdg, ldc_w.wp_string (e := e) (s := T) (f := g) X.here.top hk' (by rw [he]; exact hcf) hcp hr']
  exact hrest
/-- throw new cls(".."): the method ends there -/
theorem th_S {own cls tx : String} {inew istr ic li : Nat} {ex : Int32} {ov : Option Value} {k0 : Cond} (hexec : p.tables.exec = Jvm.exec) (hb : c.code = cc) (hx0 : c.exceptionTable.isEmpty = true) (hml : ls.size = c.maxLocals) (hlocks : meth.locks = false) (htr : ∀ e : Env, l.admits e → e.platform.stackTraces = false)
    (hown : s.vm.findClass own = some m.cls) (hts : ∀ w ∈ k0 :: tb, w.before args s = true) (hK : va_K D vwCl (TY K) s) (hF : SF A s s.heap) (hP : va_P D vwCl w' H) (hS : va_S A s.heap H locs)
    (hne : ex ≠ 0) (hcl : exN ex = cls) (hfit : Bundle.fit cls = true) (hat : ∀ w ∈ Bundle.ownAtoms own ic cls exUp, w ∈ tb ∨ w ∈ exSt ∨ w ∈ ckW) (hci : Cond.classLink own inew cls ∈ tb) (hin : Cond.initialized cls ∈ tb) (hst : (own, istr, tx) ∈ strW)
    (hd0 : decode cc pc = .ok (.new inew, 3)) (hd1 : decode cc (pc + 3) = .ok (.dup, 1)) (hd2 : (decode cc (pc + 4) = .ok (.ldc istr, 2) ∧ li = 2) ∨ (decode cc (pc + 4) = .ok (.ldc_w istr, 3) ∧ li = 3)) (hd3 : decode cc (pc + 4 + li) = .ok (.invokespecial ic, 3)) (hd4 : decode cc (pc + 4 + li + 3) = .ok (.athrow, 1))
    (hR : 5 < R.frames ∧ 1 ≤ R.cells ∧ 6 ≤ R.slots ∧ 82 ≤ R.locals) :
    W p l e R s m args below meth c H locs 0 0 (QT below args s D K A w' ex ov) (F0 m pc ls []) := by
  intro T hT X
  obtain ⟨hR1, hR2, hR3, hR4⟩ := hR
  have X₀ := st_re X (Nat.zero_le _) (Nat.zero_le _)
  have hW' : s.WarmedH (T.setFrames (.invoking m args :: below)).vm := X.warmed
  have wd : ∀ w ∈ tb, w.before args (T.setFrames (.invoking m args :: below)) = true := fun w hw => word_at hW' (tb_good hw) (hts w (List.mem_cons_of_mem _ hw))
  have hF1 : SF A (T.setFrames (.invoking m args :: below)) H := (SF.warm hW' hF).kept hS
  have hF' : SF A (T.setFrames (.invoking m args :: below)) (T.setFrames (.invoking m args :: below)).heap := by rw [show (T.setFrames (.invoking m args :: below)).heap = H from hT]; exact hF1
  obtain ⟨-, ⟨-, hstr, hz1, hz2, hck⟩, -⟩ := hF'
  obtain ⟨q, hq⟩ := hstr _ hst
  have hatoms : ∀ w ∈ Bundle.ownAtoms own ic cls exUp, w.before args (T.setFrames (.invoking m args :: below)) = true := fun w hw => by
    rcases hat w hw with h | h | h
    rotate_left 2
    · exact va_Nw.use (ckW_tab w h).1 (hck w h)
    · exact wd w h
    · simp only [exSt, List.mem_cons, List.not_mem_nil, or_false] at h
      rcases h with rfl | rfl | rfl | rfl
      · exact hz1.lays
      · exact hz2.lays
      · exact hz1.isRef
      · exact hz2.isRef
  have hown' : (T.setFrames (.invoking m args :: below)).vm.findClass own = some m.cls := by
    show T.vm.findClass own = _
    rw [X.warmed.alike.findClass]
    exact hown
  obtain ⟨vm₁, cX, kX, hfX, hkX, -, -, X₁, st1⟩ := X₀.newCold hexec (own := own) (C := cls) (index := inew) (n := 6) hown' (wd _ hci) (hatoms (.instantiable cls 6) (by simp [Bundle.ownAtoms])) (wd _ hin) (g := F0 m pc ls []) rfl (by rw [hb]; exact hd0)
    (by show 0 + 1 ≤ R.cells - 0; omega) (by show 0 + 6 ≤ R.slots - 0; omega)
  generalize hT1 : (T.setVm vm₁).pushCell { cls := cX, slots := kX.instanceTypes.map defaultValue, vm := .none } = T1 at X₁ st1
  have hcellA : T1.heap[T.heap.size]? = some (freshCell cX kX) := by rw [← hT1]; exact State.heap_pushCell_size _ _
  obtain ⟨U, hsteps, hrun, hend, hWU, hsame, ce, hce, Kc⟩ := X₁.ctorThrowS hexec (htr e X.admits) (own := own) (cls := cls) (names := exUp) (ic := ic) hown' hfit (by decide) hatoms (fun y hy => by cases hy) hfX hkX hcellA (Nat.le_refl _) (msg := .ref q) rfl
    (g := F0 m (pc + 4 + li) ls [.ref q, .ref T.heap.size, .ref T.heap.size]) rfl hml rfl rfl (rest := []) rfl (by rw [hb]; exact hd3) (by rw [hb]; exact hd4) (covers_of_empty hx0 _) (by show 2 + 3 < R.frames; omega) (by show 82 ≤ R.locals; omega) hlocks
  have hal : s.WarmedH U.vm := State.WarmedH.trans hW' hWU
  have keep : ∀ a : Nat, a < H.size → U.heap[a]? = H[a]? := fun a ha => by
    have h := sbn_keep hsame (a := a) (by show a < T.heap.size; rw [hT]; exact ha)
    rw [show (T.setFrames (.invoking m args :: below)).heap = H from hT] at h
    exact h
  have hsz : H.size ≤ U.heap.size := by
    have h := hsame.2.1
    rw [show (T.setFrames (.invoking m args :: below)).heap = H from hT] at h
    exact h
  have hsb : s.sameButNew ({ U with vm := s.vm } : State) locs 1 6 := by
    have h2 : (T.setVm s.vm).sameButNew ({ U with vm := s.vm } : State) [] 1 6 := by
      refine ⟨?_, hsame.2⟩
      have h3 := congrArg (fun z : State => ({ z with vm := s.vm } : State)) hsame.1
      simp only [State.setFrames_setFrames] at h3
      exact h3
    have h4 := X.same.trans h2
    simpa using h4
  refine ⟨U, ?_, .threw T.heap.size, hrun, hend, ⟨Or.inr ⟨hne, T.heap.size, ce, rfl, by rw [hT]; exact hS.1, hce, by rw [Kc.vm]; rfl, ?_⟩, ⟨hP.kept (fun k q hk => keep q.1 (hP k q hk).lt), va_K.moved hal.alike hK⟩, Nat.le_trans hS.1 hsz, fun a ha hn => ?_⟩, locs, ⟨hal, hsb⟩, hS.2.2⟩
  · refine st1 _ ?_
    show Steps p.tables e below (T1.setTop (F0 m (pc + 3) ls [.ref T.heap.size])) _
    jvm_step X₁.here [X₁.here.top, hexec, hb, hd1, Value.category]
    rcases hd2 with ⟨hd2, rfl⟩ | ⟨hd2, rfl⟩
    · exact X₁.ldcString hexec hown' (text := tx) (a := q) hq.1 hq.2 (g := F0 m (pc + 4) ls [.ref T.heap.size, .ref T.heap.size]) rfl (by rw [hb]; exact hd2) _ hsteps
    · exact ldcwS X₁ hexec hown' (text := tx) (a := q) hq.1 hq.2 (g := F0 m (pc + 4) ls [.ref T.heap.size, .ref T.heap.size]) rfl (by rw [hb]; exact hd2) _ hsteps
  · rw [hcl, hWU.alike.findClass]
    exact Kc.cls
  · rw [keep a (Nat.lt_of_lt_of_le ha hS.1)]
    exact hS.2.1 a ha hn
end TH
theorem exN_1 : exN 1 = "java/lang/IllegalArgumentException" := by decide
theorem exN_2 : exN 2 = "java/lang/IllegalStateException" := by decide
theorem exN_3 : exN 3 = "java/lang/IndexOutOfBoundsException" := by decide
def mt (l : Launch) (D : va_G) (K : Nat → ClassId) (y : MethodName) (ws : List Cond) (rm : Room) (av : List Value) (w w' : va_W) (ex : Int32) (ov : Option Value) : Prop := ∀ sz, MetT l y ws rm (mPre D K av w sz) (Qt ex ov (mEnd D K w' ()) (va_A w sz)) 1 6 (va_A w sz)
theorem mt_of {l : Launch} {D : va_G} {K : Nat → ClassId} {y : MethodName} {ws ws' : List Cond} {rm : Room} {av : List Value} {w w' : va_W} {cc : ByteArray} {maxL : Nat} {own : String} {ret : Option FieldType} {ex : Int32} {ov : Option Value} (hy : plainName y.cls = true) (hw : ws = Cond.code y cc maxL ret :: ws') (ho : y.cls = own) (hn : (lg_sl av).length ≤ maxL)
    (body : ∀ (p : Program) (e : Env) (s : State) (m : MethodId) (below : List Frame) (meth : Method) (c : Code) (A : Nat → Prop) (ls : Array Slot), Cx p s m av.toArray meth c cc maxL own ws ret D K A → c.exceptionTable.isEmpty = true → va_P D vwCl w s.heap → va_D A w → va_S A s.heap s.heap [] → lv_has ls maxL (lv_args 0 av) →
      W p l e rm s m av.toArray below meth c s.heap [] 0 0 (QT below av.toArray s D K A w' ex ov) (F0 m 0 ls [])) : mt l D K y ws rm av w w' ex ov := by
  intro sz
  refine MetT.ofW (cc := cc) (maxL := maxL) (ret := ret) hy hw ?_
  intro p e s m args below meth c s₁ B hml hxt hv
  obtain ⟨rfl, hsz, hP, hK, hD0, hF⟩ := hv
  subst hsz
  have hown : s.vm.findClass own = some m.cls := by rw [← ho]; exact findClass_of_methodNamed B.named
  have hl := lv_entry av (n := maxL) hn
  rw [lg_entry_eq]
  exact body p e s m below meth c _ _ ⟨B.exec, B.bytes, hml, hown, atoms_spec (ws := ws) B.pre, B.returns, B.notSynchronized, hK, hF, fun q h => Or.inr h⟩ hxt hP (hD0.self (sz := s.heap.size)) va_S.rf hl
