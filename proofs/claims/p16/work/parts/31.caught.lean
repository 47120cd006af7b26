-- an exception that comes out of a callee, and the handler that takes it
def Hits (pl : Platform) (s : State) (d : ClassId) (pc : Nat) (k : ClassId) (hp : Nat) : List ExceptionTableEntry → Prop
  | [] => False
  | x :: t => covers x pc = true ∧ x.catchType ≠ 0 ∧ ∃ c, s.vm.ClassLinks pl d x.catchType c ∧ ((s.vm.assignable k c = true ∧ hp = x.handlerPc) ∨ (s.vm.assignable k c = false ∧ Hits pl s d pc k hp t))
theorem Hits.go {e : Env} {s : State} {f : JFrame} {a : Addr} {cell : Cell} {hp : Nat} (hobj : ∀ k, cell.vm ≠ .statics k) (hk0 : ∃ k, s.vm.classes[cell.cls]? = some k) : ∀ (t : List ExceptionTableEntry), Hits e.platform s f.method.cls f.pc cell.cls hp t → ∀ S : State, s.WarmedH S.vm → S.heap[a]? = some cell →
    ∃ vm', s.WarmedH vm' ∧ ∀ (Q : Handler → Pre) (E : CtlPost) (d : Bool) (acts : List Action), wp (findHandler.go f a t) Q E e d acts S ↔ Q (.found hp) d acts (S.setVm vm')
  | [], h => h.elim
  | x :: t, h => by
    intro S hW hcell
    obtain ⟨hx, h0, c, hl, h⟩ := h
    obtain ⟨k0, hk0'⟩ := hk0
    obtain ⟨dk, _, _, kt, hd, _, _, _, _, hkt, _, hopen⟩ := hl.here
    have hl1 := hW.classLinks hl
    have hW1 : s.WarmedH (S.vm.noted f.method.cls x.catchType (.cls c)) := hW.noted hd hopen (State.rightAt_cls hl)
    obtain ⟨ha, ht⟩ := (resolveClass_links e.toSetting hl1).op (op := VmOp.resolveClass f.method.cls x.catchType) rfl
    obtain ⟨k1, hk1, -⟩ := hW1.alike.2.2 _ _ hk0'
    obtain ⟨k2, hk2, -⟩ := hW1.alike.2.2 _ _ hkt
    simp only [covers] at hx
    rcases h with ⟨hfit, rfl⟩ | ⟨hno, hr⟩
    · have hfit1 : (S.vm.noted f.method.cls x.catchType (.cls c)).assignable cell.cls c = true := by rw [hW1.alike.assignable]; exact hfit
      refine ⟨_, hW1, fun Q E d acts => ?_⟩
      simp [findHandler.go, hx, h0, ha, ht, hcell, hobj, hk1, hk2, hfit1, VmOp.dirties, VmOp.acts]
    · have hno1 : (S.vm.noted f.method.cls x.catchType (.cls c)).assignable cell.cls c = false := by rw [hW1.alike.assignable]; exact hno
      obtain ⟨vm', hW', hq⟩ := Hits.go hobj ⟨k0, hk0'⟩ t hr (S.setVm (S.vm.noted f.method.cls x.catchType (.cls c))) hW1 hcell
      refine ⟨vm', hW', fun Q E d acts => ?_⟩
      refine Iff.trans ?_ (hq Q E d acts)
      simp [findHandler.go, hx, h0, ha, ht, hcell, hobj, hk1, hk2, hno1, VmOp.dirties, VmOp.acts]
theorem caught_at {tbs : Tables} {e : Env} {s U : State} {g : JFrame} {meth : Method} {c : Code} {below : List Frame} {a : Addr} {cell : Cell} {hp : Nat} (h : At U g.method c below) (hW : s.WarmedH U.vm) (hm : U.vm.method? g.method = some meth) (hc : meth.code = some c)
    (hobj : ∀ k, cell.vm ≠ .statics k) (hk0 : ∃ k, s.vm.classes[cell.cls]? = some k) (hh : Hits e.platform s g.method.cls g.pc cell.cls hp c.exceptionTable.toList) (hcell : U.heap[a]? = some cell) :
    ∃ vm', s.WarmedH vm' ∧ ∀ target, Steps tbs e below ((U.setVm vm').setTop { g with pc := hp, stack := [.ref a] }) target → Steps tbs e below ((U.setTop g).pushFrame (.throwing a)) target := by
  obtain ⟨vm', hW', hq⟩ := Hits.go (e := e) (a := a) hobj hk0 _ hh ((U.setTop g).pushFrame (.throwing a)) hW hcell
  refine ⟨vm', hW', fun target hrest => ?_⟩
  obtain ⟨hgo, hw⟩ := h.throwing a
  refine Steps.head hgo hw ?_
  have hst : (stepThrowing e ((U.setTop g).pushFrame (.throwing a)) a (.java g :: U.frames.tail)).Is ((((U.setTop g).pushFrame (.throwing a)).setVm vm').setFrames (.java { g with pc := hp, stack := [.ref a] } :: U.frames.tail)) [] := by
    simp only [stepThrowing, searchFrame, vmDo]
    generalize hr : Sem.go _ e false [] _ = res
    obtain ⟨as, rfl, ha⟩ := Sem.eq_ok_of hr (a := Handler.found hp) (s' := ((U.setTop g).pushFrame (.throwing a)).setVm vm') (acts' := []) (by simp [Jvm.W.findHandler_eq (s := (U.setTop g).pushFrame (.throwing a)) (f := g) hm hc, hq _ _ _ _])
    exact ⟨rfl, ha⟩
  rw [stepThread_throwing (frames_entered h.top _), hst.1]
  obtain ⟨g₀, hg⟩ := Option.isSome_iff_exists.mp h.top
  obtain ⟨r, hr⟩ := State.topJava?_eq_some.mp hg
  have hr' : (U.setVm vm').frames = .java g₀ :: r := hr
  rw [State.setTop_of_frames _ hr'] at hrest
  rw [hr, List.tail_cons, State.pushFrame, State.setTop_of_frames _ hr]
  have e1 : ∀ (F G : List Frame), ((U.setFrames F).setVm vm').setFrames G = (U.setVm vm').setFrames G := fun F G => by
    have h1 : (U.setFrames F).setVm vm' = (U.setVm vm').setFrames F := rfl
    rw [h1, State.setFrames_setFrames]
  rw [State.setFrames_setFrames, e1]
  exact hrest
/-- a callee's end, returned or thrown, seen by its caller -/
def va_RunT (p : Program) (l : Launch) (e : Env) (R : Room) (s : State) (m : MethodId) (args : Array Value) (below : List Frame) (meth : Method) (c : Code) (H : Heap) (locs : List Loc) (cells slots mc ms : Nat) (g : JFrame) (rest : List Value) (Qa : State → Outcome → State → Prop) (free : Addr → Prop) : Prop :=
  ∀ T : State, T.heap = H → Stand p l e R s m args below meth c T locs cells slots → ∃ (o : Outcome) (st₀ t T' : State) (L : List Loc), st₀.heap = H ∧ Stand p l e R s m args below meth c T' (locs ++ L) (cells + mc) (slots + ms) ∧ (∀ q ∈ L, free q.base) ∧ T'.heap = t.heap ∧ T'.vm = t.vm ∧ Qa st₀ o t ∧
    (∀ v, o = .returned v → Goes p e below T g T' { g with pc := g.pc + 3, stack := v.toList ++ rest }) ∧ ∀ a, o = .threw a → ∀ target, Steps p.tables e below ((T'.setTop { g with stack := rest }).pushFrame (.throwing a)) target → Steps p.tables e below (T.setTop g) target
section TC
variable {p : Program} {l : Launch} {e : Env} {R : Room} {s : State} {m : MethodId} {args : Array Value} {below : List Frame} {meth : Method} {c : Code} {H : Heap} {locs : List Loc} {cells slots : Nat} {Q : State → Prop}
variable {y : MethodName} {bytes cc : ByteArray} {maxL nL mc ms n index : Nat} {ret : Option FieldType} {ws : List Cond} {rm : Room} {Pc : Array Value → State → Prop} {Qc : Array Value → State → Outcome → State → Prop} {free : Addr → Prop} {Ts : List Cond} {own C : String} {b : Addr} {As rest : List Value} {g : JFrame}
theorem inv_T {T : State} {ig : Instr} {mk : MethodId} {a : Array Value} {len : Nat} (X : Stand p l e R s m args below meth c T locs cells slots) (hM : MetT l y ws rm Pc Qc mc ms free) (hbl : FrameBlind Pc) (hrc : rm.cells = mc) (hrs : rm.slots = ms) (hfr : rm.frames + 1 ≤ R.frames) (hlo : 8 + (maxL + 11) + rm.locals ≤ R.locals)
    (hws : ∀ w ∈ ws, w.before a T = true) (hcode : (Cond.code y bytes maxL ret).before a T = true) (hini : (Cond.initialized y.cls).before a T = true) (hg : g.method = m) (hsize : g.locals.size = c.maxLocals) (hdg : decode c.code g.pc = .ok (ig, len)) (hw8 : 2 * g.monitorRoom + (g.stack.map fun v => v.category).sum ≤ 8) (hn : T.methodNamed? y = some mk)
    (hc : cells + mc ≤ R.cells) (hs : slots + ms ≤ R.slots) (hP : Pc a T) :
    ∃ (o : Outcome) (t T' : State) (L : List Loc), Stand p l e R s m args below meth c T' (locs ++ L) (cells + mc) (slots + ms) ∧ (∀ q ∈ L, free q.base) ∧ T'.heap = t.heap ∧ T'.vm = t.vm ∧ Qc a (T.calling g mk a) o t ∧
      (∀ v, o = .returned v → Steps p.tables e below (doInvoke e (T.setTop g) [] mk a).1 (T'.setTop { g with pc := g.pc + len, stack := v.toList ++ g.stack })) ∧ ∀ x, o = .threw x → Steps p.tables e below (doInvoke e (T.setTop g) [] mk a).1 ((T'.setTop g).pushFrame (.throwing x)) := by
  obtain ⟨methY, cY, hmY, hcY, -, hlY, -, -, -, -⟩ := Cond.code_spec hn hcode
  obtain ⟨kY, hkY, -⟩ := className_of_methodNamed hn
  have hinitY : kY.init = .initialized := Cond.initialized_spec (findClass_of_methodNamed hn) hkY hini
  have h : At T g.method c below := by rw [hg]; exact X.here
  have happ : (headSpec ws rm).appliesLoose y e.platform (T.calling g mk a) = true :=
    Spec.appliesLoose_calling (g := g) h hdg hn hkY hinitY (X.room_calling (g := g) (R' := rm) hsize hmY hcY hfr (by rw [hlY]; omega) (by rw [hrc]; exact hc) (by rw [hrs]; exact hs)) (atoms_intro hws)
  obtain ⟨mid, hmid⟩ := h.above
  have hfrm : (T.setTop g).frames = (.java g :: mid) ++ below := by rw [State.frames_setTop' g h.top, hmid]; rfl
  obtain ⟨o, s₂, hsteps, -, hend, hq⟩ := Steps.callFree hM p X.admits X.cas X.clock (acts := []) hfrm happ (hbl _ _ _ _ hP) trivial
  have hq' : Qc a (T.calling g mk a) o s₂ ∧ ∃ L, FrT (T.calling g mk a) s₂ L mc ms ∧ ∀ q ∈ L, free q.base := hq
  rw [State.frames_setTop' g h.top] at hend
  obtain ⟨hQ, L, ⟨hW₂, e2, q2, q3, q4, q5, q6⟩, hL⟩ := hq'
  have e3 : s₂ = ({ (T.calling g mk a).setFrames s₂.frames with heap := s₂.heap, slotsUsed := s₂.slotsUsed } : State).setVm s₂.vm := by
    have : s₂ = ({ s₂ with vm := (T.calling g mk a).vm } : State).setVm s₂.vm := rfl
    rw [e2] at this
    exact this
  have hW' : T.WarmedH s₂.vm := hW₂
  obtain ⟨g₀, hg0⟩ := Option.isSome_iff_exists.mp h.top
  obtain ⟨r, hr⟩ := State.topJava?_eq_some.mp hg0
  have hr' : (({ T with heap := s₂.heap, slotsUsed := s₂.slotsUsed } : State).setVm s₂.vm).frames = .java g₀ :: r := hr
  have hsame : T.sameButNew ({ T with heap := s₂.heap, slotsUsed := s₂.slotsUsed } : State) L mc ms := by
    refine ⟨?_, q2, q3, q4, q5, q6⟩
    obtain ⟨t, ht, -⟩ := State.frames_cons hr
    show ({ T with heap := s₂.heap, slotsUsed := s₂.slotsUsed } : State) = { T.setFrames T.frames with heap := s₂.heap, slotsUsed := s₂.slotsUsed }
    rw [State.setFrames_self ht]
  refine ⟨o, s₂, ({ T with heap := s₂.heap, slotsUsed := s₂.slotsUsed } : State).setVm s₂.vm, L,
    ⟨X.admits, X.cas, X.clock, X.frames, X.room, X.hears, X.method, X.code, (X.here.setHeapUsed s₂.heap s₂.slotsUsed).setVm hW'.alike, X.tail, State.WarmedH.trans X.warmed hW', X.limits, X.bytes, X.same.trans (hsame.setVm s.vm)⟩, hL, rfl, rfl, hQ, fun v hv => ?_, fun x hx => ?_⟩
  · subst hv
    obtain ⟨c₂, i₂, len₂, hc₂, hd₂, hf₂⟩ := hend
    have hcc : c₂ = c := by
      have h1 : s₂.code? g.method = T.code? g.method := by
        rw [State.code?_eq, State.code?_eq, hW'.alike.method?]
      exact Option.some.inj (hc₂.symm.trans (h1.trans h.code))
    subst hcc
    have hlen : len₂ = len := by rw [hdg] at hd₂; cases hd₂; rfl
    subst hlen
    have hs₂ : s₂ = (({ T with heap := s₂.heap, slotsUsed := s₂.slotsUsed } : State).setVm s₂.vm).setTop { g with pc := g.pc + len₂, stack := v.toList ++ g.stack } := by
      refine e3.trans ?_
      rw [hf₂, State.calling_eq h.top, State.setFrames_setFrames, State.setTop_of_frames _ hr', hr]
      rfl
    rw [← hs₂]
    exact hsteps
  · subst hx
    have hf₂ : s₂.frames = .throwing x :: .java g :: T.frames.tail := hend
    have hs₂ : s₂ = ((({ T with heap := s₂.heap, slotsUsed := s₂.slotsUsed } : State).setVm s₂.vm).setTop g).pushFrame (.throwing x) := by
      refine e3.trans ?_
      rw [hf₂, State.calling_eq h.top, State.setFrames_setFrames, State.pushFrame, State.frames_setTop _ hr', State.setTop_of_frames _ hr', State.setFrames_setFrames, hr]
      rfl
    rw [← hs₂]
    exact hsteps
theorem run_T (S : CallFix p m c cc nL s args Ts own) (hM : MetT l y ws rm Pc Qc mc ms free) (cw : CallW R s args own C index y bytes maxL ret ws rm mc ms n) (hp : PreV s H C b Pc As)
    (hg : g.method = m) (hn : As.length = n) (hsize : g.locals.size = nL) (hstack : g.stack = As.reverse ++ .ref b :: rest) (hW : 2 * g.monitorRoom + (rest.map fun v => v.category).sum ≤ 8) (hdg : decode cc g.pc = .ok (.invokevirtual index, 3)) (hf : cells + mc ≤ R.cells ∧ slots + ms ≤ R.slots) :
    va_RunT p l e R s m args below meth c H locs cells slots mc ms g rest (Qc (Value.ref b :: As).toArray) free := by
  obtain ⟨⟨hrc, hrs, hfr, hlo, hws, hcw, hcode, hini, hy, hlen, hl⟩, hinst, hsel⟩ := cw
  obtain ⟨hx, hb, hml, ho, -⟩ := S
  obtain ⟨hbl, ⟨cellB, hcB, hoB, hclB⟩, hPc⟩ := hp
  intro T hT X
  subst hb
  obtain ⟨mk, methM, hnamed, hmethM, hstM, habM⟩ := Cond.instanceMethod_spec hinst
  obtain ⟨methM', cM, hmethM', -, -, -, -, -, -, hsigM⟩ := Cond.code_spec hnamed hcode
  cases hmethM.symm.trans hmethM'
  obtain ⟨c2, r2, m2, q1, q2, q3, q4, kP, hkP, hkPi⟩ := Cond.selects_spec hsel
  cases hclB.symm.trans q1
  cases (State.methodFound?_of_named hnamed hy).symm.trans q2
  cases hnamed.symm.trans q3
  have hselP : selectMethod e.platform s.vm cellB.cls mk = .method mk := by rw [Launch.admits_selectMethod X.admits]; exact q4
  obtain ⟨vm₁, X₁, hstep₁⟩ := X.invokevirtual hx ho hl hnamed hmethM hstM hkP hkPi hy (a := b) (cell := cellB) (by rw [hT]; exact hcB)
    (fun z h => by rw [h] at hoB; cases hoB) hselP hmethM habM hkP hkPi (g := g) hg (argsL := As) (rest := rest) (hn.trans (hlen _ hsigM)) hstack hdg
  obtain ⟨o, t, T', L, X', hL, e1, e2, hq, k1, k2⟩ := inv_T (g := { g with stack := rest }) (mk := mk) (a := (Value.ref b :: As).toArray) X₁ hM hbl hrc hrs hfr hlo (fun w hw => hws w hw _ _ X₁.warmed) (hws _ hcw _ _ X₁.warmed) (word_at X₁.warmed (Or.inl rfl) hini) hg (hsize.trans hml.symm) hdg hW (X₁.named hnamed) hf.1 hf.2 (hPc _ hT X₁.warmed)
  refine ⟨o, _, t, T', L, ?_, X', hL, e1, e2, hq, fun v hv target h => hstep₁ _ fun acts => ?_, fun a ha target h => hstep₁ _ fun acts => ?_⟩
  · exact hT
  · rw [doInvoke_state]
    exact (k1 v hv).trans h
  · rw [doInvoke_state]
    exact (k2 a ha).trans h
end TC
section TW
variable {p : Program} {l : Launch} {e : Env} {R : Room} {s : State} {m : MethodId} {args : Array Value} {below : List Frame} {meth : Method} {c : Code} {H : Heap} {locs : List Loc} {cells slots : Nat} {Q : State → Prop}
variable {cc : ByteArray} {pc : Nat} {ls : Array Slot} {rest : List Value} {D : va_G} {K : Nat → ClassId} {A : Nat → Prop}
/-- the walk, from an exception that lies over the frame g -/
def WT (p : Program) (l : Launch) (e : Env) (R : Room) (s : State) (m : MethodId) (args : Array Value) (below : List Frame) (meth : Method) (c : Code) (H : Heap) (locs : List Loc) (cells slots : Nat) (Q : State → Prop) (g : JFrame) (a : Nat) : Prop :=
  ∀ T : State, T.heap = H → Stand p l e R s m args below meth c T locs cells slots → ∃ t, Steps p.tables e below ((T.setTop g).pushFrame (.throwing a)) t ∧ Q t
theorem fi_t {av : List Value} {cs ccs ds : List va_W} {ex : Int32} {ov : Option Value} {st0 : List Value} {mc ms : Nat} (hr : va_RunT p l e R s m args below meth c H locs cells slots mc ms (F0 m pc ls st0) rest (Qt ex ov (mEnd D K (fl ds) ()) (va_A (fl ccs) H.size) av.toArray) (va_A (fl ccs) H.size)) (hA : ∀ q : Nat, s.heap.size ≤ q → A q) (hP : va_P D vwCl (fl cs) H) (hD : va_D A (fl cs)) (hS : va_S A s.heap H locs) (is : List Nat) (hC : is.map (fun i => cs[i]?) = ccs.map some) (ha : ds.map adr = ccs.map adr)
    (k0 : ex = 0 → ∀ (H1 : Heap) (locs1 : List Loc), va_P D vwCl (fl (pl cs is ds)) H1 → va_D A (fl (pl cs is ds)) → va_S A s.heap H1 locs1 → W p l e R s m args below meth c H1 locs1 (cells + mc) (slots + ms) Q (F0 m (pc + 3) ls (ov.toList ++ rest)))
    (k1 : ex ≠ 0 → ∀ (H1 : Heap) (locs1 : List Loc) (a : Nat) (cell : Cell), va_P D vwCl (fl (pl cs is ds)) H1 → va_D A (fl (pl cs is ds)) → va_S A s.heap H1 locs1 → H1[a]? = some cell → cell.vm.isStatics = false → s.vm.findClass (exN ex) = some cell.cls → WT p l e R s m args below meth c H1 locs1 (cells + mc) (slots + ms) Q (F0 m pc ls rest) a) :
    W p l e R s m args below meth c H locs cells slots Q (F0 m pc ls st0) := by
  have hFr := fl_free hD hS hA is hC
  intro T hT X
  obtain ⟨o, st₀, t, T', L, h0, X', hL, e1, e2, ⟨hor, hB, hz, hk⟩, g1, g2⟩ := hr T hT X
  rw [h0] at hz hk
  have hk1 : ∀ q : Nat, q < H.size → ¬ va_A (fl ccs) H.size q → T'.heap[q]? = H[q]? := fun q h1 h2 => by rw [e1]; exact hk q h1 h2
  obtain ⟨j1, j2⟩ := fl_join hP hD is hC ha hk1 (by rw [e1]; exact hB.1)
  have hS1 : va_S A s.heap T'.heap (locs ++ L) := ⟨Nat.le_trans hS.1 (by rw [e1]; exact hz), fun q h1 h2 => by rw [e1, hk q (Nat.lt_of_lt_of_le h1 hS.1) (fun z => h2 (hFr q z))]; exact hS.2.1 q h1 h2, fun q hq => by
      rcases List.mem_append.mp hq with h | h
      · exact hS.2.2 q h
      · exact hFr _ (hL q h)⟩
  rcases hor with ⟨hx, ho⟩ | ⟨hx, a, cell, ho, ha1, ha2, ha3, ha4⟩
  · obtain ⟨t2, a1, b1⟩ := k0 hx T'.heap (locs ++ L) j1 j2 hS1 T' rfl X'
    exact ⟨t2, g1 _ ho t2 a1, b1⟩
  · obtain ⟨t2, a1, b1⟩ := k1 hx T'.heap (locs ++ L) a cell j1 j2 hS1 (by rw [e1]; exact ha2) ha3 (by rw [← X'.warmed.alike.findClass, e2]; exact ha4) T' rfl X'
    exact ⟨t2, g2 a ho t2 a1, b1⟩
/-- the exception comes to the handler at hp -/
theorem ca_W {a : Nat} {cell : Cell} {hp : Nat} (hh : ∀ pl : Platform, pl.magicAccessors = ({} : Platform).magicAccessors → Hits pl s m.cls pc cell.cls hp c.exceptionTable.toList) (hk0 : ∃ k, s.vm.classes[cell.cls]? = some k) (hcell : H[a]? = some cell) (hobj : cell.vm.isStatics = false)
    (kk : W p l e R s m args below meth c H locs cells slots Q (F0 m hp ls [.ref a])) : WT p l e R s m args below meth c H locs cells slots Q (F0 m pc ls rest) a := by
  intro T hT X
  have hpl : e.platform.magicAccessors = ({} : Platform).magicAccessors := by rw [X.admits.platform]
  obtain ⟨vm', hW', hgo⟩ := caught_at (tbs := p.tables) (e := e) (g := F0 m pc ls rest) (meth := meth) X.here X.warmed X.method' X.code (VmData.ne_statics_of hobj) hk0 (hh _ hpl) (by rw [hT]; exact hcell)
  obtain ⟨t, a1, b1⟩ := kk (T.setVm vm') hT (X.noted hW')
  exact ⟨t, hgo t a1, b1⟩
theorem hits_1 {own cls : String} {x1 : Nat × Nat × Nat × Nat} {more : List (Nat × Nat × Nat × Nat)} {k : ClassId} (hown : s.vm.findClass own = some m.cls) (htab : c.exceptionTable.toList.map (fun h => (h.startPc, h.endPc, h.handlerPc, h.catchType)) = x1 :: more)
    (hc : x1.1 ≤ pc ∧ pc < x1.2.1) (h0 : x1.2.2.2 ≠ 0) (hlink : (Cond.classLink own x1.2.2.2 cls).before args s = true) (hcast : (Cond.castable cls cls).before args s = true) (hk : s.vm.findClass cls = some k) :
    ∀ pl : Platform, pl.magicAccessors = ({} : Platform).magicAccessors → Hits pl s m.cls pc k x1.2.2.1 c.exceptionTable.toList := by
  intro pl hpl
  cases ht : c.exceptionTable.toList with
  | nil => rw [ht] at htab; simp at htab
  | cons y ys =>
    rw [ht] at htab
    simp only [List.map_cons, List.cons.injEq] at htab
    obtain ⟨rfl, -⟩ := htab
    obtain ⟨c', hc', hcl⟩ := Cond.classLink_spec hown hlink pl hpl
    cases hk.symm.trans hc'
    obtain ⟨c3, c4, hc3, hc4, hasg⟩ := Cond.castable_spec hcast
    cases hk.symm.trans hc3
    cases hk.symm.trans hc4
    exact ⟨by simp [covers, hc.1, hc.2], h0, k, hcl, Or.inl ⟨hasg, rfl⟩⟩
theorem hits_2 {own cls cls1 : String} {x1 x2 : Nat × Nat × Nat × Nat} {more : List (Nat × Nat × Nat × Nat)} {k : ClassId} (hown : s.vm.findClass own = some m.cls) (htab : c.exceptionTable.toList.map (fun h => (h.startPc, h.endPc, h.handlerPc, h.catchType)) = x1 :: x2 :: more)
    (hc : (x1.1 ≤ pc ∧ pc < x1.2.1) ∧ x2.1 ≤ pc ∧ pc < x2.2.1) (h0 : x1.2.2.2 ≠ 0 ∧ x2.2.2.2 ≠ 0) (hlink1 : (Cond.classLink own x1.2.2.2 cls1).before args s = true) (hlink : (Cond.classLink own x2.2.2.2 cls).before args s = true) (hcast : (Cond.castable cls cls).before args s = true) (hk : s.vm.findClass cls = some k) (hno : nC cls cls1 s) :
    ∀ pl : Platform, pl.magicAccessors = ({} : Platform).magicAccessors → Hits pl s m.cls pc k x2.2.2.1 c.exceptionTable.toList := by
  intro pl hpl
  cases ht : c.exceptionTable.toList with
  | nil => rw [ht] at htab; simp at htab
  | cons y ys =>
    cases ys with
    | nil => rw [ht] at htab; simp at htab
    | cons z zs =>
      rw [ht] at htab
      simp only [List.map_cons, List.cons.injEq] at htab
      obtain ⟨rfl, rfl, -⟩ := htab
      obtain ⟨c1, hc1, hcl1⟩ := Cond.classLink_spec hown hlink1 pl hpl
      obtain ⟨c', hc', hcl⟩ := Cond.classLink_spec hown hlink pl hpl
      cases hk.symm.trans hc'
      obtain ⟨c3, c4, hc3, hc4, hasg⟩ := Cond.castable_spec hcast
      cases hk.symm.trans hc3
      cases hk.symm.trans hc4
      exact ⟨by simp [covers, hc.1.1, hc.1.2], h0.1, c1, hcl1, Or.inr ⟨hno k c1 hk hc1, by simp [covers, hc.2.1, hc.2.2], h0.2, k, hcl, Or.inl ⟨hasg, rfl⟩⟩⟩
end TW
-- the law's own methods that catch
def mw (l : Launch) (D : va_G) (K : Nat → ClassId) (y : MethodName) (ws : List Cond) (rm : Room) (av : List Value) (w w' : va_W) (r : Int32) : Prop := ∀ sz, Met l y ws rm (mPre D K av w sz) (va_Qi (fun r2 _ => r2 = r) (mEnd D K w') (va_A w sz)) 1 6 (va_A w sz)
def Qw (below : List Frame) (args : Array Value) (s : State) (D : va_G) (K : Nat → ClassId) (A : Nat → Prop) (w' : va_W) (r : Int32) : State → Prop := MQ below (va_Qi (fun r2 _ => r2 = r) (mEnd D K w') A) args s 1 6 A
theorem mw_of {l : Launch} {D : va_G} {K : Nat → ClassId} {y : MethodName} {ws ws' : List Cond} {rm : Room} {av : List Value} {w w' : va_W} {cc : ByteArray} {maxL : Nat} {own : String} {r : Int32} {hh : List (Nat × Nat × Nat × Nat)} (hy : plainName y.cls = true) (hw : ws = Cond.codeWith y cc maxL (some .int) hh :: ws') (ho : y.cls = own) (hn : (lg_sl av).length ≤ maxL)
    (body : ∀ (p : Program) (e : Env) (s : State) (m : MethodId) (below : List Frame) (meth : Method) (c : Code) (A : Nat → Prop) (ls : Array Slot), Cx p s m av.toArray meth c cc maxL own ws (some .int) D K A → c.exceptionTable.toList.map (fun h => (h.startPc, h.endPc, h.handlerPc, h.catchType)) = hh → va_P D vwCl w s.heap → va_D A w → va_S A s.heap s.heap [] → lv_has ls maxL (lv_args 0 av) →
      W p l e rm s m av.toArray below meth c s.heap [] 0 0 (Qw below av.toArray s D K A w' r) (F0 m 0 ls [])) : mw l D K y ws rm av w w' r := by
  intro sz
  refine va_MetW (cc := cc) (maxL := maxL) (ret := some .int) (hh := hh) hy hw ?_
  intro p e s m args below meth c s₁ B hml hv
  obtain ⟨rfl, hsz, hP, hK, hD0, hF⟩ := hv
  subst hsz
  have hown : s.vm.findClass own = some m.cls := by rw [← ho]; exact findClass_of_methodNamed B.named
  obtain ⟨m9, meth9, c9, hn9, h1, h2, h3, h4, h7, h5, h6, -⟩ := Cond.codeWith_spec (atoms_spec (ws := ws) B.pre (Cond.codeWith y cc maxL (some .int) hh) (by rw [hw]; exact List.mem_cons_self))
  cases B.named.symm.trans hn9
  cases B.method.symm.trans h1
  cases (Stand.of_body B).code.symm.trans h2
  have hl := lv_entry av (n := maxL) hn
  rw [lg_entry_eq]
  exact body p e s m below meth c _ _ ⟨B.exec, B.bytes, hml, hown, atoms_spec (ws := ws) B.pre, B.returns, B.notSynchronized, hK, hF, fun q h => Or.inr h⟩ h7 hP (hD0.self (sz := s.heap.size)) va_S.rf hl
theorem ret_w {p : Program} {l : Launch} {e : Env} {R : Room} {s : State} {m : MethodId} {args : Array Value} {below : List Frame} {meth : Method} {c : Code} {H : Heap} {locs : List Loc} {cc : ByteArray} {pc : Nat} {ls : Array Slot} {D : va_G} {K : Nat → ClassId} {A : Nat → Prop} {w' : va_W} {r : Int32} (hexec : p.tables.exec = Jvm.exec) (hb : c.code = cc) (hr : meth.sig.returnType = some .int) (hlocks : meth.locks = false) (hK : va_K D vwCl (TY K) s) (hP : va_P D vwCl w' H) (hS : va_S A s.heap H locs) (hdg : decode cc pc = .ok (.ireturn, 1)) :
    W p l e R s m args below meth c H locs 1 6 (Qw below args s D K A w' r) (F0 m pc ls [.int r]) :=
  W.iret (v := r) hexec hb hr (fun t ht hW => ⟨⟨r, (), rfl, rfl, by rw [ht]; exact hP, va_K.moved hW.alike hK⟩, hS.F ht⟩) hS.2.2 hdg hlocks
