-- making objects
def adL (ql : List Nat) (k : Nat) : Nat := ql.getD k 0
abbrev mPreC (D : va_G) (K : Nat → ClassId) (av : List Value) (w : va_W) (sz : Nat) : Array Value → State → Prop := va_Pc av (fun U => (U.heap.size = sz ∧ va_P D vwCl w U.heap ∧ va_K D vwCl (TY K) U ∧ va_D (fun _ => True) w ∧ SF (va_A w sz) U U.heap) ∧ GK K U)
/-- a constructor: the object's own cell is w; behind it the cells are those of wu u -/
def mn {S : Type} (l : Launch) (D : va_G) (K : Nat → ClassId) (y : MethodName) (ws : List Cond) (rm : Room) (av : List Value) (w : va_W) (B : S → Prop) (wu : S → List va_W) (mc ms : Nat) : Prop :=
  ∀ sz, Met l y ws rm (mPreC D K av w sz) (va_Qv (fun u : S => B u) (fun u t => va_P D vwCl (fl (wu u)) t.heap ∧ va_K D vwCl (TY K) t ∧ va_D (va_A w sz) (fl (wu u))) (va_A w sz)) mc ms (va_A w sz)
def Qn {S : Type} (below : List Frame) (args : Array Value) (s : State) (D : va_G) (K : Nat → ClassId) (A : Nat → Prop) (B : S → Prop) (wu : S → List va_W) (mc ms : Nat) : State → Prop := MQ below (va_Qv (fun u : S => B u) (fun u t => va_P D vwCl (fl (wu u)) t.heap ∧ va_K D vwCl (TY K) t ∧ va_D A (fl (wu u))) A) args s mc ms A
theorem mn_of {S : Type} {l : Launch} {D : va_G} {K : Nat → ClassId} {y : MethodName} {ws ws' : List Cond} {rm : Room} {av : List Value} {w : va_W} {cc : ByteArray} {maxL : Nat} {own : String} {B : S → Prop} {wu : S → List va_W} {mc ms : Nat} (hy : plainName y.cls = true) (hw : ws = Cond.code y cc maxL none :: ws') (ho : y.cls = own) (hi : y.name = "<init>") (hn : (lg_sl av).length ≤ maxL)
    (body : ∀ (p : Program) (e : Env) (s : State) (m : MethodId) (below : List Frame) (meth : Method) (c : Code) (A : Nat → Prop) (ls : Array Slot), Cx p s m av.toArray meth c cc maxL own ws none D K A → meth.name = "<init>" → GK K s → va_P D vwCl w s.heap → va_D A w → va_S A s.heap s.heap [] → lv_has ls maxL (lv_args 0 av) →
      W p l e rm s m av.toArray below meth c s.heap [] 0 0 (Qn below av.toArray s D K A B wu mc ms) (F0 m 0 ls [])) : mn l D K y ws rm av w B wu mc ms := by
  intro sz
  refine Met.ofW (cc := cc) (maxL := maxL) (ret := none) hy hw ?_
  intro p e s m args below meth c s₁ Bd hml hv
  obtain ⟨rfl, ⟨hsz, hP, hK, hD0, hF⟩, hG⟩ := hv
  subst hsz
  have hown : s.vm.findClass own = some m.cls := by rw [← ho]; exact findClass_of_methodNamed Bd.named
  have hin : meth.name = "<init>" := by rw [← hi]; exact (name_of_methodNamed Bd.named Bd.method).1
  have hl := lv_entry av (n := maxL) hn
  rw [lg_entry_eq]
  exact body p e s m below meth c _ _ ⟨Bd.exec, Bd.bytes, hml, hown, atoms_spec (ws := ws) Bd.pre, Bd.returns, Bd.notSynchronized, hK, hF, fun q h => Or.inr h⟩ hin hG hP (hD0.self (sz := s.heap.size)) va_S.rf hl
section MA
variable {p : Program} {l : Launch} {e : Env} {R : Room} {s : State} {m : MethodId} {args : Array Value} {below : List Frame} {meth : Method} {c : Code} {H : Heap} {locs : List Loc} {cells slots : Nat} {Q : State → Prop}
variable {cc : ByteArray} {pc : Nat} {ls : Array Slot} {rest : List Value} {D : va_G} {K : Nat → ClassId} {A : Nat → Prop}
theorem ret_n {S : Type} {B : S → Prop} {wu : S → List va_W} (u : S) (hu : B u) (hexec : p.tables.exec = Jvm.exec) (hb : c.code = cc) (hr : meth.sig.returnType = none) (hlocks : meth.locks = false) (hK : va_K D vwCl (TY K) s) (hP : va_P D vwCl (fl (wu u)) H) (hD : va_D A (fl (wu u))) (hS : va_S A s.heap H locs) (hdg : decode cc pc = .ok (.return_, 1)) :
    W p l e R s m args below meth c H locs cells slots (Qn below args s D K A B wu cells slots) (F0 m pc ls []) :=
  W.vret hexec hb hr (fun t ht hW => ⟨⟨u, rfl, hu, by rw [ht]; exact hP, va_K.moved hW.alike hK, hD⟩, hS.F ht⟩) hS.2.2 hdg hlocks
theorem nw_a {cs : List va_W} (ti : Nat) {ty : FieldType} {atype : ArrayType} (hexec : p.tables.exec = Jvm.exec) (hb : c.code = cc) (harr : (Cond.arrayClass (newarray.typeOf atype)).before args s = true) (hty : newarray.typeOf atype = ty) (hK : va_K D vwCl (TY K) s) (hP : va_P D vwCl (fl cs) H) (hD : va_D A (fl cs)) (hS : va_S A s.heap H locs) (hA : ∀ q : Nat, s.heap.size ≤ q → A q)
    (ht : (TY K)[ti]? = some (K ti, ty)) (hra : ∀ (U : State) (cA : ClassId), va_RA U cA ty → U.vm.findClass ("[" ++ ty.toString) = some cA) {n : Int32} {N' : Nat} {a0 : vp_A} (ha : ∀ cA : ClassId, vp_cell cA a0 = arrV cA N' (fun _ => defaultValue ty)) (hn : ¬ n < 0) (hN : n.toNatClampNeg = N') (hbytes : N' * componentBytes ty ≤ 536870912) (hcells : cells + 1 ≤ R.cells) (hslots : slots + N' ≤ R.slots) (hdg : decode cc pc = .ok (.newarray atype, 2))
    (kk : ∀ (q : Nat) (H1 : Heap), va_P D vwCl (fl (cs ++ [[(q, .inl (K ti, a0))]])) H1 → va_D A (fl (cs ++ [[(q, .inl (K ti, a0))]])) → va_S A s.heap H1 locs → W p l e R s m args below meth c H1 locs (cells + 1) (slots + N') Q (F0 m (pc + 2) ls (.ref q :: rest))) :
    W p l e R s m args below meth c H locs cells slots Q (F0 m pc ls (.int n :: rest)) := by
  refine va_newa hexec hb harr hty hK hP hD hS hA ha hn hN hbytes hcells hslots hdg (fun q cA H1 hK1 hP1 hD1 hS1 => ?_)
  have e1 := hra _ _ (hK.2 ti _ ht).2
  have e2 := hra _ _ (hK1.2 4 _ rfl).2
  have e3 : K ti = cA := Option.some.inj (e1.symm.trans e2)
  subst e3
  have e4 : fl (cs ++ [[(q, .inl (K ti, a0))]]) = fl cs ++ [(q, .inl (K ti, a0))] := by rw [fl_app]; rfl
  exact kk q H1 (by rw [e4]; exact hP1) (by rw [e4]; exact hD1) hS1
theorem nw_o {cs : List va_W} {own C : String} {T : u_T} {N ci index : Nat} {Ts : List Cond} (hexec : p.tables.exec = Jvm.exec) (hb : c.code = cc) (hts : ∀ w ∈ Ts, w.before args s = true) (hin : ∀ w ∈ u_ws C T N, w ∈ Ts) (ty : Nat → FieldType) (hty : ∀ k, k < N → parseFieldDescriptor (T k).2.2.1 = some (ty k)) (hown : s.vm.findClass own = some m.cls) (hcl : (Cond.classLink own index C).before args s = true) (hinst : (Cond.instantiable C N).before args s = true) (hini : (Cond.initialized C).before args s = true)
    (hK : va_K D vwCl (TY K) s) (hP : va_P D vwCl (fl cs) H) (hD : va_D A (fl cs)) (hS : va_S A s.heap H locs) (hA : ∀ q : Nat, s.heap.size ≤ q → A q) (hc : vwCl[ci]? = some (C, T, N)) {fs : List Value} (hfs : ∀ j, j < N → defaultValue (ty j) = vp_V fs j) (hcells : cells + 1 ≤ R.cells) (hslots : slots + N ≤ R.slots) (hdg : decode cc pc = .ok (.new index, 3))
    (kk : ∀ (q : Nat) (H1 : Heap), va_P D vwCl (fl (cs ++ [[(q, .inr (ci, fs))]])) H1 → va_D A (fl (cs ++ [[(q, .inr (ci, fs))]])) → va_S A s.heap H1 locs → W p l e R s m args below meth c H1 locs (cells + 1) (slots + N) Q (F0 m (pc + 3) ls (.ref q :: rest))) :
    W p l e R s m args below meth c H locs cells slots Q (F0 m pc ls rest) := by
  refine va_new hexec hb hts hin ty hty hown hcl hinst hini hK hP hD hS hA hc hfs hcells hslots hdg (fun q H1 hP1 hD1 hS1 => ?_)
  have e4 : fl (cs ++ [[(q, .inr (ci, fs))]]) = fl cs ++ [(q, .inr (ci, fs))] := by rw [fl_app]; rfl
  exact kk q H1 (by rw [e4]; exact hP1) (by rw [e4]; exact hD1) hS1
theorem fl_one {A : Nat → Prop} {cs0 : List va_W} {w : va_W} (hD : va_D A (fl (cs0 ++ [w]))) (hP : va_P D vwCl (fl (cs0 ++ [w])) H) : (va_P D vwCl w H ∧ va_D (fun _ => True) w ∧ ∀ q, va_A w H.size q → A q ∨ H.size ≤ q) ∧ va_P D vwCl (fl cs0) H ∧ va_D A (fl cs0) ∧ ∀ (k : Nat) (q : Nat × va_E), (fl cs0)[k]? = some q → ¬ va_A w H.size q.1 := by
  have e4 : fl (cs0 ++ [w]) = fl cs0 ++ w := by rw [fl_app]; show fl cs0 ++ (w ++ []) = _; rw [List.append_nil]
  rw [e4] at hD hP
  have hr : ∀ (k : Nat) (q : Nat × va_E), w[k]? = some q → (fl cs0 ++ w)[(fl cs0).length + k]? = some q := fun k q hk => by
    rw [List.getElem?_append_right (by omega), Nat.add_sub_cancel_left]
    exact hk
  have hl : ∀ (k : Nat) (q : Nat × va_E), (fl cs0)[k]? = some q → (fl cs0 ++ w)[k]? = some q := fun k q hk => by
    rw [List.getElem?_append_left (List.getElem?_eq_some_iff.mp hk).1]
    exact hk
  refine ⟨⟨fun k q hk => hP _ q (hr k q hk), ⟨fun i j x y hx hy e => ?_, fun _ _ _ => trivial⟩, fun q hq => ?_⟩, fun k q hk => hP _ q (hl k q hk), ⟨fun i j x y hx hy e => hD.1 i j x y (hl i x hx) (hl j y hy) e, fun k q hk => hD.2 _ q (hl k q hk)⟩, fun k q hk hA => ?_⟩
  · have := hD.1 _ _ x y (hr i x hx) (hr j y hy) e
    omega
  · rcases hq with ⟨k, e, hk⟩ | hq
    · exact Or.inl (hD.2 _ _ (hr k _ hk))
    · exact Or.inr hq
  · rcases hA with ⟨j, e, hj⟩ | hq
    · have h1 := hD.1 _ _ _ _ (hl k q hk) (hr j _ hj) rfl
      have h2 := (List.getElem?_eq_some_iff.mp hk).1
      omega
    · exact absurd (hP _ q (hl k q hk)).lt (by omega)
/-- behind a constructor's call: the object's own cell, the last one, has become ds -/
theorem fi_n {S : Type} {av : List Value} {cs0 : List va_W} {w : va_W} {B : S → Prop} {wu : S → List va_W} {mc ms : Nat} {st0 : List Value} (hr : va_Run p l e R s m args below meth c H locs cells slots mc ms (F0 m pc ls st0) rest (va_Qv (fun u : S => B u) (fun u t => va_P D vwCl (fl (wu u)) t.heap ∧ va_K D vwCl (TY K) t ∧ va_D (va_A w H.size) (fl (wu u))) (va_A w H.size) av.toArray) (va_A w H.size)) (hA : ∀ q : Nat, s.heap.size ≤ q → A q)
    (hP : va_P D vwCl (fl (cs0 ++ [w])) H) (hD : va_D A (fl (cs0 ++ [w]))) (hS : va_S A s.heap H locs)
    (kk : ∀ (u : S) (H1 : Heap) (locs1 : List Loc), B u → va_P D vwCl (fl (cs0 ++ wu u)) H1 → va_D A (fl (cs0 ++ wu u)) → va_S A s.heap H1 locs1 → W p l e R s m args below meth c H1 locs1 (cells + mc) (slots + ms) Q (F0 m (pc + 3) ls rest)) : W p l e R s m args below meth c H locs cells slots Q (F0 m pc ls st0) := by
  obtain ⟨⟨-, -, hAw⟩, hP0, hD0, hap⟩ := fl_one hD hP
  have hFr : ∀ q, va_A w H.size q → A q := fun q h => (hAw q h).elim id (fun z => hA q (Nat.le_trans hS.1 z))
  refine va_callv hr hS (fun q _ h => hFr q h) hFr (fun u t H1 locs1 ht hvm hw hB hz1 hk1 hS1 => ?_)
  obtain ⟨hP1, -, hD1⟩ := hB
  rw [ht] at hP1
  refine kk u H1 locs1 hw ?_ ?_ hS1
  · rw [fl_app]
    exact va_P.app (hP0.kept fun k q hk => hk1 q.1 (hP0 k q hk).lt (hap k q hk)) hP1
  · rw [fl_app]
    exact va_D.app hD0 (hD1.weaken fun k q _ h => hFr q.1 h) (fun i j x y hx hy e => hap i x hx (by rw [e]; exact hD1.2 j y hy))
theorem mPreC_blind {av : List Value} {w : va_W} {sz : Nat} : FrameBlind (mPreC D K av w sz) := fun a U g mk q => by
  obtain ⟨q0, ⟨q1, qP, qK, qD, qF⟩, qG⟩ := q
  exact ⟨q0, ⟨q1, qP, va_K.moved (u := U) (U := U.calling g mk a) (Vm.Alike.refl U.vm) qK, qD, SF.same (u := U) (U := U.calling g mk a) rfl qF⟩, qG.moved (u := U) (U := U.calling g mk a) (Vm.Alike.refl U.vm)⟩
theorem mPreC_at {cs0 : List va_W} {w : va_W} {av : List Value} (hK : va_K D vwCl (TY K) s) (hG : GK K s) (hF : SF A s s.heap) (hA : ∀ q : Nat, s.heap.size ≤ q → A q) (hP : va_P D vwCl (fl (cs0 ++ [w])) H) (hD : va_D A (fl (cs0 ++ [w]))) (hS : va_S A s.heap H locs) :
    ∀ U : State, U.heap = H → s.WarmedH U.vm → mPreC D K av w H.size av.toArray U := by
  intro U hU hW
  obtain ⟨⟨h1, h2, hAw⟩, -⟩ := fl_one hD hP
  have hFr : ∀ q, va_A w H.size q → A q := fun q h => (hAw q h).elim id (fun z => hA q (Nat.le_trans hS.1 z))
  exact ⟨rfl, ⟨by rw [hU], by rw [hU]; exact h1, va_K.moved hW.alike hK, h2, by rw [hU]; exact SF.narrow (SF.kept (SF.warm hW hF) hS) hFr⟩, hG.moved hW.alike⟩
theorem fl_perm {cs ccs : List va_W} (hP : va_P D vwCl (fl cs) H) (hD : va_D A (fl cs)) (is : List Nat) (hC : is.map (fun i => cs[i]?) = ccs.map some) (hn : va_nd is = true) : va_P D vwCl (fl ccs) H ∧ va_D A (fl ccs) := by
  refine ⟨fl_sub hP is hC, (fl_subD hD is hC hn).1, fun n q hq => ?_⟩
  obtain ⟨j, k, c, h1, h2, -⟩ := fl_mem hq
  obtain ⟨i, g1, g2⟩ := pl_map2 hC h1
  exact hD.2 _ q (fl_at i k g2 h2)
end MA
