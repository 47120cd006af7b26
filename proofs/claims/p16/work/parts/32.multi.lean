-- a grid of eight rows of a hundred longs
def GK (K : Nat → ClassId) (U : State) : Prop := ∃ k : Class, U.vm.classes[K 2]? = some k ∧ k.kind = .array (K 1) (.array .long)
theorem GK.moved {K : Nat → ClassId} {u U : State} (hvm : u.vm.Alike U.vm) (h : GK K u) : GK K U := by
  obtain ⟨k, h1, h2⟩ := h
  obtain ⟨k', h3, h4⟩ := hvm.2.2 _ _ h1
  exact ⟨k', h3, by rw [h4]; exact h2⟩
theorem mu_arr {E : CtlPost} {e : Env} {d : Bool} {acts : List Action} {S : State} {cA comp : ClassId} {k : Class} {ty : FieldType} {n : Nat} {v : Value} {Q : Addr → Pre} (hk : S.vm.classes[cA]? = some k) (hkind : k.kind = .array comp ty) (h1 : ¬ n > e.platform.arrayLengthLimit) (h2 : ¬ n * componentBytes ty > e.platform.maxHeapBytes)
    (h3 : S.heap.size < e.platform.maxCells) (h4 : S.slotsUsed + n ≤ e.platform.maxSlots) (hfit : fits ty v = true) (hdef : v.isDefault = true) (hq : Q S.heap.size d acts (S.pushCell (arrV cA n (fun _ => v)))) : wp (Jvm.newArray cA n v) Q E e d acts S := by
  have hall : ((Array.replicate n v).all (·.isDefault)) = true := by
    rw [Array.all_replicate]
    split <;> simp [hdef]
  have hacts : allocActs (Array.replicate n v) S.heap.size acts = acts := by unfold allocActs; rw [if_pos hall]
  have hslot : ∀ i w, (Array.replicate n v)[i]? = some w → S.fitsSlot cA .none i w = true := by
    intro i w hw
    rw [Array.getElem?_replicate] at hw
    split at hw
    · cases hw
      simp [State.fitsSlot, State.slotType?, hk, hkind, hfit]
    · cases hw
  simp only [Jvm.newArray, Jvm.arrayFits, wp_bind', Jvm.W.ask, Jvm.W.ite, h1, if_false, wp_pure', Jvm.W.theClass, hk, hkind, h2, Jvm.W.alloc, Jvm.W.stop, Option.some.injEq, exists_eq_left', Array.size_replicate, hacts]
  rw [if_neg (by omega)]
  rw [← arrV_new] at hq
  exact ⟨h3, h4, hslot, hq⟩
def mu_o (cA : ClassId) (h i : Nat) : Cell := arrV cA 8 (fun j => if j < i then .ref (h + 1 + j) else .null)
theorem mu_o_set (cA : ClassId) (h i : Nat) : (mu_o cA h i).setSlot i (.ref (h + 1 + i)) = mu_o cA h (i + 1) := by
  unfold mu_o
  rw [arrV_store]
  congr 1
  funext j
  unfold updV
  by_cases h1 : j = i
  · subst h1
    simp
  · by_cases h2 : j < i
    · simp [h1, h2, show j < i + 1 by omega]
    · simp [h1, h2, show ¬ j < i + 1 by omega]
section MU
variable {p : Program} {l : Launch} {e : Env} {R : Room} {s : State} {m : MethodId} {args : Array Value} {below : List Frame} {meth : Method} {c : Code} {H : Heap} {locs : List Loc} {cells slots : Nat} {Q : State → Prop}
variable {cc : ByteArray} {pc : Nat} {ls : Array Slot} {rest : List Value} {D : va_G} {K : Nat → ClassId} {A : Nat → Prop}
/-- the state in which i rows are there -/
def mu_S (K : Nat → ClassId) (T : State) : Nat → State
  | 0 => T.pushCell (arrV (K 2) 8 (fun _ => .null))
  | i + 1 => ((mu_S K T i).pushCell (arrV (K 1) 100 (fun _ => .long 0))).setCell T.heap.size (mu_o (K 2) T.heap.size (i + 1))
theorem mu_F {T : State} (K : Nat → ClassId) (X : Stand p l e R s m args below meth c T locs cells slots) : ∀ i : Nat, ∃ L : List Loc, Stand p l e R s m args below meth c (mu_S K T i) (locs ++ L) (cells + 1 + i) (slots + 8 + i * 100) ∧ (∀ q ∈ L, q.base = T.heap.size) ∧ (mu_S K T i).vm = T.vm ∧ (mu_S K T i).heap.size = T.heap.size + 1 + i ∧ (mu_S K T i).heap[T.heap.size]? = some (mu_o (K 2) T.heap.size i) ∧
    (∀ j : Nat, j < i → (mu_S K T i).heap[T.heap.size + 1 + j]? = some (arrV (K 1) 100 (fun _ => .long 0))) ∧ ∀ a : Nat, a < T.heap.size → (mu_S K T i).heap[a]? = T.heap[a]?
  | 0 => by
    refine ⟨[], ?_, (fun q hq => by cases hq), rfl, ?_, ?_, (fun j hj => absurd hj (Nat.not_lt_zero _)), fun a ha => State.heap_pushCell_of_lt _ _ ha⟩
    · have h := X.pushed (arrV (K 2) 8 (fun _ => .null))
      rw [arrV_size] at h
      simpa [mu_S] using h
    · show (T.pushCell _).heap.size = _
      rw [size_pushCell]
    · show (T.pushCell _).heap[T.heap.size]? = _
      rw [State.heap_pushCell_size]
      rfl
  | i + 1 => by
    obtain ⟨L, Xi, hL, hvm, hsz, hout, hrow, hold⟩ := mu_F K X i
    have X1 := Xi.pushed (arrV (K 1) 100 (fun _ => .long 0))
    rw [arrV_size] at X1
    have hlt : T.heap.size < (mu_S K T i).heap.size := by omega
    have hc1 : ((mu_S K T i).pushCell (arrV (K 1) 100 (fun _ => .long 0))).heap[T.heap.size]? = some (mu_o (K 2) T.heap.size i) := by rw [State.heap_pushCell_of_lt (h := hlt)]; exact hout
    have X2 := X1.stored hc1 i (.ref (T.heap.size + 1 + i))
    rw [mu_o_set] at X2
    refine ⟨L ++ [⟨T.heap.size, i⟩], ?_, ?_, hvm, ?_, ?_, ?_, ?_⟩
    · have e3 : locs ++ (L ++ [(⟨T.heap.size, i⟩ : Loc)]) = locs ++ L ++ [⟨T.heap.size, i⟩] := by rw [List.append_assoc]
      have e4 : slots + 8 + (i + 1) * 100 = slots + 8 + i * 100 + 100 := by omega
      rw [e3, e4]
      exact X2
    · intro q hq
      rcases List.mem_append.mp hq with h | h
      · exact hL q h
      · rw [List.mem_singleton.mp h]
    · show (((mu_S K T i).pushCell _).setCell _ _).heap.size = _
      rw [size_setCell, size_pushCell]
      omega
    · exact State.heap_setCell_self hc1
    · intro j hj
      show (((mu_S K T i).pushCell _).setCell _ _).heap[_]? = _
      rw [State.heap_setCell_other (show T.heap.size ≠ T.heap.size + 1 + j by omega)]
      rcases Nat.lt_or_ge j i with h | h
      · have hlj : T.heap.size + 1 + j < (mu_S K T i).heap.size := by omega
        rw [State.heap_pushCell_of_lt (h := hlj)]
        exact hrow j h
      · have e5 : T.heap.size + 1 + j = (mu_S K T i).heap.size := by omega
        rw [e5]
        exact State.heap_pushCell_size _ _
    · intro a ha
      show (((mu_S K T i).pushCell _).setCell _ _).heap[a]? = _
      have hla : a < (mu_S K T i).heap.size := by omega
      rw [State.heap_setCell_other (Nat.ne_of_gt ha), State.heap_pushCell_of_lt (h := hla)]
      exact hold a ha
theorem mu_step {g : JFrame} {T : State} {i : Nat} {E : CtlPost} {d : Bool} {acts : List Action} {kA kC : Class} {cx : ClassId} {Q' : Unit → Pre} (X : Stand p l e R s m args below meth c T locs cells slots) (hkA : T.vm.classes[K 2]? = some kA) (hkindA : kA.kind = .array (K 1) (.array .long)) (hkC : T.vm.classes[K 1]? = some kC) (hkindC : kC.kind = .array cx .long) (hi : i < 8) (hcells : cells + 9 ≤ R.cells) (hslots : slots + 808 ≤ R.slots)
    (hn : ∀ d' acts', Q' () d' acts' ((mu_S K T (i + 1)).setTop g)) :
    wp (multianewarray.make (K 1) [100]) (fun a => wp (writeLoc T.heap.size i (.ref a)) Q' E e) E e d acts ((mu_S K T i).setTop g) := by
  obtain ⟨L, Xi, hL, hvm, hsz, hout, hrow, hold⟩ := mu_F K X i
  have hr := Xi.cellsAbove (n := 1) (by omega)
  have hr2 := Xi.slotsAbove (n := 100) (by omega)
  have hkC' : ((mu_S K T i).setTop g).vm.classes[K 1]? = some kC := by show (mu_S K T i).vm.classes[K 1]? = _; rw [hvm]; exact hkC
  rw [multianewarray.make]
  simp only [wp_bind', Jvm.W.ite, show ¬ (100 : Int32) < 0 by decide, if_false, wp_pure', Jvm.W.theClass, hkC', hkindC, Option.some.injEq, exists_eq_left']
  refine mu_arr hkC' hkindC (by rw [Launch.admits_arrayLengthLimit X.admits]; decide) (by rw [Launch.admits_maxHeapBytes X.admits]; decide) (by show (mu_S K T i).heap.size < _; omega) (by show (mu_S K T i).slotsUsed + 100 ≤ _; omega) rfl rfl ?_
  have hlt : T.heap.size < (mu_S K T i).heap.size := by omega
  have hc1 : ((mu_S K T i).pushCell (arrV (K 1) 100 (fun _ => .long 0))).heap[T.heap.size]? = some (mu_o (K 2) T.heap.size i) := by rw [State.heap_pushCell_of_lt (h := hlt)]; exact hout
  have e1 : (((mu_S K T i).setTop g).pushCell (arrV (K 1) 100 (fun _ => .long 0))) = ((mu_S K T i).pushCell (arrV (K 1) 100 (fun _ => .long 0))).setTop g := State.pushCell_setTop ..
  have e2 : ((mu_S K T i).setTop g).heap.size = T.heap.size + 1 + i := hsz
  have e3 : (100 : Int32).toNatClampNeg = 100 := by decide
  rw [e2, e3]
  simp only [defaultValue]
  rw [e1]
  simp only [Jvm.W.writeLoc]
  refine ⟨mu_o (K 2) T.heap.size i, hc1, by simp [mu_o, arrV], by rw [mu_o, arrV_size]; exact hi, ?_, ?_⟩
  · show State.fitsSlot _ (K 2) .none i _ = true
    have hkA' : (((mu_S K T i).pushCell (arrV (K 1) 100 (fun _ => .long 0))).setTop g).vm.classes[K 2]? = some kA := by show (mu_S K T i).vm.classes[K 2]? = _; rw [hvm]; exact hkA
    simp [State.fitsSlot, State.slotType?, hvm, hkA, hkindA, fits]
  · have h := hn d acts
    rw [mu_o_set]
    have e6 : (((mu_S K T i).pushCell (arrV (K 1) 100 (fun _ => .long 0))).setTop g).setCell T.heap.size (mu_o (K 2) T.heap.size (i + 1)) = (mu_S K T (i + 1)).setTop g := State.setCell_setTop ..
    rw [e6]
    exact hn _ _
/-- the cells of a grid, at the addresses hh 0 .. hh 8 -/
def mu_cs (K : Nat → ClassId) (hh : Nat → Nat) (f : Nat → Nat → Int64) : List va_W := [wGO K hh, wRow K (fun _ => hh 1) 100 (f 0), wRow K (fun _ => hh 2) 100 (f 1), wRow K (fun _ => hh 3) 100 (f 2), wRow K (fun _ => hh 4) 100 (f 3), wRow K (fun _ => hh 5) 100 (f 4), wRow K (fun _ => hh 6) 100 (f 5), wRow K (fun _ => hh 7) 100 (f 6), wRow K (fun _ => hh 8) 100 (f 7)]
theorem arrV_congr {cI : ClassId} {N : Nat} {f g : Nat → Value} (h : ∀ j, j < N → f j = g j) : arrV cI N f = arrV cI N g := by
  unfold arrV
  congr 2
  funext j
  exact h j.val j.isLt
theorem fl_app : ∀ (cs ds : List va_W), fl (cs ++ ds) = fl cs ++ fl ds
  | [], ds => rfl
  | c :: cs, ds => by
    show c ++ fl (cs ++ ds) = (c ++ fl cs) ++ fl ds
    rw [fl_app cs ds, List.append_assoc]
theorem mu_addr {K : Nat → ClassId} {h : Nat} {f : Nat → Nat → Int64} : ∀ (i : Nat) (q : Nat × va_E), (fl (mu_cs K (fun k => h + k) f))[i]? = some q → q.1 = h + i
  | 0, q, hq => by cases hq; rfl
  | 1, q, hq => by cases hq; rfl
  | 2, q, hq => by cases hq; rfl
  | 3, q, hq => by cases hq; rfl
  | 4, q, hq => by cases hq; rfl
  | 5, q, hq => by cases hq; rfl
  | 6, q, hq => by cases hq; rfl
  | 7, q, hq => by cases hq; rfl
  | 8, q, hq => by cases hq; rfl
  | i + 9, q, hq => by cases hq
theorem va_multi {own : String} {index : Nat} {cs : List va_W} (hexec : p.tables.exec = Jvm.exec) (hb : c.code = cc) (hown : s.vm.findClass own = some m.cls) (hclink : (Cond.classLink own index "[[J").before args s = true) (hK : va_K D vwCl (TY K) s) (hG : GK K s) (hP : va_P D vwCl (fl cs) H) (hD : va_D A (fl cs)) (hS : va_S A s.heap H locs) (hA : ∀ q : Nat, s.heap.size ≤ q → A q)
    (hcells : cells + 9 ≤ R.cells) (hslots : slots + 808 ≤ R.slots) (hdg : decode cc pc = .ok (.multianewarray index 2, 4))
    (kk : ∀ (hh : Nat → Nat) (H1 : Heap) (locs1 : List Loc), va_P D vwCl (fl (cs ++ mu_cs K hh (fun _ _ => 0))) H1 → va_D A (fl (cs ++ mu_cs K hh (fun _ _ => 0))) → va_S A s.heap H1 locs1 → W p l e R s m args below meth c H1 locs1 (cells + 9) (slots + 808) Q (F0 m (pc + 4) ls (.ref (hh 0) :: rest))) :
    W p l e R s m args below meth c H locs cells slots Q (F0 m pc ls (.int 100 :: .int 8 :: rest)) := by
  intro T hT X
  have hpl : e.platform.magicAccessors = ({} : Platform).magicAccessors := by rw [X.admits.platform]
  obtain ⟨c0, hfc0, hcl⟩ := Cond.classLink_spec hown hclink e.platform hpl
  have hK2 : s.vm.findClass "[[J" = some (K 2) := (hK.2 2 _ rfl).2
  cases hK2.symm.trans hfc0
  obtain ⟨hg₁, hwarm₁, hready₁⟩ := State.classEntry (e := e) X.warmed hcl
  generalize T.vm.noted m.cls index (.cls (K 2)) = vm₁ at hg₁ hwarm₁ hready₁
  obtain ⟨kA, hkA, hkindA⟩ := hG.moved (U := T.setVm vm₁) hwarm₁.alike
  obtain ⟨-, kC, hkC, cx, hkindC⟩ := arrOfT_moved (E := T.setVm vm₁) hwarm₁.alike (hK.2 1 _ rfl).1 100 (fun _ => .long 0)
  have X₁ := X.noted hwarm₁
  have hr := X.cellsAbove (n := 1) (by omega)
  have hr2 := X.slotsAbove (n := 8) (by omega)
  obtain ⟨L, X8, hL, hvm8, hsz8, hout8, hrow8, hold8⟩ := mu_F K X₁ 8
  have hh : (T.setVm vm₁).heap = H := hT
  rw [hh] at hL hsz8 hout8 hrow8 hold8
  have hlt : ∀ (k : Nat) (q : Nat × va_E), (fl cs)[k]? = some q → q.1 < H.size := fun k q hk => (hP k q hk).lt
  have hP8 : va_P D vwCl (fl (cs ++ mu_cs K (fun k => H.size + k) (fun _ _ => 0))) (mu_S K (T.setVm vm₁) 8).heap := by
    have row : ∀ k : Nat, k < 8 → (mu_S K (T.setVm vm₁) 8).heap[H.size + (k + 1)]? = some (vp_cell (K 1) (100, .inr (.inl (fun _ => 0)))) := fun k hk => by
      rw [show H.size + (k + 1) = H.size + 1 + k by omega]
      exact hrow8 k hk
    rw [fl_app]
    refine va_P.app (hP.kept fun k q hk => hold8 q.1 (hlt k q hk)) (fun k q hk => ?_)
    match k, hk with
    | 0, hk =>
      cases hk
      show (mu_S K (T.setVm vm₁) 8).heap[H.size + 0]? = some (vp_cell (K 2) (8, .inr (.inr (.inr (.inr (fun i => some (H.size + (i + 1))))))))
      rw [Nat.add_zero, hout8]
      congr 1
    | 1, hk => cases hk; exact row 0 (by omega)
    | 2, hk => cases hk; exact row 1 (by omega)
    | 3, hk => cases hk; exact row 2 (by omega)
    | 4, hk => cases hk; exact row 3 (by omega)
    | 5, hk => cases hk; exact row 4 (by omega)
    | 6, hk => cases hk; exact row 5 (by omega)
    | 7, hk => cases hk; exact row 6 (by omega)
    | 8, hk => cases hk; exact row 7 (by omega)
    | k + 9, hk => cases hk
  have hD8 : va_D A (fl (cs ++ mu_cs K (fun k => H.size + k) (fun _ _ => 0))) := by
    rw [fl_app]
    refine va_D.app hD ⟨fun i j x y hx hy hxy => ?_, fun k q hk => ?_⟩ (fun i j x y hx hy hxy => ?_)
    · have h1 := mu_addr i x hx
      have h2 := mu_addr j y hy
      omega
    · rw [mu_addr k q hk]
      exact hA _ (Nat.le_trans hS.1 (Nat.le_add_right _ _))
    · have h1 := hlt i x hx
      have h2 := mu_addr j y hy
      omega
  have hS8 : va_S A s.heap (mu_S K (T.setVm vm₁) 8).heap (locs ++ L) := by
    refine ⟨?_, fun q h1 h2 => (hold8 q (Nat.lt_of_lt_of_le h1 hS.1)).trans (hS.2.1 q h1 h2), fun q hq => ?_⟩
    · have := hS.1
      omega
    · rcases List.mem_append.mp hq with h | h
      · exact hS.2.2 q h
      · rw [hL q h]
        exact hA _ hS.1
  obtain ⟨t, a1, b1⟩ := kk (fun k => H.size + k) (mu_S K (T.setVm vm₁) 8).heap (locs ++ L) hP8 hD8 hS8 (mu_S K (T.setVm vm₁) 8) rfl X8
  refine ⟨t, ?_, b1⟩
  have hl1 : ¬ (8 : Int32).toNatClampNeg > e.platform.arrayLengthLimit := by rw [Launch.admits_arrayLengthLimit X.admits]; decide
  have hh1 : ¬ (8 : Int32).toNatClampNeg * componentBytes (.array .long) > e.platform.maxHeapBytes := by rw [Launch.admits_maxHeapBytes X.admits]; decide
  jvm_step X.here [hexec, hb, hdg]
  simp only [multianewarray.sem, wp_bind', Jvm.W.resolveClassAt_links (State.method?_setTop (F0 m pc ls (.int 100 :: .int 8 :: rest)) X.here.top) hg₁]
  rw [Jvm.W.popN, if_neg (by decide)]
  refine ⟨F0 m pc ls (.int 100 :: .int 8 :: rest), State.topJava?_setTop' (s := T.setVm vm₁) _ X.here.top, [.int 8, .int 100], rest, rfl, rfl, ?_⟩
  simp only [List.mapM_cons, List.mapM_nil, wp_bind', wp_pure']
  have eS : ((T.setTop (F0 m pc ls (.int 100 :: .int 8 :: rest))).setVm vm₁).setTop (F0 m pc ls rest) = (T.setVm vm₁).setTop (F0 m pc ls rest) := by
    show ((T.setVm vm₁).setTop _).setTop _ = _
    rw [State.setTop_setTop]
  have hkA' : ((T.setVm vm₁).setTop (F0 m pc ls rest)).vm.classes[K 2]? = some kA := hkA
  show wp (multianewarray.make (K 2) [8, 100]) _ _ e _ _ (((T.setTop (F0 m pc ls (.int 100 :: .int 8 :: rest))).setVm vm₁).setTop (F0 m pc ls rest))
  rw [eS, multianewarray.make]
  simp only [wp_bind', Jvm.W.ite, show ¬ (8 : Int32) < 0 by decide, if_false, wp_pure', Jvm.W.theClass, hkA', hkindA, Option.some.injEq, exists_eq_left']
  refine mu_arr hkA' hkindA hl1 hh1 (by show T.heap.size < _; omega) (by show T.slotsUsed + 8 ≤ _; omega) rfl rfl ?_
  rw [if_neg (by decide), wp_bind', Std.Legacy.Range.forIn_eq_forIn_range']
  have hrs : ([:(8 : Int32).toNatClampNeg] : Std.Legacy.Range).size = 8 := by decide
  rw [hrs]
  have e0 : ((T.setVm vm₁).setTop (F0 m pc ls rest)).pushCell (arrV (K 2) (Int32.toNatClampNeg 8) fun _ => Value.null) = (mu_S K (T.setVm vm₁) 0).setTop (F0 m pc ls rest) := State.pushCell_setTop ..
  rw [e0]
  show wp (forIn (List.range' 0 8 1) PUnit.unit _) _ _ e true [] _
  refine wp_forIn_inv (fun rst S => ∃ i, i ≤ 8 ∧ rst = List.range' i (8 - i) ∧ S = (mu_S K (T.setVm vm₁) i).setTop (F0 m pc ls rest)) _ _ ⟨0, by decide, rfl, rfl⟩ ?_ ?_
  · rintro x rst S d' acts' Q' ⟨i, hi, hll, rfl⟩ hnext
    have hlt8 : i < 8 := by
      rcases Nat.lt_or_ge i 8 with h | h
      · exact h
      · rw [show 8 - i = 0 by omega] at hll
        simp at hll
    rw [show 8 - i = (8 - (i + 1)) + 1 by omega, List.range'_succ] at hll
    obtain ⟨rfl, hrest⟩ : x = i ∧ rst = List.range' (i + 1) (8 - (i + 1)) := ⟨(List.cons.inj hll).1, (List.cons.inj hll).2⟩
    simp only [wp_bind', wp_pure']
    exact mu_step (T := T.setVm vm₁) (g := F0 m pc ls rest) (Q' := fun _ => Q' (ForInStep.yield PUnit.unit)) X₁ hkA hkindA hkC hkindC hlt8 hcells hslots (fun d2 a2 => hnext _ _ _ ⟨x + 1, hlt8, hrest, rfl⟩)
  · rintro S d' acts' ⟨i, hi, hll, rfl⟩
    have hi8 : i = 8 := by
      rcases Nat.lt_or_ge i 8 with h | h
      · rw [show 8 - i = (8 - (i + 1)) + 1 by omega, List.range'_succ] at hll
        cases hll
      · omega
    subst hi8
    simp only [wp_bind', wp_pure', Jvm.W.mark, Jvm.W.pushRef, State.topJava?_setTop' _ X8.here.top, Option.some.injEq, exists_eq_left', State.setTop_setTop, State.heap_setTop]
    intro acts
    simp [jvm, X8.here.top]
    rw [show T.heap.size = H.size + 0 by rw [← hT]; rfl]
    exact a1
end MU
