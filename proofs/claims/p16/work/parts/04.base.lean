-- what holds of static arrays and of nest mates all the time
def cE : Nat → Int32 := fun j => match j with
  | 0 => 400
  | 1 => 440
  | 2 => 460
  | _ => 480
def cL : Nat → Int32 := fun j => match j with
  | 0 => 431
  | 1 => 455
  | 2 => 468
  | _ => 487
/-- two classes of which the first is no kind of the second -/
def nC (a b : String) (U : State) : Prop := ∀ ca cb : ClassId, U.vm.findClass a = some ca → U.vm.findClass b = some cb → U.vm.assignable ca cb = false
theorem nC.moved {a b : String} {u U : State} (hvm : u.vm.Alike U.vm) (h : nC a b u) : nC a b U := fun ca cb h1 h2 => by
  rw [hvm.assignable]
  exact h ca cb (by rw [← hvm.findClass]; exact h1) (by rw [← hvm.findClass]; exact h2)
/-- a static of Throwable's that holds a reference or null, outside A -/
def Zt (n d : String) (A : Nat → Prop) (U : State) (H : Heap) : Prop := ∃ (c : ClassId) (k : Class) (i : Nat) (f : Field) (a : Nat) (cell : Cell) (v : Value), U.vm.findClass Bundle.tN = some c ∧ U.fieldFound? Bundle.tN n d = some (c, k, i, f) ∧ f.isStatic = true ∧ k.statics = some a ∧ k.staticTypes[f.slot]? = some f.type ∧ H[a]? = some cell ∧ cell.vm.isStatics = true ∧ cell.cls = c ∧ f.slot < cell.slots.size ∧ cell.slots[f.slot]? = some v ∧ v.isRef = true ∧ ¬ A a
theorem Zt.moved {n d : String} {A : Nat → Prop} {u U : State} {H : Heap} (hvm : u.vm.Alike U.vm) (h : Zt n d A u H) : Zt n d A U H := by
  obtain ⟨c, k, i, f, a, cell, v, h0, h1, h2, h3, h4, h5⟩ := h
  obtain ⟨k', hi', he⟩ := State.fieldFound?_setVm hvm h1
  exact ⟨c, k', i, f, a, cell, v, by rw [hvm.findClass]; exact h0, hi', h2, by rw [he]; exact h3, by rw [he]; exact h4, h5⟩
theorem Zt.kept {n d : String} {A : Nat → Prop} {U : State} {H H1 : Heap} (h : Zt n d A U H) (hq : ∀ a : Nat, a < H.size → ¬ A a → H1[a]? = H[a]?) : Zt n d A U H1 := by
  obtain ⟨c, k, i, f, a, cell, v, h0, h1, h2, h3, h4, h5, h6, h7, h8, h9, h10, h11⟩ := h
  exact ⟨c, k, i, f, a, cell, v, h0, h1, h2, h3, h4, by rw [hq a (Array.getElem?_eq_some_iff.mp h5).1 h11]; exact h5, h6, h7, h8, h9, h10, h11⟩
theorem Zt.narrow {n d : String} {A B : Nat → Prop} {U : State} {H : Heap} (h : Zt n d A U H) (hAB : ∀ q, B q → A q) : Zt n d B U H := by
  obtain ⟨c, k, i, f, a, cell, v, h0, h1, h2, h3, h4, h5, h6, h7, h8, h9, h10, h11⟩ := h
  exact ⟨c, k, i, f, a, cell, v, h0, h1, h2, h3, h4, h5, h6, h7, h8, h9, h10, fun z => h11 (hAB a z)⟩
theorem Zt.lays {n d : String} {A : Nat → Prop} {U : State} {args : Array Value} (h : Zt n d A U U.heap) : (Cond.laysStatic Bundle.tN n d).before args U = true := by
  obtain ⟨c, k, i, f, a, cell, v, h0, h1, h2, h3, h4, h5, h6, h7, h8, h9, h10, h11⟩ := h
  simp [Cond.before, Cond.holds, Cond.value, h0, h1, h2, h3, h4, h5, h6, h7, h8]
theorem Zt.isRef {n d : String} {A : Nat → Prop} {U : State} {args : Array Value} (h : Zt n d A U U.heap) : (Cond.isRef (.static Bundle.tN n d)).before args U = true := by
  obtain ⟨c, k, i, f, a, cell, v, h0, h1, h2, h3, h4, h5, h6, h7, h8, h9, h10, h11⟩ := h
  cases v <;> simp [Value.isRef] at h10 <;> simp [Cond.before, Cond.holds, Cond.value, Term.eval, State.fieldNamed?, h1, h2, h3, h5, h6, h9]
theorem Zt.of {n d : String} {A : Nat → Prop} {s : State} {args : Array Value} (hl : (Cond.laysStatic Bundle.tN n d).before args s = true) (h : (Cond.isRef (.static Bundle.tN n d)).before args s = true) (hA : ∀ a : Nat, a < s.heap.size → ¬ A a) : Zt n d A s s.heap := by
  obtain ⟨c, k, i, f, a, cell, hc, hi, hst, ha, hcell, hs, hcls, hlt, hty⟩ := Cond.laysStatic_spec hl
  cases hv : (Term.static Bundle.tN n d).eval args s none [] s with
  | none => simp [Cond.before, Cond.holds, Cond.value, hv] at h
  | some w =>
    obtain ⟨hst', a', cell', ha', hcell', -, hslot⟩ := Term.static_spec hi hv
    cases ha.symm.trans ha'
    cases hcell.symm.trans hcell'
    simp only [Cond.before, Cond.holds, Cond.value, hv] at h
    refine ⟨c, k, i, f, a, cell, w, hc, hi, hst, ha, hty, hcell, hs, hcls, hlt, hslot, ?_, hA a (Array.getElem?_eq_some_iff.mp hcell).1⟩
    cases w <;> first | rfl | (simp at h)
/-- what throwing needs: classes apart, String constants, Throwable's two statics -/
def SG (A : Nat → Prop) (U : State) (H : Heap) : Prop := (∀ q ∈ ncW, nC q.1 q.2 U) ∧ (∀ q ∈ strW, ∃ a : Nat, vk_R q.1 q.2.1 q.2.2 a U) ∧ Zt "UNASSIGNED_STACK" Bundle.steD A U H ∧ Zt "SUPPRESSED_SENTINEL" Bundle.listD A U H ∧ ∀ w ∈ ckW, va_Nw w U
theorem ckW_tab : ∀ w ∈ ckW, w.onTables = true ∧ w.faceAtom = true := by decide
def SF (A : Nat → Prop) (U : State) (H : Heap) : Prop := (∀ w ∈ nestW, va_Nw w U) ∧ SG A U H ∧ ∃ tE tL : Nat, va_Z "ObsMessages$Descriptors" "ENDS" "[I" (.ref tE) A U H ∧ va_T .int tE 4 (fun j => .int (cE j)) A U H ∧ va_Z "ObsMessages$Descriptors" "LASTS" "[I" (.ref tL) A U H ∧ va_T .int tL 4 (fun j => .int (cL j)) A U H
theorem SG.same {A : Nat → Prop} {u U : State} {H : Heap} (e : u.vm = U.vm) (h : SG A u H) : SG A U H := by
  obtain ⟨h1, h2, h3, h4, h5⟩ := h
  have hvm : u.vm.Alike U.vm := by rw [e]; exact Vm.Alike.refl U.vm
  exact ⟨fun q hq => (h1 q hq).moved hvm, fun q hq => (h2 q hq).imp fun _ z => z.same e.symm, h3.moved hvm, h4.moved hvm, fun w hw => va_Nw.same (ckW_tab w hw).1 e (h5 w hw)⟩
theorem SG.warm {A : Nat → Prop} {s U : State} {H : Heap} (hW : s.WarmedH U.vm) (h : SG A s H) : SG A U H := by
  obtain ⟨h1, h2, h3, h4, h5⟩ := h
  exact ⟨fun q hq => (h1 q hq).moved hW.alike, fun q hq => (h2 q hq).imp fun _ z => z.warm hW, h3.moved hW.alike, h4.moved hW.alike, fun w hw => va_tabs (ckW_tab w hw).1 (rfl : (s.setVm U.vm).vm = U.vm) (Cond.faceAtom_setVm hW.alike w (ckW_tab w hw).2 (h5 w hw))⟩
theorem SG.kept {A : Nat → Prop} {U : State} {H0 H : Heap} {locs : List Loc} (h : SG A U H0) (hS : va_S A H0 H locs) : SG A U H := by
  obtain ⟨h1, h2, h3, h4, h5⟩ := h
  exact ⟨h1, h2, h3.kept hS.2.1, h4.kept hS.2.1, h5⟩
theorem SG.narrow {A B : Nat → Prop} {U : State} {H : Heap} (h : SG A U H) (hAB : ∀ q, B q → A q) : SG B U H := by
  obtain ⟨h1, h2, h3, h4, h5⟩ := h
  exact ⟨h1, h2, h3.narrow hAB, h4.narrow hAB, h5⟩
theorem SF.same {A : Nat → Prop} {u U : State} {H : Heap} (e : u.vm = U.vm) (h : SF A u H) : SF A U H := by
  obtain ⟨h0, h5, tE, tL, h1, h2, h3, h4⟩ := h
  have hvm : u.vm.Alike U.vm := by rw [e]; exact Vm.Alike.refl U.vm
  exact ⟨fun w hw => va_Nw.same (nestW_tab w hw) e (h0 w hw), h5.same e, tE, tL, h1.moved hvm, h2.moved hvm, h3.moved hvm, h4.moved hvm⟩
theorem SF.warm {A : Nat → Prop} {s U : State} {H : Heap} (hW : s.WarmedH U.vm) (h : SF A s H) : SF A U H := by
  obtain ⟨h0, h5, tE, tL, h1, h2, h3, h4⟩ := h
  exact ⟨fun w hw => nestW_warm hW w hw (h0 w hw), h5.warm hW, tE, tL, h1.moved hW.alike, h2.moved hW.alike, h3.moved hW.alike, h4.moved hW.alike⟩
theorem SF.kept {A : Nat → Prop} {U : State} {H0 H : Heap} {locs : List Loc} (h : SF A U H0) (hS : va_S A H0 H locs) : SF A U H := by
  obtain ⟨h0, h5, tE, tL, h1, h2, h3, h4⟩ := h
  exact ⟨h0, h5.kept hS, tE, tL, h1.kept hS.2.1, h2.kept hS.2.1, h3.kept hS.2.1, h4.kept hS.2.1⟩
theorem SF.narrow {A B : Nat → Prop} {U : State} {H : Heap} (h : SF A U H) (hAB : ∀ q, B q → A q) : SF B U H := by
  obtain ⟨h0, h5, tE, tL, h1, h2, h3, h4⟩ := h
  exact ⟨h0, h5.narrow hAB, tE, tL, h1.narrow hAB, h2.narrow hAB, h3.narrow hAB, h4.narrow hAB⟩
-- option programs: guards, lets, binds
def o_gd {α : Type} (b : Bool) (k : Option α) : Option α := if b = true then k else none
def o_lt {α β : Type} (x : α) (f : α → β) : β := f x
def o_bd {α β : Type} (x : Option α) (f : α → Option β) : Option β := match x with
  | none => none
  | some a => f a
def o_in (i : Int32) (n : Nat) : Bool := !(decide (i < 0) || decide (n ≤ i.toNatClampNeg))
theorem o_gd_e {α : Type} {b : Bool} {k : Option α} {r : α} (h : o_gd b k = some r) : b = true ∧ k = some r := by
  unfold o_gd at h
  split at h
  · exact ⟨by assumption, h⟩
  · cases h
theorem o_in_e {i : Int32} {n : Nat} (h : o_in i n = true) : vp_in i n := by
  unfold o_in at h
  simp only [Bool.not_eq_true', Bool.or_eq_false_iff, decide_eq_false_iff_not] at h
  intro q
  rcases q with q | q
  · exact h.1 q
  · exact h.2 q
theorem o_gi_e {α : Type} {i : Int32} {n : Nat} {k : Option α} {r : α} (h : o_gd (o_in i n) k = some r) : vp_in i n ∧ k = some r := ⟨o_in_e (o_gd_e h).1, (o_gd_e h).2⟩
theorem o_lt_e {α β : Type} {x : α} {f : α → Option β} {r : β} (h : o_lt x f = some r) : ∃ y, y = x ∧ f y = some r := ⟨x, rfl, h⟩
theorem o_lt_a {α β : Type} {x y : α} {f : α → Option β} {r : β} (e : y = x) (h : o_lt x f = some r) : f y = some r := by subst e; exact h
theorem o_bd_e {α β : Type} {x : Option α} {f : α → Option β} {r : β} (h : o_bd x f = some r) : ∃ y, x = some y ∧ f y = some r := by
  cases x with
  | none => cases h
  | some a => exact ⟨a, rfl, h⟩
theorem o_t {α : Type} {c : Prop} [Decidable c] {a b : Option α} {r : α} (h : c) (hf : (if c then a else b) = some r) : a = some r := by rw [if_pos h] at hf; exact hf
theorem o_f {α : Type} {c : Prop} [Decidable c] {a b : Option α} {r : α} (h : ¬ c) (hf : (if c then a else b) = some r) : b = some r := by rw [if_neg h] at hf; exact hf
def o_bool (r : Int32) : Bool := decide (narrow .boolean (.int r) = .int r)
theorem o_gb_e {α : Type} {x : Int32} {k : Option α} {r : α} (h : o_gd (o_bool x) k = some r) : narrow .boolean (.int x) = .int x ∧ k = some r := ⟨of_decide_eq_true (o_gd_e h).1, (o_gd_e h).2⟩
theorem o_bfit {x : Int32} (h : narrow .boolean (.int x) = .int x) : fits .boolean (.int x) = true := by
  have h1 : x &&& 1 = x := Value.int.inj h
  obtain ⟨j, hj, e⟩ := pk_andE x (m := 1) 1 (by decide)
  rw [h1] at e
  have h2 : j = 0 ∨ j = 1 := by omega
  rcases h2 with rfl | rfl <;> subst e <;> rfl
def o_cp (sp dp n : Int32) (n0 n1 : Nat) : Bool := decide (¬ sp < 0) && (decide (¬ dp < 0) && (decide (¬ n < 0) && (decide (sp.toNatClampNeg + n.toNatClampNeg ≤ n0) && decide (dp.toNatClampNeg + n.toNatClampNeg ≤ n1))))
theorem o_cp_e {α : Type} {sp dp n : Int32} {n0 n1 : Nat} {k : Option α} {r : α} (h : o_gd (o_cp sp dp n n0 n1) k = some r) : (¬ sp < 0 ∧ ¬ dp < 0 ∧ ¬ n < 0 ∧ sp.toNatClampNeg + n.toNatClampNeg ≤ n0 ∧ dp.toNatClampNeg + n.toNatClampNeg ≤ n1) ∧ k = some r := by
  obtain ⟨h1, h2⟩ := o_gd_e h
  simp only [o_cp, Bool.and_eq_true, decide_eq_true_eq] at h1
  exact ⟨h1, h2⟩
theorem o_gn_e {α : Type} {a b : Nat} {k : Option α} {r : α} (h : o_gd (decide (a ≠ b)) k = some r) : a ≠ b ∧ k = some r := ⟨of_decide_eq_true (o_gd_e h).1, (o_gd_e h).2⟩
-- rows of a grid of eight
theorem gr8 {P : Nat → Prop} {k : Nat} (hk : k < 8) (h0 : P 0) (h1 : P 1) (h2 : P 2) (h3 : P 3) (h4 : P 4) (h5 : P 5) (h6 : P 6) (h7 : P 7) : P k := by
  match k, hk with
  | 0, _ => exact h0
  | 1, _ => exact h1
  | 2, _ => exact h2
  | 3, _ => exact h3
  | 4, _ => exact h4
  | 5, _ => exact h5
  | 6, _ => exact h6
  | 7, _ => exact h7
  | k + 8, h => exact absurd h (by omega)
theorem vp_lt {i : Int32} {n : Nat} (h : vp_in i n) : i.toNatClampNeg < n := Nat.not_le.mp fun q => h (Or.inr q)
def gr_up (s : Nat → Nat → Int64) (k j : Nat) (x : Int64) : Nat → Nat → Int64 := fun a => if a = k then vp_updL (s k) j x else s a
def gr_set (s : Nat → Nat → Int64) (k : Nat) (f : Nat → Int64) : Nat → Nat → Int64 := fun a => if a = k then f else s a
-- putting a callee's cells back into their places
def pb : va_W → List Nat → va_W → va_W
  | ws, i :: is, q :: w => pb (ws.set i q) is w
  | ws, _, _ => ws
theorem pb_at : ∀ (is : List Nat) (ws w : va_W) (k : Nat) (p : Nat × va_E), (pb ws is w)[k]? = some p → (∃ j : Nat, is[j]? = some k ∧ w[j]? = some p) ∨ (ws[k]? = some p ∧ ∀ j : Nat, is[j]? = some k → j < w.length → False)
  | [], ws, w, k, p, h => Or.inr ⟨by unfold pb at h; exact h, fun j hj => by simp at hj⟩
  | i :: is, ws, [], k, p, h => Or.inr ⟨by unfold pb at h; exact h, fun j _ hl => by simp at hl⟩
  | i :: is, ws, q :: w, k, p, h => by
    have h : (pb (ws.set i q) is w)[k]? = some p := by rw [pb] at h; exact h
    rcases pb_at is (ws.set i q) w k p h with ⟨j, h1, h2⟩ | ⟨h1, h2⟩
    · exact Or.inl ⟨j + 1, by simpa using h1, by simpa using h2⟩
    · by_cases hk : i = k
      · subst hk
        by_cases hl : i < ws.length
        · rw [List.getElem?_set_self hl] at h1
          exact Or.inl ⟨0, rfl, by simpa using h1⟩
        · rw [List.getElem?_eq_none (by simp; omega)] at h1
          cases h1
      · rw [List.getElem?_set_ne hk] at h1
        refine Or.inr ⟨h1, fun j hj hl => ?_⟩
        cases j with
        | zero => exact hk (by simpa using hj)
        | succ j => exact h2 j (by simpa using hj) (by simpa using hl)
theorem pb_map {is : List Nat} {ws wc : va_W} (h : is.map (fun i => ws[i]?) = wc.map some) {j k : Nat} (hj : is[j]? = some k) : ∃ q, wc[j]? = some q ∧ ws[k]? = some q := by
  have h1 : (is.map (fun i => ws[i]?))[j]? = some ws[k]? := by rw [List.getElem?_map, hj]; rfl
  rw [h, List.getElem?_map] at h1
  cases hc : wc[j]? with
  | none => rw [hc] at h1; cases h1
  | some q => rw [hc] at h1; exact ⟨q, rfl, (Option.some.inj h1).symm⟩
theorem pb_len {is : List Nat} {ws wc w1 : va_W} (h : is.map (fun i => ws[i]?) = wc.map some) (ha : w1.map (·.1) = wc.map (·.1)) : is.length = w1.length := by
  have h1 := congrArg List.length h
  have h2 := congrArg List.length ha
  simp at h1 h2
  omega
theorem pb_join {A0 : Nat → Prop} {D : va_G} {cl : List vw_C} {ws wc w1 : va_W} {H H1 : Heap} (hP : va_P D cl ws H) (hD : va_D A0 ws) (is : List Nat) (hC : is.map (fun i => ws[i]?) = wc.map some) (ha : w1.map (·.1) = wc.map (·.1))
    (hk : ∀ q : Nat, q < H.size → ¬ va_A wc H.size q → H1[q]? = H[q]?) (hP1 : va_P D cl w1 H1) : va_P D cl (pb ws is w1) H1 ∧ va_D A0 (pb ws is w1) := by
  have hl := pb_len hC ha
  have adr : ∀ (k : Nat) (p : Nat × va_E), (pb ws is w1)[k]? = some p → ∃ e, ws[k]? = some (p.1, e) := by
    intro k p h
    rcases pb_at is ws w1 k p h with ⟨j, h1, h2⟩ | ⟨h1, -⟩
    · obtain ⟨q, g1, g2⟩ := pb_map hC h1
      have h3 : (w1.map (·.1))[j]? = some p.1 := by rw [List.getElem?_map, h2]; rfl
      rw [ha, List.getElem?_map, g1] at h3
      have h4 : q.1 = p.1 := Option.some.inj h3
      exact ⟨q.2, by rw [← h4]; exact g2⟩
    · exact ⟨p.2, h1⟩
  refine ⟨fun k p h => ?_, fun i j x y hx hy hxy => ?_, fun k p h => ?_⟩
  · rcases pb_at is ws w1 k p h with ⟨j, h1, h2⟩ | ⟨h1, h2⟩
    · exact hP1 j p h2
    · refine (hP k p h1).kept (hk p.1 (hP k p h1).lt ?_)
      intro hA
      rcases hA with ⟨j, e, hj⟩ | hA
      · have hjl : j < is.length := by
          have := congrArg List.length hC
          simp at this
          have := (List.getElem?_eq_some_iff.mp hj).1
          omega
        obtain ⟨q, g1, g2⟩ := pb_map hC (List.getElem?_eq_getElem hjl)
        rw [hj] at g1
        cases g1
        have hki := hD.1 k is[j] p (p.1, e) h1 g2 rfl
        exact h2 j (by rw [hki]; exact List.getElem?_eq_getElem hjl) (by omega)
      · exact absurd (hP k p h1).lt (by omega)
  · obtain ⟨e1, g1⟩ := adr i x hx
    obtain ⟨e2, g2⟩ := adr j y hy
    exact hD.1 i j _ _ g1 g2 hxy
  · obtain ⟨e1, g1⟩ := adr k p h
    exact hD.2 k (p.1, e1) g1
-- contracts: from the cells w the method comes back with r, and the cells are w' (the same addresses)
abbrev TY (K : Nat → ClassId) : List (ClassId × FieldType) := [(K 0, .int), (K 1, .long), (K 2, .array .long), (K 3, .boolean)]
abbrev mPre (D : va_G) (K : Nat → ClassId) (av : List Value) (w : va_W) (sz : Nat) : Array Value → State → Prop := va_Pc av (fun U => U.heap.size = sz ∧ va_P D vwCl w U.heap ∧ va_K D vwCl (TY K) U ∧ va_D (fun _ => True) w ∧ SF (va_A w sz) U U.heap)
abbrev mEnd (D : va_G) (K : Nat → ClassId) (w' : va_W) : Unit → State → Prop := fun _ t => va_P D vwCl w' t.heap ∧ va_K D vwCl (TY K) t
def mi (l : Launch) (D : va_G) (K : Nat → ClassId) (y : MethodName) (ws : List Cond) (rm : Room) (av : List Value) (w w' : va_W) (r : Int32) : Prop := ∀ sz, Met l y ws rm (mPre D K av w sz) (va_Qi (fun r2 _ => r2 = r) (mEnd D K w') (va_A w sz)) 0 0 (va_A w sz)
def ml (l : Launch) (D : va_G) (K : Nat → ClassId) (y : MethodName) (ws : List Cond) (rm : Room) (av : List Value) (w w' : va_W) (r : Int64) : Prop := ∀ sz, Met l y ws rm (mPre D K av w sz) (va_Ql (fun r2 _ => r2 = r) (mEnd D K w') (va_A w sz)) 0 0 (va_A w sz)
def mv (l : Launch) (D : va_G) (K : Nat → ClassId) (y : MethodName) (ws : List Cond) (rm : Room) (av : List Value) (w w' : va_W) : Prop := ∀ sz, Met l y ws rm (mPre D K av w sz) (va_Qv (fun _ => True) (mEnd D K w') (va_A w sz)) 0 0 (va_A w sz)
def Qi (below : List Frame) (args : Array Value) (s : State) (D : va_G) (K : Nat → ClassId) (A : Nat → Prop) (w' : va_W) (r : Int32) : State → Prop := MQ below (va_Qi (fun r2 _ => r2 = r) (mEnd D K w') A) args s 0 0 A
def Ql (below : List Frame) (args : Array Value) (s : State) (D : va_G) (K : Nat → ClassId) (A : Nat → Prop) (w' : va_W) (r : Int64) : State → Prop := MQ below (va_Ql (fun r2 _ => r2 = r) (mEnd D K w') A) args s 0 0 A
def Qv (below : List Frame) (args : Array Value) (s : State) (D : va_G) (K : Nat → ClassId) (A : Nat → Prop) (w' : va_W) : State → Prop := MQ below (va_Qv (fun _ => True) (mEnd D K w') A) args s 0 0 A
/-- what holds all through a method's walk -/
def Cx (p : Program) (s : State) (m : MethodId) (args : Array Value) (meth : Method) (c : Code) (cc : ByteArray) (nL : Nat) (own : String) (ws : List Cond) (ret : Option FieldType) (D : va_G) (K : Nat → ClassId) (A : Nat → Prop) : Prop :=
  p.tables.exec = Jvm.exec ∧ c.code = cc ∧ c.maxLocals = nL ∧ s.vm.findClass own = some m.cls ∧ (∀ w ∈ ws, w.before args s = true) ∧ meth.sig.returnType = ret ∧ meth.locks = false ∧ va_K D vwCl (TY K) s ∧ SF A s s.heap ∧ ∀ q : Nat, s.heap.size ≤ q → A q
theorem lk_eq (x y : Int64) : lg_cmp x y = 0 ↔ x = y := by
  unfold lg_cmp
  by_cases h1 : x > y
  · simp only [h1, if_true]
    constructor
    · intro h; exact absurd h (by decide)
    · intro h; subst h; exact absurd h1 (Int64.lt_irrefl)
  · by_cases h2 : x = y
    · simp [h2]
    · simp only [h1, h2, if_false, iff_false]; decide
theorem lk_ne (x y : Int64) : lg_cmp x y = 0 ↔ x = y := lk_eq x y
theorem lk_ge (x y : Int64) : 0 ≤ lg_cmp x y ↔ y ≤ x := lg_cmp_ge x y
theorem lk_lt (x y : Int64) : lg_cmp x y < 0 ↔ x < y := by
  rw [← Int32.not_le, lk_ge, Int64.not_le]
theorem lk_gt (x y : Int64) : 0 < lg_cmp x y ↔ y < x := by
  unfold lg_cmp
  by_cases h1 : x > y
  · rw [if_pos h1]
    exact ⟨fun _ => h1, fun _ => by decide⟩
  · rw [if_neg h1]
    by_cases h2 : x = y
    · rw [if_pos h2]
      exact ⟨fun h => absurd h (by decide), fun h => absurd h h1⟩
    · rw [if_neg h2]
      exact ⟨fun h => absurd h (by decide), fun h => absurd h h1⟩
theorem lk_le (x y : Int64) : lg_cmp x y ≤ 0 ↔ x ≤ y := by
  rw [← Int32.not_lt, lk_gt, Int64.not_lt]
section MOF
variable {l : Launch} {D : va_G} {K : Nat → ClassId} {y : MethodName} {ws ws' : List Cond} {rm : Room} {av : List Value} {w w' : va_W} {cc : ByteArray} {maxL : Nat} {own : String}
theorem mi_of {r : Int32} {ty : FieldType} (hy : plainName y.cls = true) (hw : ws = Cond.code y cc maxL (some ty) :: ws') (ho : y.cls = own) (hn : (lg_sl av).length ≤ maxL)
    (body : ∀ (p : Program) (e : Env) (s : State) (m : MethodId) (below : List Frame) (meth : Method) (c : Code) (A : Nat → Prop) (ls : Array Slot), Cx p s m av.toArray meth c cc maxL own ws (some ty) D K A → va_P D vwCl w s.heap → va_D A w → va_S A s.heap s.heap [] → lv_has ls maxL (lv_args 0 av) →
      W p l e rm s m av.toArray below meth c s.heap [] 0 0 (Qi below av.toArray s D K A w' r) (F0 m 0 ls [])) : mi l D K y ws rm av w w' r := by
  intro sz
  refine Met.ofW (cc := cc) (maxL := maxL) (ret := some ty) hy hw ?_
  intro p e s m args below meth c s₁ B hml hv
  obtain ⟨rfl, hsz, hP, hK, hD0, hF⟩ := hv
  subst hsz
  have hown : s.vm.findClass own = some m.cls := by rw [← ho]; exact findClass_of_methodNamed B.named
  have hl := lv_entry av (n := maxL) hn
  rw [lg_entry_eq]
  exact body p e s m below meth c _ _ ⟨B.exec, B.bytes, hml, hown, atoms_spec (ws := ws) B.pre, B.returns, B.notSynchronized, hK, hF, fun q h => Or.inr h⟩ hP (hD0.self (sz := s.heap.size)) va_S.rf hl
theorem ml_of {r : Int64} (hy : plainName y.cls = true) (hw : ws = Cond.code y cc maxL (some .long) :: ws') (ho : y.cls = own) (hn : (lg_sl av).length ≤ maxL)
    (body : ∀ (p : Program) (e : Env) (s : State) (m : MethodId) (below : List Frame) (meth : Method) (c : Code) (A : Nat → Prop) (ls : Array Slot), Cx p s m av.toArray meth c cc maxL own ws (some .long) D K A → va_P D vwCl w s.heap → va_D A w → va_S A s.heap s.heap [] → lv_has ls maxL (lv_args 0 av) →
      W p l e rm s m av.toArray below meth c s.heap [] 0 0 (Ql below av.toArray s D K A w' r) (F0 m 0 ls [])) : ml l D K y ws rm av w w' r := by
  intro sz
  refine Met.ofW (cc := cc) (maxL := maxL) (ret := some .long) hy hw ?_
  intro p e s m args below meth c s₁ B hml hv
  obtain ⟨rfl, hsz, hP, hK, hD0, hF⟩ := hv
  subst hsz
  have hown : s.vm.findClass own = some m.cls := by rw [← ho]; exact findClass_of_methodNamed B.named
  have hl := lv_entry av (n := maxL) hn
  rw [lg_entry_eq]
  exact body p e s m below meth c _ _ ⟨B.exec, B.bytes, hml, hown, atoms_spec (ws := ws) B.pre, B.returns, B.notSynchronized, hK, hF, fun q h => Or.inr h⟩ hP (hD0.self (sz := s.heap.size)) va_S.rf hl
theorem mv_of (hy : plainName y.cls = true) (hw : ws = Cond.code y cc maxL none :: ws') (ho : y.cls = own) (hn : (lg_sl av).length ≤ maxL)
    (body : ∀ (p : Program) (e : Env) (s : State) (m : MethodId) (below : List Frame) (meth : Method) (c : Code) (A : Nat → Prop) (ls : Array Slot), Cx p s m av.toArray meth c cc maxL own ws none D K A → va_P D vwCl w s.heap → va_D A w → va_S A s.heap s.heap [] → lv_has ls maxL (lv_args 0 av) →
      W p l e rm s m av.toArray below meth c s.heap [] 0 0 (Qv below av.toArray s D K A w') (F0 m 0 ls [])) : mv l D K y ws rm av w w' := by
  intro sz
  refine Met.ofW (cc := cc) (maxL := maxL) (ret := none) hy hw ?_
  intro p e s m args below meth c s₁ B hml hv
  obtain ⟨rfl, hsz, hP, hK, hD0, hF⟩ := hv
  subst hsz
  have hown : s.vm.findClass own = some m.cls := by rw [← ho]; exact findClass_of_methodNamed B.named
  have hl := lv_entry av (n := maxL) hn
  rw [lg_entry_eq]
  exact body p e s m below meth c _ _ ⟨B.exec, B.bytes, hml, hown, atoms_spec (ws := ws) B.pre, B.returns, B.notSynchronized, hK, hF, fun q h => Or.inr h⟩ hP (hD0.self (sz := s.heap.size)) va_S.rf hl
end MOF
section MRW
variable {p : Program} {l : Launch} {e : Env} {R : Room} {s : State} {m : MethodId} {args : Array Value} {below : List Frame} {meth : Method} {c : Code} {H : Heap} {locs : List Loc} {cells slots : Nat} {Q : State → Prop}
variable {cc : ByteArray} {pc : Nat} {ls : Array Slot} {rest : List Value} {D : va_G} {K : Nat → ClassId} {A : Nat → Prop} {w' : va_W}
theorem ret_i {r : Int32} (hexec : p.tables.exec = Jvm.exec) (hb : c.code = cc) (hr : meth.sig.returnType = some .int) (hlocks : meth.locks = false) (hK : va_K D vwCl (TY K) s) (hP : va_P D vwCl w' H) (hS : va_S A s.heap H locs) (hdg : decode cc pc = .ok (.ireturn, 1)) :
    W p l e R s m args below meth c H locs 0 0 (Qi below args s D K A w' r) (F0 m pc ls [.int r]) :=
  W.iret (v := r) hexec hb hr (fun t ht hW => ⟨⟨r, (), rfl, rfl, by rw [ht]; exact hP, va_K.moved hW.alike hK⟩, hS.F ht⟩) hS.2.2 hdg hlocks
theorem ret_z {r : Int32} (hexec : p.tables.exec = Jvm.exec) (hb : c.code = cc) (hr : meth.sig.returnType = some .boolean) (hlocks : meth.locks = false) (hK : va_K D vwCl (TY K) s) (hP : va_P D vwCl w' H) (hS : va_S A s.heap H locs) (hn : narrow .boolean (.int r) = .int r) (hdg : decode cc pc = .ok (.ireturn, 1)) :
    W p l e R s m args below meth c H locs 0 0 (Qi below args s D K A w' r) (F0 m pc ls [.int r]) :=
  W.zret (v := r) hexec hb hr hn (fun t ht hW => ⟨⟨r, (), rfl, rfl, by rw [ht]; exact hP, va_K.moved hW.alike hK⟩, hS.F ht⟩) hS.2.2 hdg hlocks
theorem ret_l {r : Int64} (hexec : p.tables.exec = Jvm.exec) (hb : c.code = cc) (hr : meth.sig.returnType = some .long) (hlocks : meth.locks = false) (hK : va_K D vwCl (TY K) s) (hP : va_P D vwCl w' H) (hS : va_S A s.heap H locs) (hdg : decode cc pc = .ok (.lreturn, 1)) :
    W p l e R s m args below meth c H locs 0 0 (Ql below args s D K A w' r) (F0 m pc ls [.long r]) :=
  W.lret (v := r) hexec hb hr (fun t ht hW => ⟨⟨r, (), rfl, rfl, by rw [ht]; exact hP, va_K.moved hW.alike hK⟩, hS.F ht⟩) hS.2.2 hdg hlocks
theorem ret_v (hexec : p.tables.exec = Jvm.exec) (hb : c.code = cc) (hr : meth.sig.returnType = none) (hlocks : meth.locks = false) (hK : va_K D vwCl (TY K) s) (hP : va_P D vwCl w' H) (hS : va_S A s.heap H locs) (hdg : decode cc pc = .ok (.return_, 1)) :
    W p l e R s m args below meth c H locs 0 0 (Qv below args s D K A w') (F0 m pc ls []) :=
  W.vret hexec hb hr (fun t ht hW => ⟨⟨(), rfl, trivial, by rw [ht]; exact hP, va_K.moved hW.alike hK⟩, hS.F ht⟩) hS.2.2 hdg hlocks
theorem mPre_blind {av : List Value} {w : va_W} {sz : Nat} : FrameBlind (mPre D K av w sz) := fun a U g mk q => by
  obtain ⟨q0, q1, qP, qK, qD, qF⟩ := q
  exact ⟨q0, q1, qP, va_K.moved (u := U) (U := U.calling g mk a) (Vm.Alike.refl U.vm) qK, qD, SF.same (u := U) (U := U.calling g mk a) rfl qF⟩
/-- a callee's start, out of the caller's cells -/
theorem mPre_at {ws wc : va_W} {av : List Value} (hK : va_K D vwCl (TY K) s) (hF : SF A s s.heap) (hA : ∀ q : Nat, s.heap.size ≤ q → A q) (hP : va_P D vwCl ws H) (hD : va_D A ws) (hS : va_S A s.heap H locs) (is : List Nat) (hC : is.map (fun i => ws[i]?) = wc.map some) (hn : va_nd is = true) :
    ∀ U : State, U.heap = H → s.WarmedH U.vm → mPre D K av wc H.size av.toArray U := by
  intro U hU hW
  have hFr := va_free hD hS hA is hC
  have hPc : va_P D vwCl wc H := by
    intro k q hk
    have h1 : (wc.map some)[k]? = some (some q) := by rw [List.getElem?_map, hk]; rfl
    rw [← hC, List.getElem?_map] at h1
    cases hi : is[k]? with
    | none => rw [hi] at h1; cases h1
    | some i => rw [hi] at h1; exact hP i q (Option.some.inj h1)
  exact ⟨rfl, by rw [hU], by rw [hU]; exact hPc, va_K.moved hW.alike hK, (hD.sub is hn hC).weaken (fun _ _ _ _ => trivial), by rw [hU]; exact SF.narrow (SF.kept (SF.warm hW hF) hS) hFr⟩
theorem go_i {av : List Value} {wc w1 ws : va_W} {r : Int32} {st0 : List Value} (hr : va_Run p l e R s m args below meth c H locs cells slots 0 0 (F0 m pc ls st0) rest (va_Qi (fun r2 _ => r2 = r) (mEnd D K w1) (va_A wc H.size) av.toArray) (va_A wc H.size)) (hA : ∀ q : Nat, s.heap.size ≤ q → A q) (hP : va_P D vwCl ws H) (hD : va_D A ws) (hS : va_S A s.heap H locs) (is : List Nat) (hC : is.map (fun i => ws[i]?) = wc.map some) (ha : w1.map (·.1) = wc.map (·.1))
    (kk : ∀ (H1 : Heap) (locs1 : List Loc), va_P D vwCl (pb ws is w1) H1 → va_D A (pb ws is w1) → va_S A s.heap H1 locs1 → W p l e R s m args below meth c H1 locs1 cells slots Q (F0 m (pc + 3) ls (.int r :: rest))) : W p l e R s m args below meth c H locs cells slots Q (F0 m pc ls st0) := by
  have hFr := va_free hD hS hA is hC
  refine va_calli hr hS (fun q _ h => hFr q h) hFr (fun r2 u t H1 locs1 ht hvm hw hB hz1 hk1 hS1 => ?_)
  subst hw
  obtain ⟨h1, h2⟩ := pb_join hP hD is hC ha hk1 (by rw [← ht]; exact hB.1)
  exact kk H1 locs1 h1 h2 hS1
theorem go_l {av : List Value} {wc w1 ws : va_W} {r : Int64} {st0 : List Value} (hr : va_Run p l e R s m args below meth c H locs cells slots 0 0 (F0 m pc ls st0) rest (va_Ql (fun r2 _ => r2 = r) (mEnd D K w1) (va_A wc H.size) av.toArray) (va_A wc H.size)) (hA : ∀ q : Nat, s.heap.size ≤ q → A q) (hP : va_P D vwCl ws H) (hD : va_D A ws) (hS : va_S A s.heap H locs) (is : List Nat) (hC : is.map (fun i => ws[i]?) = wc.map some) (ha : w1.map (·.1) = wc.map (·.1))
    (kk : ∀ (H1 : Heap) (locs1 : List Loc), va_P D vwCl (pb ws is w1) H1 → va_D A (pb ws is w1) → va_S A s.heap H1 locs1 → W p l e R s m args below meth c H1 locs1 cells slots Q (F0 m (pc + 3) ls (.long r :: rest))) : W p l e R s m args below meth c H locs cells slots Q (F0 m pc ls st0) := by
  have hFr := va_free hD hS hA is hC
  refine va_calll hr hS (fun q _ h => hFr q h) hFr (fun r2 u t H1 locs1 ht hvm hw hB hz1 hk1 hS1 => ?_)
  subst hw
  obtain ⟨h1, h2⟩ := pb_join hP hD is hC ha hk1 (by rw [← ht]; exact hB.1)
  exact kk H1 locs1 h1 h2 hS1
theorem go_v {av : List Value} {wc w1 ws : va_W} {st0 : List Value} (hr : va_Run p l e R s m args below meth c H locs cells slots 0 0 (F0 m pc ls st0) rest (va_Qv (fun _ => True) (mEnd D K w1) (va_A wc H.size) av.toArray) (va_A wc H.size)) (hA : ∀ q : Nat, s.heap.size ≤ q → A q) (hP : va_P D vwCl ws H) (hD : va_D A ws) (hS : va_S A s.heap H locs) (is : List Nat) (hC : is.map (fun i => ws[i]?) = wc.map some) (ha : w1.map (·.1) = wc.map (·.1))
    (kk : ∀ (H1 : Heap) (locs1 : List Loc), va_P D vwCl (pb ws is w1) H1 → va_D A (pb ws is w1) → va_S A s.heap H1 locs1 → W p l e R s m args below meth c H1 locs1 cells slots Q (F0 m (pc + 3) ls rest)) : W p l e R s m args below meth c H locs cells slots Q (F0 m pc ls st0) := by
  have hFr := va_free hD hS hA is hC
  refine va_callv hr hS (fun q _ h => hFr q h) hFr (fun u t H1 locs1 ht hvm hw hB hz1 hk1 hS1 => ?_)
  obtain ⟨h1, h2⟩ := pb_join hP hD is hC ha hk1 (by rw [← ht]; exact hB.1)
  exact kk H1 locs1 h1 h2 hS1
theorem va_aldg {cl : List vw_C} {tys : List (ClassId × FieldType)} {ws : va_W} {a : Nat} (hexec : p.tables.exec = Jvm.exec) (hb : c.code = cc) (hK : va_K D cl tys s) (hP : va_P D cl ws H) (q0 t0 : Nat) {cA : ClassId} {n : Nat} {f : Nat → Option Nat} (ha : ws[q0]? = some (a, .inl (cA, n, .inr (.inr (.inr (.inr f)))))) (ht : tys[t0]? = some (cA, .array .long)) {i : Int32} (hin : vp_in i n) (hdg : decode cc pc = .ok (.aaload, 1))
    (kk : W p l e R s m args below meth c H locs cells slots Q (F0 m (pc + 1) ls (va_rf (f i.toNatClampNeg) :: rest))) : W p l e R s m args below meth c H locs cells slots Q (F0 m pc ls (.int i :: .ref a :: rest)) := by
  have hlt : i.toNatClampNeg < n := Nat.not_le.mp fun q => hin (Or.inr q)
  exact W.aald (v := va_rf (f i.toNatClampNeg)) (ty := .array .long) hexec hb (hP q0 _ ha) ((hK.2 t0 _ ht).1 n (fun j => va_rf (f j))) rfl (fun q => by cases q) (by show ¬ (i < 0 ∨ (arrV _ _ _).slots.size ≤ _); rw [arrV_size]; exact hin) (by show (arrV _ _ _).slots[_]? = _; rw [arrV_read _ _ hlt]) rfl rfl hdg kk
-- a compare of longs and the branch behind it
theorem lc_eq {x y : Int64} {off : Int} {tgt : Nat} (hexec : p.tables.exec = Jvm.exec) (hb : c.code = cc) (d1 : decode cc pc = .ok (.lcmp, 1)) (d2 : decode cc (pc + 1) = .ok (.ifCond .eq off, 3)) (ht : ((pc + 1 : Nat) : Int) + off = (tgt : Int)) (kt : x = y → W p l e R s m args below meth c H locs cells slots Q (F0 m tgt ls rest)) (kf : ¬ x = y → W p l e R s m args below meth c H locs cells slots Q (F0 m (pc + 1 + 3) ls rest)) : W p l e R s m args below meth c H locs cells slots Q (F0 m pc ls (.long y :: .long x :: rest)) :=
  W.lcmp hexec hb d1 (lv_if_eq hexec hb d2 ht (fun h => kt (by first | exact (lk_eq x y).mp h | exact fun z => h ((lk_eq x y).mpr z))) (fun h => kf (by first | exact (lk_eq x y).mp h | exact fun z => h ((lk_eq x y).mpr z))))
theorem lc_ne {x y : Int64} {off : Int} {tgt : Nat} (hexec : p.tables.exec = Jvm.exec) (hb : c.code = cc) (d1 : decode cc pc = .ok (.lcmp, 1)) (d2 : decode cc (pc + 1) = .ok (.ifCond .ne off, 3)) (ht : ((pc + 1 : Nat) : Int) + off = (tgt : Int)) (kt : ¬ x = y → W p l e R s m args below meth c H locs cells slots Q (F0 m tgt ls rest)) (kf : x = y → W p l e R s m args below meth c H locs cells slots Q (F0 m (pc + 1 + 3) ls rest)) : W p l e R s m args below meth c H locs cells slots Q (F0 m pc ls (.long y :: .long x :: rest)) :=
  W.lcmp hexec hb d1 (lv_if_ne hexec hb d2 ht (fun h => kt (by first | exact (lk_ne x y).mp h | exact fun z => h ((lk_ne x y).mpr z))) (fun h => kf (by first | exact (lk_ne x y).mp h | exact fun z => h ((lk_ne x y).mpr z))))
theorem lc_lt {x y : Int64} {off : Int} {tgt : Nat} (hexec : p.tables.exec = Jvm.exec) (hb : c.code = cc) (d1 : decode cc pc = .ok (.lcmp, 1)) (d2 : decode cc (pc + 1) = .ok (.ifCond .lt off, 3)) (ht : ((pc + 1 : Nat) : Int) + off = (tgt : Int)) (kt : x < y → W p l e R s m args below meth c H locs cells slots Q (F0 m tgt ls rest)) (kf : ¬ x < y → W p l e R s m args below meth c H locs cells slots Q (F0 m (pc + 1 + 3) ls rest)) : W p l e R s m args below meth c H locs cells slots Q (F0 m pc ls (.long y :: .long x :: rest)) :=
  W.lcmp hexec hb d1 (lv_if_lt hexec hb d2 ht (fun h => kt (by first | exact (lk_lt x y).mp h | exact fun z => h ((lk_lt x y).mpr z))) (fun h => kf (by first | exact (lk_lt x y).mp h | exact fun z => h ((lk_lt x y).mpr z))))
theorem lc_ge {x y : Int64} {off : Int} {tgt : Nat} (hexec : p.tables.exec = Jvm.exec) (hb : c.code = cc) (d1 : decode cc pc = .ok (.lcmp, 1)) (d2 : decode cc (pc + 1) = .ok (.ifCond .ge off, 3)) (ht : ((pc + 1 : Nat) : Int) + off = (tgt : Int)) (kt : y ≤ x → W p l e R s m args below meth c H locs cells slots Q (F0 m tgt ls rest)) (kf : ¬ y ≤ x → W p l e R s m args below meth c H locs cells slots Q (F0 m (pc + 1 + 3) ls rest)) : W p l e R s m args below meth c H locs cells slots Q (F0 m pc ls (.long y :: .long x :: rest)) :=
  W.lcmp hexec hb d1 (lv_if_ge hexec hb d2 ht (fun h => kt (by first | exact (lk_ge x y).mp h | exact fun z => h ((lk_ge x y).mpr z))) (fun h => kf (by first | exact (lk_ge x y).mp h | exact fun z => h ((lk_ge x y).mpr z))))
theorem lc_gt {x y : Int64} {off : Int} {tgt : Nat} (hexec : p.tables.exec = Jvm.exec) (hb : c.code = cc) (d1 : decode cc pc = .ok (.lcmp, 1)) (d2 : decode cc (pc + 1) = .ok (.ifCond .gt off, 3)) (ht : ((pc + 1 : Nat) : Int) + off = (tgt : Int)) (kt : y < x → W p l e R s m args below meth c H locs cells slots Q (F0 m tgt ls rest)) (kf : ¬ y < x → W p l e R s m args below meth c H locs cells slots Q (F0 m (pc + 1 + 3) ls rest)) : W p l e R s m args below meth c H locs cells slots Q (F0 m pc ls (.long y :: .long x :: rest)) :=
  W.lcmp hexec hb d1 (lv_if_gt hexec hb d2 ht (fun h => kt (by first | exact (lk_gt x y).mp h | exact fun z => h ((lk_gt x y).mpr z))) (fun h => kf (by first | exact (lk_gt x y).mp h | exact fun z => h ((lk_gt x y).mpr z))))
theorem lc_le {x y : Int64} {off : Int} {tgt : Nat} (hexec : p.tables.exec = Jvm.exec) (hb : c.code = cc) (d1 : decode cc pc = .ok (.lcmp, 1)) (d2 : decode cc (pc + 1) = .ok (.ifCond .le off, 3)) (ht : ((pc + 1 : Nat) : Int) + off = (tgt : Int)) (kt : x ≤ y → W p l e R s m args below meth c H locs cells slots Q (F0 m tgt ls rest)) (kf : ¬ x ≤ y → W p l e R s m args below meth c H locs cells slots Q (F0 m (pc + 1 + 3) ls rest)) : W p l e R s m args below meth c H locs cells slots Q (F0 m pc ls (.long y :: .long x :: rest)) :=
  W.lcmp hexec hb d1 (lv_if_le hexec hb d2 ht (fun h => kt (by first | exact (lk_le x y).mp h | exact fun z => h ((lk_le x y).mpr z))) (fun h => kf (by first | exact (lk_le x y).mp h | exact fun z => h ((lk_le x y).mpr z))))
end MRW
