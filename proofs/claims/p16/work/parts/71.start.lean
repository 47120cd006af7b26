theorem tw_22 : (Cond.classLink "ObsMessagesLaw" (8 : Nat) "ObsMessages") ∈ tb := tb_memk tpc_1 22 rfl rfl
theorem tw_23 : (Cond.instantiable "ObsMessages" (10 : Nat)) ∈ tb := tb_memk tpc_1 23 rfl rfl
theorem tw_24 : (Cond.methodLink "ObsMessagesLaw" (60 : Nat) ({ cls := "ObsMessages", name := "<init>", desc := "()V" } : MethodName)) ∈ tb := tb_memk tpc_1 24 rfl rfl
theorem tw_25 : (Cond.instanceMethod ({ cls := "ObsMessages", name := "<init>", desc := "()V" } : MethodName)) ∈ tb := tb_memk tpc_1 25 rfl rfl
theorem tw_26 : (Cond.code ({ cls := "ObsMessages", name := "<init>", desc := "()V" } : MethodName) prog_1_method_1_code (2 : Nat) (Option.none : Option FieldType)) ∈ tb := tb_memk tpc_1 26 rfl rfl
theorem tw_1085 : (Cond.classLink "ObsMessagesLaw" (61 : Nat) "ObsMessagesModel") ∈ tb := tb_memk tpc_5 125 rfl rfl
theorem tw_1086 : (Cond.instantiable "ObsMessagesModel" (61 : Nat)) ∈ tb := tb_memk tpc_5 126 rfl rfl
theorem tw_1087 : (Cond.methodLink "ObsMessagesLaw" (63 : Nat) ({ cls := "ObsMessagesModel", name := "<init>", desc := "()V" } : MethodName)) ∈ tb := tb_memk tpc_5 127 rfl rfl
theorem tw_1088 : (Cond.instanceMethod ({ cls := "ObsMessagesModel", name := "<init>", desc := "()V" } : MethodName)) ∈ tb := tb_memk tpc_5 128 rfl rfl
theorem tw_1089 : (Cond.code ({ cls := "ObsMessagesModel", name := "<init>", desc := "()V" } : MethodName) prog_14_method_1_code (2 : Nat) (Option.none : Option FieldType)) ∈ tb := tb_memk tpc_5 129 rfl rfl
-- what the Statement gives of the start
theorem nestW_in : ∀ w ∈ nestW, w ∈ lw_tbl := by decide +kernel
theorem ckW_in : ∀ w ∈ ckW, w ∈ lw_tbl := by decide +kernel
theorem strW_in : ∀ q ∈ strW, Cond.stringRef q.1 q.2.1 q.2.2 ∈ lw_tbl ∧ q.1 = "ObsMessages" := by decide +kernel
theorem ncW_in : ∀ q ∈ ncW, Cond.not (.castable q.1 q.2) ∈ flatC (Jvm.Cond.and given_1 narrow_1) := by decide +kernel
theorem st_len {args : Array Value} {s : State} {t : Term} {z : Int32} (h : (Cond.eq t (.int z)).before args s = true) : t.eval args s none [] s = some (.int z) := by
  obtain ⟨w, h1, h2⟩ := Cond.eq_one h
  cases h2
  exact h1
theorem st_T {b : Nat} {s : State} (hts : ∀ w ∈ lw_tbl, w.before #[Value.ref b] s = true) (hs : ∀ w ∈ flatC (Jvm.Cond.and given_1 narrow_1), w.before #[Value.ref b] s = true) {n : String} {f : Nat → Int32} (h1 : Cond.arrayOf (.static "ObsMessages$Descriptors" n "[I") .int ∈ flatC (Jvm.Cond.and given_1 narrow_1)) (h2 : Cond.eq (.length (.static "ObsMessages$Descriptors" n "[I")) (.int 4) ∈ flatC (Jvm.Cond.and given_1 narrow_1))
    (h3 : ∀ j : Nat, j < 4 → Cond.eq (.elem (.static "ObsMessages$Descriptors" n "[I") (.int (Int32.ofNat j))) (.int (f j)) ∈ flatC (Jvm.Cond.and given_1 narrow_1)) (h4 : Cond.laysStatic "ObsMessages$Descriptors" n "[I" ∈ lw_tbl) (h5 : Cond.initialized "ObsMessages$Descriptors" ∈ lw_tbl) :
    ∃ t : Nat, va_Z "ObsMessages$Descriptors" n "[I" (.ref t) (fun q => s.heap.size ≤ q) s s.heap ∧ va_T .int t 4 (fun j => .int (f j)) (fun q => s.heap.size ≤ q) s s.heap := by
  have hA : ∀ a : Nat, a < s.heap.size → ¬ (fun q => s.heap.size ≤ q) a := fun a h => Nat.not_le.mpr h
  obtain ⟨t, e1, e2⟩ := va_Tof (N := 4) (f := fun j => .int (f j)) (by decide) (hs _ h1) (st_len (hs _ h2)) (fun j hj => st_len (hs _ (h3 j hj))) hA
  exact ⟨t, va_Zref (hts _ h4) (hts _ h5) e1 hA, e2⟩
theorem st_SF {b : Nat} {s : State} (hts : ∀ w ∈ lw_tbl, w.before #[Value.ref b] s = true) (hgv : (Jvm.Cond.and given_1 narrow_1).before #[Value.ref b] s = true) : SF (fun q => s.heap.size ≤ q) s s.heap := by
  have hs := flat_of_before _ hgv
  have hA : ∀ a : Nat, a < s.heap.size → ¬ (fun q => s.heap.size ≤ q) a := fun a h => Nat.not_le.mpr h
  obtain ⟨cX, kX, hfX, -⟩ := Cond.instantiable_spec (hts (.instantiable "ObsMessages" 10) (by decide +kernel))
  obtain ⟨tE, a1, a2⟩ := st_T hts hs (n := "ENDS") (f := cE) (by decide +kernel) (by decide +kernel) (by decide +kernel) (by decide +kernel) (by decide +kernel)
  obtain ⟨tL, b1, b2⟩ := st_T hts hs (n := "LASTS") (f := cL) (by decide +kernel) (by decide +kernel) (by decide +kernel) (by decide +kernel) (by decide +kernel)
  refine ⟨fun w hw => va_Nw.of (nestW_tab w hw) (hts w (nestW_in w hw)), ⟨fun q hq ca cb h1 h2 => ?_, fun q hq => ?_, Zt.of (hts _ (by decide +kernel)) (hs _ (by decide +kernel)) hA, Zt.of (hts _ (by decide +kernel)) (hs _ (by decide +kernel)) hA, fun w hw => va_Nw.of (ckW_tab w hw).1 (hts w (ckW_in w hw))⟩, tE, tL, a1, a2, b1, b2⟩
  · have hv := Cond.holds_not_iff.mp (hs _ (ncW_in q hq))
    simp only [Cond.value, h1, h2] at hv
    exact Option.some.inj hv
  · obtain ⟨h1, h2⟩ := strW_in q hq
    obtain ⟨k, cf, i, a, -, -, -, -, -, hev⟩ := Cond.stringRef_spec (by rw [h2]; exact hfX) (hts _ h1)
    exact ⟨a, vk_R.of (hts _ h1) hev⟩
theorem st_arr {args : Array Value} {s : State} {ty : FieldType} (h : (Cond.arrayClass ty).before args s = true) : ∃ cA : ClassId, ArrOfT s cA ty ∧ s.vm.findClass ("[" ++ ty.toString) = some cA := by
  obtain ⟨cA, k, comp, h1, h2, h3⟩ := Cond.arrayClass_spec h
  exact ⟨cA, fun n z => ⟨(fun k hk => by cases hk), k, h2, comp, h3⟩, h1⟩
theorem st_over {args : Array Value} {s : State} (h : (Cond.arrayOver (.array .long)).before args s = true) : ∃ (comp cA : ClassId) (k : Class), s.vm.findClass (FieldType.array .long).toString = some comp ∧ s.vm.classes[cA]? = some k ∧ k.kind = .array comp (.array .long) ∧ s.vm.findClass ("[" ++ (FieldType.array .long).toString) = some cA := by
  simp only [Cond.before, Cond.holds, Cond.value, beq_iff_eq] at h
  obtain ⟨comp, h1, ha⟩ := Option.bind_eq_some_iff.mp h
  obtain ⟨cA, h2, hb⟩ := Option.bind_eq_some_iff.mp ha
  obtain ⟨k, h3, hc⟩ := Option.map_eq_some_iff.mp hb
  clear h ha hb
  obtain ⟨hlt, hp, -⟩ := Array.findIdx?_eq_some_iff_getElem.mp h2
  have hk : s.vm.classes[cA] = k := (Array.getElem?_eq_some_iff.mp h3).2
  rw [hk] at hp
  cases hkind : k.kind with
  | array c2 t2 =>
    rw [hkind] at hp hc
    simp only [Bool.and_eq_true, decide_eq_true_eq, beq_iff_eq] at hp hc
    rw [hp, hc.1] at hkind
    exact ⟨comp, cA, k, h1, h3, hkind, hc.2⟩
  | _ => rw [hkind] at hc; simp at hc
theorem st_K {b : Nat} {s : State} (hts : ∀ w ∈ lw_tbl, w.before #[Value.ref b] s = true) : ∃ (D : va_G) (K : Nat → ClassId), va_K D vwCl (TY K) s ∧ GK K s := by
  have tbs : ∀ w ∈ tb, w.before #[Value.ref b] s = true := fun w hw => hts w (List.mem_filter.mp hw).1
  obtain ⟨c0, i0, hk0⟩ := u_known (C := R_X) (T := T_X) (N := 10) (n := 10) tbs in_X (hts (.instantiable "ObsMessages" 10) (by decide +kernel))
  obtain ⟨c1, i1, hk1⟩ := u_known (C := R_Tab) (T := T_Tab) (N := 6) (n := 6) tbs in_Tab (hts (.instantiable "ObsMessages$Tables" 6) (by decide +kernel))
  obtain ⟨c2, i2, hk2⟩ := u_known (C := R_Prog) (T := T_Prog) (N := 14) (n := 14) tbs in_Prog (hts (.instantiable "ObsMessages$Program" 14) (by decide +kernel))
  obtain ⟨c3, i3, hk3⟩ := u_known (C := R_Walk) (T := T_Walk) (N := 18) (n := 18) tbs in_Walk (hts (.instantiable "ObsMessages$Walk" 18) (by decide +kernel))
  obtain ⟨c4, i4, hk4⟩ := u_known (C := R_Fld) (T := T_Fld) (N := 8) (n := 8) tbs in_Fld (hts (.instantiable "ObsMessages$Fields" 8) (by decide +kernel))
  obtain ⟨c5, i5, hk5⟩ := u_known (C := R_Lps) (T := T_Lps) (N := 5) (n := 5) tbs in_Lps (hts (.instantiable "ObsMessages$Loops" 5) (by decide +kernel))
  obtain ⟨c6, i6, hk6⟩ := u_known (C := R_Wri) (T := T_Wri) (N := 1) (n := 1) tbs in_Wri (hts (.instantiable "ObsMessages$Writer" 1) (by decide +kernel))
  obtain ⟨c7, i7, hk7⟩ := u_known (C := R_Bits) (T := T_Bits) (N := 2) (n := 2) tbs in_Bits (hts (.instantiable "ObsMessages$Bits" 2) (by decide +kernel))
  obtain ⟨c8, i8, hk8⟩ := u_known (C := R_Rea) (T := T_Rea) (N := 8) (n := 8) tbs in_Rea (hts (.instantiable "ObsMessages$Reader" 8) (by decide +kernel))
  obtain ⟨c9, i9, hk9⟩ := u_known (C := R_Grd) (T := T_Grd) (N := 9) (n := 9) tbs in_Grd (hts (.instantiable "ObsMessages$Grid" 9) (by decide +kernel))
  obtain ⟨c10, i10, hk10⟩ := u_known (C := R_Mod) (T := T_Mod) (N := 61) (n := 61) tbs in_Mod (hts (.instantiable "ObsMessagesModel" 61) (by decide +kernel))
  obtain ⟨aI, hI, fI⟩ := st_arr (ty := .int) (hts (.arrayClass .int) (by decide +kernel))
  obtain ⟨aJ, hJ, fJ⟩ := st_arr (ty := .long) (hts (.arrayClass .long) (by decide +kernel))
  obtain ⟨aZ, hZ, fZ⟩ := st_arr (ty := .boolean) (hts (.arrayClass .boolean) (by decide +kernel))
  obtain ⟨comp, aG, kG, g1, g2, g3, g4⟩ := st_over (hts (.arrayOver (.array .long)) (by decide +kernel))
  have eJ : comp = aJ := Option.some.inj (g1.symm.trans fJ)
  subst eJ
  refine ⟨((fun k => [c0, c1, c2, c3, c4, c5, c6, c7, c8, c9, c10].getD k 0), (fun k => ([i0, i1, i2, i3, i4, i5, i6, i7, i8, i9, i10] : List (Nat → Nat)).getD k (fun _ => 0))), (fun k => [aI, comp, aG, aZ].getD k 0), ⟨fun c q hq => ?_, fun k q hq => ?_⟩, ⟨kG, g2, g3⟩⟩
  · match c, hq with
    | 0, hq => cases hq; exact hk0
    | 1, hq => cases hq; exact hk1
    | 2, hq => cases hq; exact hk2
    | 3, hq => cases hq; exact hk3
    | 4, hq => cases hq; exact hk4
    | 5, hq => cases hq; exact hk5
    | 6, hq => cases hq; exact hk6
    | 7, hq => cases hq; exact hk7
    | 8, hq => cases hq; exact hk8
    | 9, hq => cases hq; exact hk9
    | 10, hq => cases hq; exact hk10
    | k + 11, hq => cases hq
  · match k, hq with
    | 0, hq => cases hq; exact ⟨hI, fI⟩
    | 1, hq => cases hq; exact ⟨hJ, fJ⟩
    | 2, hq => cases hq; exact ⟨fun n z => ⟨(fun k hk => by cases hk), kG, g2, comp, g3⟩, g4⟩
    | 3, hq => cases hq; exact ⟨hZ, fZ⟩
    | k + 4, hq => cases hq
