-- compiling on both sides: the loop
def CE2 (P' : S_Prog) (r : B9) : Prop := (Prog_fault P' = 0 ∧ Mo_fault r.1 = 0 ∧ Prog_size P' = Mo_looked r.1) ∨ (¬ Prog_fault P' = 0 ∧ ¬ Mo_fault r.1 = 0)
theorem build_f {fu n : Nat} {t : S_Tab} {P : S_Prog} {x : Int32} (h : ¬ Prog_fault P = 0) (hn : 0 < n) : Prog_build_L53 fu t n x P = some P := by
  obtain ⟨m, rfl⟩ : ∃ m, n = m + 1 := ⟨n - 1, by omega⟩
  rw [Prog_build_L53]
  by_cases c1 : (10000 : Int32) ≤ x
  · rw [if_pos c1]
  · rw [if_neg c1]
    by_cases c2 : Prog_open P ≤ 0
    · rw [if_pos c2]
    · rw [if_neg c2, if_neg h]
theorem comp_f {fu n : Nat} {th sc wi ls le li ne en be lf tu fo op : Nat → Int32} {s : S_Mo} (h : ¬ Mo_fault s = 0) (hn : 0 < n) : Mod_compileAll_L8 fu th sc wi ls le n s li ne en be lf tu fo op = some (s, li, ne, en, be, lf, tu, fo, op) := by
  obtain ⟨m, rfl⟩ : ∃ m, n = m + 1 := ⟨n - 1, by omega⟩
  rw [Mod_compileAll_L8]
  by_cases c2 : Mo_open s ≤ 0
  · rw [if_pos c2]
  · rw [if_neg c2, if_neg h]
theorem c_close {fu o : Nat} {P : S_Prog} {s : S_Mo} {u : Int32} {le li ne en be tu fo op : Nat → Int32} {v : Int32} (hf : 12000 ≤ fu) (C : CSt u le P s li ne en be tu fo op (o + 1)) (ev : v = Mo_open s - 1) (hv : v.toInt = (o : Int)) : ∃ (P' : S_Prog) (q : Int32), Prog_closeList fu P = some P' ∧ Mod_leavesOther fu s fo op v = some q ∧ ((q = 0 ∧ SP P' (Prog_set_open P v) ∧ Prog_size P' = Prog_size P) ∨ (¬ q = 0 ∧ ¬ Prog_fault P' = 0)) := by
  have h56 := CS_open C
  obtain ⟨c1, c2, c3, c4, c5, c6, c7, c8, c9, c10, c11⟩ := C
  obtain ⟨⟨⟨_, _, _, a4⟩, a5, a6⟩, _⟩ := c11 o (by omega)
  have ep : Prog_open P - 1 = v := by rw [c4, ev]
  have gv : o_in v 64 = true := i_in.mpr (by omega)
  have nv : v.toNatClampNeg = o := by have := i_nat (a := v) (by omega); omega
  have k0 : (0 : Int32).toInt = ((0 : Nat) : Int) := by decide
  obtain ⟨q, eq, hq⟩ := m_leaves_L (fu := fu) (fo := fo) (op := op) (s := s) hv (by omega) 4 fu 0 0 0 k0 rfl (by omega) (Or.inl ⟨rfl, fun j hj => absurd hj (by omega)⟩)
  have eq : Mod_leavesOther fu s fo op v = some q := by
    unfold Mod_leavesOther
    exact eq
  have agree : ∀ j, j < 4 → (Prog_settings P j = Prog_foundSettings P (4 * o + j) ↔ op j = fo (4 * o + j)) := fun j hj => om_inj (c10 j hj) (a4 j hj)
  have ec : Prog_closeList fu P = Prog_closeList_L12 fu (Prog_set_open P v) (Prog_closeList_j51 fu (Prog_set_open P v)) fu 0 := by
    unfold Prog_closeList
    show Prog_closeList_L12 fu (Prog_set_open P (Prog_open P - 1)) (Prog_closeList_j51 fu (Prog_set_open P (Prog_open P - 1))) fu 0 = _
    rw [ep]
  have hk := x_close_L (fu := fu) (P := Prog_set_open P v) (ke := Prog_closeList_j51 fu (Prog_set_open P v)) (o := o) hv (by omega) 4 fu 0 0 k0 rfl (by omega) (fun j hj => absurd hj (by omega))
  rcases hk with ⟨e1, h1⟩ | ⟨P', e1, h1, j, hj, h2⟩
  · have h1 : ∀ j, j < 4 → Prog_settings P j = Prog_foundSettings P (4 * o + j) := h1
    have q0 : q = 0 := by
      rcases hq with ⟨x, _⟩ | ⟨_, j, hj, hne⟩
      · exact x
      · exact absurd ((agree j hj).mp (h1 j hj)) hne
    have j51 : ∃ P', Prog_closeList_j51 fu (Prog_set_open P v) = some P' ∧ SP P' (Prog_set_open P v) ∧ Prog_size P' = Prog_size P := by
      unfold Prog_closeList_j51
      show ∃ P', o_gd (o_in v 64) (if Prog_openRepeats P v.toNatClampNeg = (-1) then some (Prog_set_open P v) else o_gd (o_in v 64) (o_gd (o_in (Prog_openRepeats P v.toNatClampNeg) 1000) (some (Prog_put_bodyEnds (Prog_set_open P v) (Prog_openRepeats P v.toNatClampNeg).toNatClampNeg (Prog_size P))))) = some P' ∧ _
      rw [gd_t gv, nv]
      by_cases c : Prog_openRepeats P o = (-1)
      · rw [if_pos c]
        exact ⟨_, rfl, ⟨rfl, rfl, rfl, rfl, rfl, rfl, rfl, rfl⟩, rfl⟩
      · have km : ((-1) : Int32).toInt = -1 := by decide
        have gr : o_in (Prog_openRepeats P o) 1000 = true := i_in.mpr (by rw [i_eq, km] at c; omega)
        rw [if_neg c, gd_t gv, gd_t gr]
        exact ⟨_, rfl, ⟨rfl, rfl, rfl, rfl, rfl, rfl, rfl, rfl⟩, rfl⟩
    obtain ⟨P', f1, f2, f3⟩ := j51
    exact ⟨P', q, ec.trans (e1.trans f1), eq, Or.inl ⟨q0, f2, f3⟩⟩
  · have h2 : ¬ Prog_settings P j = Prog_foundSettings P (4 * o + j) := h2
    have q1 : ¬ q = 0 := by
      rcases hq with ⟨_, y⟩ | ⟨x, _⟩
      · exact absurd ((agree j hj).mpr (y j hj)) h2
      · rw [x]; decide
    exact ⟨P', q, ec.trans e1, eq, Or.inr ⟨q1, by rw [h1]; decide⟩⟩
theorem c_comp {fu : Nat} {t : S_Tab} {u : Int32} {th sc rf wi ls le : Nat → Int32} (hf : 12000 ≤ fu) (I : I_Tab t) (Ile : A_Mlengths le) (T : TbR t u th sc rf wi ls le) : ∀ (m n n' : Nat) (x : Int32) (P : S_Prog) (s : S_Mo) (li ne en be lf tu fo op : Nat → Int32) (o : Nat), CSt u le P s li ne en be tu fo op o → 2 * (1001 - (Mo_looked s).toInt) + (o : Int) ≤ (m : Int) → 0 ≤ x.toInt → x.toInt + (m : Int) < 10000 → m < n → m < n' → ∃ (P' : S_Prog) (r : B9), Prog_build_L53 fu t n x P = some P' ∧ Mod_compileAll_L8 fu th sc wi ls le n' s li ne en be lf tu fo op = some r ∧ CE2 P' r
  | _, 0, _, x, P, s, li, ne, en, be, lf, tu, fo, op, o, _, _, _, _, h, _ => absurd h (by omega)
  | _, n + 1, 0, x, P, s, li, ne, en, be, lf, tu, fo, op, o, _, _, _, _, _, h => absurd h (by omega)
  | m, n + 1, n' + 1, x, P, s, li, ne, en, be, lf, tu, fo, op, o, C, hm, hx0, hx1, hn, hn' => by
    have kt : (10000 : Int32).toInt = 10000 := by decide
    have k0 : (0 : Int32).toInt = 0 := by decide
    have k1 : (1 : Int32).toInt = 1 := by decide
    have C' := C
    obtain ⟨c1, c2, c3, c4, c5, c6, c7, c8, c9, c10, c11⟩ := C
    have nx : ¬ (10000 : Int32) ≤ x := by rw [i_le]; omega
    cases o with
    | zero =>
      have z : Mo_open s ≤ 0 := by rw [i_le, c3, k0]; exact Int.le_refl _
      refine ⟨P, (s, li, ne, en, be, lf, tu, fo, op), ?_, ?_, Or.inl ⟨c8, c9, c5⟩⟩
      · rw [Prog_build_L53, if_neg nx, c4, if_pos z]
      · rw [Mod_compileAll_L8, if_pos z]
    | succ o =>
      have h56 := CS_open C'
      obtain ⟨⟨⟨a1, a2, a3, a4⟩, a5⟩, b1, b2, b3, b4, b5, b6, b7, b8⟩ := c11 o (by omega)
      have z : ¬ Mo_open s ≤ 0 := by rw [i_le, c3, k0]; omega
      obtain ⟨v, ev⟩ : ∃ v, v = Mo_open s - 1 := ⟨_, rfl⟩
      have hv : v.toInt = (o : Int) := by
        rw [ev, i_sub (a := Mo_open s) (b := 1) (by omega) (by omega), c3, k1]
        omega
      have g64 : o_in v 64 = true := i_in.mpr (by omega)
      have g90 : o_in v 90 = true := i_in.mpr (by omega)
      have nv : v.toNatClampNeg = o := by have := i_nat (a := v) (by omega); omega
      have x1 : (x + 1).toInt = x.toInt + 1 := by
        rw [i_add (a := x) (b := 1) (by omega) (by omega), k1]
      have hlen := A_Mlengths_at Ile (li o).toNatClampNeg
      have nli := i_nat b5
      have nne := i_nat (a := ne o) (by clear x1; omega)
      by_cases ce : ne o = en o
      · -- a list ends
        have cx : Prog_openEnds P o ≤ Prog_openAts P o := by
          rw [i_le, a1, a2, ce]
          exact Int.le_refl _
        obtain ⟨P1, q, f1, f2, f3⟩ := c_close hf C' ev hv
        have hl : Prog_build_L53 fu t (n + 1) x P = Prog_build_L53 fu t n (x + 1) P1 := by
          rw [Prog_build_L53, if_neg nx, c4, if_neg z, if_pos c8, ← ev, gd_t g64, gd_t g64, nv, if_pos cx, bd_s f1]
          rfl
        have jm : ∀ s' : S_Mo, Mo_open s' = Mo_open s → Mod_compileAll_j61 fu th sc wi ls le (fun v0 v1 v2 v3 v4 v5 v6 v7 v8 => Mod_compileAll_L8 fu th sc wi ls le n' v0 v1 v2 v3 v4 v5 v6 v7 v8) s' li ne en be lf tu fo op = Mod_compileAll_L8 fu th sc wi ls le n' (Mo_set_open s' v) li ne en be lf tu fo op := by
          intro s' e
          unfold Mod_compileAll_j61 Mod_compileAll_j122
          show Mod_compileAll_L8 fu th sc wi ls le n' (Mo_set_open s' (Mo_open s' - 1)) li ne en be lf tu fo op = _
          rw [e, ← ev]
        rcases f3 with ⟨q0, f4, f5⟩ | ⟨q1, f4⟩
        · have hr : Mod_compileAll_L8 fu th sc wi ls le (n' + 1) s li ne en be lf tu fo op = Mod_compileAll_L8 fu th sc wi ls le n' (Mo_set_open s v) li ne en be lf tu fo op := by
            rw [Mod_compileAll_L8, if_neg z, if_pos c9, ← ev, gd_t g90, gd_t g90, nv, if_pos ce, bd_s f2, if_pos q0]
            exact jm s rfl
          have C1 := CS_pop C' hv f4 f5
          obtain ⟨P', r, y1, y2, y3⟩ := c_comp hf I Ile T (m - 1) n n' (x + 1) P1 (Mo_set_open s v) li ne en be lf tu fo op o C1 (by
            show 2 * (1001 - (Mo_looked s).toInt) + (o : Int) ≤ ((m - 1 : Nat) : Int)
            clear x1
            omega) (by rw [x1]; clear x1; omega) (by rw [x1]; clear x1; omega) (by clear x1; omega) (by clear x1; omega)
          exact ⟨P', r, hl.trans y1, hr.trans y2, y3⟩
        · obtain ⟨w, ew, _⟩ := t_Mod_where (fu := fu) (o := o) (li := li) (ne := ne) (s := s) hf (by rw [c3]; omega) (by clear x1; omega)
          have hr : Mod_compileAll_L8 fu th sc wi ls le (n' + 1) s li ne en be lf tu fo op = Mod_compileAll_L8 fu th sc wi ls le n' (Mo_set_open (wr 4 w s) v) li ne en be lf tu fo op := by
            rw [Mod_compileAll_L8, if_neg z, if_pos c9, ← ev, gd_t g90, gd_t g90, nv, if_pos ce, bd_s f2, if_neg q1, bd_s ew, bd_s (wrong_eq _ _ _)]
            exact jm (wr 4 w s) (wr_open _ _ _)
          have wf : ¬ Mo_fault (Mo_set_open (wr 4 w s) v) = 0 := wr_ge (a0 := 4) (a1 := w) (s := s) (by decide)
          exact ⟨P1, _, hl.trans (build_f f4 (by clear x1; omega)), hr.trans (comp_f wf (by clear x1; omega)), Or.inr ⟨f4, wf⟩⟩
      · -- a descriptor
        have hlt : (ne o).toInt < (en o).toInt := by
          have : (ne o).toInt ≠ (en o).toInt := fun e => ce (i_eq.mpr e)
          clear x1
          omega
        have cx : ¬ Prog_openEnds P o ≤ Prog_openAts P o := by
          rw [i_le, a1, a2]
          clear x1
          omega
        obtain ⟨A, hA⟩ : ∃ A, A = Prog_openAts P o := ⟨_, rfl⟩
        rw [← hA] at a1
        have gA : o_in A 152 = true := i_in.mpr (by rw [a1]; clear x1; omega)
        have nA : A.toNatClampNeg = 8 * (li o).toNatClampNeg + (ne o).toNatClampNeg := by
          have := i_nat (a := A) (by rw [a1]; clear x1; omega)
          clear x1
          omega
        have A1 : (A + 1).toInt = 8 * (li o).toInt + (ne o).toInt + 1 := by
          clear x1
          rw [i_add (a := A) (b := 1) (by omega) (by omega), k1, a1]
        have N1 : (ne o + 1).toInt = (ne o).toInt + 1 := by
          clear x1 A1
          rw [i_add (a := ne o) (b := 1) (by omega) (by omega), k1]
        obtain ⟨dl, dk⟩ := T.2.2.2.2 (li o).toNatClampNeg (ne o).toNatClampNeg (by clear x1 A1 N1; omega) (by clear x1 A1 N1; omega)
        obtain ⟨D, hD⟩ : ∃ D, D = ls (24 * (li o).toNatClampNeg + (ne o).toNatClampNeg) := ⟨_, rfl⟩
        rw [← hD] at dl dk
        have eix : (24 * li o + (ne o + 1) - 1).toNatClampNeg = 24 * (li o).toNatClampNeg + (ne o).toNatClampNeg ∧ o_in (24 * li o + (ne o + 1) - 1) 408 = true := by
          clear x1 A1
          have m1 := i_mull 24 (li o) 24 (by decide) (by omega) (by omega)
          have m2 : (24 * li o + (ne o + 1)).toInt = 24 * (li o).toInt + ((ne o).toInt + 1) := by
            rw [i_add (a := 24 * li o) (b := ne o + 1) (by rw [m1, N1]; clear m1 N1; omega) (by rw [m1, N1]; clear m1 N1; omega), m1, N1]
          have m3 : (24 * li o + (ne o + 1) - 1).toInt = 24 * (li o).toInt + (ne o).toInt := by
            rw [i_sub (a := 24 * li o + (ne o + 1)) (b := 1) (by rw [m2]; clear m1 m2 N1; omega) (by rw [m2]; clear m1 m2 N1; omega), m2, k1]
            clear m1 m2 N1
            omega
          have q1 := i_nat (a := 24 * li o + (ne o + 1) - 1) (by rw [m3]; clear m1 m2 m3 N1; omega)
          rw [m3] at q1
          exact ⟨by clear m1 m2 m3 N1; omega, i_in.mpr (by rw [m3]; clear m1 m2 m3 N1; omega)⟩
        have Cat := CS_at (v := A + 1) (w := ne o + 1) C' (by rw [A1, N1]; clear x1 A1 N1; omega) (by rw [N1]; clear x1 A1 N1; omega) (by rw [N1]; clear x1 A1 N1; omega)
        obtain ⟨w, ew, _⟩ := t_Mod_where (fu := fu) (o := o) (li := li) (ne := upd ne o (ne o + 1)) (s := s) hf (by rw [c3]; clear x1 A1 N1; omega) (by clear x1 A1 N1; omega)
        have hl : ∀ (k : Int32) (Q : S_Prog), Prog_takeUp A D (Prog_put_openAts P o (A + 1)) = some (k, Q) → Prog_build_L53 fu t (n + 1) x P = (o_bd (if k = 0 then some Q else NX fu t D A v Q) fun q12 => Prog_build_L53 fu t n (x + 1) q12) := by
          intro k Q e6
          have en_ : Prog_lookAtNext fu t P = (if k = 0 then some Q else NX fu t D A v Q) := by
            unfold Prog_lookAtNext
            rw [c4, ← ev, gd_t g64, nv, ← hA]
            show o_gd (o_in v 64) (o_gd (o_in A 152) (o_bd (Prog_takeUp A (Tab_listed t A.toNatClampNeg) (Prog_put_openAts P o (A + 1))) _)) = _
            rw [gd_t g64, gd_t gA, nA, dl, bd_s e6]
            rfl
          rw [Prog_build_L53, if_neg nx, c4, if_neg z, if_pos c8, ← ev, gd_t g64, gd_t g64, nv, if_neg cx, en_]
          rfl
        have hr : ∀ (k : Int32) (s' : S_Mo), Mod_count w s = some (k, s') → Mod_compileAll_L8 fu th sc wi ls le (n' + 1) s li ne en be lf tu fo op = (if k = 0 then Mod_compileAll_L8 fu th sc wi ls le n' s' li (upd ne o (ne o + 1)) en be lf tu fo op else o_bd (Mod_look fu th sc wi ls le D s' li (upd ne o (ne o + 1)) en be lf tu fo op) fun q13 => Mod_compileAll_L8 fu th sc wi ls le n' q13.1 q13.2.1 q13.2.2.1 q13.2.2.2.1 q13.2.2.2.2.1 q13.2.2.2.2.2.1 q13.2.2.2.2.2.2.1 q13.2.2.2.2.2.2.2.1 q13.2.2.2.2.2.2.2.2) := by
          intro k s' e9
          rw [Mod_compileAll_L8, if_neg z, if_pos c9, ← ev, gd_t g90, gd_t g90, nv, if_neg ce, gd_t g90, gd_t g90]
          show o_bd (Mod_where fu s li (upd ne o (ne o + 1))) _ = _
          rw [bd_s ew, bd_s e9]
          show (if k = 0 then _ else o_gd (o_in v 90) (o_gd (o_in v 90) (o_gd (o_in (24 * li o + upd ne o (ne o + 1) o - 1) 408) (o_bd (Mod_look fu th sc wi ls le (ls (24 * li o + upd ne o (ne o + 1) o - 1).toNatClampNeg) s' li (upd ne o (ne o + 1)) en be lf tu fo op) _)))) = _
          rw [upd_at, gd_t g90, gd_t g90, gd_t eix.2, eix.1, ← hD]
          rfl
        by_cases cf : (Mo_looked s).toInt = 1000
        · obtain ⟨P1, f1, f2⟩ := takeUp_f (a0 := A) (d := D) (P := Prog_put_openAts P o (A + 1)) (by show 1000 ≤ (Prog_size P).toInt; rw [c5, cf]; exact Int.le_refl _)
          obtain ⟨s1, m1, m2, m3⟩ := count_f (w := w) cf
          refine ⟨P1, (s1, li, upd ne o (ne o + 1), en, be, lf, tu, fo, op), (hl _ _ f1).trans ?_, (hr _ _ m1).trans ?_, Or.inr ⟨f2, m2⟩⟩
          · rw [if_pos rfl]
            exact build_f f2 (by clear x1 A1 N1; omega)
          · rw [if_pos rfl]
            exact comp_f m2 (by clear x1 A1 N1; omega)
        · have hlk : (Mo_looked s).toInt < 1000 := by clear x1 A1 N1; omega
          obtain ⟨P1, f1, f2, f3⟩ := takeUp_x (a0 := A) (d := D) (P := Prog_put_openAts P o (A + 1)) (by show 0 ≤ (Prog_size P).toInt; rw [c5]; exact c6) (by show (Prog_size P).toInt < 1000; rw [c5]; exact hlk)
          have m1 := count_x (w := w) c6 hlk
          obtain ⟨C1, lk1⟩ := CS_size Cat f2 f3 hlk
          have n10 : ¬ (1 : Int32) = 0 := by decide
          have hsz : 1 ≤ (Prog_size P1).toInt := by
            rw [C1.2.2.2.2.1]
            show 1 ≤ (Mo_looked s + 1).toInt
            rw [lk1]
            clear x1 A1 N1 lk1
            omega
          obtain ⟨P2, r, y1, y2, y3⟩ := c_look (lf := lf) (d := D) (at_ := A) (top := v) hf I Ile T C1 dk hv ev (by rw [upd_at, N1, a1]; clear x1 A1 N1 lk1; omega) (by rw [upd_at, N1]; clear x1 A1 N1 lk1; omega) hsz
          have hl2 : Prog_build_L53 fu t (n + 1) x P = Prog_build_L53 fu t n (x + 1) P2 := by
            rw [hl _ _ f1, if_neg n10, bd_s y1]
          have hr2 : Mod_compileAll_L8 fu th sc wi ls le (n' + 1) s li ne en be lf tu fo op = Mod_compileAll_L8 fu th sc wi ls le n' r.1 r.2.1 r.2.2.1 r.2.2.2.1 r.2.2.2.2.1 r.2.2.2.2.2.1 r.2.2.2.2.2.2.1 r.2.2.2.2.2.2.2.1 r.2.2.2.2.2.2.2.2 := by
            rw [hr _ _ m1, if_neg n10, bd_s y2]
          rcases y3 with ⟨z1, z2⟩ | ⟨o', z1, z2, z3⟩
          · exact ⟨P2, _, hl2.trans (build_f z1 (by clear x1 A1 N1 lk1; omega)), hr2.trans (comp_f z2 (by clear x1 A1 N1 lk1; omega)), Or.inr ⟨z1, z2⟩⟩
          · have z3 : (Mo_looked s + 1).toInt ≤ (Mo_looked r.1).toInt := z3
            rw [lk1] at z3
            obtain ⟨P', r', w1, w2, w3⟩ := c_comp hf I Ile T (m - 1) n n' (x + 1) P2 r.1 r.2.1 r.2.2.1 r.2.2.2.1 r.2.2.2.2.1 r.2.2.2.2.2.1 r.2.2.2.2.2.2.1 r.2.2.2.2.2.2.2.1 r.2.2.2.2.2.2.2.2 o' z2 (by clear x1 A1 N1 lk1; omega) (by rw [x1]; clear x1 A1 N1 lk1; omega) (by rw [x1]; clear x1 A1 N1 lk1; omega) (by clear x1 A1 N1 lk1; omega) (by clear x1 A1 N1 lk1; omega)
            exact ⟨P', r', hl2.trans w1, hr2.trans w2, w3⟩
-- from the beginning
theorem yy_fillI_L {fu m : Nat} {v e : Int32} (he : e.toInt = (m : Int)) : ∀ (n k : Nat) (x : Int32) (f : Nat → Int32), x.toInt = (k : Int) → k ≤ m → m - k < n → (∀ j, j < k → f j = v) → So (Arr_fill_aII_L5 fu m v e n x f) (fun r => ∀ j, j < m → r j = v)
  | 0, k, x, f, _, _, h, _ => absurd h (by omega)
  | n + 1, k, x, f, hx, hk, hn, hf => by
    rw [Arr_fill_aII_L5]
    have k1 : (1 : Int32).toInt = 1 := by decide
    refine So.ite (fun c => ?_) (fun c => ?_) <;> rw [i_le] at c
    · exact So.one fun j hj => hf j (by omega)
    · have hb := i_r2 e
      have e1 : (x + 1).toInt = ((k + 1 : Nat) : Int) := by
        rw [i_add (a := x) (b := 1) (by omega) (by omega), k1, hx]
        omega
      have en : x.toNatClampNeg = k := by have := i_nat (a := x) (by omega); omega
      refine So.gd (i_in.mpr (by omega)) (So.lt ?_)
      refine yy_fillI_L he n (k + 1) (x + 1) _ e1 (by omega) (by omega) fun j hj => ?_
      rw [en]
      by_cases ej : j = k
      · rw [ej, upd_at]
      · rw [upd_ne ej]
        exact hf j (by omega)
theorem yy_fillI {fu m : Nat} {v : Int32} {f : Nat → Int32} (hf : 12000 ≤ fu) (hm : m ≤ 10000) : So (Arr_fill_aII fu m v f) (fun r => ∀ j, j < m → r j = v) := by
  unfold Arr_fill_aII
  exact yy_fillI_L (i_of (by omega)) fu 0 0 f (by decide) (by omega) (by omega) fun j hj => absurd hj (by omega)
theorem c_compile {fu : Nat} {t : S_Tab} {P : S_Prog} {s : S_Mo} {th sc rf wi ls le li ne en be lf tu fo op : Nat → Int32} (hf : 12000 ≤ fu) (I : I_Tab t) (Im : I_Mo s) (Ile : A_Mlengths le) (T : TbR t (Mo_used s) th sc rf wi ls le) : ∃ (P' : S_Prog) (r : B9), Prog_build fu t P = some P' ∧ Mod_compileAll fu th sc wi ls le s li ne en be lf tu fo op = some r ∧ CE2 P' r := by
  have k0 : (0 : Int32).toInt = 0 := by decide
  have k16 : (16 : Int32).toInt = 16 := by decide
  have n16 : (16 : Int32).toNatClampNeg = 16 := by decide
  obtain ⟨P5, hP5⟩ : ∃ P5, P5 = Prog_set_templatePlace (Prog_set_open (Prog_set_place (Prog_set_fault (Prog_set_size P 0) 0) (-1)) 0) 0 := ⟨_, rfl⟩
  obtain ⟨q6, e6, h6⟩ := yy_fillI (fu := fu) (m := 4) (v := 0) (f := Prog_settings P5) hf (by decide)
  obtain ⟨q7, e7, h7⟩ := t_Tab_endOf (sTab := t) (a0 := 16) I (by decide) (by decide)
  rw [n16, T.2.2.2.1, k16] at h7
  have o5 : Prog_open (Prog_set_settings P5 q6) = 0 := by rw [hP5]
  have o0 : (Prog_open (Prog_set_settings P5 q6)).toInt = ((0 : Nat) : Int) := by rw [o5]; decide
  have hb : Prog_build fu t P = Prog_build_L53 fu t fu 0 (oL 128 q7 (-1) (-1) (Prog_set_settings P5 q6)) := by
    unfold Prog_build
    show o_bd (Arr_fill_aII fu 4 0 (Prog_settings (Prog_set_templatePlace (Prog_set_open (Prog_set_place (Prog_set_fault (Prog_set_size P 0) 0) (-1)) 0) 0))) _ = _
    rw [← hP5, bd_s e6, bd_s e7, bd_s (openList_x o0 (by decide))]
  obtain ⟨s1, hs1⟩ : ∃ s1, s1 = Mo_set_place (Mo_set_fault s 0) (-1) := ⟨_, rfl⟩
  have I1 : I_Mo s1 := by rw [hs1]; exact I_Mo_set_place (I_Mo_set_fault Im)
  have f1 : Mo_fault s1 = 0 := by rw [hs1]
  have u1 : Mo_used s1 = Mo_used s := by rw [hs1]
  have hm : Mod_compileAll fu th sc wi ls le s li ne en be lf tu fo op = Mod_compileAll_L8 fu th sc wi ls le fu (Mo_set_open (s0 s1) (0 + 1)) (upd li 0 16) (upd ne 0 0) (upd en 0 (le 16)) (upd be 0 0) (upd lf 0 1) (upd tu 0 (-1)) (fo4 fo 0 (op0 op)) (op0 op) := by
    unfold Mod_compileAll
    have ef : Mod_fresh s = some s1 := by rw [hs1]; rfl
    rw [bd_s ef, bd_s (start_eq hf)]
  have hl := A_Mlengths_at Ile 16
  have n0 : (Prog_open (Prog_set_settings P5 q6)).toNatClampNeg = 0 := by rw [o5]; decide
  have n04 : (Prog_open (Prog_set_settings P5 q6) * 4).toNatClampNeg = 0 := by rw [o5]; decide
  have g1 : ∀ f, Prog_openAts (oL 128 q7 (-1) (-1) (Prog_set_settings P5 q6)) f = upd (Prog_openAts P5) 0 128 f := by intro f; rw [← n0]; rfl
  have g2 : ∀ f, Prog_openEnds (oL 128 q7 (-1) (-1) (Prog_set_settings P5 q6)) f = upd (Prog_openEnds P5) 0 q7 f := by intro f; rw [← n0]; rfl
  have g3 : ∀ f, Prog_openSequences (oL 128 q7 (-1) (-1) (Prog_set_settings P5 q6)) f = upd (Prog_openSequences P5) 0 (-1) f := by intro f; rw [← n0]; rfl
  have g4 : ∀ f, Prog_openRepeats (oL 128 q7 (-1) (-1) (Prog_set_settings P5 q6)) f = upd (Prog_openRepeats P5) 0 (-1) f := by intro f; rw [← n0]; rfl
  have g5 : ∀ j, Prog_foundSettings (oL 128 q7 (-1) (-1) (Prog_set_settings P5 q6)) j = (if 0 ≤ j ∧ j < 0 + 4 then q6 (0 + (j - 0)) else Prog_foundSettings P5 j) := by
    intro j
    show va_cpy q6 (Prog_foundSettings P5) (0 : Int32).toNatClampNeg (Prog_open (Prog_set_settings P5 q6) * 4).toNatClampNeg (4 : Int32).toNatClampNeg j = _
    rw [n04]
    rfl
  have C : CSt (Mo_used s) le (oL 128 q7 (-1) (-1) (Prog_set_settings P5 q6)) (Mo_set_open (s0 s1) (0 + 1)) (upd li 0 16) (upd ne 0 0) (upd en 0 (le 16)) (upd be 0 0) (upd tu 0 (-1)) (fo4 fo 0 (op0 op)) (op0 op) 1 := by
    have zo : (0 + 1 : Int32).toInt = 1 := by decide
    refine ⟨I_Mo_set_open (I_Mo_set_looked (I_Mo_set_open I1 (by decide))) (by decide), u1, zo, ?_, ?_, by show 0 ≤ (0 : Int32).toInt; decide, by show (0 : Int32).toInt ≤ 1000; decide, ?_, f1, fun k hk => ?_, fun f hf' => ?_⟩
    · show Prog_open P5 + 1 = 0 + 1
      rw [hP5]
    · show Prog_size P5 = 0
      rw [hP5]
    · show Prog_fault P5 = 0
      rw [hP5]
    · show om k (q6 k) _
      rw [h6 k hk, op0_at hk]
      exact om_start k
    · have ef : f = 0 := by omega
      subst ef
      refine ⟨⟨⟨?_, ?_, ?_, fun k hk => ?_⟩, ?_, ?_⟩, ?_⟩
      · rw [g1, upd_at, upd_at, upd_at]
        decide
      · rw [g2, upd_at, upd_at, upd_at, k16]
        omega
      · unfold Fsq
        rw [g3, upd_at]
        exact Or.inl ⟨rfl, rfl⟩
      · rw [g5, if_pos ⟨by omega, by omega⟩, fo4_at hk, op0_at hk]
        have : 0 + (4 * 0 + k - 0) = k := by omega
        rw [this, h6 k hk]
        exact om_start k
      · rw [g4, upd_at]
        decide
      · rw [g4, upd_at]
        decide
      · unfold FrB
        rw [upd_at, upd_at, upd_at, upd_at, n16, k0, k16]
        refine ⟨Int.le_refl _, Int.le_refl _, hl.1, Int.le_refl _, by decide, by decide, Nat.zero_le _, Or.inl ⟨rfl, rfl⟩⟩
  have lk0 : (Mo_looked (Mo_set_open (s0 s1) (0 + 1))).toInt = 0 := by
    show (0 : Int32).toInt = 0
    decide
  obtain ⟨P', r, y1, y2, y3⟩ := c_comp hf I Ile T 2003 fu fu 0 _ _ _ _ _ _ (upd lf 0 1) _ _ _ 1 C (by rw [lk0]; decide) (by decide) (by decide) (by omega) (by omega)
  exact ⟨P', r, hb.trans y1, hm.trans y2, y3⟩
