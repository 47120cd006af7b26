-- compile
abbrev BCm : Type := Int32 × S_Mo × (Nat → Int32) × (Nat → Int32) × (Nat → Int32) × (Nat → Int32) × (Nat → Int32) × (Nat → Int32) × (Nat → Int32) × (Nat → Int32)
theorem c_Xcompile {fu : Nat} {t : S_Tab} {sX : S_X} {P : S_Prog} {s : S_Mo} {th sc rf wi ls le li ne en be lf tu fo op : Nat → Int32} (hf : 12000 ≤ fu) (I : I_Tab t) (Im : I_Mo s) (Is : A_Mscales sc) (Iw : A_Mwidths wi) (Ils : A_Mlists ls) (Ile : A_Mlengths le) (Ifo : A_MfoundOps fo) (Iop : A_Mops op) (T : TbR t (Mo_used s) th sc rf wi ls le) : ∃ (q : Int32 × Int32 × S_X × S_Prog) (p : BCm), X_compile fu t sX P = some q ∧ Mod_compile fu th sc wi ls le s li ne en be lf tu fo op = some p ∧ Mo_thrown p.2.1 = q.1 ∧ (q.1 = 0 ∨ q.1 = 1) ∧ (q.1 = 0 → q.2.1 = p.1) := by
  obtain ⟨P', r, e1, e2, h⟩ := c_compile (P := P) (li := li) (ne := ne) (en := en) (be := be) (lf := lf) (tu := tu) (fo := fo) (op := op) hf I Im Ile T
  obtain ⟨r', f2, g⟩ := t_Mod_compileAll (li := li) (ne := ne) (en := en) (be := be) (lf := lf) (tu := tu) (th := th) hf Iw Is Ils Ile Im Ifo Iop
  rw [e2] at f2
  cases f2
  have hg := g.2.2.1
  have k0 : (0 : Int32).toInt = 0 := by decide
  have es : ∀ a b : Int32, X_setFault a b sX = some (X_set_faultPlace (X_set_faultNumber sX a) b) := fun _ _ => rfl
  have j17 : ∀ t1 : Int32, Mod_compile_j17 fu th sc wi ls le t1 r.1 r.2.1 r.2.2.1 r.2.2.2.1 r.2.2.2.2.1 r.2.2.2.2.2.1 r.2.2.2.2.2.2.1 r.2.2.2.2.2.2.2.1 r.2.2.2.2.2.2.2.2 = (if t1 ≤ 0 then some ((Mo_looked r.1, Mo_set_thrown r.1 t1, r.2.1, r.2.2.1, r.2.2.2.1, r.2.2.2.2.1, r.2.2.2.2.2.1, r.2.2.2.2.2.2.1, r.2.2.2.2.2.2.2.1, r.2.2.2.2.2.2.2.2) : BCm) else some ((0, Mo_set_thrown r.1 t1, r.2.1, r.2.2.1, r.2.2.2.1, r.2.2.2.2.1, r.2.2.2.2.2.1, r.2.2.2.2.2.2.1, r.2.2.2.2.2.2.2.1, r.2.2.2.2.2.2.2.2) : BCm)) := fun _ => rfl
  have fin : ∀ (k : Int32) (x : S_X), (o_bd (some (k, x, P')) fun q1 => if q1.1 = 0 then some ((1 : Int32), (0 : Int32), q1.2.1, q1.2.2) else some ((0 : Int32), Prog_size q1.2.2, q1.2.1, q1.2.2)) = (if k = 0 then some ((1 : Int32), (0 : Int32), x, P') else some ((0 : Int32), Prog_size P', x, P')) := fun _ _ => rfl
  unfold X_compile X_compileAnew Mod_compile
  rw [bd_s e1, bd_s e2, bd_s (es _ _), j17, j17]
  rcases h with ⟨h1, h2, h3⟩ | ⟨h1, h2⟩
  · refine ⟨(0, Prog_size P', X_set_faultPlace (X_set_faultNumber sX (Prog_fault P')) (Prog_place P'), P'), (Mo_looked r.1, Mo_set_thrown r.1 0, r.2), ?_, ?_, rfl, Or.inl rfl, fun _ => h3⟩
    · rw [if_pos h1, fin, if_neg (show ¬ (1 : Int32) = 0 by decide)]
    · rw [if_pos (by rw [h2]; decide), if_pos (by decide)]
  · refine ⟨(1, 0, X_set_faultPlace (X_set_faultNumber sX (Prog_fault P')) (Prog_place P'), P'), (0, Mo_set_thrown r.1 1, r.2), ?_, ?_, rfl, Or.inr rfl, fun e => absurd (show (1 : Int32) = 0 from e) (by decide)⟩
    · rw [if_neg h1, fin, if_pos rfl]
    · have nf : ¬ Mo_fault r.1 ≤ 0 := by
        rw [i_le]
        intro hle
        exact h2 (i_eq.mpr (by omega))
      rw [if_neg nf, if_neg (show ¬ (1 : Int32) ≤ 0 by decide)]
theorem t_La_c5 {fu L : Nat} {xs : Nat → Int32} {t : S_Tab} {th sc rf wi ls le : Nat → Int32} {x4 : Int32} {sX : S_X} {P : S_Prog} {s : S_Mo} {li ne en be lf tu fo op : Nat → Int32} {w : Nat → Int64} (hf : 45000 ≤ fu) (I : I_Tab t) (It : A_Mthere th) (Is : A_Mscales sc) (Iw : A_Mwidths wi) (Ils : A_Mlists ls) (Ile : A_Mlengths le) (Ip : I_Prog P) (Im : I_Mo s) (Ifo : A_MfoundOps fo) (Iop : A_Mops op) (h0 : 0 ≤ x4.toInt) (h1 : x4.toInt + 5 < (L : Int)) (h2 : (L : Int) ≤ 3072) (R : TbR t (Mo_used s) th sc rf wi ls le) : So (La_c5 fu xs L t th sc wi ls le x4 sX P s li ne en be lf tu fo op w) (fun r => I_Prog r.2.1 ∧ I_Mo r.2.2.1 ∧ A_MfoundOps r.2.2.2.2.2.2.2.2.2.1 ∧ A_Mops r.2.2.2.2.2.2.2.2.2.2.1 ∧ TbR t (Mo_used r.2.2.1) th sc rf wi ls le) := by
  unfold La_c5
  obtain ⟨q, p, eq, ep, hth, h01, hv⟩ := c_Xcompile (fu := fu) (sX := sX) (P := P) (li := li) (ne := ne) (en := en) (be := be) (lf := lf) (tu := tu) (by omega) I Im Is Iw Ils Ile Ifo Iop R
  obtain ⟨q', eq', hq'⟩ := t_X_compile (fu := fu) (sX := sX) (by omega) I Ip
  obtain ⟨p', ep', hp'⟩ := t_Mod_compile (fu := fu) (li := li) (ne := ne) (en := en) (be := be) (lf := lf) (tu := tu) (by omega) It Is Iw Ils Ile Im Ifo Iop
  rw [eq] at eq'
  rw [ep] at ep'
  cases eq'
  cases ep'
  obtain ⟨y1, y2, y3, y4⟩ := hp'
  have el : Law_compile fu 1 t sX P w = some (q.1, q.2.2.1, q.2.2.2, if q.1 = 0 then vp_updL w (0 : Int32).toNatClampNeg (q.2.1.toInt64) else w) := by
    unfold Law_compile
    rw [eq]
    show (if q.1 = 0 then _ else _) = _
    rcases h01 with c | c
    · rw [if_pos c, if_pos c, c]
      rfl
    · have n0 : ¬ q.1 = 0 := by rw [c]; decide
      rw [if_neg n0, if_pos c, if_neg n0, c]
  have et : Mod_thrown p.2.1 = some q.1 := by
    unfold Mod_thrown
    rw [hth]
  have R' : TbR t (Mo_used p.2.1) th sc rf wi ls le := by rw [y4.1]; exact R
  have fin : ∀ w', So (some (q.2.2.1, q.2.2.2, p.2.1, p.2.2.1, p.2.2.2.1, p.2.2.2.2.1, p.2.2.2.2.2.1, p.2.2.2.2.2.2.1, p.2.2.2.2.2.2.2.1, p.2.2.2.2.2.2.2.2.1, p.2.2.2.2.2.2.2.2.2, w')) (fun r : S_X × S_Prog × S_Mo × (Nat → Int32) × (Nat → Int32) × (Nat → Int32) × (Nat → Int32) × (Nat → Int32) × (Nat → Int32) × (Nat → Int32) × (Nat → Int32) × (Nat → Int64) => I_Prog r.2.1 ∧ I_Mo r.2.2.1 ∧ A_MfoundOps r.2.2.2.2.2.2.2.2.2.1 ∧ A_Mops r.2.2.2.2.2.2.2.2.2.2.1 ∧ TbR t (Mo_used r.2.2.1) th sc rf wi ls le) := fun w' => So.one ⟨hq'.1, y1, y2, y3, R'⟩
  refine So.bde el (So.bde ep (So.bde et (So.pos rfl ?_)))
  by_cases c : q.1 = 0
  · refine So.pos c (So.gd (by decide) (So.pos ?_ (fin _)))
    show (if q.1 = 0 then vp_updL w (0 : Int32).toNatClampNeg (q.2.1.toInt64) else w) (0 : Int32).toNatClampNeg = p.1.toInt64
    rw [if_pos c, ← hv c]
    exact if_pos rfl
  · exact So.neg c (fin _)
