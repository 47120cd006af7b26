-- compiling on both sides: operators
def inr (j : Nat) (d : Int32) : Prop := (cE j).toInt ≤ d.toInt ∧ d.toInt ≤ (cL j).toInt
theorem bd_some {α : Type} (x : Option α) : (o_bd x fun q => some q) = x := by
  cases x <;> rfl
theorem x_opr_L {fu : Nat} {d : Int32} : ∀ (m n k : Nat) (x : Int32), x.toInt = (k : Int) → k + m = 4 → m < n → (∀ j, j < k → ¬ inr j d) → So (Desc_operatorOf_L2 fu d n x) (fun r => (r.toInt = -1 ∧ ∀ j, j < 4 → ¬ inr j d) ∨ (∃ j : Nat, j < 4 ∧ r.toInt = (j : Int) ∧ inr j d))
  | _, 0, k, x, _, _, h, _ => absurd h (by omega)
  | 0, n + 1, k, x, hx, hk, _, hh => by
    have k4 : (4 : Int32).toInt = 4 := by decide
    rw [Desc_operatorOf_L2]
    exact So.pos (by rw [i_le]; omega) (So.one (Or.inl ⟨by decide, fun j hj => hh j (by omega)⟩))
  | m + 1, n + 1, k, x, hx, hk, hn, hh => by
    have k4 : (4 : Int32).toInt = 4 := by decide
    have k1 : (1 : Int32).toInt = 1 := by decide
    have gi : o_in x 4 = true := i_in.mpr (by omega)
    have en : x.toNatClampNeg = k := by have := i_nat (a := x) (by omega); omega
    have e2 : (x + 1).toInt = ((k + 1 : Nat) : Int) := by
      rw [i_add (a := x) (b := 1) (by omega) (by omega), k1, hx]
      omega
    have go : ¬ inr k d → So (Desc_operatorOf_j27 fu (fun v0 => Desc_operatorOf_L2 fu d n v0) d x) (fun r => (r.toInt = -1 ∧ ∀ j, j < 4 → ¬ inr j d) ∨ (∃ j : Nat, j < 4 ∧ r.toInt = (j : Int) ∧ inr j d)) := by
      intro hk'
      unfold Desc_operatorOf_j27
      refine x_opr_L m n (k + 1) (x + 1) e2 (by clear e2; omega) (by clear e2; omega) fun j hj => ?_
      by_cases ej : j = k
      · rw [ej]
        exact hk'
      · exact hh j (by clear e2; omega)
    rw [Desc_operatorOf_L2]
    refine So.neg (by rw [i_le]; clear e2; omega) (So.gd gi ?_)
    rw [en]
    refine So.ite (fun c => go ?_) (fun c => So.gd gi ?_) <;> rw [i_lt] at c
    · unfold inr
      clear e2
      omega
    · refine So.ite (fun c2 => go ?_) (fun c2 => So.one (Or.inr ⟨k, by clear e2; omega, hx, ?_⟩)) <;> rw [i_lt] at c2
      · unfold inr
        clear e2
        omega
      · unfold inr
        clear e2
        omega
theorem j41_om {k : Nat} {q d c : Int32} (hq : q.toInt = (k : Int)) (h0 : c.toInt ≤ d.toInt) (h1 : d.toInt - c.toInt ≤ 31) (hc : 0 ≤ c.toInt) : ∃ q4, Mod_begins_j41 q d c = some q4 ∧ om k (d - c) q4 := by
  have k0 : (0 : Int32).toInt = 0 := by decide
  have k1 : (1 : Int32).toInt = 1 := by decide
  have k8 : (8 : Int32).toInt = 8 := by decide
  have k16 : (16 : Int32).toInt = 16 := by decide
  have e : (d - c).toInt = d.toInt - c.toInt := i_sub (a := d) (b := c) (by omega) (by omega)
  unfold Mod_begins_j41
  by_cases cz : d - c = 0
  · refine ⟨_, if_pos cz, ?_, ?_, Or.inl ⟨?_, by decide⟩⟩
    · rw [cz]; decide
    · rw [cz]; decide
    · rw [cz]; decide
  · have hz : ¬ (d - c).toInt = 0 := fun h => cz (i_eq.mpr (by rw [h, k0]))
    rw [e] at hz
    rw [if_neg cz]
    have f16 : (d - c - 16).toInt = d.toInt - c.toInt - 16 := by
      rw [i_sub (a := d - c) (b := 16) (by rw [e]; clear e; omega) (by rw [e]; clear e; omega), e, k16]
    have f8 : (d - c - 8).toInt = d.toInt - c.toInt - 8 := by
      rw [i_sub (a := d - c) (b := 8) (by rw [e]; clear e f16; omega) (by rw [e]; clear e f16; omega), e, k8]
    by_cases c0 : q = 0
    · have ek : k = 0 := by rw [i_eq, hq, k0] at c0; omega
      refine ⟨_, if_pos c0, ?_⟩
      unfold om
      rw [if_pos ek, e, f16]
      clear e f16 f8
      omega
    · have ek : ¬ k = 0 := fun h => c0 (i_eq.mpr (by rw [hq, k0]; omega))
      rw [if_neg c0]
      by_cases c1 : q = 1
      · have ek1 : k = 1 := by rw [i_eq, hq, k1] at c1; omega
        refine ⟨_, if_pos c1, ?_⟩
        unfold om
        rw [if_neg ek, if_pos ek1, e, f8]
        clear e f16 f8
        omega
      · have ek1 : ¬ k = 1 := fun h => c1 (i_eq.mpr (by rw [hq, k1]; omega))
        refine ⟨_, if_neg c1, ?_⟩
        unfold om
        rw [if_neg ek, if_neg ek1, e]
        clear e f16 f8
        omega
theorem op_both {fu : Nat} {d : Int32} (hf : 12000 ≤ fu) (h : (400 ≤ d.toInt ∧ d.toInt ≤ 431) ∨ (440 ≤ d.toInt ∧ d.toInt ≤ 455) ∨ (460 ≤ d.toInt ∧ d.toInt ≤ 468) ∨ (480 ≤ d.toInt ∧ d.toInt ≤ 487)) : ∃ (k : Nat) (q q11 q4 : Int32), k < 4 ∧ q.toInt = (k : Int) ∧ Desc_operatorOf fu d = some q ∧ Mod_operator d = some q ∧ Desc_settingOf d q = some q11 ∧ Mod_begins d = some q4 ∧ om k q11 q4 := by
  have E0 : (cE 0).toInt = 400 := by decide
  have E1 : (cE 1).toInt = 440 := by decide
  have E2 : (cE 2).toInt = 460 := by decide
  have E3 : (cE 3).toInt = 480 := by decide
  have L0 : (cL 0).toInt = 431 := by decide
  have L1 : (cL 1).toInt = 455 := by decide
  have L2 : (cL 2).toInt = 468 := by decide
  have L3 : (cL 3).toInt = 487 := by decide
  have l400 : (400 : Int32).toInt = 400 := by decide
  have l440 : (440 : Int32).toInt = 440 := by decide
  have l460 : (460 : Int32).toInt = 460 := by decide
  have l480 : (480 : Int32).toInt = 480 := by decide
  have l487 : (487 : Int32).toInt = 487 := by decide
  obtain ⟨q, eq, hq⟩ := x_opr_L (fu := fu) (d := d) 4 fu 0 0 (by decide) rfl (by omega) (fun j hj => absurd hj (by omega))
  have eq : Desc_operatorOf fu d = some q := by
    unfold Desc_operatorOf
    exact eq
  rcases hq with ⟨_, hn⟩ | ⟨j, hj, hqj, hin⟩
  · have n0 := hn 0 (by decide)
    have n1 := hn 1 (by decide)
    have n2 := hn 2 (by decide)
    have n3 := hn 3 (by decide)
    unfold inr at n0 n1 n2 n3
    omega
  · have gq : o_in q 4 = true := i_in.mpr (by omega)
    have nq : q.toNatClampNeg = j := by have := i_nat (a := q) (by omega); omega
    have es : Desc_settingOf d q = some (d - cE j) := by
      unfold Desc_settingOf
      rw [gd_t gq, nq]
    unfold inr at hin
    have base : 400 ≤ (cE j).toInt ∧ (cE j).toInt ≤ d.toInt ∧ d.toInt - (cE j).toInt ≤ 31 ∧ Mod_operator d = some q ∧ (q = 0 → cE j = 400) ∧ (q = 1 → cE j = 440) ∧ (q = 2 → cE j = 460) ∧ (¬ q = 0 → ¬ q = 1 → ¬ q = 2 → cE j = 480) := by
      have k0 : (0 : Int32).toInt = 0 := by decide
      have k1 : (1 : Int32).toInt = 1 := by decide
      have k2 : (2 : Int32).toInt = 2 := by decide
      have k3 : (3 : Int32).toInt = 3 := by decide
      unfold Mod_operator
      have hj' : j = 0 ∨ j = 1 ∨ j = 2 ∨ j = 3 := by omega
      rcases hj' with e | e | e | e <;> subst e
      · have qe : q = 0 := i_eq.mpr (by omega)
        subst qe
        refine ⟨by omega, hin.1, by omega, ?_, fun _ => rfl, fun h => absurd h (by decide), fun h => absurd h (by decide), fun h => absurd rfl h⟩
        rw [if_neg (by rw [i_lt]; omega), if_pos (by rw [i_le]; omega), if_neg (by rw [i_le]; omega)]
      · have qe : q = 1 := i_eq.mpr (by omega)
        subst qe
        refine ⟨by omega, hin.1, by omega, ?_, fun h => absurd h (by decide), fun _ => rfl, fun h => absurd h (by decide), fun _ h => absurd rfl h⟩
        rw [if_neg (by rw [i_lt]; omega), if_pos (by rw [i_le]; omega), if_pos (by rw [i_le]; omega), if_neg (by rw [i_le]; omega)]
      · have qe : q = 2 := i_eq.mpr (by omega)
        subst qe
        refine ⟨by omega, hin.1, by omega, ?_, fun h => absurd h (by decide), fun h => absurd h (by decide), fun _ => rfl, fun _ _ h => absurd rfl h⟩
        rw [if_neg (by rw [i_lt]; omega), if_pos (by rw [i_le]; omega), if_pos (by rw [i_le]; omega), if_pos (by rw [i_le]; omega), if_neg (by rw [i_le]; omega)]
      · have qe : q = 3 := i_eq.mpr (by omega)
        subst qe
        refine ⟨by omega, hin.1, by omega, ?_, fun h => absurd h (by decide), fun h => absurd h (by decide), fun h => absurd h (by decide), fun _ _ _ => rfl⟩
        rw [if_neg (by rw [i_lt]; omega), if_pos (by rw [i_le]; omega), if_pos (by rw [i_le]; omega), if_pos (by rw [i_le]; omega), if_pos (by rw [i_le]; omega)]
    obtain ⟨b1, b2, b3, b4, b5, b6, b7, b8⟩ := base
    obtain ⟨q4, e4, o4⟩ := j41_om (k := j) (q := q) (d := d) (c := cE j) hqj b2 b3 (by omega)
    refine ⟨j, q, d - cE j, q4, hj, hqj, eq, b4, es, ?_, o4⟩
    unfold Mod_begins
    rw [bd_s b4]
    by_cases c0 : q = 0
    · rw [if_pos c0, ← b5 c0]
      exact e4
    · rw [if_neg c0]
      by_cases c1 : q = 1
      · rw [if_pos c1, ← b6 c1]
        exact e4
      · rw [if_neg c1]
        by_cases c2 : q = 2
        · rw [if_pos c2, ← b7 c2]
          exact e4
        · rw [if_neg c2, ← b8 c0 c1 c2]
          exact e4
theorem CS_op {u : Int32} {le : Nat → Int32} {P : S_Prog} {s : S_Mo} {li ne en be tu fo op : Nat → Int32} {o k : Nat} {x y : Int32} (C : CSt u le P s li ne en be tu fo op o) (h : om k x y) : CSt u le (Prog_put_settings P k x) s li ne en be tu fo (upd op k y) o := by
  obtain ⟨c1, c2, c3, c4, c5, c6, c7, c8, c9, c10, c11⟩ := C
  refine ⟨c1, c2, c3, c4, c5, c6, c7, c8, c9, fun j hj => ?_, c11⟩
  show om j (upd (Prog_settings P) k x j) _
  by_cases ej : j = k
  · rw [ej, upd_at, upd_at]
    exact h
  · rw [upd_ne ej, upd_ne ej]
    exact c10 j hj
theorem c_op {fu o k : Nat} {P : S_Prog} {s : S_Mo} {u : Int32} {th sc wi ls le li ne en be lf tu fo op : Nat → Int32} {q q11 q4 w : Int32} (C : CSt u le P s li ne en be tu fo op (o + 1)) (hk : k < 4) (hq : q.toInt = (k : Int)) (h : om k q11 q4) : ∃ (P' : S_Prog) (r : B9), Prog_lookAtOperator q q11 P = some P' ∧ (if q4 = (-100) then Mod_look_j353 fu th sc wi ls le w q q4 1 s li ne en be lf tu fo op else Mod_look_j353 fu th sc wi ls le w q q4 0 s li ne en be lf tu fo op) = some r ∧ LkR u le (o + 1) (Mo_looked s).toInt P' r := by
  have C' := C
  obtain ⟨c1, c2, c3, c4, c5, c6, c7, c8, c9, c10, c11⟩ := C
  have g4 : o_in q 4 = true := i_in.mpr (by omega)
  have nq : q.toNatClampNeg = k := by have := i_nat (a := q) (by omega); omega
  have z1 := om_zero h
  have z2 := om_zero (c10 k hk)
  have n10 : ¬ (1 : Int32) = 0 := by decide
  have n01 : ¬ (0 : Int32) = 1 := by decide
  obtain ⟨PF, eF, hF⟩ := fail_x 4 P
  have jx1 : ∀ t : Int32, Prog_lookAtOperator_j24 q q11 t t P = some PF := by
    intro t
    unfold Prog_lookAtOperator_j24
    rw [if_pos rfl, bd_s eF]
  have jx2 : ∀ a b : Int32, ¬ a = b → Prog_lookAtOperator_j24 q q11 a b P = some (Prog_put_settings P k q11) := by
    intro a b hab
    unfold Prog_lookAtOperator_j24
    rw [if_neg hab, gd_t g4, nq]
    rfl
  have jm1 : ∀ t : Int32, Mod_look_j370 fu th sc wi ls le w q q4 t t s li ne en be lf tu fo op = some (wr 4 w s, li, ne, en, be, lf, tu, fo, upd op k q4) := by
    intro t
    unfold Mod_look_j370
    rw [if_pos rfl, bd_s (wrong_eq _ _ _), gd_t g4, nq]
    rfl
  have jm2 : ∀ a b : Int32, ¬ a = b → Mod_look_j370 fu th sc wi ls le w q q4 a b s li ne en be lf tu fo op = some (s, li, ne, en, be, lf, tu, fo, upd op k q4) := by
    intro a b hab
    unfold Mod_look_j370
    rw [if_neg hab, gd_t g4, nq]
    rfl
  have bad : LkR u le (o + 1) (Mo_looked s).toInt PF (wr 4 w s, li, ne, en, be, lf, tu, fo, upd op k q4) := Or.inl ⟨by rw [hF]; decide, wr_ge (by decide)⟩
  have good : LkR u le (o + 1) (Mo_looked s).toInt (Prog_put_settings P k q11) (s, li, ne, en, be, lf, tu, fo, upd op k q4) := Or.inr ⟨o + 1, by omega, CS_op C' h, Int.le_refl _⟩
  have m353 : ∀ t0 : Int32, Mod_look_j353 fu th sc wi ls le w q q4 t0 s li ne en be lf tu fo op = (if op k = (-100) then Mod_look_j370 fu th sc wi ls le w q q4 t0 1 s li ne en be lf tu fo op else Mod_look_j370 fu th sc wi ls le w q q4 t0 0 s li ne en be lf tu fo op) := by
    intro t0
    unfold Mod_look_j353
    rw [gd_t g4, nq]
  unfold Prog_lookAtOperator Prog_lookAtOperator_j14
  rw [gd_t g4, nq, m353, m353]
  by_cases d1 : Prog_settings P k = 0
  · have d1' := z2.mp d1
    by_cases d2 : q11 = 0
    · have d2' := z1.mp d2
      rw [if_pos d1, if_pos d2, if_pos d2', if_pos d1']
      exact ⟨_, _, jx1 0, jm1 1, bad⟩
    · have d2' : ¬ q4 = (-100) := fun e => d2 (z1.mpr e)
      rw [if_pos d1, if_neg d2, if_neg d2', if_pos d1']
      exact ⟨_, _, jx2 0 1 n01, jm2 0 1 n01, good⟩
  · have d1' : ¬ op k = (-100) := fun e => d1 (z2.mpr e)
    by_cases d2 : q11 = 0
    · have d2' := z1.mp d2
      rw [if_neg d1, if_pos d2, if_pos d2', if_neg d1']
      exact ⟨_, _, jx2 1 0 n10, jm2 1 0 n10, good⟩
    · have d2' : ¬ q4 = (-100) := fun e => d2 (z1.mpr e)
      rw [if_neg d1, if_neg d2, if_neg d2', if_neg d1']
      exact ⟨_, _, jx1 1, jm1 0, bad⟩
-- a descriptor
def NX (fu : Nat) (t : S_Tab) (d at_ top : Int32) (P : S_Prog) : Option S_Prog := o_bd (Desc_operatorOf fu d) fun q7 => (o_bd (Desc_isElement d) fun q8 => (if q8 = 0 then o_bd (Desc_sequenceOf d) fun q9 => (if q9 = ((-1)) then o_bd (Desc_isRepeat d) fun q10 => (if q10 = 0 then if q7 = ((-1)) then some P else o_bd (Desc_settingOf d q7) fun q11 => (o_bd (Prog_lookAtOperator q7 q11 P) fun q12 => (some q12)) else o_bd (Prog_lookAtRepeat fu t d at_ top P) fun q14 => (some q14)) else o_bd (Desc_sequenceOf d) fun q16 => (o_bd (Prog_lookAtSequence fu t q16 P) fun q17 => (some q17))) else o_bd (Prog_lookAtElement fu t d P) fun q19 => (some q19)))
theorem c_look {fu o : Nat} {t : S_Tab} {P : S_Prog} {s : S_Mo} {u : Int32} {th sc rf wi ls le li ne en be lf tu fo op : Nat → Int32} {d at_ top : Int32} (hf : 12000 ≤ fu) (I : I_Tab t) (Ile : A_Mlengths le) (T : TbR t u th sc rf wi ls le) (C : CSt u le P s li ne en be tu fo op (o + 1)) (K : KDi d.toInt) (htop : top.toInt = (o : Int)) (etop : top = Mo_open s - 1) (hat : at_.toInt + 1 = 8 * (li o).toInt + (ne o).toInt) (hb : (be o).toInt + 1 ≤ (ne o).toInt) (hs : 1 ≤ (Prog_size P).toInt) : ∃ (P' : S_Prog) (r : B9), NX fu t d at_ top P = some P' ∧ Mod_look fu th sc wi ls le d s li ne en be lf tu fo op = some r ∧ LkR u le (o + 1) (Mo_looked s).toInt P' r := by
  have h56 := CS_open C
  have C' := C
  obtain ⟨c1, c2, c3, c4, c5, c6, c7, c8, c9, c10, c11⟩ := C
  obtain ⟨_, b1, b2, b3, b4, b5, b6, b7, b8⟩ := c11 o (by omega)
  have hen : (en o).toInt ≤ 24 := by
    have := A_Mlengths_at Ile (li o).toNatClampNeg
    omega
  obtain ⟨q1, e1, _⟩ := t_Mod_where (fu := fu) (o := o) (li := li) (ne := ne) (s := s) hf (by rw [c3]; omega) (by omega)
  obtain ⟨q7, e7, h7⟩ := t_Desc_operatorOf (fu := fu) (a0 := d) hf
  obtain ⟨q2, e2, h2⟩ := t_Mod_operator (a0 := d)
  obtain ⟨q8, e8, h8⟩ := t_Desc_isElement (a0 := d)
  obtain ⟨q9, e9, h9⟩ := t_Desc_sequenceOf (a0 := d)
  obtain ⟨q10, e10, h10⟩ := t_Desc_isRepeat (a0 := d)
  obtain ⟨q3, e3, h3⟩ := t_Mod_isRepeat (a0 := d)
  have k0 : (0 : Int32).toInt = 0 := by decide
  have km : ((-1) : Int32).toInt = -1 := by decide
  have k63 : (63 : Int32).toInt = 63 := by decide
  have k115 : (115 : Int32).toInt = 115 := by decide
  rcases K with K | K | K | K | K | K
  · -- an element
    have n8 : ¬ q8 = 0 := by rw [i_eq]; omega
    have n63 : ¬ (63 : Int32) < d := by rw [i_lt]; omega
    obtain ⟨P', s', f1, f2, f3⟩ := c_el (fu := fu) (P := P) (w := q1) (op := op) hf I c1 (by rw [c2]; exact T) c10 c9 K.1 (by omega)
    refine ⟨P', (s', li, ne, en, be, lf, tu, fo, op), ?_, ?_, ?_⟩
    · unfold NX
      rw [bd_s e7, bd_s e8, if_neg n8, bd_s f1]
    · unfold Mod_look
      rw [bd_s e1, bd_s e2, if_neg n63, bd_s f2]
    · rcases f3 with ⟨x, y⟩ | x
      · rw [x, y]
        exact Or.inr ⟨o + 1, by omega, C', Int.le_refl _⟩
      · exact Or.inl x
  · -- a sequence
    have z8 : q8 = 0 := i_eq.mpr (by omega)
    have n9 : ¬ q9 = (-1) := by rw [i_eq]; omega
    have h63 : (63 : Int32) < d := by rw [i_lt]; omega
    have n115 : ¬ (115 : Int32) < d := by rw [i_lt]; omega
    have ed : d - 100 = q9 := i_eq.mpr (by
      have k100 : (100 : Int32).toInt = 100 := by decide
      rw [i_sub (a := d) (b := 100) (by omega) (by omega), k100]
      omega)
    obtain ⟨P', r, f1, f2, f3⟩ := c_seq (fu := fu) (a := q9) (w := q1) (lf := lf) hf I Ile T C' (by omega) (by omega)
    refine ⟨P', r, ?_, ?_, f3⟩
    · unfold NX
      rw [bd_s e7, bd_s e8, if_pos z8, bd_s e9, if_neg n9, bd_s e9, bd_some]
      exact f1
    · unfold Mod_look
      rw [bd_s e1, bd_s e2, if_pos h63, if_neg n115, ed]
      exact f2
  · -- a REPEAT
    have z8 : q8 = 0 := i_eq.mpr (by omega)
    have z9 : q9 = (-1) := i_eq.mpr (by omega)
    have n10 : ¬ q10 = 0 := by rw [i_eq]; omega
    have n3 : ¬ q3 = 0 := by rw [i_eq]; omega
    have h63 : (63 : Int32) < d := by rw [i_lt]; omega
    have h115 : (115 : Int32) < d := by rw [i_lt]; omega
    obtain ⟨x, ex, hx⟩ := t_Desc_lengthOf (a0 := d) K.1 K.2
    obtain ⟨y, ey, hy⟩ := t_Desc_timesOf (a0 := d) K.1 K.2
    have ex' : (d - 200) / 16 = x := by
      unfold Desc_lengthOf at ex
      exact Option.some.inj ex
    have ey' : (d - 200) - (d - 200) / 16 * 16 = y := by
      unfold Desc_timesOf at ey
      exact Option.some.inj ey
    have hN : NX fu t d at_ top P = (if y = 0 then Prog_lookAtRepeat_j12 fu t d at_ top 1 P else Prog_lookAtRepeat_j12 fu t d at_ top 0 P) := by
      unfold NX
      rw [bd_s e7, bd_s e8, if_pos z8, bd_s e9, if_pos z9, bd_s e10, if_neg n10, bd_some]
      unfold Prog_lookAtRepeat
      rw [bd_s ey]
    have hM : Mod_look fu th sc wi ls le d s li ne en be lf tu fo op = (if y = 0 then Mod_look_j137 fu th sc wi ls le top q1 x 1 s li ne en be lf tu fo op else Mod_look_j137 fu th sc wi ls le top q1 x 0 s li ne en be lf tu fo op) := by
      unfold Mod_look
      rw [bd_s e1, bd_s e2, if_pos h63, if_pos h115, bd_s e3, if_neg n3, ← etop, ey', ex']
    rw [hN, hM]
    by_cases cy : y = 0
    · rw [if_pos cy, if_pos cy]
      exact c_rep1 hf I T C' htop ex hx.1 hx.2 hat hb hen hs
    · rw [if_neg cy, if_neg cy]
      exact c_rep0 hf C' htop ex hx.1 hx.2 hat hb hen hs
  · -- an operator
    obtain ⟨k, q, q11, q4, hk, hq, o1, o2, o3, o4, o5⟩ := op_both (fu := fu) (d := d) hf K
    have z8 : q8 = 0 := i_eq.mpr (by omega)
    have z9 : q9 = (-1) := i_eq.mpr (by omega)
    have z10 : q10 = 0 := i_eq.mpr (by omega)
    have z3 : q3 = 0 := i_eq.mpr (by omega)
    have h63 : (63 : Int32) < d := by rw [i_lt]; omega
    have h115 : (115 : Int32) < d := by rw [i_lt]; omega
    have nq : ¬ q = (-1) := by rw [i_eq]; omega
    have nq' : ¬ q < 0 := by rw [i_lt]; omega
    have hN : NX fu t d at_ top P = Prog_lookAtOperator q q11 P := by
      unfold NX
      rw [bd_s o1, bd_s e8, if_pos z8, bd_s e9, if_pos z9, bd_s e10, if_pos z10, if_neg nq, bd_s o3, bd_some]
    have hM : Mod_look fu th sc wi ls le d s li ne en be lf tu fo op = (if q4 = (-100) then Mod_look_j353 fu th sc wi ls le q1 q q4 1 s li ne en be lf tu fo op else Mod_look_j353 fu th sc wi ls le q1 q q4 0 s li ne en be lf tu fo op) := by
      unfold Mod_look
      rw [bd_s e1, bd_s o2, if_pos h63, if_pos h115, bd_s e3, if_pos z3, if_neg nq', bd_s o4]
    rw [hN, hM]
    exact c_op C' hk hq o5
  · -- BITS
    have z8 : q8 = 0 := i_eq.mpr (by omega)
    have z9 : q9 = (-1) := i_eq.mpr (by omega)
    have z10 : q10 = 0 := i_eq.mpr (by omega)
    have z3 : q3 = 0 := i_eq.mpr (by omega)
    have z7 : q7 = (-1) := i_eq.mpr (by omega)
    have z2 : q2 < 0 := by rw [i_lt]; omega
    have h63 : (63 : Int32) < d := by rw [i_lt]; omega
    have h115 : (115 : Int32) < d := by rw [i_lt]; omega
    refine ⟨P, (s, li, ne, en, be, lf, tu, fo, op), ?_, ?_, Or.inr ⟨o + 1, by omega, C', Int.le_refl _⟩⟩
    · unfold NX
      rw [bd_s e7, bd_s e8, if_pos z8, bd_s e9, if_pos z9, bd_s e10, if_pos z10, if_pos z7]
    · unfold Mod_look
      rw [bd_s e1, bd_s e2, if_pos h63, if_pos h115, bd_s e3, if_pos z3, if_pos z2]
  · -- the MARK
    have z8 : q8 = 0 := i_eq.mpr (by omega)
    have z9 : q9 = (-1) := i_eq.mpr (by omega)
    have z10 : q10 = 0 := i_eq.mpr (by omega)
    have z3 : q3 = 0 := i_eq.mpr (by omega)
    have z7 : q7 = (-1) := i_eq.mpr (by omega)
    have z2 : q2 < 0 := by rw [i_lt]; omega
    have h63 : (63 : Int32) < d := by rw [i_lt]; omega
    have h115 : (115 : Int32) < d := by rw [i_lt]; omega
    refine ⟨P, (s, li, ne, en, be, lf, tu, fo, op), ?_, ?_, Or.inr ⟨o + 1, by omega, C', Int.le_refl _⟩⟩
    · unfold NX
      rw [bd_s e7, bd_s e8, if_pos z8, bd_s e9, if_pos z9, bd_s e10, if_pos z10, if_pos z7]
    · unfold Mod_look
      rw [bd_s e1, bd_s e2, if_pos h63, if_pos h115, bd_s e3, if_pos z3, if_pos z2]
