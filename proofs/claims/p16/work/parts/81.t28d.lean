-- compiling on both sides: tables
def KDi (x : Int) : Prop := (0 ≤ x ∧ x ≤ 63) ∨ (100 ≤ x ∧ x ≤ 115) ∨ (216 ≤ x ∧ x ≤ 343) ∨ ((400 ≤ x ∧ x ≤ 431) ∨ (440 ≤ x ∧ x ≤ 455) ∨ (460 ≤ x ∧ x ≤ 468) ∨ (480 ≤ x ∧ x ≤ 487)) ∨ (501 ≤ x ∧ x ≤ 516) ∨ x = 520
def TbR (t : S_Tab) (u : Int32) (th sc rf wi ls le : Nat → Int32) : Prop := (∀ j : Nat, (Tab_widths t j = 0 ↔ th j = 0)) ∧ (∀ j : Nat, ¬ th j = 0 → Tab_widths t j = wi j ∧ Tab_scales t j = sc j ∧ Tab_references t j = rf j) ∧ Tab_versionInUse t = u ∧ (∀ j : Nat, Tab_sizes t j = le j) ∧ (∀ l i : Nat, l ≤ 16 → (i : Int) < (le l).toInt → Tab_listed t (8 * l + i) = ls (24 * l + i) ∧ KDi (ls (24 * l + i)).toInt)
theorem fvd_there {th : Nat → Int32} {c : Nat} : ∀ v : Nat, 0 ≤ fvd th c v → ¬ th (fvd th c v).toNat = 0
  | 0, h => by
    unfold fvd at h
    omega
  | v + 1, h => by
    unfold fvd at h ⊢
    by_cases e : th (64 * v + c) = 0
    · rw [if_pos e] at h ⊢
      exact fvd_there v h
    · rw [if_neg e]
      show ¬ th (((64 * v + c : Nat) : Int)).toNat = 0
      rw [Int.toNat_natCast]
      exact e
theorem fv_there {th : Nat → Int32} {u c : Int32} (h0 : 0 ≤ c.toInt) (h : 0 ≤ fv th u c) : ¬ th (fv th u c).toNat = 0 := by
  unfold fv at h ⊢
  by_cases e : th (256 + c.toNatClampNeg) = 0
  · rw [if_pos e] at h ⊢
    exact fvd_there _ h
  · rw [if_neg e]
    have hn := i_nat h0
    have e2 : (256 + c.toInt).toNat = 256 + c.toNatClampNeg := by omega
    rw [e2]
    exact e
theorem x_force_L {fu : Nat} {t : S_Tab} {th : Nat → Int32} {c : Int32} (I : I_Tab t) (T : ∀ j : Nat, (Tab_widths t j = 0 ↔ th j = 0)) (h0 : 0 ≤ c.toInt) (h1 : c.toInt < 64) : ∀ (v n : Nat) (x : Int32), x.toInt = (v : Int) - 1 → v ≤ 4 → v < n → So (Tab_inForce_L24 fu t c n x) (fun r => r.toInt = fvd th c.toNatClampNeg v ∧ -1 ≤ r.toInt ∧ r.toInt < 256)
  | _, 0, x, _, _, h => absurd h (by omega)
  | 0, n + 1, x, hx, _, _ => by
    have k0 : (0 : Int32).toInt = 0 := by decide
    rw [Tab_inForce_L24]
    refine So.pos (by rw [i_lt]; omega) (So.one ⟨?_, by decide, by decide⟩)
    show ((-1) : Int32).toInt = -1
    decide
  | v + 1, n + 1, x, hx, hv, hn => by
    have k0 : (0 : Int32).toInt = 0 := by decide
    have km : ((-1) : Int32).toInt = -1 := by decide
    have hx : x.toInt = (v : Int) := by omega
    have hn1 := i_nat h0
    rw [Tab_inForce_L24]
    refine So.neg (by rw [i_lt]; omega) ?_
    have ee : Tab_entryAt x c = some (x * 64 + c) := rfl
    have m1 := i_mulr x 64 64 (by decide) (by omega) (by omega)
    have e1 : (x * 64 + c).toInt = 64 * (v : Int) + c.toInt := by
      rw [i_add (a := x * 64) (b := c) (by omega) (by omega), m1, hx]
      omega
    have en : (x * 64 + c).toNatClampNeg = 64 * v + c.toNatClampNeg := by
      have := i_nat (a := x * 64 + c) (by rw [e1]; omega)
      rw [e1] at this
      clear e1 m1
      omega
    refine So.bde ee (So.gd (i_in.mpr (by rw [e1]; clear e1 m1; omega)) ?_)
    have hw := I_Tab_widths I (64 * v + c.toNatClampNeg)
    have ew : Tab_widths t (x * 64 + c).toNatClampNeg ≤ 0 ↔ th (64 * v + c.toNatClampNeg) = 0 := by
      rw [en, i_le, ← T, i_eq]
      clear e1 m1
      omega
    refine So.ite (fun cc => ?_) (fun cc => ?_) <;> rw [ew] at cc
    · have e2 : (x + (-1)).toInt = (v : Int) - 1 := by
        clear e1 m1
        rw [i_add (a := x) (b := (-1)) (by omega) (by omega), km, hx]
        omega
      refine So.imp (x_force_L I T h0 h1 v n (x + (-1)) e2 (by clear e1 m1 e2; omega) (by clear e1 m1 e2; omega)) fun r hr => ?_
      have ef : fvd th c.toNatClampNeg (v + 1) = fvd th c.toNatClampNeg v := by
        show (if th (64 * v + c.toNatClampNeg) = 0 then fvd th c.toNatClampNeg v else _) = _
        rw [if_pos cc]
      rw [ef]
      exact hr
    · refine So.bde ee (So.one ?_)
      have ef : fvd th c.toNatClampNeg (v + 1) = ((64 * v + c.toNatClampNeg : Nat) : Int) := by
        show (if th (64 * v + c.toNatClampNeg) = 0 then fvd th c.toNatClampNeg v else _) = _
        rw [if_neg cc]
      rw [ef, e1]
      clear e1 m1 ef
      omega
theorem x_force {fu : Nat} {t : S_Tab} {th : Nat → Int32} {c : Int32} (hf : 12000 ≤ fu) (I : I_Tab t) (T : ∀ j : Nat, (Tab_widths t j = 0 ↔ th j = 0)) (h0 : 0 ≤ c.toInt) (h1 : c.toInt < 64) : So (Tab_inForce fu t c) (fun r => r.toInt = fv th (Tab_versionInUse t) c ∧ -1 ≤ r.toInt ∧ r.toInt < 320) := by
  unfold Tab_inForce
  have k0 : (0 : Int32).toInt = 0 := by decide
  have hn1 := i_nat h0
  have ee : Tab_entryAt 4 c = some (4 * 64 + c) := rfl
  have k256 : (4 * 64 : Int32).toInt = 256 := by decide
  have e1 : (4 * 64 + c).toInt = 256 + c.toInt := by
    rw [i_add (a := 4 * 64) (b := c) (by omega) (by omega), k256]
  have en : (4 * 64 + c).toNatClampNeg = 256 + c.toNatClampNeg := by
    have := i_nat (a := 4 * 64 + c) (by rw [e1]; omega)
    rw [e1] at this
    clear e1
    omega
  refine So.bde ee (So.gd (i_in.mpr (by rw [e1]; clear e1; omega)) ?_)
  have hw := I_Tab_widths I (256 + c.toNatClampNeg)
  have ew : Tab_widths t (4 * 64 + c).toNatClampNeg ≤ 0 ↔ th (256 + c.toNatClampNeg) = 0 := by
    rw [en, i_le, ← T, i_eq]
    clear e1
    omega
  have hv := I_Tab_versionInUse I
  have hvn := i_nat hv.1
  unfold fv
  refine So.ite (fun cc => ?_) (fun cc => ?_) <;> rw [ew] at cc
  · rw [if_pos cc]
    refine So.imp (x_force_L I T h0 h1 ((Tab_versionInUse t).toNatClampNeg + 1) fu (Tab_versionInUse t) (by clear e1; omega) (by clear e1; omega) (by clear e1; omega)) fun r hr => ?_
    exact ⟨hr.1, hr.2.1, by have := hr.2.2; clear e1; omega⟩
  · rw [if_neg cc]
    refine So.bde ee (So.one ?_)
    rw [e1]
    clear e1
    omega
theorem c_force {fu : Nat} {t : S_Tab} {s : S_Mo} {th : Nat → Int32} {c : Int32} (hf : 12000 ≤ fu) (I : I_Tab t) (Im : I_Mo s) (T : ∀ j : Nat, (Tab_widths t j = 0 ↔ th j = 0)) (U : Tab_versionInUse t = Mo_used s) (h0 : 0 ≤ c.toInt) (h1 : c.toInt < 64) : ∃ r : Int32, Tab_inForce fu t c = some r ∧ Mod_force fu s th c = some r ∧ -1 ≤ r.toInt ∧ r.toInt < 320 ∧ r.toInt = fv th (Mo_used s) c ∧ (0 ≤ r.toInt → ¬ th r.toNatClampNeg = 0) := by
  obtain ⟨r, e, a, b, d⟩ := x_force (fu := fu) hf I T h0 h1
  obtain ⟨p, f, a', b', d'⟩ := t_Mod_force (fu := fu) (th := th) hf Im h0 h1
  rw [U] at a
  have er : p = r := i_eq.mpr (by rw [a, a'])
  refine ⟨r, e, by rw [f, er], b, d, a, fun hr => ?_⟩
  have := fv_there (th := th) (u := Mo_used s) h0 (by rw [← a]; exact hr)
  rw [← a] at this
  exact this
-- settings
def om (k : Nat) (x y : Int32) : Prop := 0 ≤ x.toInt ∧ x.toInt ≤ 31 ∧ ((x.toInt = 0 ∧ y.toInt = -100) ∨ (0 < x.toInt ∧ y.toInt = x.toInt - (if k = 0 then 16 else if k = 1 then 8 else 0)))
theorem om_inj {k : Nat} {x y x' y' : Int32} (h : om k x y) (h' : om k x' y') : x = x' ↔ y = y' := by
  unfold om at h h'
  rw [i_eq, i_eq]
  by_cases e0 : k = 0
  · rw [if_pos e0] at h h'
    omega
  · rw [if_neg e0] at h h'
    by_cases e1 : k = 1
    · rw [if_pos e1] at h h'
      omega
    · rw [if_neg e1] at h h'
      omega
theorem om_zero {k : Nat} {x y : Int32} (h : om k x y) : x = 0 ↔ y = (-100) := by
  unfold om at h
  have k0 : (0 : Int32).toInt = 0 := by decide
  have km : ((-100) : Int32).toInt = -100 := by decide
  rw [i_eq, i_eq]
  by_cases e0 : k = 0
  · rw [if_pos e0] at h
    omega
  · rw [if_neg e0] at h
    by_cases e1 : k = 1
    · rw [if_pos e1] at h
      omega
    · rw [if_neg e1] at h
      omega
theorem om_start (k : Nat) : om k 0 (-100) := ⟨by decide, by decide, Or.inl ⟨by decide, by decide⟩⟩
theorem x_addedWidth {x y : Int32} (h : om 0 x y) : So (Desc_addedWidth x) (fun r => r.toInt = ad y) := by
  have hz := om_zero h
  unfold Desc_addedWidth ad
  refine So.ite (fun c => ?_) (fun c => ?_)
  · rw [if_pos (hz.mp c)]
    exact So.one (by decide)
  · rw [if_neg (fun e => c (hz.mpr e))]
    obtain ⟨h1, h2, h3⟩ := h
    have k0 : (0 : Int32).toInt = 0 := by decide
    have k16 : (16 : Int32).toInt = 16 := by decide
    have e := i_sub (a := x) (b := 16) (by omega) (by omega)
    refine So.one ?_
    rw [e, k16]
    rcases h3 with ⟨h3, _⟩ | ⟨_, h3⟩
    · exact absurd (i_eq.mpr (by omega)) c
    · rw [if_pos rfl] at h3
      omega
theorem x_addedScale {x y : Int32} (h : om 1 x y) : So (Desc_addedScale x) (fun r => r.toInt = ad y) := by
  have hz := om_zero h
  unfold Desc_addedScale ad
  refine So.ite (fun c => ?_) (fun c => ?_)
  · rw [if_pos (hz.mp c)]
    exact So.one (by decide)
  · rw [if_neg (fun e => c (hz.mpr e))]
    obtain ⟨h1, h2, h3⟩ := h
    have k0 : (0 : Int32).toInt = 0 := by decide
    have k8 : (8 : Int32).toInt = 8 := by decide
    have e := i_sub (a := x) (b := 8) (by omega) (by omega)
    refine So.one ?_
    rw [e, k8]
    rcases h3 with ⟨h3, _⟩ | ⟨_, h3⟩
    · exact absurd (i_eq.mpr (by omega)) c
    · rw [if_neg (by decide), if_pos rfl] at h3
      omega
-- frames
def Fsq (f : Nat) (P : S_Prog) (li tu : Nat → Int32) : Prop := (f = 0 ∧ Prog_openSequences P f = (-1)) ∨ (0 < f ∧ (tu f).toInt < 0 ∧ Prog_openSequences P f = li f ∧ 0 ≤ (li f).toInt ∧ (li f).toInt < 16) ∨ (0 < f ∧ 0 ≤ (tu f).toInt ∧ Prog_openSequences P f = (-1))
def FrR (f : Nat) (P : S_Prog) (li ne en tu fo : Nat → Int32) : Prop := (Prog_openAts P f).toInt = 8 * (li f).toInt + (ne f).toInt ∧ (Prog_openEnds P f).toInt = 8 * (li f).toInt + (en f).toInt ∧ Fsq f P li tu ∧ ∀ k, k < 4 → om k (Prog_foundSettings P (4 * f + k)) (fo (4 * f + k))
def FrB (f : Nat) (le li ne en be tu : Nat → Int32) : Prop := 0 ≤ (be f).toInt ∧ (be f).toInt ≤ (ne f).toInt ∧ (ne f).toInt ≤ (en f).toInt ∧ (en f).toInt ≤ (le (li f).toNatClampNeg).toInt ∧ 0 ≤ (li f).toInt ∧ (li f).toInt ≤ 16 ∧ cn tu f ≤ 6 ∧ ((f = 0 ∧ (li f).toInt = 16) ∨ (0 < f ∧ (be f).toInt < (en f).toInt ∧ (f : Int) + ((en f).toInt - (be f).toInt) ≤ 9 + 8 * (cn tu f : Int)))
theorem FrB.le56 {f : Nat} {le li ne en be tu : Nat → Int32} (h : FrB f le li ne en be tu) : f ≤ 56 := by
  obtain ⟨_, _, _, _, _, _, h7, h8⟩ := h
  omega
def Hit (o : Nat) (a : Int32) (li tu : Nat → Int32) : Prop := ∃ f, 1 ≤ f ∧ f ≤ o ∧ (tu f).toInt < 0 ∧ li f = a
theorem cn_lt {tu : Nat → Int32} {f : Nat} (h : (tu (f + 1)).toInt < 0) : cn tu (f + 1) = cn tu f + 1 := by
  have k0 : (0 : Int32).toInt = 0 := by decide
  show cn tu f + (if tu (f + 1) < 0 then 1 else 0) = _
  rw [if_pos (by rw [i_lt]; omega)]
theorem cn_ge {tu : Nat → Int32} {f : Nat} (h : 0 ≤ (tu (f + 1)).toInt) : cn tu (f + 1) = cn tu f := by
  have k0 : (0 : Int32).toInt = 0 := by decide
  show cn tu f + (if tu (f + 1) < 0 then 1 else 0) = _
  rw [if_neg (by rw [i_lt]; omega)]
  rfl
theorem cn_le (tu : Nat → Int32) : ∀ f, cn tu f ≤ f
  | 0 => Nat.le_refl 0
  | f + 1 => by
    have := cn_le tu f
    show cn tu f + (if tu (f + 1) < 0 then 1 else 0) ≤ f + 1
    split <;> omega
theorem x_deep_L {fu o : Nat} {P : S_Prog} {a : Int32} {li tu : Nat → Int32} (ho : (Prog_open P).toInt = (o : Int) + 1) (h64 : o < 64) (ha : 0 ≤ a.toInt) (S : ∀ f, f ≤ o → Fsq f P li tu) : ∀ (m n k : Nat) (x2 x3 : Int32), x3.toInt = (k : Int) → k + m = o + 1 → m < n → x2.toInt = (cn tu (k - 1) : Int) → (∀ f, 1 ≤ f → f < k → (tu f).toInt < 0 → ¬ li f = a) → So (Prog_isTooDeep_L4 fu P a (fun y2 => Prog_isTooDeep_j43 fu P y2) n x2 x3) (fun r => (r = 1 ∧ (Hit o a li tu ∨ 6 ≤ cn tu o)) ∨ (r = 0 ∧ ¬ Hit o a li tu ∧ cn tu o < 6))
  | _, 0, k, x2, x3, _, _, h, _, _ => absurd h (by omega)
  | 0, n + 1, k, x2, x3, h3, hk, _, h2, hh => by
    have k6 : (6 : Int32).toInt = 6 := by decide
    rw [Prog_isTooDeep_L4]
    refine So.pos (by rw [i_le]; omega) ?_
    have ek : k - 1 = o := by omega
    rw [ek] at h2
    have nh : ¬ Hit o a li tu := fun ⟨f, f1, f2, f3, f4⟩ => hh f f1 (by omega) f3 f4
    show So (Prog_isTooDeep_j43 fu P x2) _
    unfold Prog_isTooDeep_j43
    refine So.ite (fun c => So.one (Or.inr ⟨rfl, nh, ?_⟩)) (fun c => So.one (Or.inl ⟨rfl, Or.inr ?_⟩)) <;> rw [i_lt] at c <;> omega
  | m + 1, n + 1, k, x2, x3, h3, hk, hn, h2, hh => by
    have km : ((-1) : Int32).toInt = -1 := by decide
    have k1 : (1 : Int32).toInt = 1 := by decide
    rw [Prog_isTooDeep_L4]
    refine So.neg (by rw [i_le]; omega) ?_
    have gi : o_in x3 64 = true := i_in.mpr (by omega)
    have en : x3.toNatClampNeg = k := by have := i_nat (a := x3) (by omega); omega
    have hc := cn_le tu (k - 1)
    have e3 : (x3 + 1).toInt = ((k + 1 : Nat) : Int) := by
      rw [i_add (a := x3) (b := 1) (by omega) (by omega), k1, h3]
      omega
    refine So.gd gi ?_
    rw [en]
    rcases S k (by clear e3; omega) with ⟨s1, s2⟩ | ⟨s1, s2, s3, s4, s5⟩ | ⟨s1, s2, s3⟩
    · refine So.neg (by rw [s2, i_eq]; clear e3; omega) (So.gd gi (So.pos s2 ?_))
      unfold Prog_isTooDeep_j37
      refine x_deep_L ho h64 ha S m n (k + 1) x2 (x3 + 1) e3 (by clear e3; omega) (by clear e3; omega) ?_ ?_
      · rw [h2, s1]
      · intro f f1 f2
        exact absurd f1 (by clear e3; omega)
    · refine So.ite (fun c => So.one (Or.inl ⟨rfl, Or.inl ⟨k, s1, by clear e3; omega, s2, s3.symm.trans c⟩⟩)) (fun c => ?_)
      refine So.gd gi (So.neg (by rw [s3, i_eq]; clear e3; omega) ?_)
      unfold Prog_isTooDeep_j37
      have e2 : (x2 + 1).toInt = ((cn tu (k - 1) + 1 : Nat) : Int) := by
        clear e3
        rw [i_add (a := x2) (b := 1) (by omega) (by omega), k1, h2]
        omega
      refine x_deep_L ho h64 ha S m n (k + 1) (x2 + 1) (x3 + 1) e3 (by clear e3 e2; omega) (by clear e3 e2; omega) ?_ ?_
      · rw [e2]
        obtain ⟨j, ej⟩ : ∃ j, k = j + 1 := ⟨k - 1, by clear e3 e2; omega⟩
        subst ej
        show ((cn tu j + 1 : Nat) : Int) = ((cn tu (j + 1) : Nat) : Int)
        rw [cn_lt s2]
      · intro f f1 f2 f3
        by_cases ef : f = k
        · rw [ef]
          exact fun e => c (s3.trans e)
        · exact hh f f1 (by clear e3 e2; omega) f3
    · refine So.neg (by rw [s3, i_eq]; clear e3; omega) (So.gd gi (So.pos s3 ?_))
      unfold Prog_isTooDeep_j37
      refine x_deep_L ho h64 ha S m n (k + 1) x2 (x3 + 1) e3 (by clear e3; omega) (by clear e3; omega) ?_ ?_
      · rw [h2]
        obtain ⟨j, ej⟩ : ∃ j, k = j + 1 := ⟨k - 1, by clear e3; omega⟩
        subst ej
        show ((cn tu j : Nat) : Int) = ((cn tu (j + 1) : Nat) : Int)
        rw [cn_ge s2]
      · intro f f1 f2 f3
        by_cases ef : f = k
        · rw [ef] at f3
          exact absurd f3 (by clear e3; omega)
        · exact hh f f1 (by clear e3; omega) f3
theorem m_seq_L {fu o : Nat} {li tu : Nat → Int32} {s : S_Mo} {a : Int32} (ho : (Mo_open s).toInt = (o : Int) + 1) (h90 : o < 90) : ∀ (m n k : Nat) (x2 x3 : Int32), x3.toInt = (k : Int) + 1 → k + m = o → m < n → x2.toInt = (cn tu k : Int) → (∀ f, 1 ≤ f → f ≤ k → (tu f).toInt < 0 → ¬ li f = a) → So (Mod_sequences_L4 fu s li tu a n x2 x3) (fun r => (r.toInt = 100 ∧ Hit o a li tu) ∨ (r.toInt = (cn tu o : Int) ∧ ¬ Hit o a li tu))
  | _, 0, k, x2, x3, _, _, h, _, _ => absurd h (by omega)
  | 0, n + 1, k, x2, x3, h3, hk, _, h2, hh => by
    rw [Mod_sequences_L4]
    refine So.pos (by rw [i_le]; omega) (So.one (Or.inr ⟨?_, ?_⟩))
    · have ek : k = o := by omega
      rw [← ek]
      exact h2
    · exact fun ⟨f, f1, f2, f3, f4⟩ => hh f f1 (by omega) f3 f4
  | m + 1, n + 1, k, x2, x3, h3, hk, hn, h2, hh => by
    have k0 : (0 : Int32).toInt = 0 := by decide
    have k1 : (1 : Int32).toInt = 1 := by decide
    rw [Mod_sequences_L4]
    refine So.neg (by rw [i_le]; omega) ?_
    have gi : o_in x3 90 = true := i_in.mpr (by omega)
    have en : x3.toNatClampNeg = k + 1 := by have := i_nat (a := x3) (by omega); omega
    have hc := cn_le tu k
    have e3 : (x3 + 1).toInt = ((k + 1 : Nat) : Int) + 1 := by
      rw [i_add (a := x3) (b := 1) (by omega) (by omega), k1, h3]
      omega
    refine So.gd gi ?_
    rw [en]
    refine So.ite (fun c => ?_) (fun c => ?_) <;> rw [i_lt, k0] at c
    · refine So.gd gi ?_
      refine So.ite (fun c2 => So.one (Or.inl ⟨by decide, k + 1, by clear e3; omega, by clear e3; omega, c, c2⟩)) (fun c2 => ?_)
      unfold Mod_sequences_j40
      have e2 : (x2 + 1).toInt = ((cn tu (k + 1) : Nat) : Int) := by
        clear e3
        rw [cn_lt c, i_add (a := x2) (b := 1) (by omega) (by omega), k1, h2]
        omega
      refine m_seq_L ho h90 m n (k + 1) (x2 + 1) (x3 + 1) e3 (by clear e3 e2; omega) (by clear e3 e2; omega) e2 ?_
      intro f f1 f2 f3
      by_cases ef : f = k + 1
      · rw [ef]
        exact c2
      · exact hh f f1 (by clear e3 e2; omega) f3
    · unfold Mod_sequences_j40
      refine m_seq_L ho h90 m n (k + 1) x2 (x3 + 1) e3 (by clear e3; omega) (by clear e3; omega) ?_ ?_
      · rw [cn_ge (by clear e3; omega)]
        exact h2
      · intro f f1 f2 f3
        by_cases ef : f = k + 1
        · rw [ef] at f3
          exact absurd f3 c
        · exact hh f f1 (by clear e3; omega) f3
-- leaving a list
theorem x_close_L {fu o : Nat} {P : S_Prog} {ke : Option S_Prog} (ho : (Prog_open P).toInt = (o : Int)) (h64 : o < 64) : ∀ (m n k : Nat) (x : Int32), x.toInt = (k : Int) → k + m = 4 → m < n → (∀ j, j < k → Prog_settings P j = Prog_foundSettings P (4 * o + j)) → (Prog_closeList_L12 fu P ke n x = ke ∧ ∀ j, j < 4 → Prog_settings P j = Prog_foundSettings P (4 * o + j)) ∨ (∃ P' : S_Prog, Prog_closeList_L12 fu P ke n x = some P' ∧ Prog_fault P' = 4 ∧ ∃ j, j < 4 ∧ ¬ Prog_settings P j = Prog_foundSettings P (4 * o + j))
  | _, 0, k, x, _, _, h, _ => absurd h (by omega)
  | 0, n + 1, k, x, hx, hk, _, hh => by
    have k4 : (4 : Int32).toInt = 4 := by decide
    rw [Prog_closeList_L12, if_pos (by rw [i_le]; omega)]
    exact Or.inl ⟨rfl, fun j hj => hh j (by omega)⟩
  | m + 1, n + 1, k, x, hx, hk, hn, hh => by
    have k4 : (4 : Int32).toInt = 4 := by decide
    have k1 : (1 : Int32).toInt = 1 := by decide
    have m1 := i_mulr (Prog_open P) 4 4 (by decide) (by omega) (by omega)
    have e1 : (Prog_open P * 4 + x).toInt = 4 * (o : Int) + (k : Int) := by
      rw [i_add (a := Prog_open P * 4) (b := x) (by omega) (by omega), m1, ho, hx]
      omega
    have en1 : (Prog_open P * 4 + x).toNatClampNeg = 4 * o + k := by
      have := i_nat (a := Prog_open P * 4 + x) (by rw [e1]; omega)
      rw [e1] at this
      clear e1 m1
      omega
    have g1 : o_in (Prog_open P * 4 + x) 256 = true := i_in.mpr (by rw [e1]; clear e1 m1; omega)
    clear e1 m1
    have en : x.toNatClampNeg = k := by have := i_nat (a := x) (by omega); omega
    have gi : o_in x 4 = true := i_in.mpr (by omega)
    rw [Prog_closeList_L12, if_neg (by rw [i_le]; omega), gd_t gi, gd_t g1, en, en1]
    by_cases c : Prog_settings P k = Prog_foundSettings P (4 * o + k)
    · rw [if_pos c]
      have e2 : (x + 1).toInt = ((k + 1 : Nat) : Int) := by
        rw [i_add (a := x) (b := 1) (by omega) (by omega), k1, hx]
        omega
      refine x_close_L ho h64 m n (k + 1) (x + 1) e2 (by omega) (by omega) fun j hj => ?_
      by_cases ej : j = k
      · rw [ej]
        exact c
      · exact hh j (by omega)
    · rw [if_neg c]
      exact Or.inr ⟨_, rfl, rfl, k, by omega, c⟩
theorem m_leaves_L {fu f : Nat} {fo op : Nat → Int32} {s : S_Mo} {x1 : Int32} (h1 : x1.toInt = (f : Int)) (h2 : f < 90) : ∀ (m n k : Nat) (x2 x3 : Int32), x3.toInt = (k : Int) → k + m = 4 → m < n → ((x2 = 0 ∧ ∀ j, j < k → op j = fo (4 * f + j)) ∨ (x2 = 1 ∧ ∃ j, j < 4 ∧ ¬ op j = fo (4 * f + j))) → So (Mod_leavesOther_L4 fu s fo op x1 n x2 x3) (fun r => (r = 0 ∧ ∀ j, j < 4 → op j = fo (4 * f + j)) ∨ (r = 1 ∧ ∃ j, j < 4 ∧ ¬ op j = fo (4 * f + j)))
  | _, 0, k, x2, x3, _, _, h, _ => absurd h (by omega)
  | 0, n + 1, k, x2, x3, hx, hk, _, hh => by
    have k4 : (4 : Int32).toInt = 4 := by decide
    rw [Mod_leavesOther_L4]
    refine So.pos (by rw [i_le]; omega) ?_
    rcases hh with ⟨a, b⟩ | ⟨a, b⟩
    · refine So.gd (by rw [a]; decide) (So.one (Or.inl ⟨a, fun j hj => b j (by omega)⟩))
    · refine So.gd (by rw [a]; decide) (So.one (Or.inr ⟨a, b⟩))
  | m + 1, n + 1, k, x2, x3, hx, hk, hn, hh => by
    have k4 : (4 : Int32).toInt = 4 := by decide
    have k1 : (1 : Int32).toInt = 1 := by decide
    have m1 := i_mull 4 x1 4 (by decide) (by omega) (by omega)
    have e1 : (4 * x1 + x3).toInt = 4 * (f : Int) + (k : Int) := by
      rw [i_add (a := 4 * x1) (b := x3) (by omega) (by omega), m1, h1, hx]
    have en1 : (4 * x1 + x3).toNatClampNeg = 4 * f + k := by
      have := i_nat (a := 4 * x1 + x3) (by rw [e1]; omega)
      rw [e1] at this
      clear e1 m1
      omega
    have g1 : o_in (4 * x1 + x3) 360 = true := i_in.mpr (by rw [e1]; clear e1 m1; omega)
    clear e1 m1
    have en : x3.toNatClampNeg = k := by have := i_nat (a := x3) (by omega); omega
    have gi : o_in x3 4 = true := i_in.mpr (by omega)
    have e2 : (x3 + 1).toInt = ((k + 1 : Nat) : Int) := by
      rw [i_add (a := x3) (b := 1) (by omega) (by omega), k1, hx]
      omega
    rw [Mod_leavesOther_L4]
    refine So.neg (by rw [i_le]; clear e2; omega) ?_
    rcases hh with ⟨a, b⟩ | ⟨a, b⟩
    · refine So.pos a (So.gd gi (So.gd g1 ?_))
      rw [en, en1]
      refine So.ite (fun c => ?_) (fun c => ?_)
      · unfold Mod_leavesOther_j37
        refine m_leaves_L h1 h2 m n (k + 1) 0 (x3 + 1) e2 (by clear e2; omega) (by clear e2; omega) (Or.inl ⟨rfl, fun j hj => ?_⟩)
        by_cases ej : j = k
        · rw [ej]
          exact c
        · exact b j (by clear e2; omega)
      · unfold Mod_leavesOther_j32 Mod_leavesOther_j37
        exact m_leaves_L h1 h2 m n (k + 1) 1 (x3 + 1) e2 (by clear e2; omega) (by clear e2; omega) (Or.inr ⟨rfl, k, by clear e2; omega, c⟩)
    · refine So.neg (by rw [a]; decide) ?_
      unfold Mod_leavesOther_j32 Mod_leavesOther_j37
      exact m_leaves_L h1 h2 m n (k + 1) 1 (x3 + 1) e2 (by clear e2; omega) (by clear e2; omega) (Or.inr ⟨rfl, b⟩)
