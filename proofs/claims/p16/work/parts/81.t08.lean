-- frames
def cn (tu : Nat → Int32) : Nat → Nat
  | 0 => 0
  | f + 1 => cn tu f + (if tu (f + 1) < 0 then 1 else 0)
theorem upd_at (f : Nat → Int32) (k : Nat) (x : Int32) : upd f k x k = x := if_pos rfl
theorem upd_ne {f : Nat → Int32} {k j : Nat} {x : Int32} (h : j ≠ k) : upd f k x j = f j := if_neg h
theorem cn_upd {tu : Nat → Int32} {o : Nat} {v : Int32} : ∀ f, f < o → cn (upd tu o v) f = cn tu f
  | 0, _ => rfl
  | f + 1, h => by
    unfold cn
    rw [cn_upd f (by omega), upd_ne (by omega)]
def Fq (le li ne en be tu : Nat → Int32) (f : Nat) : Prop := 0 ≤ (be f).toInt ∧ (be f).toInt ≤ (ne f).toInt ∧ (ne f).toInt ≤ (en f).toInt ∧ (en f).toInt ≤ (le (li f).toNatClampNeg).toInt ∧ 0 ≤ (li f).toInt ∧ (li f).toInt ≤ 16 ∧ cn tu f ≤ 6 ∧ ((cn tu f = 0 ∧ (f : Int) ≤ (be f).toInt) ∨ (1 ≤ cn tu f ∧ (li f).toInt < 16 ∧ (f : Int) ≤ 16 + 9 * (cn tu f : Int) + (be f).toInt))
def FrOK (o : Nat) (le li ne en be tu : Nat → Int32) : Prop := ∀ f, f < o → Fq le li ne en be tu f
theorem Fq_b {le li ne en be tu : Nat → Int32} {f : Nat} (Il : A_Mlengths le) (h : Fq le li ne en be tu f) : f ≤ 78 ∧ (en f).toInt ≤ 24 ∧ ((li f).toInt < 16 → (en f).toInt ≤ 8) := by
  obtain ⟨h1, h2, h3, h4, h5, h6, h7, h8⟩ := h
  have hl := A_Mlengths_at Il (li f).toNatClampNeg
  have hn := i_nat h5
  omega
theorem Fq_upd {le li ne en be tu : Nat → Int32} {o f : Nat} {l n e b t : Int32} (hf : f < o) (h : Fq le li ne en be tu f) : Fq le (upd li o l) (upd ne o n) (upd en o e) (upd be o b) (upd tu o t) f := by
  unfold Fq
  rw [upd_ne (by omega : f ≠ o), upd_ne (by omega : f ≠ o), upd_ne (by omega : f ≠ o), upd_ne (by omega : f ≠ o), cn_upd f hf]
  exact h
theorem FrOK.next {o : Nat} {le li ne en be tu : Nat → Int32} {f : Nat} {v : Int32} (h : FrOK o le li ne en be tu) (h1 : (be f).toInt ≤ v.toInt) (h2 : v.toInt ≤ (en f).toInt) : FrOK o le li (upd ne f v) en be tu := fun g hg => by
  have q := h g hg
  unfold Fq at q ⊢
  by_cases e : g = f
  · subst e
    rw [upd_at]
    exact ⟨q.1, h1, h2, q.2.2.2⟩
  · rw [upd_ne e]
    exact q
theorem FrOK.pop {o : Nat} {le li ne en be tu : Nat → Int32} (h : FrOK (o + 1) le li ne en be tu) : FrOK o le li ne en be tu := fun f hf => h f (by omega)
theorem FrOK.seq {o : Nat} {le li ne en be tu : Nat → Int32} {l t : Int32} (Il : A_Mlengths le) (h : FrOK (o + 1) le li ne en be tu) (hc : cn tu o < 6) (h1 : 0 ≤ l.toInt) (h2 : l.toInt < 16) (ht : t < 0) : FrOK (o + 1 + 1) le (upd li (o + 1) l) (upd ne (o + 1) 0) (upd en (o + 1) (le l.toNatClampNeg)) (upd be (o + 1) 0) (upd tu (o + 1) t) := fun f hf => by
  by_cases e : f = o + 1
  · subst e
    have q := h o (by omega)
    have b := Fq_b Il q
    obtain ⟨h1', h2', h3, h4, h5, h6, h7, h8⟩ := q
    have hl := A_Mlengths_at Il l.toNatClampNeg
    unfold Fq
    rw [upd_at, upd_at, upd_at, upd_at]
    have k0 : (0 : Int32).toInt = 0 := by decide
    have ec : cn (upd tu (o + 1) t) (o + 1) = cn tu o + 1 := by
      rw [cn, cn_upd o (by omega), upd_at, if_pos ht]
    rw [ec]
    refine ⟨by omega, by omega, by omega, by omega, h1, by omega, by omega, Or.inr ⟨by omega, h2, ?_⟩⟩
    omega
  · exact Fq_upd (by omega) (h f (by omega))
theorem FrOK.rep {o : Nat} {le li ne en be tu : Nat → Int32} {a b t : Int32} (Il : A_Mlengths le) (h : FrOK (o + 1) le li ne en be tu) (h1 : (be o).toInt + 1 ≤ a.toInt) (h2 : a.toInt ≤ b.toInt) (h3 : b.toInt ≤ (en o).toInt) (ht : ¬ t < 0) : FrOK (o + 1 + 1) le (upd li (o + 1) (li o)) (upd (upd ne o b) (o + 1) a) (upd en (o + 1) b) (upd be (o + 1) a) (upd tu (o + 1) t) := fun f hf => by
  by_cases e : f = o + 1
  · subst e
    have q := h o (by omega)
    obtain ⟨h1', h2', h3', h4, h5, h6, h7, h8⟩ := q
    unfold Fq
    rw [upd_at, upd_at, upd_at, upd_at]
    have ec : cn (upd tu (o + 1) t) (o + 1) = cn tu o := by
      rw [cn, cn_upd o (by omega), upd_at, if_neg ht]
      rfl
    rw [ec]
    refine ⟨by omega, by omega, by omega, by omega, h5, h6, h7, ?_⟩
    omega
  · have h' : FrOK (o + 1) le li (upd ne o b) en be tu := FrOK.next h (by omega) (by omega)
    exact Fq_upd (by omega) (h' f (by omega))
-- entering a frame
def fo4 (fo : Nat → Int32) (o : Nat) (op : Nat → Int32) : Nat → Int32 := upd (upd (upd (upd fo (4 * o) (op 0)) (4 * o + 1) (op 1)) (4 * o + 2) (op 2)) (4 * o + 3) (op 3)
theorem fo4_at {fo op : Nat → Int32} {o k : Nat} (h : k < 4) : fo4 fo o op (4 * o + k) = op k := by
  unfold fo4
  have : k = 0 ∨ k = 1 ∨ k = 2 ∨ k = 3 := by omega
  rcases this with e | e | e | e <;> subst e
  · rw [upd_ne (by omega), upd_ne (by omega), upd_ne (by omega)]
    exact upd_at _ _ _
  · rw [upd_ne (by omega), upd_ne (by omega), upd_at]
  · rw [upd_ne (by omega), upd_at]
  · rw [upd_at]
theorem fo4_ne {fo op : Nat → Int32} {o j : Nat} (h : j < 4 * o) : fo4 fo o op j = fo j := by
  unfold fo4
  rw [upd_ne (by omega), upd_ne (by omega), upd_ne (by omega), upd_ne (by omega)]
theorem fo4_A {fo op : Nat → Int32} {o : Nat} (h : A_MfoundOps fo) (g : A_Mops op) : A_MfoundOps (fo4 fo o op) := A_MfoundOps_upd (A_MfoundOps_upd (A_MfoundOps_upd (A_MfoundOps_upd h ⟨(A_Mops_at g 0).1, (A_Mops_at g 0).2.1⟩) ⟨(A_Mops_at g 1).1, (A_Mops_at g 1).2.1⟩) ⟨(A_Mops_at g 2).1, (A_Mops_at g 2).2.1⟩) ⟨(A_Mops_at g 3).1, (A_Mops_at g 3).2.1⟩
theorem enter_step {fu o : Nat} {op li ne en be lf tu : Nat → Int32} {s : S_Mo} {ke : (Nat → Int32) → Option (S_Mo × (Nat → Int32) × (Nat → Int32) × (Nat → Int32) × (Nat → Int32) × (Nat → Int32) × (Nat → Int32) × (Nat → Int32))} (ho : (Mo_open s).toInt = (o : Int)) (h90 : o < 90) (k : Nat) (hk : k < 4) (x : Int32) (hx : x.toInt = (k : Int)) (n : Nat) (fo : Nat → Int32) : Mod_enter_L65 fu op s li ne en be lf tu ke (n + 1) x fo = Mod_enter_L65 fu op s li ne en be lf tu ke n (x + 1) (upd fo (4 * o + k) (op k)) := by
  rw [Mod_enter_L65]
  have k4 : (4 : Int32).toInt = 4 := by decide
  have e1 := i_mull 4 (Mo_open s) 4 (by decide) (by omega) (by omega)
  have e2 := i_add (a := 4 * Mo_open s) (b := x) (by omega) (by omega)
  have i1 : (4 * Mo_open s + x).toNatClampNeg = 4 * o + k := by
    have := i_nat (a := 4 * Mo_open s + x) (by omega)
    omega
  have i2 : x.toNatClampNeg = k := by
    have := i_nat (a := x) (by omega)
    omega
  rw [if_neg (by rw [i_le]; omega)]
  unfold o_gd
  rw [if_pos (i_in.mpr (by omega)), if_pos (i_in.mpr (by omega)), i1, i2]
  rfl
theorem enter_eq {fu o : Nat} {op li ne en be lf tu fo : Nat → Int32} {a0 a1 a2 a3 a4 : Int32} {s : S_Mo} (hf : 12000 ≤ fu) (ho : (Mo_open s).toInt = (o : Int)) (h90 : o < 90) : Mod_enter fu op a0 a1 a2 a3 a4 s li ne en be lf tu fo = some (Mo_set_open s (Mo_open s + 1), upd li o a0, upd ne o a1, upd en o a2, upd be o a1, upd lf o a3, upd tu o a4, fo4 fo o op) := by
  unfold Mod_enter
  have i0 : (Mo_open s).toNatClampNeg = o := by
    have := i_nat (a := Mo_open s) (by omega)
    omega
  have g : o_in (Mo_open s) 90 = true := i_in.mpr (by omega)
  unfold o_gd o_lt
  simp only [g, i0, ↓reduceIte]
  obtain ⟨m, rfl⟩ : ∃ m, fu = m + 1 + 1 + 1 + 1 + 1 := ⟨fu - 5, by omega⟩
  generalize hfu : m + 1 + 1 + 1 + 1 + 1 = fu' at hf ⊢
  have e : ∀ n, n = m + 1 + 1 + 1 + 1 + 1 → Mod_enter_L65 fu' op s (upd li o a0) (upd ne o a1) (upd en o a2) (upd be o a1) (upd lf o a3) (upd tu o a4) (fun zMfoundOps => Mod_enter_j98 fu' op s (upd li o a0) (upd ne o a1) (upd en o a2) (upd be o a1) (upd lf o a3) (upd tu o a4) zMfoundOps) n 0 fo = some (Mo_set_open s (Mo_open s + 1), upd li o a0, upd ne o a1, upd en o a2, upd be o a1, upd lf o a3, upd tu o a4, fo4 fo o op) := by
    intro n hn
    subst hn
    rw [enter_step ho h90 0 (by decide) 0 (by decide), enter_step ho h90 1 (by decide) (0 + 1) (by decide), enter_step ho h90 2 (by decide) (0 + 1 + 1) (by decide), enter_step ho h90 3 (by decide) (0 + 1 + 1 + 1) (by decide), Mod_enter_L65, if_pos (by decide)]
    rfl
  exact e fu' hfu.symm
-- a new start
def op0 (op : Nat → Int32) : Nat → Int32 := upd (upd (upd (upd op 0 (-100)) 1 (-100)) 2 (-100)) 3 (-100)
theorem op0_at {op : Nat → Int32} {k : Nat} (h : k < 4) : op0 op k = (-100) := by
  unfold op0
  have : k = 0 ∨ k = 1 ∨ k = 2 ∨ k = 3 := by omega
  rcases this with e | e | e | e <;> subst e
  · rw [upd_ne (by omega), upd_ne (by omega), upd_ne (by omega), upd_at]
  · rw [upd_ne (by omega), upd_ne (by omega), upd_at]
  · rw [upd_ne (by omega), upd_at]
  · rw [upd_at]
theorem op0_A {op : Nat → Int32} (h : A_Mops op) : A_Mops (op0 op) := A_Mops_upd (A_Mops_upd (A_Mops_upd (A_Mops_upd h (by decide)) (by decide)) (by decide)) (by decide)
theorem start_step {fu : Nat} {le li ne en be lf tu fo : Nat → Int32} {s : S_Mo} {ke : (Nat → Int32) → Option (S_Mo × (Nat → Int32) × (Nat → Int32) × (Nat → Int32) × (Nat → Int32) × (Nat → Int32) × (Nat → Int32) × (Nat → Int32) × (Nat → Int32))} (k : Nat) (hk : k < 4) (x : Int32) (hx : x.toInt = (k : Int)) (n : Nat) (op : Nat → Int32) : Mod_start_L12 fu le s li ne en be lf tu fo ke (n + 1) x op = Mod_start_L12 fu le s li ne en be lf tu fo ke n (x + 1) (upd op k (-100)) := by
  rw [Mod_start_L12]
  have k4 : (4 : Int32).toInt = 4 := by decide
  have i2 : x.toNatClampNeg = k := by
    have := i_nat (a := x) (by omega)
    omega
  rw [if_neg (by rw [i_le]; omega)]
  unfold o_gd
  rw [if_pos (i_in.mpr (by omega)), i2]
  rfl
def s0 (s : S_Mo) : S_Mo := Mo_set_looked (Mo_set_open s 0) 0
theorem start_eq {fu : Nat} {le op li ne en be lf tu fo : Nat → Int32} {s : S_Mo} (hf : 12000 ≤ fu) : Mod_start fu le s li ne en be lf tu fo op = some (Mo_set_open (s0 s) (0 + 1), upd li 0 16, upd ne 0 0, upd en 0 (le 16), upd be 0 0, upd lf 0 1, upd tu 0 (-1), fo4 fo 0 (op0 op), op0 op) := by
  unfold Mod_start
  unfold o_lt
  obtain ⟨m, rfl⟩ : ∃ m, fu = m + 1 + 1 + 1 + 1 + 1 := ⟨fu - 5, by omega⟩
  generalize hfu : m + 1 + 1 + 1 + 1 + 1 = fu' at hf ⊢
  have e : ∀ n, n = m + 1 + 1 + 1 + 1 + 1 → Mod_start_L12 fu' le (s0 s) li ne en be lf tu fo (fun zMops => Mod_start_j31 fu' le (s0 s) li ne en be lf tu fo zMops) n 0 op = some (Mo_set_open (s0 s) (0 + 1), upd li 0 16, upd ne 0 0, upd en 0 (le 16), upd be 0 0, upd lf 0 1, upd tu 0 (-1), fo4 fo 0 (op0 op), op0 op) := by
    intro n hn
    subst hn
    rw [start_step 0 (by decide) 0 (by decide), start_step 1 (by decide) (0 + 1) (by decide), start_step 2 (by decide) (0 + 1 + 1) (by decide), start_step 3 (by decide) (0 + 1 + 1 + 1) (by decide), Mod_start_L12, if_pos (by decide)]
    show Mod_start_j31 fu' le (s0 s) li ne en be lf tu fo (op0 op) = _
    unfold Mod_start_j31
    unfold o_gd
    rw [if_pos (by decide), enter_eq (o := 0) hf rfl (by decide)]
    rfl
  exact e fu' hfu.symm
-- leaving a frame
theorem t_leaves_L {fu f : Nat} {fo op : Nat → Int32} {s : S_Mo} {x1 : Int32} (h1 : x1.toInt = (f : Int)) (h2 : f < 90) : ∀ (n k : Nat) (x2 x3 : Int32), x3.toInt = (k : Int) → k ≤ 4 → 4 - k < n → (x2.toInt = 0 ∨ x2.toInt = 1) → (x2.toInt = 0 → ∀ j, j < k → op j = fo (4 * f + j)) → So (Mod_leavesOther_L4 fu s fo op x1 n x2 x3) (fun r => (r.toInt = 0 ∨ r.toInt = 1) ∧ (r.toInt = 0 → ∀ j, j < 4 → op j = fo (4 * f + j)))
  | 0, k, x2, x3, _, _, h, _, _ => absurd h (by omega)
  | n + 1, k, x2, x3, hx, hk, hn, hb, hi => by
    rw [Mod_leavesOther_L4]
    have k4 : (4 : Int32).toInt = 4 := by decide
    have k0 : (0 : Int32).toInt = 0 := by decide
    have k1 : (1 : Int32).toInt = 1 := by decide
    have e1 := i_mull 4 x1 4 (by decide) (by omega) (by omega)
    have e2 := i_add (a := 4 * x1) (b := x3) (by omega) (by omega)
    have e3 := i_add (a := x3) (b := 1) (by omega) (by omega)
    refine So.ite (fun c => ?_) (fun c => ?_)
    · rw [i_le] at c
      refine So.gd (i_bool hb) (So.one ⟨hb, fun e j hj => hi e j (by omega)⟩)
    · rw [i_le] at c
      have i1 : (4 * x1 + x3).toNatClampNeg = 4 * f + k := by
        have := i_nat (a := 4 * x1 + x3) (by omega)
        omega
      have i2 : x3.toNatClampNeg = k := by
        have := i_nat (a := x3) (by omega)
        omega
      have nx : ∀ v : Int32, (v.toInt = 0 ∨ v.toInt = 1) → (v.toInt = 0 → ∀ j, j < k + 1 → op j = fo (4 * f + j)) → So (Mod_leavesOther_L4 fu s fo op x1 n v (x3 + 1)) (fun r => (r.toInt = 0 ∨ r.toInt = 1) ∧ (r.toInt = 0 → ∀ j, j < 4 → op j = fo (4 * f + j))) := fun v hv hj => t_leaves_L h1 h2 n (k + 1) v (x3 + 1) (by omega) (by omega) (by omega) hv hj
      refine So.ite (fun c2 => ?_) (fun c2 => ?_)
      · refine So.gd (i_in.mpr (by omega)) (So.gd (i_in.mpr (by omega)) ?_)
        rw [i1, i2]
        refine So.ite (fun c3 => ?_) (fun c3 => ?_)
        · refine nx 0 (by omega) (fun _ j hj => ?_)
          by_cases e : j = k
          · rw [e]; exact c3
          · exact hi (by rw [c2]; decide) j (by omega)
        · exact nx 1 (by omega) (fun e => absurd e (by decide))
      · exact nx 1 (by omega) (fun e => absurd e (by decide))
theorem t_Mod_leavesOther {fu f : Nat} {fo op : Nat → Int32} {s : S_Mo} {x1 : Int32} (hf : 12000 ≤ fu) (h1 : x1.toInt = (f : Int)) (h2 : f < 90) : So (Mod_leavesOther fu s fo op x1) (fun r => (r.toInt = 0 ∨ r.toInt = 1) ∧ (r.toInt = 0 → ∀ j, j < 4 → op j = fo (4 * f + j))) := t_leaves_L h1 h2 fu 0 0 0 rfl (by omega) (by omega) (Or.inl rfl) (fun _ j hj => absurd hj (by omega))
-- how many sequences have been entered
theorem t_seq_L {fu o : Nat} {li tu : Nat → Int32} {s : S_Mo} {x1 : Int32} (ho : (Mo_open s).toInt = (o : Int) + 1) (h90 : o < 90) : ∀ (n k : Nat) (x2 x3 : Int32), x3.toInt = (k : Int) + 1 → k ≤ o → o - k < n → x2.toInt = (cn tu k : Int) → cn tu k ≤ k → So (Mod_sequences_L4 fu s li tu x1 n x2 x3) (fun r => r.toInt = 100 ∨ r.toInt = (cn tu o : Int))
  | 0, k, x2, x3, _, _, h, _, _ => absurd h (by omega)
  | n + 1, k, x2, x3, hx, hk, hn, h2, h3 => by
    rw [Mod_sequences_L4]
    have k0 : (0 : Int32).toInt = 0 := by decide
    have k1 : (1 : Int32).toInt = 1 := by decide
    refine So.ite (fun c => ?_) (fun c => ?_)
    · rw [i_le] at c
      have : k = o := by omega
      rw [this] at h2
      exact So.one (Or.inr h2)
    · rw [i_le] at c
      have i2 : x3.toNatClampNeg = k + 1 := by
        have := i_nat (a := x3) (by omega)
        omega
      have e3 := i_add (a := x3) (b := 1) (by omega) (by omega)
      refine So.gd (i_in.mpr (by omega)) ?_
      rw [i2]
      refine So.ite (fun c2 => ?_) (fun c2 => ?_)
      · refine So.gd (i_in.mpr (by omega)) ?_
        refine So.ite (fun c3 => So.one (Or.inl (by decide))) (fun c3 => ?_)
        have e2 := i_add (a := x2) (b := 1) (by omega) (by omega)
        have ec : cn tu (k + 1) = cn tu k + 1 := by rw [cn, if_pos c2]
        exact t_seq_L ho h90 n (k + 1) (x2 + 1) (x3 + 1) (by omega) (by omega) (by omega) (by omega) (by omega)
      · have ec : cn tu (k + 1) = cn tu k := by rw [cn, if_neg c2]; rfl
        exact t_seq_L ho h90 n (k + 1) x2 (x3 + 1) (by omega) (by omega) (by omega) (by omega) (by omega)
theorem t_Mod_sequences {fu o : Nat} {li tu : Nat → Int32} {s : S_Mo} {x1 : Int32} (hf : 12000 ≤ fu) (ho : (Mo_open s).toInt = (o : Int) + 1) (h90 : o < 90) : So (Mod_sequences fu s li tu x1) (fun r => r.toInt = 100 ∨ r.toInt = (cn tu o : Int)) := t_seq_L ho h90 fu 0 0 1 (by decide) (by omega) (by omega) (by show (0 : Int32).toInt = 0; decide) (Nat.le_refl 0)
-- where a fault lies
theorem t_where_L {fu : Nat} {li ne : Nat → Int32} {s : S_Mo} : ∀ (n k : Nat) (x : Int32), x.toInt = (k : Int) → k < 90 → k < n → So (Mod_where_L7 fu s li ne (fun y1 => Mod_where_j28 fu s li ne y1) n x) (fun _ => True)
  | 0, k, x, _, _, h => absurd h (by omega)
  | n + 1, k, x, hx, hk, hn => by
    have fin : So (Mod_where_j28 fu s li ne x) (fun _ => True) := by
      unfold Mod_where_j28
      exact So.gd (i_in.mpr (by omega)) (So.one trivial)
    rw [Mod_where_L7]
    have k0 : (0 : Int32).toInt = 0 := by decide
    refine So.ite (fun c => fin) (fun c => ?_)
    rw [i_le] at c
    refine So.gd (i_in.mpr (by omega)) ?_
    refine So.ite (fun c => fin) (fun c2 => ?_)
    have k1 : ((-1) : Int32).toInt = -1 := by decide
    have e1 := i_add (a := x) (b := (-1)) (by omega) (by omega)
    have e2 : (x + (-1)).toInt = ((k - 1 : Nat) : Int) := by rw [e1, k1]; omega
    exact t_where_L n (k - 1) (x + (-1)) e2 (by omega) (by omega)
theorem t_Mod_where {fu o : Nat} {li ne : Nat → Int32} {s : S_Mo} (hf : 12000 ≤ fu) (ho : (Mo_open s).toInt = (o : Int) + 1) (h90 : o < 90) : So (Mod_where fu s li ne) (fun _ => True) := by
  have k1 : (1 : Int32).toInt = 1 := by decide
  have e1 := i_sub (a := Mo_open s) (b := 1) (by omega) (by omega)
  exact t_where_L fu o (Mo_open s - 1) (by omega) (by omega) (by omega)
-- counting
theorem t_Mod_count {w : Int32} {s : S_Mo} (I : I_Mo s) (hg : 0 ≤ (Mo_fault s).toInt) (h0 : 0 ≤ (Mo_looked s).toInt) (h1 : (Mo_looked s).toInt ≤ 1001) : So (Mod_count w s) (fun r => I_Mo r.2 ∧ KM r.2 s ∧ KW r.2 s ∧ Mo_open r.2 = Mo_open s ∧ (Mo_looked r.2).toInt = (Mo_looked s).toInt + 1 ∧ 0 ≤ (Mo_fault r.2).toInt ∧ ((r.1 = 0 ∧ Mo_fault r.2 ≠ 0) ∨ (r.1 = 1 ∧ Mo_fault r.2 = Mo_fault s ∧ (Mo_looked r.2).toInt ≤ 1000))) := by
  unfold Mod_count
  have k1 : (1 : Int32).toInt = 1 := by decide
  have k2 : (1000 : Int32).toInt = 1000 := by decide
  have e1 := i_add (a := Mo_looked s) (b := 1) (by omega) (by omega)
  refine So.lt2 fun s1 es => ?_
  have el : (Mo_looked s1).toInt = (Mo_looked s).toInt + 1 := by rw [es]; show (Mo_looked s + 1).toInt = _; omega
  have ef : Mo_fault s1 = Mo_fault s := by rw [es]
  have eo : Mo_open s1 = Mo_open s := by rw [es]
  have ek : KM s1 s := by rw [es]; exact KM.refl _
  have ew : KW s1 s := by rw [es]; exact KW.refl _
  have ei : I_Mo s1 := by rw [es]; exact I_Mo_set_looked I
  refine So.ite (fun c => ?_) (fun c => ?_)
  · rw [i_le] at c
    unfold Mod_count_j26
    refine So.neg (by rw [i_lt]; omega) ?_
    exact So.one ⟨ei, ek, ew, eo, el, by show 0 ≤ (Mo_fault s1).toInt; rw [ef]; exact hg, Or.inr ⟨rfl, ef, by show (Mo_looked s1).toInt ≤ 1000; omega⟩⟩
  · rw [i_le] at c
    refine So.bde (wrong_eq _ _ _) ?_
    unfold Mod_count_j26
    refine So.pos (by rw [i_lt, wr_looked]; omega) ?_
    refine So.one ⟨wr_I ei, (wr_KM _ _ _).trans ek, (wr_KW _ _ _).trans ew, (wr_open _ _ _).trans eo, ?_, ?_, Or.inl ⟨rfl, wr_ge (by decide)⟩⟩
    · show (Mo_looked (wr 2 w s1)).toInt = _
      rw [wr_looked]
      exact el
    · have := wr_fault (a0 := 2) (a1 := w) (s := s1) (by decide)
      show 0 ≤ (Mo_fault (wr 2 w s1)).toInt
      omega
