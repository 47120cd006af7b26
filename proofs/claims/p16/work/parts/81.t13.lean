-- the walk (reference)
def WI (s : S_Mo) : Prop := I_Mo s ∧ 0 ≤ (Mo_at s).toInt ∧ ((Mo_mode s).toInt < 2 ∨ ((Mo_at s).toInt ≤ (Mo_many s).toInt ∧ (Mo_many s).toInt ≤ 40000)) ∧ ((Mo_mode s).toInt ≠ 3 ∨ (Mo_subsets s).toInt ≤ 8) ∧ 0 ≤ (Mo_fault s).toInt ∧ (Mo_elements s).toInt ≤ (Mo_fields s).toInt ∧ (Mo_pointer s).toInt ≤ (Mo_pointed s).toInt
def WK (r s : S_Mo) : Prop := KM r s ∧ (Mo_mode r).toInt = (Mo_mode s).toInt ∧ (Mo_subset r).toInt = (Mo_subset s).toInt ∧ (Mo_subsets r).toInt = (Mo_subsets s).toInt ∧ (Mo_many r).toInt = (Mo_many s).toInt
theorem WK.refl (s : S_Mo) : WK s s := ⟨KM.refl _, rfl, rfl, rfl, rfl⟩
theorem WK.trans {a b c : S_Mo} (h : WK a b) (g : WK b c) : WK a c := ⟨h.1.trans g.1, h.2.1.trans g.2.1, h.2.2.1.trans g.2.2.1, h.2.2.2.1.trans g.2.2.2.1, h.2.2.2.2.trans g.2.2.2.2⟩
theorem c_come {fu : Nat} {va : Nat → Int64} {tu bi : Nat → Int32} {a0 a1 a2 a3 : Int32} {a4 : Int64} {a5 : Int32} {s : S_Mo} {rd : Nat → Int64} {ki co wd sc lk rp : Nat → Int32} {ba : Nat → Int64} (hf : 12000 ≤ fu) (W : WI s) (Aw : A_Mwidth wd) (h0 : 0 ≤ a2.toInt) (h1 : a2.toInt ≤ 32) : So (Mod_come fu va tu bi a0 a1 a2 a3 a4 a5 s rd ki co wd sc lk rp ba) (fun r => WI r.2.1 ∧ WK r.2.1 s ∧ A_Mwidth r.2.2.2.2.2.1 ∧ (Mo_open r.2.1).toInt = (Mo_open s).toInt ∧ (Mo_looked r.2.1).toInt = (Mo_looked s).toInt ∧ (Mo_elements r.2.1).toInt = (Mo_elements s).toInt ∧ (Mo_pointed r.2.1).toInt = (Mo_pointed s).toInt ∧ (Mo_pointer r.2.1).toInt = (Mo_pointer s).toInt ∧ ((Mo_fields r.2.1).toInt = (Mo_fields s).toInt ∨ (Mo_fields r.2.1).toInt = (Mo_fields s).toInt + 1) ∧ ((Mo_fault r.2.1).toInt ≠ 0 ∨ (Mo_fields r.2.1).toInt = (Mo_fields s).toInt + 1)) := by
  obtain ⟨w1, w2, w3, w4, w5, w6, w7⟩ := W
  refine So.imp (t_Mod_come hf w1 Aw w2 w3 w4 w5 h0 h1) fun r h => ?_
  obtain ⟨p1, p2, p3, p4, p5, p6, p7, p8, p9, p10, p11, p12, p13, p14, p15, p16, p17, p18⟩ := h
  exact ⟨⟨p1, p3, p4, p5, p6, by omega, by omega⟩, ⟨p16, p12, p13, p14, p15⟩, p2, p7, p8, p9, p10, p11, p17, p18⟩
theorem t_walkElement {fu : Nat} {th sc rf wi : Nat → Int32} {va : Nat → Int64} {tu op bi : Nat → Int32} {c : Int32} {s : S_Mo} {rd : Nat → Int64} {ki co wd sca lk rp : Nat → Int32} {ba : Nat → Int64} {ea : Nat → Int32} (hf : 12000 ≤ fu) (Iop : A_Mops op) (W : WI s) (Aw : A_Mwidth wd) (Ae : A_MelementAt ea) (h0 : 0 ≤ c.toInt) (h1 : c.toInt < 64) (E : EOK th wi (Mo_used s) c op) : So (Mod_walkElement fu th sc rf wi va tu op bi c s rd ki co wd sca lk rp ba ea) (fun r => WI r.1 ∧ WK r.1 s ∧ A_Mwidth r.2.2.2.2.1 ∧ A_MelementAt r.2.2.2.2.2.2.2.2.2 ∧ (Mo_open r.1).toInt = (Mo_open s).toInt ∧ (Mo_looked r.1).toInt = (Mo_looked s).toInt) := by
  unfold Mod_walkElement
  have k0 : (0 : Int32).toInt = 0 := by decide
  have kz : (0 : Int32).toNatClampNeg = 0 := by decide
  have k2 : (2 : Int32).toNatClampNeg = 2 := by decide
  have kh : ((-100) : Int32).toInt = -100 := by decide
  obtain ⟨E1, E2, E3⟩ := E
  refine So.bd (t_Mod_force hf W.1 h0 h1) fun q1 hq1 => ?_
  have hn := i_nat (a := q1) (by omega)
  have hqn : q1.toNatClampNeg = (fv th (Mo_used s) c).toNat := by omega
  have j38 : ∀ (s' : S_Mo) (rd' : Nat → Int64) (ki' co' wd' sca' lk' rp' : Nat → Int32) (ba' : Nat → Int64), WI s' → WK s' s → A_Mwidth wd' → (Mo_open s').toInt = (Mo_open s).toInt → (Mo_looked s').toInt = (Mo_looked s).toInt → So (Mod_walkElement_j38 fu th sc rf wi va tu op bi c q1 s' rd' ki' co' wd' sca' lk' rp' ba' ea) (fun r => WI r.1 ∧ WK r.1 s ∧ A_Mwidth r.2.2.2.2.1 ∧ A_MelementAt r.2.2.2.2.2.2.2.2.2 ∧ (Mo_open r.1).toInt = (Mo_open s).toInt ∧ (Mo_looked r.1).toInt = (Mo_looked s).toInt) := by
    intro s' rd' ki' co' wd' sca' lk' rp' ba' W' K' Aw' ho' hl'
    unfold Mod_walkElement_j38
    refine So.gd (i_in.mpr (by omega)) ?_
    refine So.bd (t_Mod_added (by decide) (by decide)) fun q7 h7 => ?_
    rw [kz] at h7
    refine So.gd (i_in.mpr (by omega)) ?_
    refine So.bd (t_Mod_added (by decide) (by decide)) fun q9 _ => ?_
    refine So.gd (i_in.mpr (by omega)) ?_
    refine So.bd (t_Mod_added (by decide) (by decide)) fun q11 _ => ?_
    rw [← hqn] at E2 E3
    have e1 := i_add (a := wi q1.toNatClampNeg) (b := q7) (by omega) (by omega)
    refine So.bd (c_come hf W' Aw' (by omega) (by omega)) fun q12 h12 => ?_
    obtain ⟨p1, p2, p3, p4, p5, p6, p7, p8, p9, p10⟩ := h12
    refine So.ite (fun c1 => ?_) (fun c1 => ?_) <;> rw [i_eq] at c1
    · exact So.one ⟨p1, p2.trans K', p3, Ae, by show (Mo_open q12.2.1).toInt = _; omega, by show (Mo_looked q12.2.1).toInt = _; omega⟩
    · have f1 := I_Mo_fields p1.1
      have f2 := I_Mo_elements p1.1
      have f3 := I_Mo_fields W'.1
      have g6 := W'.2.2.2.2.2.1
      have ke : (1 : Int32).toInt = 1 := by decide
      have e2 := i_add (a := Mo_elements q12.2.1) (b := 1) (by omega) (by omega)
      refine So.gd (i_in.mpr (by omega)) (So.lt (So.lt ?_))
      obtain ⟨v1, v2, v3, v4, v5, v6, v7⟩ := p1
      refine So.one ⟨⟨I_Mo_set_elements v1 (by omega), v2, v3, v4, v5, ?_, v7⟩, p2.trans K', p3, A_MelementAt_upd Ae (by omega), by show (Mo_open q12.2.1).toInt = _; omega, by show (Mo_looked q12.2.1).toInt = _; omega⟩
      show (Mo_elements q12.2.1 + 1).toInt ≤ (Mo_fields q12.2.1).toInt
      omega
  refine So.gd (by decide) ?_
  refine So.ite (fun c1 => ?_) (fun c1 => ?_) <;> rw [i_eq] at c1
  · exact j38 s rd ki co wd sca lk rp ba W (WK.refl _) Aw rfl rfl
  · refine So.gd (by decide) ?_
    have ho := A_Mops_at Iop 2
    rw [k2] at c1 ⊢
    refine So.bd (c_come hf W Aw (by omega) (by omega)) fun q4 h4 => ?_
    obtain ⟨p1, p2, p3, p4, p5, _⟩ := h4
    exact j38 q4.2.1 _ _ _ _ _ _ _ _ p1 p2 p3 p4 p5
-- the entry states of the frames
def EN (fu : Nat) (th sc wi ls le : Nat → Int32) (used : Int32) (o : Nat) (li ne en be fo : Nat → Int32) : Prop := ∀ f, f < o → CS fu th sc wi ls le used (f + 1) li (upd ne f (be f)) en be fo (fun k => fo (4 * f + k))
theorem EN.next {fu : Nat} {th sc wi ls le : Nat → Int32} {used : Int32} {o : Nat} {li ne en be fo : Nat → Int32} {v : Int32} (h : EN fu th sc wi ls le used (o + 1) li ne en be fo) : EN fu th sc wi ls le used (o + 1) li (upd ne o v) en be fo := fun f hf => by
  refine (h f hf).congr (fun g hg => ⟨rfl, ?_, rfl, rfl⟩) (fun _ _ => rfl) (fun _ _ => rfl)
  by_cases e : g = f
  · rw [e, upd_at, upd_at]
  · rw [upd_ne e, upd_ne e, upd_ne (by omega)]
theorem EN.pop {fu : Nat} {th sc wi ls le : Nat → Int32} {used : Int32} {o : Nat} {li ne en be fo : Nat → Int32} (h : EN fu th sc wi ls le used (o + 1) li ne en be fo) : EN fu th sc wi ls le used o li ne en be fo := fun f hf => h f (by omega)
theorem EN.push {fu : Nat} {th sc wi ls le : Nat → Int32} {used : Int32} {o : Nat} {li ne en be fo op : Nat → Int32} {l b e : Int32} (h : EN fu th sc wi ls le used (o + 1) li ne en be fo) (C : CS fu th sc wi ls le used (o + 1 + 1) (upd li (o + 1) l) (upd ne (o + 1) b) (upd en (o + 1) e) (upd be (o + 1) b) (fo4 fo (o + 1) op) op) : EN fu th sc wi ls le used (o + 1 + 1) (upd li (o + 1) l) (upd ne (o + 1) b) (upd en (o + 1) e) (upd be (o + 1) b) (fo4 fo (o + 1) op) := fun f hf => by
  by_cases ef : f = o + 1
  · subst ef
    refine C.congr (fun g hg => ⟨rfl, ?_, rfl, rfl⟩) (fun _ _ => rfl) (fun k hk => fo4_at hk)
    by_cases e1 : g = o + 1
    · rw [e1, upd_at, upd_at, upd_at]
    · rw [upd_ne e1]
  · refine (h f (by omega)).congr (fun g hg => ⟨upd_ne (by omega), ?_, upd_ne (by omega), upd_ne (by omega)⟩) (fun j hj => fo4_ne (by omega)) (fun k hk => fo4_ne (by omega))
    rw [upd_ne (by omega : f ≠ o + 1)]
    by_cases e1 : g = f
    · rw [e1, upd_at, upd_at]
    · rw [upd_ne e1, upd_ne e1, upd_ne (by omega)]
def WL (o : Nat) (lf en be : Nat → Int32) : Prop := ∀ f, f < o → (lf f).toInt ≤ 1 ∨ (be f).toInt < (en f).toInt
theorem WL.push {o : Nat} {lf en be : Nat → Int32} {t e b : Int32} (h : WL (o + 1) lf en be) (h1 : t.toInt ≤ 1 ∨ b.toInt < e.toInt) : WL (o + 1 + 1) (upd lf (o + 1) t) (upd en (o + 1) e) (upd be (o + 1) b) := fun f hf => by
  by_cases ef : f = o + 1
  · rw [ef, upd_at, upd_at, upd_at]
    exact h1
  · rw [upd_ne ef, upd_ne ef, upd_ne ef]
    exact h f (by omega)
abbrev A19 : Type := S_Mo × (Nat → Int64) × (Nat → Int32) × (Nat → Int32) × (Nat → Int32) × (Nat → Int32) × (Nat → Int32) × (Nat → Int32) × (Nat → Int32) × (Nat → Int32) × (Nat → Int32) × (Nat → Int32) × (Nat → Int32) × (Nat → Int32) × (Nat → Int32) × (Nat → Int32) × (Nat → Int64) × (Nat → Int32) × (Nat → Int32)
-- frames of a walk: as compiling has them
def FW (fu : Nat) (th sc wi ls le : Nat → Int32) (used : Int32) (o : Nat) (li ne en be lf fo op : Nat → Int32) : Prop := CS fu th sc wi ls le used o li ne en be fo op ∧ EN fu th sc wi ls le used o li ne en be fo ∧ WL o lf en be
-- (state, frames) of a 19-tuple
def W19 (r : A19) (P : S_Mo → (Nat → Int32) → (Nat → Int32) → (Nat → Int32) → (Nat → Int32) → (Nat → Int32) → (Nat → Int32) → (Nat → Int32) → Prop) : Prop := P r.1 r.2.2.1 r.2.2.2.1 r.2.2.2.2.1 r.2.2.2.2.2.1 r.2.2.2.2.2.2.1 r.2.2.2.2.2.2.2.2.1 r.2.2.2.2.2.2.2.2.2.1
def WR (r : A19) (s : S_Mo) : Prop := WI r.1 ∧ WK r.1 s ∧ A_MfoundOps r.2.2.2.2.2.2.2.2.1 ∧ A_Mops r.2.2.2.2.2.2.2.2.2.1 ∧ A_Mwidth r.2.2.2.2.2.2.2.2.2.2.2.2.1 ∧ A_MelementAt r.2.2.2.2.2.2.2.2.2.2.2.2.2.2.2.2.2.1 ∧ A_MpointAt r.2.2.2.2.2.2.2.2.2.2.2.2.2.2.2.2.2.2
theorem t_walkOne_j162 {fu o : Nat} {th sc rf wi ls le : Nat → Int32} {va : Nat → Int64} {bi : Nat → Int32} {x2 x3 x4 : Int32} {s : S_Mo} {rd : Nat → Int64} {li ne en be lf tu fo op ki co wd sca lk rp : Nat → Int32} {ba : Nat → Int64} {ea pa : Nat → Int32} (hf : 12000 ≤ fu) (z : S_Mo) (W : WI s) (K : WK s z) (Ifo : A_MfoundOps fo) (Iop : A_Mops op) (Aw : A_Mwidth wd) (Ae : A_MelementAt ea) (Ap : A_MpointAt pa) (hx : x2.toInt = (o : Int)) (h90 : o + 1 < 90) (ho : (Mo_open s).toInt = (o : Int) + 1) (hl : 0 ≤ (Mo_looked s).toInt) (hl2 : (Mo_fault s).toInt ≠ 0 ∨ (Mo_looked s).toInt ≤ 2000) (hn0 : 0 ≤ (ne o).toInt) (hn1 : (ne o).toInt ≤ 30) (h5 : 1 ≤ x3.toInt) (h58 : x3.toInt ≤ 8) (hL : WL (o + 1) lf en be) (hE : EN fu th sc wi ls le (Mo_used z) (o + 1) li ne en be fo) (hC : Mo_fault s = 0 → CS fu th sc wi ls le (Mo_used z) (o + 1 + 1) (upd li (o + 1) (li o)) (upd (upd ne o (ne o + x3)) (o + 1) (ne o)) (upd en (o + 1) (ne o + x3)) (upd be (o + 1) (ne o)) (fo4 fo (o + 1) op) op) : So (Mod_walkOne_j162 fu th sc rf wi ls le va bi x2 x3 x4 s rd li ne en be lf tu fo op ki co wd sca lk rp ba ea pa) (fun r : A19 => WR r z ∧ (Mo_looked r.1).toInt = (Mo_looked s).toInt ∧ Mo_fault r.1 = Mo_fault s ∧ (Mo_fault r.1 = 0 → W19 r (fun s' li' ne' en' be' lf' fo' op' => (Mo_open s').toInt = (o : Int) + 1 + 1 ∧ FW fu th sc wi ls le (Mo_used z) (o + 1 + 1) li' ne' en' be' lf' fo' op'))) := by
  unfold Mod_walkOne_j162
  have i2 : x2.toNatClampNeg = o := by
    have := i_nat (a := x2) (by omega)
    omega
  have k1 : (1 : Int32).toInt = 1 := by decide
  have e1 := i_add (a := ne o) (b := x3) (by omega) (by omega)
  have eo := i_add (a := Mo_open s) (b := 1) (by omega) (by omega)
  rw [i2]
  refine So.gd (i_in.mpr (by omega)) (So.gd (i_in.mpr (by omega)) (So.lt ?_))
  refine So.ite (fun c => ?_) (fun c => ?_)
  · refine So.gd (i_in.mpr (by omega)) ?_
    refine So.bde (enter_eq (o := o + 1) hf (by omega) h90) ?_
    obtain ⟨w1, w2, w3, w4, w5, w6, w7⟩ := W
    refine So.one ⟨⟨⟨I_Mo_set_open w1 (by omega), w2, w3, w4, w5, w6, w7⟩, K, fo4_A Ifo Iop, Iop, Aw, Ae, Ap⟩, rfl, rfl, fun _ => ⟨?_, hC c, ?_, ?_⟩⟩
    · show (Mo_open s + 1).toInt = _
      omega
    · exact EN.push hE.next (hC c)
    · exact hL.push (Or.inr (by omega))
  · exact So.one ⟨⟨W, K, Ifo, Iop, Aw, Ae, Ap⟩, rfl, rfl, fun e => absurd e c⟩
