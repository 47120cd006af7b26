-- two walks over the same values without a fault give the same fields
def RS (s s' : S_Mo) : Prop := Mo_fault s = 0 ∧ Mo_fault s' = 0 ∧ Mo_mode s = 1 ∧ Mo_mode s' = 1 ∧ Mo_open s = Mo_open s' ∧ Mo_fields s = Mo_fields s' ∧ Mo_elements s = Mo_elements s' ∧ Mo_pointed s = Mo_pointed s' ∧ Mo_pointer s = Mo_pointer s' ∧ Mo_subset s = Mo_subset s' ∧ Mo_used s = Mo_used s' ∧ 0 ≤ (Mo_subset s).toInt ∧ (Mo_subset s).toInt ≤ 7
def FDt (s : S_Mo) (ki wd : Nat → Int32) (ba : Nat → Int64) (ki' wd' : Nat → Int32) (ba' : Nat → Int64) : Prop := ∀ i : Nat, (i : Int) < (Mo_fields s).toInt → ki i = ki' i ∧ wd i = wd' i ∧ ba i = ba' i
def VD (va : Nat → Int64) (s : S_Mo) (ki wd : Nat → Int32) (ba : Nat → Int64) : Prop := ∀ i : Nat, (i : Int) < (Mo_fields s).toInt → VC1 (va (100 * (Mo_subset s).toNatClampNeg + i)) (ki i) (wd i) (ba i)
def RX (va : Nat → Int64) (s s' : S_Mo) (ki wd : Nat → Int32) (ba : Nat → Int64) (ki' wd' : Nat → Int32) (ba' : Nat → Int64) : Prop := RS s s' ∧ FDt s ki wd ba ki' wd' ba' ∧ VD va s ki wd ba
theorem updL_at (f : Nat → Int64) (k : Nat) (x : Int64) : vp_updL f k x k = x := if_pos rfl
theorem updL_ne {f : Nat → Int64} {k j : Nat} {x : Int64} (h : j ≠ k) : vp_updL f k x j = f j := if_neg h
theorem d_come {fu : Nat} {va : Nat → Int64} {tu bi : Nat → Int32} {k c w sc' : Int32} {b : Int64} {l : Int32} {s : S_Mo} {rd : Nat → Int64} {ki co wd sc lk rp : Nat → Int32} {ba : Nat → Int64} {r : A10} {tu' bi' : Nat → Int32} {c2 sc2 l2 : Int32} {s' : S_Mo} {rd' : Nat → Int64} {ki' co' wd' sc3 lk' rp' : Nat → Int32} {ba' : Nat → Int64} {r' : A10} (h : Mod_come fu va tu bi k c w sc' b l s rd ki co wd sc lk rp ba = some r) (h' : Mod_come fu va tu' bi' k c2 w sc2 b l2 s' rd' ki' co' wd' sc3 lk' rp' ba' = some r') (hr : Mo_fault r.2.1 = 0) (hr' : Mo_fault r'.2.1 = 0) (R : RX va s s' ki wd ba ki' wd' ba') : r.2.1 = Mo_set_fields s (Mo_fields s + 1) ∧ r'.2.1 = Mo_set_fields s' (Mo_fields s' + 1) ∧ r.1 = r'.1 ∧ RX va r.2.1 r'.2.1 r.2.2.2.1 r.2.2.2.2.2.1 r.2.2.2.2.2.2.2.2.2 r'.2.2.2.1 r'.2.2.2.2.2.1 r'.2.2.2.2.2.2.2.2.2 ∧ (Mo_fields s + 1).toInt = (Mo_fields s).toInt + 1 ∧ 0 ≤ (Mo_fields s).toInt := by
  obtain ⟨⟨s1, s2, s3, s4, s5, s6, s7, s8, s9, s10, s11, s12, s13⟩, D, V⟩ := R
  obtain ⟨x1, x2, x3, x4, x5, x6, x7, x8, x9⟩ := x_come h s3 hr (by rw [s1]; decide)
  obtain ⟨y1, y2, y3, y4, y5, y6, y7, y8, y9⟩ := x_come h' s4 hr' (by rw [s2]; decide)
  have k1 : (1 : Int32).toInt = 1 := by decide
  have e1 := i_add (a := Mo_fields s) (b := 1) (by omega) (by omega)
  have hn := i_nat x8
  have hs := i_nat s12
  have m1 := i_mull 100 (Mo_subset s) 100 (by decide) (by omega) (by omega)
  have m2 := i_add (a := 100 * Mo_subset s) (b := Mo_fields s) (by omega) (by omega)
  have m3 := i_nat (a := 100 * Mo_subset s + Mo_fields s) (by omega)
  have ix : (100 * Mo_subset s + Mo_fields s).toNatClampNeg = 100 * (Mo_subset s).toNatClampNeg + (Mo_fields s).toNatClampNeg := by omega
  refine ⟨x7, y7, ?_, ⟨?_, ?_, ?_⟩, by omega, x8⟩
  · rw [x2, y2, s6, s10]
  · rw [x7, y7]
    refine ⟨s1, s2, s3, s4, s5, ?_, s7, s8, s9, s10, s11, s12, s13⟩
    show Mo_fields s + 1 = Mo_fields s' + 1
    rw [s6]
  · intro i hi
    rw [x7] at hi
    have hi : (i : Int) < (Mo_fields s + 1).toInt := hi
    rw [x4, x5, x6, y4, y5, y6, ← s6]
    by_cases e : i = (Mo_fields s).toNatClampNeg
    · rw [e, upd_at, upd_at, upd_at, upd_at, updL_at, updL_at]
      exact ⟨rfl, rfl, rfl⟩
    · rw [upd_ne e, upd_ne e, upd_ne e, upd_ne e, updL_ne e, updL_ne e]
      exact D i (by omega)
  · intro i hi
    rw [x7] at hi
    have hi : (i : Int) < (Mo_fields s + 1).toInt := hi
    rw [x4, x5, x6, x7]
    show VC1 (va (100 * (Mo_subset s).toNatClampNeg + i)) _ _ _
    by_cases e : i = (Mo_fields s).toNatClampNeg
    · rw [e, upd_at, upd_at, updL_at, ← ix, ← x2]
      exact x3
    · rw [upd_ne e, upd_ne e, updL_ne e]
      exact V i (by omega)
-- the mode stays, and a fault is never below 0
def QM (s : S_Mo) : Prop := Mo_mode s = 1 ∧ 0 ≤ (Mo_fault s).toInt
theorem q_wrongAt {a0 a1 : Int32} {s r : S_Mo} (h0 : 0 < a0.toInt) (h : Mod_wrongAt a0 a1 s = some r) (q : QM s) : QM r := by
  have fin : ∀ w : Int32, QM (wr a0 w s) := fun w => ⟨((wr_KW a0 w s).2.2.2.2.1).trans q.1, by have := wr_fault (a1 := w) (s := s) h0; omega⟩
  unfold Mod_wrongAt at h
  split at h
  · rw [wrong_eq] at h
    cases h
    exact fin _
  · rw [wrong_eq] at h
    cases h
    exact fin _
theorem q_j227 {fu : Nat} {va : Nat → Int64} {tu bi : Nat → Int32} {v : Int64} {s : S_Mo} {rd : Nat → Int64} {ki co wd sc lk rp : Nat → Int32} {ba : Nat → Int64} {r : A10} (h : Mod_come_j227 fu va tu bi v s rd ki co wd sc lk rp ba = some r) (q : QM s) : QM r.2.1 := by
  have := (x_j227 h).2
  rw [this]
  exact q
theorem q_j219 {fu : Nat} {va : Nat → Int64} {tu bi : Nat → Int32} {i : Int32} {v : Int64} {s : S_Mo} {rd : Nat → Int64} {ki co wd sc lk rp : Nat → Int32} {ba : Nat → Int64} {r : A10} (h : Mod_come_j219 fu va tu bi i v s rd ki co wd sc lk rp ba = some r) (q : QM s) : QM r.2.1 := by
  unfold Mod_come_j219 at h
  obtain ⟨p, e, h⟩ := oi_bd h
  exact q_j227 h (q_wrongAt (by decide) e q)
theorem q_j165 {fu : Nat} {va : Nat → Int64} {tu bi : Nat → Int32} {k w : Int32} {b : Int64} {i : Int32} {v : Int64} {s : S_Mo} {rd : Nat → Int64} {ki co wd sc lk rp : Nat → Int32} {ba : Nat → Int64} {r : A10} (h : Mod_come_j165 fu va tu bi k w b i v s rd ki co wd sc lk rp ba = some r) (q : QM s) : QM r.2.1 := by
  unfold Mod_come_j165 at h
  split at h
  · split at h
    · split at h
      · exact q_j227 h q
      · split at h
        · exact q_j227 h q
        · split at h
          · exact q_j219 h q
          · obtain ⟨p, e, h⟩ := oi_bd h
            split at h
            · exact q_j227 h q
            · exact q_j219 h q
    · exact q_j227 h q
  · exact q_j227 h q
theorem q_j157 {fu : Nat} {va : Nat → Int64} {tu bi : Nat → Int32} {k w : Int32} {b : Int64} {i : Int32} {v : Int64} {s : S_Mo} {rd : Nat → Int64} {ki co wd sc lk rp : Nat → Int32} {ba : Nat → Int64} {r : A10} (h : Mod_come_j157 fu va tu bi k w b i v s rd ki co wd sc lk rp ba = some r) (q : QM s) : QM r.2.1 := by
  unfold Mod_come_j157 at h
  obtain ⟨p, e, h⟩ := oi_bd h
  exact q_j165 h (q_wrongAt (by decide) e q)
theorem q_j138 {fu : Nat} {va : Nat → Int64} {tu bi : Nat → Int32} {k w : Int32} {b : Int64} {i : Int32} {v : Int64} {s : S_Mo} {rd : Nat → Int64} {ki co wd sc lk rp : Nat → Int32} {ba : Nat → Int64} {r : A10} (h : Mod_come_j138 fu va tu bi k w b i v s rd ki co wd sc lk rp ba = some r) (q : QM s) : QM r.2.1 := by
  unfold Mod_come_j138 at h
  split at h
  · split at h
    · exact q_j165 h q
    · split at h
      · exact q_j165 h q
      · exact q_j157 h q
  · exact q_j165 h q
theorem q_j21 {fu : Nat} {va : Nat → Int64} {tu bi : Nat → Int32} {k c w sc' : Int32} {b : Int64} {l i : Int32} {s : S_Mo} {rd : Nat → Int64} {ki co wd sc lk rp : Nat → Int32} {ba : Nat → Int64} {r : A10} (h : Mod_come_j21 fu va tu bi k c w sc' b l i s rd ki co wd sc lk rp ba = some r) (q : QM s) : QM r.2.1 := by
  unfold Mod_come_j21 at h
  by_cases c1 : Mo_fault s ≤ 0
  · rw [if_pos c1] at h
    unfold o_lt at h
    have h := oe_gd (oe_gd (oe_gd (oe_gd (oe_gd (oe_gd h)))))
    obtain ⟨q15, _, h⟩ := oi_bd h
    have h := oe_gd h
    obtain ⟨q19, e19, h⟩ := oi_bd h
    have hq : QM q19.2.1 := by
      unfold Mod_valueOf at e19
      have hm2 : ¬ (2 : Int32) ≤ Mo_mode (Mo_set_fields s (Mo_fields s + 1)) := by
        show ¬ (2 : Int32) ≤ Mo_mode s
        rw [q.1]
        decide
      rw [if_neg hm2] at e19
      have e19 := oe_gd e19
      cases e19
      exact q
    split at h
    · split at h
      · split at h
        · exact q_j157 h hq
        · split at h
          · exact q_j157 h hq
          · exact q_j138 h hq
      · exact q_j138 h hq
    · exact q_j165 h hq
  · rw [if_neg c1] at h
    cases h
    exact q
theorem q_come {fu : Nat} {va : Nat → Int64} {tu bi : Nat → Int32} {k c w sc' : Int32} {b : Int64} {l : Int32} {s : S_Mo} {rd : Nat → Int64} {ki co wd sc lk rp : Nat → Int32} {ba : Nat → Int64} {r : A10} (h : Mod_come fu va tu bi k c w sc' b l s rd ki co wd sc lk rp ba = some r) (q : QM s) : QM r.2.1 := by
  unfold Mod_come at h
  split at h
  · obtain ⟨p, e, h⟩ := oi_bd h
    exact q_j21 h (q_wrongAt (by decide) e q)
  · exact q_j21 h q
theorem RS.q {s s' : S_Mo} (h : RS s s') : QM s ∧ QM s' := ⟨⟨h.2.2.1, by rw [h.1]; decide⟩, ⟨h.2.2.2.1, by rw [h.2.1]; decide⟩⟩
-- elements
def EA (s : S_Mo) (ea ea' : Nat → Int32) : Prop := ∀ e : Nat, (e : Int) < (Mo_elements s).toInt → ea e = ea' e ∧ (ea e).toInt < (Mo_fields s).toInt
def PA (s : S_Mo) (pa pa' : Nat → Int32) : Prop := ∀ e : Nat, (e : Int) < (Mo_pointed s).toInt → pa e = pa' e ∧ (pa e).toInt < (Mo_fields s).toInt
theorem added_det {s s' : S_Mo} {op op' : Nat → Int32} {a q q' : Int32} (h0 : 0 ≤ a.toInt) (h1 : a.toInt < 4) (ho : ∀ k, k < 4 → op k = op' k) (h : Mod_added s op a = some q) (h' : Mod_added s' op' a = some q') : q = q' := by
  obtain ⟨p, e, hp⟩ := t_Mod_added (s := s) (op := op) h0 h1
  obtain ⟨p', e', hp'⟩ := t_Mod_added (s := s') (op := op') h0 h1
  rw [h] at e
  rw [h'] at e'
  cases e
  cases e'
  have hn := i_nat h0
  rw [ho a.toNatClampNeg (by omega)] at hp
  exact i_eq.mpr (hp.trans hp'.symm)
theorem d_walkElement {fu : Nat} {th sc rf wi : Nat → Int32} {va : Nat → Int64} {tu op bi : Nat → Int32} {c : Int32} {s : S_Mo} {rd : Nat → Int64} {ki co wd sca lk rp : Nat → Int32} {ba : Nat → Int64} {ea pa : Nat → Int32} {tu' op' bi' : Nat → Int32} {s' : S_Mo} {rd' : Nat → Int64} {ki' co' wd' sca' lk' rp' : Nat → Int32} {ba' : Nat → Int64} {ea' pa' : Nat → Int32} {r r' : S_Mo × (Nat → Int64) × (Nat → Int32) × (Nat → Int32) × (Nat → Int32) × (Nat → Int32) × (Nat → Int32) × (Nat → Int32) × (Nat → Int64) × (Nat → Int32)} (hf : 12000 ≤ fu) (I : I_Mo s) (I' : I_Mo s') (h0 : 0 ≤ c.toInt) (h1 : c.toInt < 64) (h : Mod_walkElement fu th sc rf wi va tu op bi c s rd ki co wd sca lk rp ba ea = some r) (h' : Mod_walkElement fu th sc rf wi va tu' op' bi' c s' rd' ki' co' wd' sca' lk' rp' ba' ea' = some r') (hr : Mo_fault r.1 = 0) (hr' : Mo_fault r'.1 = 0) (R : RX va s s' ki wd ba ki' wd' ba') (ho : ∀ k, k < 4 → op k = op' k) (E : EA s ea ea') (P : PA s pa pa') : RX va r.1 r'.1 r.2.2.1 r.2.2.2.2.1 r.2.2.2.2.2.2.2.2.1 r'.2.2.1 r'.2.2.2.2.1 r'.2.2.2.2.2.2.2.2.1 ∧ EA r.1 r.2.2.2.2.2.2.2.2.2 r'.2.2.2.2.2.2.2.2.2 ∧ PA r.1 pa pa' ∧ Mo_open r.1 = Mo_open s := by
  unfold Mod_walkElement at h h'
  obtain ⟨q1, e1, hq1⟩ := t_Mod_force (th := th) (c := c) hf I h0 h1
  obtain ⟨q1', e1', hq1'⟩ := t_Mod_force (th := th) (c := c) hf I' h0 h1
  rw [e1] at h
  rw [e1'] at h'
  have hu : Mo_used s = Mo_used s' := R.1.2.2.2.2.2.2.2.2.2.2.1
  have hq : q1 = q1' := i_eq.mpr (by rw [hq1.1, hq1'.1, hu])
  subst hq
  have h := oe_gd (b := o_in 2 4) h
  have h' := oe_gd (b := o_in 2 4) h'
  have j38 : ∀ (t t' : S_Mo) (rd2 rd2' : Nat → Int64) (ki2 co2 wd2 sca2 lk2 rp2 : Nat → Int32) (ba2 : Nat → Int64) (ki2' co2' wd2' sca2' lk2' rp2' : Nat → Int32) (ba2' : Nat → Int64), Mod_walkElement_j38 fu th sc rf wi va tu op bi c q1 t rd2 ki2 co2 wd2 sca2 lk2 rp2 ba2 ea = some r → Mod_walkElement_j38 fu th sc rf wi va tu' op' bi' c q1 t' rd2' ki2' co2' wd2' sca2' lk2' rp2' ba2' ea' = some r' → RX va t t' ki2 wd2 ba2 ki2' wd2' ba2' → EA t ea ea' → PA t pa pa' → Mo_open t = Mo_open s → RX va r.1 r'.1 r.2.2.1 r.2.2.2.2.1 r.2.2.2.2.2.2.2.2.1 r'.2.2.1 r'.2.2.2.2.1 r'.2.2.2.2.2.2.2.2.1 ∧ EA r.1 r.2.2.2.2.2.2.2.2.2 r'.2.2.2.2.2.2.2.2.2 ∧ PA r.1 pa pa' ∧ Mo_open r.1 = Mo_open s := by
    intro t t' rd2 rd2' ki2 co2 wd2 sca2 lk2 rp2 ba2 ki2' co2' wd2' sca2' lk2' rp2' ba2' g g' R2 E2 P2 hop
    unfold Mod_walkElement_j38 at g g'
    have g := oe_gd g
    have g' := oe_gd g'
    obtain ⟨q7, e7, g⟩ := oi_bd g
    obtain ⟨q7', e7', g'⟩ := oi_bd g'
    have h7 := added_det (by decide) (by decide) ho e7 e7'
    subst h7
    have g := oe_gd g
    have g' := oe_gd g'
    obtain ⟨q9, e9, g⟩ := oi_bd g
    obtain ⟨q9', e9', g'⟩ := oi_bd g'
    have g := oe_gd g
    have g' := oe_gd g'
    obtain ⟨q11, e11, g⟩ := oi_bd g
    obtain ⟨q11', e11', g'⟩ := oi_bd g'
    have h11 := added_det (by decide) (by decide) ho e11 e11'
    subst h11
    obtain ⟨q12, e12, g⟩ := oi_bd g
    obtain ⟨q12', e12', g'⟩ := oi_bd g'
    -- the fault of the field's state is the result's
    have hz : Mo_fault q12.2.1 = 0 := by
      split at g
      · cases g
        exact hr
      · have g := oe_gd g
        cases g
        exact hr
    have hz' : Mo_fault q12'.2.1 = 0 := by
      split at g'
      · cases g'
        exact hr'
      · have g' := oe_gd g'
        cases g'
        exact hr'
    obtain ⟨d1, d2, d3, d4, d5, d6⟩ := d_come e12 e12' hz hz' R2
    have ef : (Mo_fields q12.2.1).toInt = (Mo_fields t).toInt + 1 := by rw [d1]; exact d5
    have hff : Mo_fields t = Mo_fields t' := R2.1.2.2.2.2.2.1
    have hee : Mo_elements t = Mo_elements t' := R2.1.2.2.2.2.2.2.1
    have c1 : ¬ Mo_fields q12.2.1 = Mo_fields t := fun e => by rw [e] at ef; omega
    have c1' : ¬ Mo_fields q12'.2.1 = Mo_fields t' := fun e => by
      have q : Mo_fields q12.2.1 = Mo_fields q12'.2.1 := d4.1.2.2.2.2.2.1
      rw [← q, ← hff] at e
      exact c1 e
    rw [if_neg c1] at g
    rw [if_neg c1'] at g'
    have gi : o_in (Mo_elements q12.2.1) 101 = true := by
      unfold o_gd at g
      split at g
      · assumption
      · cases g
    have hei := i_in.mp gi
    have g := oe_gd g
    have g' := oe_gd g'
    cases g
    cases g'
    have k1 : (1 : Int32).toInt = 1 := by decide
    have e2 := i_add (a := Mo_elements q12.2.1) (b := 1) (by omega) (by omega)
    have hel : Mo_elements q12.2.1 = Mo_elements t := by rw [d1]
    have hel' : Mo_elements q12'.2.1 = Mo_elements t' := by rw [d2]
    obtain ⟨⟨s1, s2, s3, s4, s5, s6, s7, s8, s9, s10, s11, s12, s13⟩, D, V⟩ := d4
    refine ⟨⟨⟨s1, s2, s3, s4, s5, s6, ?_, s8, s9, s10, s11, s12, s13⟩, D, V⟩, ?_, ?_, ?_⟩
    · show Mo_elements q12.2.1 + 1 = Mo_elements q12'.2.1 + 1
      rw [s7]
    · intro e he
      have he : (e : Int) < (Mo_elements q12.2.1 + 1).toInt := he
      have hn := i_nat (a := Mo_elements q12.2.1) (by omega)
      show upd ea (Mo_elements q12.2.1).toNatClampNeg (Mo_fields t) e = upd ea' (Mo_elements q12'.2.1).toNatClampNeg (Mo_fields t') e ∧ (upd ea (Mo_elements q12.2.1).toNatClampNeg (Mo_fields t) e).toInt < (Mo_fields q12.2.1).toInt
      rw [← s7, ← hff]
      by_cases ee : e = (Mo_elements q12.2.1).toNatClampNeg
      · rw [ee, upd_at, upd_at]
        exact ⟨rfl, by omega⟩
      · rw [upd_ne ee, upd_ne ee]
        have := E2 e (by rw [← hel]; omega)
        exact ⟨this.1, by omega⟩
    · intro e he
      have hp : Mo_pointed q12.2.1 = Mo_pointed t := by rw [d1]
      have he : (e : Int) < (Mo_pointed q12.2.1).toInt := he
      rw [hp] at he
      have := P2 e he
      exact ⟨this.1, by show (pa e).toInt < (Mo_fields q12.2.1).toInt; omega⟩
    · show Mo_open q12.2.1 = _
      rw [d1]
      exact hop
  have ho2 : op (2 : Int32).toNatClampNeg = op' (2 : Int32).toNatClampNeg := ho _ (by decide)
  by_cases c1 : op (2 : Int32).toNatClampNeg = (-100)
  · rw [if_pos c1] at h
    rw [if_pos (by rw [← ho2]; exact c1)] at h'
    exact j38 _ _ _ _ _ _ _ _ _ _ _ _ _ _ _ _ _ _ h h' R E P rfl
  · rw [if_neg c1] at h
    rw [if_neg (by rw [← ho2]; exact c1), ← ho2] at h'
    have h := oe_gd h
    have h' := oe_gd h'
    obtain ⟨q4, e4, h⟩ := oi_bd h
    obtain ⟨q4', e4', h'⟩ := oi_bd h'
    -- faults of the middle state
    have mid : ∀ (t : S_Mo) (tu op bi : Nat → Int32) (rd2 : Nat → Int64) (ki2 co2 wd2 sca2 lk2 rp2 : Nat → Int32) (ba2 : Nat → Int64) (ea : Nat → Int32) (r : S_Mo × (Nat → Int64) × (Nat → Int32) × (Nat → Int32) × (Nat → Int32) × (Nat → Int32) × (Nat → Int32) × (Nat → Int32) × (Nat → Int64) × (Nat → Int32)), Mo_mode t = 1 → 0 ≤ (Mo_fault t).toInt → Mo_fault r.1 = 0 → Mod_walkElement_j38 fu th sc rf wi va tu op bi c q1 t rd2 ki2 co2 wd2 sca2 lk2 rp2 ba2 ea = some r → Mo_fault t = 0 := by
      intro t tu op bi rd2 ki2 co2 wd2 sca2 lk2 rp2 ba2 ea r hm hg hr g
      unfold Mod_walkElement_j38 at g
      have g := oe_gd g
      obtain ⟨q7, e7, g⟩ := oi_bd g
      have g := oe_gd g
      obtain ⟨q9, e9, g⟩ := oi_bd g
      have g := oe_gd g
      obtain ⟨q11, e11, g⟩ := oi_bd g
      obtain ⟨q12, e12, g⟩ := oi_bd g
      have hz : Mo_fault q12.2.1 = 0 := by
        split at g
        · cases g
          exact hr
        · have g := oe_gd g
          cases g
          exact hr
      exact (x_come e12 hm hz hg).1
    have m4 := q_come e4 R.1.q.1
    have m4' := q_come e4' R.1.q.2
    have hz4 := mid _ _ _ _ _ _ _ _ _ _ _ _ _ _ m4.1 m4.2 hr h
    have hz4' := mid _ _ _ _ _ _ _ _ _ _ _ _ _ _ m4'.1 m4'.2 hr' h'
    obtain ⟨d1, d2, d3, d4, d5, d6⟩ := d_come e4 e4' hz4 hz4' R
    have ef : (Mo_fields q4.2.1).toInt = (Mo_fields s).toInt + 1 := by rw [d1]; exact d5
    refine j38 _ _ _ _ _ _ _ _ _ _ _ _ _ _ _ _ _ _ h h' d4 ?_ ?_ (by rw [d1])
    · intro e he
      rw [d1] at he
      have := E e he
      exact ⟨this.1, by omega⟩
    · intro e he
      rw [d1] at he
      have := P e he
      exact ⟨this.1, by omega⟩
