-- the reference: what it keeps, its faults, its entries
def KM (a b : S_Mo) : Prop := Mo_used a = Mo_used b ∧ Mo_taped a = Mo_taped b ∧ Mo_codes a = Mo_codes b ∧ Mo_groups a = Mo_groups b ∧ Mo_madeMany a = Mo_madeMany b ∧ Mo_madeKind a = Mo_madeKind b ∧ Mo_madeSubsets a = Mo_madeSubsets b ∧ Mo_written a = Mo_written b ∧ Mo_firstFields a = Mo_firstFields b
theorem KM.refl (a : S_Mo) : KM a a := ⟨rfl, rfl, rfl, rfl, rfl, rfl, rfl, rfl, rfl⟩
theorem KM.trans {a b c : S_Mo} (h : KM a b) (g : KM b c) : KM a c := by
  obtain ⟨h1, h2, h3, h4, h5, h6, h7, h8, h9⟩ := h
  obtain ⟨g1, g2, g3, g4, g5, g6, g7, g8, g9⟩ := g
  exact ⟨h1.trans g1, h2.trans g2, h3.trans g3, h4.trans g4, h5.trans g5, h6.trans g6, h7.trans g7, h8.trans g8, h9.trans g9⟩
-- what the walk counts
def KW (a b : S_Mo) : Prop := Mo_fields a = Mo_fields b ∧ Mo_elements a = Mo_elements b ∧ Mo_pointed a = Mo_pointed b ∧ Mo_pointer a = Mo_pointer b ∧ Mo_mode a = Mo_mode b ∧ Mo_subset a = Mo_subset b ∧ Mo_subsets a = Mo_subsets b ∧ Mo_many a = Mo_many b ∧ Mo_at a = Mo_at b
theorem KW.refl (a : S_Mo) : KW a a := ⟨rfl, rfl, rfl, rfl, rfl, rfl, rfl, rfl, rfl⟩
theorem KW.trans {a b c : S_Mo} (h : KW a b) (g : KW b c) : KW a c := by
  obtain ⟨h1, h2, h3, h4, h5, h6, h7, h8, h9⟩ := h
  obtain ⟨g1, g2, g3, g4, g5, g6, g7, g8, g9⟩ := g
  exact ⟨h1.trans g1, h2.trans g2, h3.trans g3, h4.trans g4, h5.trans g5, h6.trans g6, h7.trans g7, h8.trans g8, h9.trans g9⟩
def wr (a0 a1 : Int32) (s : S_Mo) : S_Mo := if (Mo_fault s) ≤ 0 then Mo_set_place (Mo_set_fault s a0) a1 else s
theorem wrong_eq (a0 a1 : Int32) (s : S_Mo) : Mod_wrong a0 a1 s = some (wr a0 a1 s) := by
  unfold Mod_wrong wr
  split <;> rfl
theorem wr_KM (a0 a1 : Int32) (s : S_Mo) : KM (wr a0 a1 s) s := by
  unfold wr
  split <;> exact KM.refl _
theorem wr_KW (a0 a1 : Int32) (s : S_Mo) : KW (wr a0 a1 s) s := by
  unfold wr
  split <;> exact KW.refl _
theorem wr_open (a0 a1 : Int32) (s : S_Mo) : Mo_open (wr a0 a1 s) = Mo_open s := by
  unfold wr
  split <;> rfl
theorem wr_looked (a0 a1 : Int32) (s : S_Mo) : Mo_looked (wr a0 a1 s) = Mo_looked s := by
  unfold wr
  split <;> rfl
theorem wr_I {a0 a1 : Int32} {s : S_Mo} (h : I_Mo s) : I_Mo (wr a0 a1 s) := by
  unfold wr
  split
  · exact I_Mo_set_place (I_Mo_set_fault h)
  · exact h
theorem wr_fault {a0 a1 : Int32} {s : S_Mo} (h : 0 < a0.toInt) : 0 < (Mo_fault (wr a0 a1 s)).toInt := by
  unfold wr
  split
  · exact h
  · rename_i c
    rw [i_le] at c
    have k : (0 : Int32).toInt = 0 := by decide
    omega
theorem wr_ge {a0 a1 : Int32} {s : S_Mo} (h : 0 < a0.toInt) : Mo_fault (wr a0 a1 s) ≠ 0 := by
  intro e
  have := wr_fault (a1 := a1) (s := s) h
  rw [e] at this
  exact absurd this (by decide)
-- entries in force
def fvd (th : Nat → Int32) (c : Nat) : Nat → Int
  | 0 => -1
  | v + 1 => if th (64 * v + c) = 0 then fvd th c v else ((64 * v + c : Nat) : Int)
def fv (th : Nat → Int32) (used c : Int32) : Int := if th (256 + c.toNatClampNeg) = 0 then fvd th c.toNatClampNeg (used.toNatClampNeg + 1) else 256 + c.toInt
theorem t_force_L {fu : Nat} {s : S_Mo} {th : Nat → Int32} {c : Int32} (h0 : 0 ≤ c.toInt) (h1 : c.toInt < 64) : ∀ (v n : Nat) (x : Int32), x.toInt = (v : Int) - 1 → v ≤ 4 → v < n → So (Mod_force_L24 fu s th c (fun y2 => Mod_force_j47 fu s th c y2) n x) (fun r => r.toInt = fvd th c.toNatClampNeg v ∧ -1 ≤ r.toInt ∧ r.toInt < 256)
  | _, 0, x, _, _, h => absurd h (by omega)
  | 0, n + 1, x, e, _, _ => by
    have k0 : (0 : Int32).toInt = 0 := by decide
    rw [Mod_force_L24]
    refine So.pos (by rw [i_lt]; omega) ?_
    show So (Mod_force_j47 fu s th c x) _
    unfold Mod_force_j47
    refine So.neg (by rw [i_le]; omega) ?_
    exact So.one ⟨by unfold fvd; decide, by decide, by decide⟩
  | v + 1, n + 1, x, e, h4, hn => by
    have k0 : (0 : Int32).toInt = 0 := by decide
    have hc := i_nat h0
    rw [Mod_force_L24]
    refine So.neg (by rw [i_lt]; omega) ?_
    refine So.bd (t_Mod_entry (by omega) (by omega) h0 h1) fun q hq => ?_
    have hq' : q.toInt = 64 * (v : Int) + c.toInt := by omega
    have hqn : q.toNatClampNeg = 64 * v + c.toNatClampNeg := by
      have := i_nat (a := q) (by omega)
      omega
    refine So.gd (i_in.mpr (by omega)) ?_
    rw [hqn]
    by_cases ht : th (64 * v + c.toNatClampNeg) = 0
    · refine So.pos ht ?_
      have k1 : ((-1) : Int32).toInt = -1 := by decide
      have e1 := i_add (a := x) (b := (-1)) (by omega) (by omega)
      have e2 : (x + (-1)).toInt = (v : Int) - 1 := by rw [e1, k1, e]; omega
      refine So.imp (t_force_L h0 h1 v n (x + (-1)) e2 (by omega) (by omega)) fun r hr => ?_
      unfold fvd
      rw [if_pos ht]
      exact hr
    · refine So.neg ht ?_
      show So (Mod_force_j47 fu s th c x) _
      unfold Mod_force_j47
      refine So.pos (by rw [i_le]; omega) ?_
      refine So.bd (t_Mod_entry (by omega) (by omega) h0 h1) fun q2 hq2 => ?_
      refine So.one ?_
      unfold fvd
      rw [if_neg ht]
      exact ⟨by omega, by omega, by omega⟩
theorem t_Mod_force {fu : Nat} {s : S_Mo} {th : Nat → Int32} {c : Int32} (hf : 12000 ≤ fu) (I : I_Mo s) (h0 : 0 ≤ c.toInt) (h1 : c.toInt < 64) : So (Mod_force fu s th c) (fun r => r.toInt = fv th (Mo_used s) c ∧ -1 ≤ r.toInt ∧ r.toInt < 320) := by
  unfold Mod_force
  have k1 : ((-1) : Int32).toInt = -1 := by decide
  have hc := i_nat h0
  have hu := I_Mo_used I
  have hu2 := i_nat hu.1
  refine So.bd (t_Mod_entry (by omega) (by omega) h0 h1) fun q hq => ?_
  have hqn : q.toNatClampNeg = 256 + c.toNatClampNeg := by
    have := i_nat (a := q) (by omega)
    omega
  refine So.gd (i_in.mpr (by omega)) ?_
  rw [hqn]
  unfold fv
  by_cases ht : th (256 + c.toNatClampNeg) = 0
  · refine So.pos ht ?_
    rw [if_pos ht]
    refine So.imp (t_force_L h0 h1 ((Mo_used s).toNatClampNeg + 1) fu (Mo_used s) (by omega) (by omega) (by omega)) fun r hr => ⟨hr.1, hr.2.1, by omega⟩
  · refine So.neg ht ?_
    rw [if_neg ht]
    refine So.bd (t_Mod_entry (by omega) (by omega) h0 h1) fun q2 hq2 => ?_
    exact So.one ⟨by omega, by omega, by omega⟩
-- what an operator adds
def ad (x : Int32) : Int := if x = (-100) then 0 else x.toInt
theorem t_Mod_added {s : S_Mo} {op : Nat → Int32} {a0 : Int32} (h0 : 0 ≤ a0.toInt) (h1 : a0.toInt < 4) : So (Mod_added s op a0) (fun r => r.toInt = ad (op a0.toNatClampNeg)) := by
  unfold Mod_added ad
  refine So.gd (i_in.mpr (by omega)) ?_
  refine So.ite (fun c => ?_) (fun c => ?_)
  · rw [if_pos c]
    exact So.one (by decide)
  · rw [if_neg c]
    refine So.gd (i_in.mpr (by omega)) ?_
    exact So.one rfl
theorem ad_r {op : Nat → Int32} (h : A_Mops op) (k : Nat) : -100 ≤ ad (op k) ∧ ad (op k) ≤ 31 := by
  have := A_Mops_at h k
  unfold ad
  split <;> omega
-- an element that compile has taken
def EOK (th wi : Nat → Int32) (used c : Int32) (op : Nat → Int32) : Prop := 0 ≤ fv th used c ∧ 1 ≤ (wi (fv th used c).toNat).toInt + ad (op 0) ∧ (wi (fv th used c).toNat).toInt + ad (op 0) ≤ 32
def LEq (r s : S_Mo) : Prop := I_Mo r ∧ KM r s ∧ KW r s ∧ Mo_open r = Mo_open s ∧ Mo_looked r = Mo_looked s ∧ 0 ≤ (Mo_fault r).toInt
theorem wr_LE {a0 a1 : Int32} {s : S_Mo} (I : I_Mo s) (h : 0 < a0.toInt) : LEq (wr a0 a1 s) s := ⟨wr_I I, wr_KM _ _ _, wr_KW _ _ _, wr_open _ _ _, wr_looked _ _ _, by have := wr_fault (a1 := a1) (s := s) h; omega⟩
theorem So.bde {α β : Type} {x : Option α} {a : α} {f : α → Option β} {P : β → Prop} (e : x = some a) (h : So (f a) P) : So (o_bd x f) P := by
  rw [e]
  exact h
theorem t_Mod_lookElement {fu : Nat} {th sc wi op : Nat → Int32} {c w all : Int32} {s : S_Mo} (hf : 12000 ≤ fu) (Iw : A_Mwidths wi) (Is : A_Mscales sc) (Io : A_Mops op) (I : I_Mo s) (hg : 0 ≤ (Mo_fault s).toInt) (h0 : 0 ≤ c.toInt) (h1 : c.toInt < 64) : So (Mod_lookElement fu th sc wi op c w all s) (fun r => LEq r s ∧ (Mo_fault r = 0 → Mo_fault s = 0 ∧ 0 ≤ fv th (Mo_used s) c ∧ (all ≠ 0 → EOK th wi (Mo_used s) c op))) := by
  unfold Mod_lookElement
  have k0 : (0 : Int32).toInt = 0 := by decide
  have kz : (0 : Int32).toNatClampNeg = 0 := by decide
  have hs : LEq s s := ⟨I, KM.refl _, KW.refl _, rfl, rfl, hg⟩
  have bad : ∀ a : Int32, 0 < a.toInt → LEq (wr a w s) s ∧ (Mo_fault (wr a w s) = 0 → Mo_fault s = 0 ∧ 0 ≤ fv th (Mo_used s) c ∧ (all ≠ 0 → EOK th wi (Mo_used s) c op)) := fun a h => ⟨wr_LE I h, fun e => absurd e (wr_ge h)⟩
  refine So.bd (t_Mod_force hf I h0 h1) fun q hq => ?_
  refine So.ite (fun c1 => ?_) (fun c1 => ?_)
  · rw [i_le] at c1
    have hn := i_nat (a := q) (by omega)
    have hfv : 0 ≤ fv th (Mo_used s) c := by omega
    have hqn : q.toNatClampNeg = (fv th (Mo_used s) c).toNat := by omega
    refine So.ite (fun c2 => ?_) (fun c2 => ?_)
    · exact So.one ⟨hs, fun e => ⟨e, hfv, fun a => absurd c2 a⟩⟩
    · refine So.gd (i_in.mpr (by omega)) ?_
      refine So.bd (t_Mod_added (by omega) (by rw [k0]; omega)) fun q3 h3 => ?_
      rw [kz] at h3
      have hw := A_Mwidths_at Iw q.toNatClampNeg
      have ha := ad_r Io 0
      have e1 := i_add (a := wi q.toNatClampNeg) (b := q3) (by omega) (by omega)
      refine So.bd t_Mod_isIn fun q4 h4 => ?_
      have k1 : (1 : Int32).toInt = 1 := by decide
      have k32 : (32 : Int32).toInt = 32 := by decide
      refine So.ite (fun c3 => ?_) (fun c3 => ?_)
      · refine So.bde (wrong_eq _ _ _) ?_
        exact So.one (bad 5 (by decide))
      · rw [i_eq] at c3
        have hE : EOK th wi (Mo_used s) c op := by
          refine ⟨hfv, ?_, ?_⟩
          · rw [← hqn]
            omega
          · rw [← hqn]
            omega
        refine So.gd (i_in.mpr (by omega)) ?_
        refine So.bd (t_Mod_added (by decide) (by decide)) fun q7 h7 => ?_
        refine So.bd t_Mod_isIn fun q8 h8 => ?_
        refine So.ite (fun c4 => ?_) (fun c4 => ?_)
        · refine So.bde (wrong_eq _ _ _) ?_
          exact So.one (bad 5 (by decide))
        · exact So.one ⟨hs, fun e => ⟨e, hfv, fun _ => hE⟩⟩
  · refine So.bde (wrong_eq _ _ _) ?_
    exact So.one (bad 1 (by decide))
