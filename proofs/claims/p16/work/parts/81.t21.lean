-- a walk's beginning
theorem WSt_start {fu : Nat} {th sc wi ls le : Nat → Int32} {a0 a1 : Int32} {s : S_Mo} {li ne en be lf fo op wd ea pa : Nat → Int32} (I : I_Mo s) (Ifo : A_MfoundOps fo) (Iop : A_Mops op) (Aw : A_Mwidth wd) (Ae : A_MelementAt ea) (Ap : A_MpointAt pa) (hg : 0 ≤ (Mo_fault s).toInt) (h0 : 0 ≤ a0.toInt) (h1 : a0.toInt ≤ 7) (hm : a1.toInt < 2 ∨ ((Mo_at s).toInt ≤ (Mo_many s).toInt ∧ (Mo_many s).toInt ≤ 40000)) (hs : a1.toInt ≠ 3 ∨ (Mo_subsets s).toInt ≤ 8) (hc : CompOK fu th sc wi ls le (Mo_used s)) : WSt fu th sc wi ls le (Mo_set_mode (Mo_set_subset s a0) a1) (Mo_set_open (s0 (Mo_set_pointer (Mo_set_pointed (Mo_set_elements (Mo_set_fields (Mo_set_mode (Mo_set_subset s a0) a1) 0) 0) 0) 0)) (0 + 1)) (upd li 0 16) (upd ne 0 0) (upd en 0 (le 16)) (upd be 0 0) (upd lf 0 1) (fo4 fo 0 (op0 op)) (op0 op) wd ea pa := by
  have I1 : I_Mo (Mo_set_open (s0 (Mo_set_pointer (Mo_set_pointed (Mo_set_elements (Mo_set_fields (Mo_set_mode (Mo_set_subset s a0) a1) 0) 0) 0) 0)) (0 + 1)) := I_Mo_set_open (I_Mo_set_looked (I_Mo_set_open (I_Mo_set_pointer (I_Mo_set_pointed (I_Mo_set_elements (I_Mo_set_fields (I_Mo_set_mode (I_Mo_set_subset I ⟨h0, h1⟩)) (by decide)) (by decide)) (by decide)) (by decide)) (by decide))) (by decide)
  have W1 : WI (Mo_set_open (s0 (Mo_set_pointer (Mo_set_pointed (Mo_set_elements (Mo_set_fields (Mo_set_mode (Mo_set_subset s a0) a1) 0) 0) 0) 0)) (0 + 1)) := ⟨I1, I_at I1, hm, hs, hg, Int.le_refl _, Int.le_refl _⟩
  have K1 : WK (Mo_set_open (s0 (Mo_set_pointer (Mo_set_pointed (Mo_set_elements (Mo_set_fields (Mo_set_mode (Mo_set_subset s a0) a1) 0) 0) 0) 0)) (0 + 1)) (Mo_set_mode (Mo_set_subset s a0) a1) := ⟨KM.refl _, rfl, rfl, rfl, rfl⟩
  have hC := hc li ne en be fo op
  refine ⟨W1, K1, fo4_A Ifo (op0_A Iop), op0_A Iop, Aw, Ae, Ap, fun _ => ⟨1, by show (0 + 1 : Int32).toInt = 1; decide, ⟨hC, ?_, ?_⟩, by show 0 ≤ (0 : Int32).toInt; decide, by show (0 : Int32).toInt ≤ 2000; decide⟩⟩
  · intro f hf
    have : f = 0 := by omega
    subst this
    refine hC.congr (fun g hg => ⟨rfl, ?_, rfl, rfl⟩) (fun _ _ => rfl) (fun k hk => fo4_at hk)
    have : g = 0 := by omega
    subst this
    rw [upd_at, upd_at, upd_at]
  · intro f hf
    have : f = 0 := by omega
    subst this
    rw [upd_at]
    exact Or.inl (by decide)
-- a walk in mode 1 that has been done without a fault
def WD (fu : Nat) (th sc rf wi ls le : Nat → Int32) (va : Nat → Int64) (a0 : Int32) (u : Int32) (r : A19) : Prop := ∃ (s : S_Mo) (bi : Nat → Int32) (rd : Nat → Int64) (li ne en be lf tu fo op ki co wd sca lk rp : Nat → Int32) (ba : Nat → Int64) (ea pa : Nat → Int32), Mod_walk fu th sc rf wi ls le va bi a0 1 s rd li ne en be lf tu fo op ki co wd sca lk rp ba ea pa = some r ∧ Mo_fault r.1 = 0 ∧ I_Mo s ∧ A_MfoundOps fo ∧ A_Mops op ∧ A_Mwidth wd ∧ A_MelementAt ea ∧ A_MpointAt pa ∧ Mo_fault s = 0 ∧ Mo_used s = u
theorem d_walk {fu : Nat} {th sc rf wi ls le : Nat → Int32} {va : Nat → Int64} {a0 u : Int32} {r r' : A19} (hf : 12000 ≤ fu) (Iw : A_Mwidths wi) (Is : A_Mscales sc) (Ils : A_Mlists ls) (Ile : A_Mlengths le) (h0 : 0 ≤ a0.toInt) (h1 : a0.toInt ≤ 7) (hc : CompOK fu th sc wi ls le u) (h : WD fu th sc rf wi ls le va a0 u r) (h' : WD fu th sc rf wi ls le va a0 u r') : RX va r.1 r'.1 r.2.2.2.2.2.2.2.2.2.2.1 r.2.2.2.2.2.2.2.2.2.2.2.2.1 r.2.2.2.2.2.2.2.2.2.2.2.2.2.2.2.2.1 r'.2.2.2.2.2.2.2.2.2.2.1 r'.2.2.2.2.2.2.2.2.2.2.2.2.1 r'.2.2.2.2.2.2.2.2.2.2.2.2.2.2.2.2.1 := by
  obtain ⟨s, bi, rd, li, ne, en, be, lf, tu, fo, op, ki, co, wd, sca, lk, rp, ba, ea, pa, e, hr, I, a1, a2, a3, a4, a5, hz, hu⟩ := h
  obtain ⟨s', bi', rd', li', ne', en', be', lf', tu', fo', op', ki', co', wd', sca', lk', rp', ba', ea', pa', e', hr', I', a1', a2', a3', a4', a5', hz', hu'⟩ := h'
  unfold Mod_walk at e e'
  unfold o_lt at e e'
  dsimp only at e e'
  rw [start_eq hf] at e e'
  have k0 : (0 : Int32).toInt = 0 := by decide
  have k1 : (1 : Int32).toInt = 1 := by decide
  have S1 := WSt_start (a1 := 1) (li := li) (ne := ne) (en := en) (be := be) (lf := lf) I a1 a2 a3 a4 a5 (by rw [hz]; decide) h0 h1 (Or.inl (by decide)) (Or.inl (by decide)) (by rw [hu]; exact hc)
  have S2 := WSt_start (a1 := 1) (li := li') (ne := ne') (en := en') (be := be') (lf := lf') I' a1' a2' a3' a4' a5' (by rw [hz']; decide) h0 h1 (Or.inl (by decide)) (Or.inl (by decide)) (by rw [hu']; exact hc)
  refine d_walk_L hf Iw Is Ils Ile _ _ fu _ _ _ _ _ _ _ _ _ _ _ _ _ _ _ _ _ _ _ _ _ _ _ _ _ _ _ _ _ _ _ _ _ _ _ _ _ _ r r' S1 S2 e e' hr hr' ⟨⟨hz, hz', rfl, rfl, rfl, rfl, rfl, rfl, rfl, rfl, hu.trans hu'.symm, h0, h1⟩, ?_, ?_⟩ ?_ ?_ (fun k hk => by rw [op0_at hk, op0_at hk]) ?_
  · intro i hi
    exact absurd hi (by show ¬ (i : Int) < (0 : Int32).toInt; omega)
  · intro i hi
    exact absurd hi (by show ¬ (i : Int) < (0 : Int32).toInt; omega)
  · intro i hi
    exact absurd hi (by show ¬ (i : Int) < (0 : Int32).toInt; omega)
  · intro i hi
    exact absurd hi (by show ¬ (i : Int) < (0 : Int32).toInt; omega)
  · intro f hf
    have hf : (f : Int) < (0 + 1 : Int32).toInt := hf
    have k01 : (0 + 1 : Int32).toInt = 1 := by decide
    have : f = 0 := by omega
    subst this
    rw [upd_at, upd_at, upd_at, upd_at, upd_at, upd_at, upd_at, upd_at, upd_at, upd_at]
    exact ⟨rfl, rfl, rfl, rfl, rfl⟩

set_option maxHeartbeats 4000000 in
theorem t_Mod_lay_L5 {fu : Nat} {x1_L5 : Int64} (K : Int) (Z : S_Mo) (hf : 12000 ≤ fu) (g_0 : K ≤ 40000) : ∀ (n : Nat) (x4_L5 : Int32) (sMo_L5 : S_Mo) (sMbits_L5 : Nat → Int32), I_Mo sMo_L5 → (-1 ≤ x4_L5.toInt) → (x4_L5.toInt ≤ 120) → ((Mo_many sMo_L5).toInt + x4_L5.toInt + 1 = K) → ((Mo_open sMo_L5).toInt = (Mo_open Z).toInt) → ((Mo_looked sMo_L5).toInt = (Mo_looked Z).toInt) → ((Mo_fields sMo_L5).toInt = (Mo_fields Z).toInt) → ((Mo_elements sMo_L5).toInt = (Mo_elements Z).toInt) → ((Mo_pointed sMo_L5).toInt = (Mo_pointed Z).toInt) → ((Mo_pointer sMo_L5).toInt = (Mo_pointer Z).toInt) → ((Mo_mode sMo_L5).toInt = (Mo_mode Z).toInt) → ((Mo_subset sMo_L5).toInt = (Mo_subset Z).toInt) → ((Mo_subsets sMo_L5).toInt = (Mo_subsets Z).toInt) → ((Mo_at sMo_L5).toInt = (Mo_at Z).toInt) → (KM sMo_L5 Z) → ((Mo_fault sMo_L5).toInt = (Mo_fault Z).toInt) → (x4_L5.toInt + 1 < (n : Nat)) → So (Mod_lay_L5 fu x1_L5 n x4_L5 sMo_L5 sMbits_L5) (fun r => I_Mo r.1 ∧ ((Mo_many r.1).toInt = K) ∧ ((Mo_open r.1).toInt = (Mo_open Z).toInt) ∧ ((Mo_looked r.1).toInt = (Mo_looked Z).toInt) ∧ ((Mo_fields r.1).toInt = (Mo_fields Z).toInt) ∧ ((Mo_elements r.1).toInt = (Mo_elements Z).toInt) ∧ ((Mo_pointed r.1).toInt = (Mo_pointed Z).toInt) ∧ ((Mo_pointer r.1).toInt = (Mo_pointer Z).toInt) ∧ ((Mo_mode r.1).toInt = (Mo_mode Z).toInt) ∧ ((Mo_subset r.1).toInt = (Mo_subset Z).toInt) ∧ ((Mo_subsets r.1).toInt = (Mo_subsets Z).toInt) ∧ ((Mo_at r.1).toInt = (Mo_at Z).toInt) ∧ KM r.1 Z ∧ ((Mo_fault r.1).toInt = (Mo_fault Z).toInt))
  | 0, x4_L5, sMo_L5, sMbits_L5, I_sMo_L5, l_0, l_1, l_2, l_3, l_4, l_5, l_6, l_7, l_8, l_9, l_10, l_11, l_12, l_13, l_14, l_15 => absurd l_15 (by omega)
  | n + 1, x4_L5, sMo_L5, sMbits_L5, I_sMo_L5, l_0, l_1, l_2, l_3, l_4, l_5, l_6, l_7, l_8, l_9, l_10, l_11, l_12, l_13, l_14, l_15 => by
    rw [Mod_lay_L5]
    have f_1 := I_Mo_many I_sMo_L5
    refine So.ite (fun c_2 => ?_) (fun c_2 => ?_)
    · rw [i_lt] at c_2
      have k_3 : (0 : Int32).toInt = 0 := by decide
      exact So.one ⟨I_sMo_L5, (by show (Mo_many sMo_L5).toInt = K; omega), (by show (Mo_open sMo_L5).toInt = (Mo_open Z).toInt; omega), (by show (Mo_looked sMo_L5).toInt = (Mo_looked Z).toInt; omega), (by show (Mo_fields sMo_L5).toInt = (Mo_fields Z).toInt; omega), (by show (Mo_elements sMo_L5).toInt = (Mo_elements Z).toInt; omega), (by show (Mo_pointed sMo_L5).toInt = (Mo_pointed Z).toInt; omega), (by show (Mo_pointer sMo_L5).toInt = (Mo_pointer Z).toInt; omega), (by show (Mo_mode sMo_L5).toInt = (Mo_mode Z).toInt; omega), (by show (Mo_subset sMo_L5).toInt = (Mo_subset Z).toInt; omega), (by show (Mo_subsets sMo_L5).toInt = (Mo_subsets Z).toInt; omega), (by show (Mo_at sMo_L5).toInt = (Mo_at Z).toInt; omega), l_13, (by show (Mo_fault sMo_L5).toInt = (Mo_fault Z).toInt; omega)⟩
    · rw [i_lt] at c_2
      have k_4 : (0 : Int32).toInt = 0 := by decide
      refine So.ite (fun c_5 => ?_) (fun c_5 => ?_)
      · unfold Mod_lay_j34
        have f_6 := I_Mo_many I_sMo_L5
        refine So.gd (i_in.mpr (by omega)) ?_
        refine So.lt2 fun sMbits_4 e_7 => ?_
        have k_9 : (1 : Int32).toInt = 1 := by decide
        first | have f_10 := i_add (a := (Mo_many sMo_L5)) (b := 1) (by omega) (by omega) | have f_10 := i_addm (Mo_many sMo_L5) 1
        refine So.lt2 fun sMo_5 e_8 => ?_
        have I_11 : I_Mo sMo_5 := by rw [e_8]; exact (I_Mo_set_many I_sMo_L5 (by show 0 ≤ (((Mo_many sMo_L5) + 1) : Int32).toInt ∧ (((Mo_many sMo_L5) + 1) : Int32).toInt ≤ 65535; omega))
        have K_12 : KM sMo_5 Z := by rw [e_8]; exact l_13
        have f_13 : (Mo_fault sMo_5).toInt = (Mo_fault sMo_L5).toInt := by subst e_8; rfl
        have f_14 : (Mo_open sMo_5).toInt = (Mo_open sMo_L5).toInt := by subst e_8; rfl
        have f_15 : (Mo_looked sMo_5).toInt = (Mo_looked sMo_L5).toInt := by subst e_8; rfl
        have f_16 : (Mo_fields sMo_5).toInt = (Mo_fields sMo_L5).toInt := by subst e_8; rfl
        have f_17 : (Mo_elements sMo_5).toInt = (Mo_elements sMo_L5).toInt := by subst e_8; rfl
        have f_18 : (Mo_pointed sMo_5).toInt = (Mo_pointed sMo_L5).toInt := by subst e_8; rfl
        have f_19 : (Mo_pointer sMo_5).toInt = (Mo_pointer sMo_L5).toInt := by subst e_8; rfl
        have f_20 : (Mo_mode sMo_5).toInt = (Mo_mode sMo_L5).toInt := by subst e_8; rfl
        have f_21 : (Mo_subset sMo_5).toInt = (Mo_subset sMo_L5).toInt := by subst e_8; rfl
        have f_22 : (Mo_subsets sMo_5).toInt = (Mo_subsets sMo_L5).toInt := by subst e_8; rfl
        have f_23 : (Mo_many sMo_5).toInt = (((Mo_many sMo_L5) + 1) : Int32).toInt := by subst e_8; rfl
        have f_24 : (Mo_at sMo_5).toInt = (Mo_at sMo_L5).toInt := by subst e_8; rfl
        have k_25 : ((-1) : Int32).toInt = -1 := by decide
        first | have f_26 := i_add (a := x4_L5) (b := (-1)) (by omega) (by omega) | have f_26 := i_addm x4_L5 (-1)
        have f_27 := I_Mo_many I_11
        have f_28 := I_Mo_open I_11
        have f_29 := I_Mo_fields I_11
        have f_30 := I_Mo_elements I_11
        have f_31 := I_Mo_pointed I_11
        have f_32 := I_Mo_pointer I_11
        have f_33 := I_Mo_subset I_11
        have f_34 := I_Mo_at I_11
        exact t_Mod_lay_L5 (K) (Z) hf (by show K ≤ 40000; ((try generalize (x4_L5 + (-1)).toInt = gv0 at *); omega))   n _ _ _ I_11 (by show -1 ≤ (x4_L5 + (-1)).toInt; ((try generalize (x4_L5 + (-1)).toInt = gv0 at *); omega)) (by show (x4_L5 + (-1)).toInt ≤ 120; ((try generalize (x4_L5 + (-1)).toInt = gv0 at *); omega)) (by show (Mo_many sMo_5).toInt + (x4_L5 + (-1)).toInt + 1 = K; ((try generalize (x4_L5 + (-1)).toInt = gv0 at *); omega)) (by show (Mo_open sMo_5).toInt = (Mo_open Z).toInt; ((try generalize (x4_L5 + (-1)).toInt = gv0 at *); omega)) (by show (Mo_looked sMo_5).toInt = (Mo_looked Z).toInt; ((try generalize (x4_L5 + (-1)).toInt = gv0 at *); omega)) (by show (Mo_fields sMo_5).toInt = (Mo_fields Z).toInt; ((try generalize (x4_L5 + (-1)).toInt = gv0 at *); omega)) (by show (Mo_elements sMo_5).toInt = (Mo_elements Z).toInt; ((try generalize (x4_L5 + (-1)).toInt = gv0 at *); omega)) (by show (Mo_pointed sMo_5).toInt = (Mo_pointed Z).toInt; ((try generalize (x4_L5 + (-1)).toInt = gv0 at *); omega)) (by show (Mo_pointer sMo_5).toInt = (Mo_pointer Z).toInt; ((try generalize (x4_L5 + (-1)).toInt = gv0 at *); omega)) (by show (Mo_mode sMo_5).toInt = (Mo_mode Z).toInt; ((try generalize (x4_L5 + (-1)).toInt = gv0 at *); omega)) (by show (Mo_subset sMo_5).toInt = (Mo_subset Z).toInt; ((try generalize (x4_L5 + (-1)).toInt = gv0 at *); omega)) (by show (Mo_subsets sMo_5).toInt = (Mo_subsets Z).toInt; ((try generalize (x4_L5 + (-1)).toInt = gv0 at *); omega)) (by show (Mo_at sMo_5).toInt = (Mo_at Z).toInt; ((try generalize (x4_L5 + (-1)).toInt = gv0 at *); omega)) K_12 (by show (Mo_fault sMo_5).toInt = (Mo_fault Z).toInt; ((try generalize (x4_L5 + (-1)).toInt = gv0 at *); omega)) (by show (x4_L5 + (-1)).toInt + 1 < (n : Nat); ((try generalize (x4_L5 + (-1)).toInt = gv0 at *); omega))
      · unfold Mod_lay_j34
        have f_35 := I_Mo_many I_sMo_L5
        refine So.gd (i_in.mpr (by omega)) ?_
        refine So.lt2 fun sMbits_4 e_36 => ?_
        have k_38 : (1 : Int32).toInt = 1 := by decide
        first | have f_39 := i_add (a := (Mo_many sMo_L5)) (b := 1) (by omega) (by omega) | have f_39 := i_addm (Mo_many sMo_L5) 1
        refine So.lt2 fun sMo_5 e_37 => ?_
        have I_40 : I_Mo sMo_5 := by rw [e_37]; exact (I_Mo_set_many I_sMo_L5 (by show 0 ≤ (((Mo_many sMo_L5) + 1) : Int32).toInt ∧ (((Mo_many sMo_L5) + 1) : Int32).toInt ≤ 65535; omega))
        have K_41 : KM sMo_5 Z := by rw [e_37]; exact l_13
        have f_42 : (Mo_fault sMo_5).toInt = (Mo_fault sMo_L5).toInt := by subst e_37; rfl
        have f_43 : (Mo_open sMo_5).toInt = (Mo_open sMo_L5).toInt := by subst e_37; rfl
        have f_44 : (Mo_looked sMo_5).toInt = (Mo_looked sMo_L5).toInt := by subst e_37; rfl
        have f_45 : (Mo_fields sMo_5).toInt = (Mo_fields sMo_L5).toInt := by subst e_37; rfl
        have f_46 : (Mo_elements sMo_5).toInt = (Mo_elements sMo_L5).toInt := by subst e_37; rfl
        have f_47 : (Mo_pointed sMo_5).toInt = (Mo_pointed sMo_L5).toInt := by subst e_37; rfl
        have f_48 : (Mo_pointer sMo_5).toInt = (Mo_pointer sMo_L5).toInt := by subst e_37; rfl
        have f_49 : (Mo_mode sMo_5).toInt = (Mo_mode sMo_L5).toInt := by subst e_37; rfl
        have f_50 : (Mo_subset sMo_5).toInt = (Mo_subset sMo_L5).toInt := by subst e_37; rfl
        have f_51 : (Mo_subsets sMo_5).toInt = (Mo_subsets sMo_L5).toInt := by subst e_37; rfl
        have f_52 : (Mo_many sMo_5).toInt = (((Mo_many sMo_L5) + 1) : Int32).toInt := by subst e_37; rfl
        have f_53 : (Mo_at sMo_5).toInt = (Mo_at sMo_L5).toInt := by subst e_37; rfl
        have k_54 : ((-1) : Int32).toInt = -1 := by decide
        first | have f_55 := i_add (a := x4_L5) (b := (-1)) (by omega) (by omega) | have f_55 := i_addm x4_L5 (-1)
        have f_56 := I_Mo_many I_40
        have f_57 := I_Mo_open I_40
        have f_58 := I_Mo_fields I_40
        have f_59 := I_Mo_elements I_40
        have f_60 := I_Mo_pointed I_40
        have f_61 := I_Mo_pointer I_40
        have f_62 := I_Mo_subset I_40
        have f_63 := I_Mo_at I_40
        exact t_Mod_lay_L5 (K) (Z) hf (by show K ≤ 40000; ((try generalize (x4_L5 + (-1)).toInt = gv0 at *); omega))   n _ _ _ I_40 (by show -1 ≤ (x4_L5 + (-1)).toInt; ((try generalize (x4_L5 + (-1)).toInt = gv0 at *); omega)) (by show (x4_L5 + (-1)).toInt ≤ 120; ((try generalize (x4_L5 + (-1)).toInt = gv0 at *); omega)) (by show (Mo_many sMo_5).toInt + (x4_L5 + (-1)).toInt + 1 = K; ((try generalize (x4_L5 + (-1)).toInt = gv0 at *); omega)) (by show (Mo_open sMo_5).toInt = (Mo_open Z).toInt; ((try generalize (x4_L5 + (-1)).toInt = gv0 at *); omega)) (by show (Mo_looked sMo_5).toInt = (Mo_looked Z).toInt; ((try generalize (x4_L5 + (-1)).toInt = gv0 at *); omega)) (by show (Mo_fields sMo_5).toInt = (Mo_fields Z).toInt; ((try generalize (x4_L5 + (-1)).toInt = gv0 at *); omega)) (by show (Mo_elements sMo_5).toInt = (Mo_elements Z).toInt; ((try generalize (x4_L5 + (-1)).toInt = gv0 at *); omega)) (by show (Mo_pointed sMo_5).toInt = (Mo_pointed Z).toInt; ((try generalize (x4_L5 + (-1)).toInt = gv0 at *); omega)) (by show (Mo_pointer sMo_5).toInt = (Mo_pointer Z).toInt; ((try generalize (x4_L5 + (-1)).toInt = gv0 at *); omega)) (by show (Mo_mode sMo_5).toInt = (Mo_mode Z).toInt; ((try generalize (x4_L5 + (-1)).toInt = gv0 at *); omega)) (by show (Mo_subset sMo_5).toInt = (Mo_subset Z).toInt; ((try generalize (x4_L5 + (-1)).toInt = gv0 at *); omega)) (by show (Mo_subsets sMo_5).toInt = (Mo_subsets Z).toInt; ((try generalize (x4_L5 + (-1)).toInt = gv0 at *); omega)) (by show (Mo_at sMo_5).toInt = (Mo_at Z).toInt; ((try generalize (x4_L5 + (-1)).toInt = gv0 at *); omega)) K_41 (by show (Mo_fault sMo_5).toInt = (Mo_fault Z).toInt; ((try generalize (x4_L5 + (-1)).toInt = gv0 at *); omega)) (by show (x4_L5 + (-1)).toInt + 1 < (n : Nat); ((try generalize (x4_L5 + (-1)).toInt = gv0 at *); omega))
set_option maxHeartbeats 4000000 in
theorem t_Mod_lay {fu : Nat} {a0 : Int64} {a1 : Int32} {sMo : S_Mo} {sMbits : (Nat → Int32)} (hf : 12000 ≤ fu) (I_sMo : I_Mo sMo) (g_0 : 0 ≤ a1.toInt) (g_1 : a1.toInt ≤ 120) (g_2 : (Mo_many sMo).toInt + a1.toInt ≤ 40000) : So (Mod_lay fu a0 a1 sMo sMbits) (fun r => I_Mo r.1 ∧ ((Mo_many r.1).toInt = (Mo_many sMo).toInt + a1.toInt) ∧ ((Mo_open r.1).toInt = (Mo_open sMo).toInt) ∧ ((Mo_looked r.1).toInt = (Mo_looked sMo).toInt) ∧ ((Mo_fields r.1).toInt = (Mo_fields sMo).toInt) ∧ ((Mo_elements r.1).toInt = (Mo_elements sMo).toInt) ∧ ((Mo_pointed r.1).toInt = (Mo_pointed sMo).toInt) ∧ ((Mo_pointer r.1).toInt = (Mo_pointer sMo).toInt) ∧ ((Mo_mode r.1).toInt = (Mo_mode sMo).toInt) ∧ ((Mo_subset r.1).toInt = (Mo_subset sMo).toInt) ∧ ((Mo_subsets r.1).toInt = (Mo_subsets sMo).toInt) ∧ ((Mo_at r.1).toInt = (Mo_at sMo).toInt) ∧ KM r.1 sMo ∧ ((Mo_fault r.1).toInt = (Mo_fault sMo).toInt)) := by
  unfold Mod_lay
  have f_1 := I_Mo_many I_sMo
  have k_2 : (1 : Int32).toInt = 1 := by decide
  first | have f_3 := i_sub (a := a1) (b := 1) (by omega) (by omega) | have f_3 := i_subm a1 1
  have f_4 := I_Mo_many I_sMo
  have f_5 := I_Mo_open I_sMo
  have f_6 := I_Mo_fields I_sMo
  have f_7 := I_Mo_elements I_sMo
  have f_8 := I_Mo_pointed I_sMo
  have f_9 := I_Mo_pointer I_sMo
  have f_10 := I_Mo_subset I_sMo
  have f_11 := I_Mo_at I_sMo
  refine So.imp (t_Mod_lay_L5 ((Mo_many sMo).toInt + a1.toInt) (sMo) hf (by show ((Mo_many sMo).toInt + a1.toInt) ≤ 40000; omega) fu _ _ _ I_sMo (by show -1 ≤ (a1 - 1).toInt; omega) (by show (a1 - 1).toInt ≤ 120; omega) (by show (Mo_many sMo).toInt + (a1 - 1).toInt + 1 = ((Mo_many sMo).toInt + a1.toInt); omega) (by show (Mo_open sMo).toInt = (Mo_open sMo).toInt; omega) (by show (Mo_looked sMo).toInt = (Mo_looked sMo).toInt; omega) (by show (Mo_fields sMo).toInt = (Mo_fields sMo).toInt; omega) (by show (Mo_elements sMo).toInt = (Mo_elements sMo).toInt; omega) (by show (Mo_pointed sMo).toInt = (Mo_pointed sMo).toInt; omega) (by show (Mo_pointer sMo).toInt = (Mo_pointer sMo).toInt; omega) (by show (Mo_mode sMo).toInt = (Mo_mode sMo).toInt; omega) (by show (Mo_subset sMo).toInt = (Mo_subset sMo).toInt; omega) (by show (Mo_subsets sMo).toInt = (Mo_subsets sMo).toInt; omega) (by show (Mo_at sMo).toInt = (Mo_at sMo).toInt; omega) (KM.refl _) (by show (Mo_fault sMo).toInt = (Mo_fault sMo).toInt; omega) (by show (a1 - 1).toInt + 1 < (fu : Nat); omega)) fun q_z h_z => ?_
  obtain ⟨p_12, p_13, p_14, p_15, p_16, p_17, p_18, p_19, p_20, p_21, p_22, p_23, p_24, p_25⟩ := h_z
  exact ⟨p_12, (by show (Mo_many q_z.1).toInt = (Mo_many sMo).toInt + a1.toInt; omega), (by show (Mo_open q_z.1).toInt = (Mo_open sMo).toInt; omega), (by show (Mo_looked q_z.1).toInt = (Mo_looked sMo).toInt; omega), (by show (Mo_fields q_z.1).toInt = (Mo_fields sMo).toInt; omega), (by show (Mo_elements q_z.1).toInt = (Mo_elements sMo).toInt; omega), (by show (Mo_pointed q_z.1).toInt = (Mo_pointed sMo).toInt; omega), (by show (Mo_pointer q_z.1).toInt = (Mo_pointer sMo).toInt; omega), (by show (Mo_mode q_z.1).toInt = (Mo_mode sMo).toInt; omega), (by show (Mo_subset q_z.1).toInt = (Mo_subset sMo).toInt; omega), (by show (Mo_subsets q_z.1).toInt = (Mo_subsets sMo).toInt; omega), (by show (Mo_at q_z.1).toInt = (Mo_at sMo).toInt; omega), (KM.trans p_24 (KM.refl _)), (by show (Mo_fault q_z.1).toInt = (Mo_fault sMo).toInt; omega)⟩
