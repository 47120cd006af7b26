-- the references are bounded; the beginning
theorem yx_mi_L357 {fu : Nat} {sMo_L357 : S_Mo} {sMthere_L357 : Nat → Int32} {sMscales_L357 : Nat → Int32} {sMreferences_L357 : Nat → Int32} {sMwidths_L357 : Nat → Int32} {sMlists_L357 : Nat → Int32} {sMlengths_L357 : Nat → Int32} {sMvalues_L357 : Nat → Int64} {sMread_L357 : Nat → Int64} {sMlist_L357 : Nat → Int32} {sMnext_L357 : Nat → Int32} {sMend_L357 : Nat → Int32} {sMbegin_L357 : Nat → Int32} {sMleft_L357 : Nat → Int32} {sMturn_L357 : Nat → Int32} {sMfoundOps_L357 : Nat → Int32} {sMops_L357 : Nat → Int32} {sMkind_L357 : Nat → Int32} {sMcode_L357 : Nat → Int32} {sMwidth_L357 : Nat → Int32} {sMscale_L357 : Nat → Int32} {sMlink_L357 : Nat → Int32} {sMrepeat_L357 : Nat → Int32} {sMbase_L357 : Nat → Int64} {sMelementAt_L357 : Nat → Int32} {sMpointAt_L357 : Nat → Int32} {sMbits_L357 : Nat → Int32} {sMmade_L357 : Nat → Int32} {sMtape_L357 : Nat → Int32} {sMfirstKind_L357 : Nat → Int32} {sMfirstWidth_L357 : Nat → Int32} {sMfirstScale_L357 : Nat → Int32} {sMfirstBase_L357 : Nat → Int64} {sMcodeOf_L357 : Nat → Int64} {sMcost_L357 : Nat → Int64} {sMcut_L357 : Nat → Int32} {sMends_L357 : Nat → Int32} : ∀ (n k : Nat) (x : Int32) (po pk : Nat → Int64), x.toInt = (k : Int) → k ≤ 64 → 64 - k < n → So (Mod_init_L357 fu sMo_L357 sMthere_L357 sMscales_L357 sMreferences_L357 sMwidths_L357 sMlists_L357 sMlengths_L357 sMvalues_L357 sMread_L357 sMlist_L357 sMnext_L357 sMend_L357 sMbegin_L357 sMleft_L357 sMturn_L357 sMfoundOps_L357 sMops_L357 sMkind_L357 sMcode_L357 sMwidth_L357 sMscale_L357 sMlink_L357 sMrepeat_L357 sMbase_L357 sMelementAt_L357 sMpointAt_L357 sMbits_L357 sMmade_L357 sMtape_L357 sMfirstKind_L357 sMfirstWidth_L357 sMfirstScale_L357 sMfirstBase_L357 sMcodeOf_L357 sMcost_L357 sMcut_L357 sMends_L357 n x po pk) (fun r => r.1 = sMo_L357 ∧ r.2.2.2.1 = sMreferences_L357)
  | 0, k, x, po, pk, _, _, h => absurd h (by omega)
  | n + 1, k, x, po, pk, hx, hk, hn => by
    rw [Mod_init_L357]
    have k1 : (1 : Int32).toInt = 1 := by decide
    have k64 : (64 : Int32).toInt = 64 := by decide
    refine So.ite (fun c => ?_) (fun c => ?_) <;> rw [i_le] at c
    · exact So.one ⟨rfl, rfl⟩
    · have e1 : (x + 1).toInt = ((k + 1 : Nat) : Int) := by
        rw [i_add (a := x) (b := 1) (by omega) (by omega), k1, hx]
        omega
      refine So.gd (i_in.mpr (by omega)) (So.lt (So.gd (i_in.mpr (by omega)) (So.lt ?_)))
      exact yx_mi_L357 n (k + 1) (x + 1) _ _ e1 (by omega) (by omega)
theorem yx_Mod_init {fu : Nat} (hf : 12000 ≤ fu) : So (Mod_init fu) (fun r => Rfb r.2.2.2.1 ∧ Mo_written r.1 = 0) := by
  unfold Mod_init
  refine So.lt (So.lt (So.lt (So.lt (So.lt (So.lt (So.lt (So.lt (So.lt (So.lt (So.lt (So.lt (So.lt (So.lt (So.lt (So.lt (So.lt (So.lt (So.lt (So.lt (So.lt (So.lt (So.lt (So.lt (So.lt (So.lt (So.lt (So.lt (So.lt (So.lt (So.lt (So.lt (So.lt (So.lt (So.lt (So.lt (So.lt (So.lt (So.lt ?_))))))))))))))))))))))))))))))))))))))
  refine yy_mi_L333 (fun m hm => ?_) fu 0 0 _ rfl (by omega) (by omega) fun j hj => absurd hj (by omega)
  unfold Mod_init_j355
  refine So.imp (yx_mi_L357 fu 0 0 _ _ rfl (by omega) (by omega)) fun r hr => ?_
  obtain ⟨a, b⟩ := hr
  refine ⟨fun j => ?_, by rw [a]⟩
  rw [b]
  show -1000000000 ≤ (0 : Int32).toInt ∧ (0 : Int32).toInt ≤ 1000000000
  decide
theorem yx_Wri_init : So Wri_init (fun r => (Bits_length r.2).toInt = 0) := So.one (show (0 : Int32).toInt = 0 by decide)
theorem yx_X_init {fu : Nat} (hf : 12000 ≤ fu) : So (X_init fu) (fun r => (Bits_length r.2.2.2.2.2.2.2.1).toInt = 0) := by
  unfold X_init
  refine So.bd yy_Tab_init fun q1 _ => So.bd t_Prog_init fun q2 _ => So.bd t_Walk_init fun q3 _ => So.bd yx_Wri_init fun q4 h4 => So.bd yw_Bits_init fun q5 _ => ?_
  have hre : So Rea_init (fun _ => True) := So.one trivial
  refine So.bd hre fun q6 _ => So.bd (yy_Grd_init hf) fun q7 _ => So.lt (So.lt ?_)
  refine t_xi_L hf (fun m => ?_) fu 0 0 _ rfl (by omega) (by omega)
  unfold X_init_j138
  exact So.lt (So.lt (So.one h4))
theorem m_ref {a0 a1 a2 a3 a4 : Int32} {s : S_Mo} {th sc rf wi : Nat → Int32} {p : S_Mo × (Nat → Int32) × (Nat → Int32) × (Nat → Int32) × (Nat → Int32)} (h : Mod_element a0 a1 a2 a3 a4 s th sc rf wi = some p) (R : Rfb rf) : Rfb p.2.2.2.1 := by
  have j51 : Mod_element_j51 a0 a1 a2 a3 a4 s th sc rf wi = some p → Rfb p.2.2.2.1 := by
    intro g
    unfold Mod_element_j51 Mod_element_j52 at g
    rw [if_pos rfl] at g
    unfold Mod_element_j65 o_lt at g
    dsimp only at g
    rw [if_pos rfl] at g
    cases g
    exact R
  unfold Mod_element at h
  obtain ⟨q1, _, h⟩ := oi_bd h
  by_cases c1 : q1 = 0
  · rw [if_pos c1] at h
    exact j51 h
  rw [if_neg c1] at h
  by_cases c2 : a2 < (-8)
  · rw [if_pos c2] at h
    exact j51 h
  rw [if_neg c2] at h
  by_cases c3 : 8 < a2
  · rw [if_pos c3] at h
    exact j51 h
  rw [if_neg c3] at h
  by_cases c4 : a3 < (-1000000000)
  · rw [if_pos c4] at h
    exact j51 h
  rw [if_neg c4] at h
  by_cases c5 : 1000000000 < a3
  · rw [if_pos c5] at h
    exact j51 h
  rw [if_neg c5] at h
  by_cases c6 : a4 < 1
  · rw [if_pos c6] at h
    exact j51 h
  rw [if_neg c6] at h
  by_cases c7 : 32 < a4
  · rw [if_pos c7] at h
    exact j51 h
  rw [if_neg c7] at h
  unfold Mod_element_j52 at h
  rw [if_neg (show ¬ (1 : Int32) = 0 by decide)] at h
  unfold Mod_element_j65 o_lt at h
  dsimp only at h
  rw [if_neg (show ¬ (1 : Int32) = 0 by decide)] at h
  obtain ⟨q, _, h⟩ := oi_bd h
  have h := oe_gd (oe_gd (oe_gd (oe_gd h)))
  cases h
  have kl : ((-1000000000) : Int32).toInt = -1000000000 := by decide
  have kh : (1000000000 : Int32).toInt = 1000000000 := by decide
  rw [i_lt, kl] at c4
  rw [i_lt, kh] at c5
  intro j
  show -1000000000 ≤ (upd rf q.toNatClampNeg a3 j).toInt ∧ (upd rf q.toNatClampNeg a3 j).toInt ≤ 1000000000
  by_cases e : j = q.toNatClampNeg
  · rw [e, upd_at]
    omega
  · rw [upd_ne e]
    exact R j
theorem rf_c0 {fu L : Nat} {xs : Nat → Int32} {sX : S_X} {x4 : Int32} {t : S_Tab} {s : S_Mo} {th sc rf wi : Nat → Int32} {r : S_Tab × S_Mo × (Nat → Int32) × (Nat → Int32) × (Nat → Int32) × (Nat → Int32)} (h : La_c0 fu xs L sX x4 t s th sc rf wi = some r) (R : Rfb rf) : Rfb r.2.2.2.2.1 := by
  unfold La_c0 at h
  have h := oe_gd (oe_gd (oe_gd (oe_gd (oe_gd h))))
  obtain ⟨q, e, h⟩ := oi_bd h
  have h := oe_gd (oe_gd (oe_gd (oe_gd (oe_gd h))))
  obtain ⟨p, f, h⟩ := oi_bd h
  cases h
  exact m_ref f R
