-- the beginnings, exactly
theorem yy_fillJ_L {fu m : Nat} {v : Int64} {e : Int32} (he : e.toInt = (m : Int)) : ∀ (n k : Nat) (x : Int32) (f : Nat → Int64), x.toInt = (k : Int) → k ≤ m → m - k < n → (∀ j, j < k → f j = v) → So (Arr_fill_aJJ_L6 fu m v e n x f) (fun r => ∀ j, j < m → r j = v)
  | 0, k, x, f, _, _, h, _ => absurd h (by omega)
  | n + 1, k, x, f, hx, hk, hn, hf => by
    rw [Arr_fill_aJJ_L6]
    have k1 : (1 : Int32).toInt = 1 := by decide
    refine So.ite (fun c => ?_) (fun c => ?_) <;> rw [i_le] at c
    · exact So.one fun j hj => hf j (by omega)
    · have hb := i_r2 e
      have e1 : (x + 1).toInt = ((k + 1 : Nat) : Int) := by
        rw [i_add (a := x) (b := 1) (by omega) (by omega), k1, hx]
        omega
      have en : x.toNatClampNeg = k := by have := i_nat (a := x) (by omega); omega
      refine So.gd (i_in.mpr (by omega)) (So.lt ?_)
      refine yy_fillJ_L he n (k + 1) (x + 1) _ e1 (by omega) (by omega) fun j hj => ?_
      rw [en]
      by_cases ej : j = k
      · rw [ej, updL_at]
      · rw [updL_ne ej]
        exact hf j (by omega)
theorem yy_fillJ {fu m : Nat} {v : Int64} {f : Nat → Int64} (hf : 12000 ≤ fu) (hm : m ≤ 10000) : So (Arr_fill_aJJ fu m v f) (fun r => ∀ j, j < m → r j = v) := by
  unfold Arr_fill_aJJ
  exact yy_fillJ_L (i_of (by omega)) fu 0 0 f (by decide) (by omega) (by omega) fun j hj => absurd hj (by omega)
def GZ (g : S_Grd) : Prop := (∀ j, j < 64 → Grd_points g j = (-9000000000000000000) ∧ Grd_packed g j = (-9000000000000000000)) ∧ Grd_codeCount g = (-1) ∧ Grd_groupBits g = (-1) ∧ Grd_groupCount g = 0
theorem yy_Grd_init {fu : Nat} (hf : 12000 ≤ fu) : So (Grd_init fu) GZ := by
  unfold Grd_init
  refine So.lt (So.bd (yy_fillJ hf (by decide)) fun q1 h1 => So.bd (yy_fillJ hf (by decide)) fun q2 h2 => So.one ⟨fun j hj => ⟨h1 j hj, h2 j hj⟩, rfl, rfl, rfl⟩)
def VZ (va : Nat → Nat → Int64) : Prop := ∀ s, s < 8 → ∀ i, i < 100 → va s i = (-9000000000000000000)
theorem yy_xi_L {fu : Nat} {sX : S_X} {sTab : S_Tab} {sProg : S_Prog} {sWalk : S_Walk} {sFld : S_Fld} {sLps : S_Lps} {sWri : S_Wri} {sWB sTP : S_Bits} {sRea : S_Rea} {sRR : Nat → Nat → Int64} {sGrd : S_Grd} {ke : (Nat → Nat → Int64) → Option X13} {P : X13 → Prop} (hf : 12000 ≤ fu) (hke : ∀ m, VZ m → So (ke m) P) : ∀ (n k : Nat) (x : Int32) (va : Nat → Nat → Int64), x.toInt = (k : Int) → k ≤ 8 → 8 - k < n → (∀ s, s < k → ∀ i, i < 100 → va s i = (-9000000000000000000)) → So (X_init_L114 fu sX sTab sProg sWalk sFld sLps sWri sWB sTP sRea sRR sGrd ke n x va) P
  | 0, k, x, va, _, _, h, _ => absurd h (by omega)
  | n + 1, k, x, va, hx, hk, hn, hv => by
    rw [X_init_L114]
    have k1 : (1 : Int32).toInt = 1 := by decide
    have k8 : (8 : Int32).toInt = 8 := by decide
    refine So.ite (fun c => ?_) (fun c => ?_) <;> rw [i_le] at c
    · exact hke va fun s hs => hv s (by omega)
    · have e1 : (x + 1).toInt = ((k + 1 : Nat) : Int) := by
        rw [i_add (a := x) (b := 1) (by omega) (by omega), k1, hx]
        omega
      have en : x.toNatClampNeg = k := by have := i_nat (a := x) (by omega); omega
      refine So.gd (i_in.mpr (by omega)) (So.bd (yy_fillJ hf (by decide)) fun q hq => ?_)
      refine yy_xi_L hf hke n (k + 1) (x + 1) _ e1 (by omega) (by omega) fun s hs i hi => ?_
      rw [en]
      unfold gr_set
      by_cases es : s = k
      · rw [if_pos es]
        exact hq i hi
      · rw [if_neg es]
        exact hv s (by omega) i hi
theorem yy_Tab_init : So Tab_init (fun r => Tab_versionInUse r = 3) := So.one rfl
theorem yy_X_init {fu : Nat} (hf : 12000 ≤ fu) : So (X_init fu) (fun r => GZ r.2.2.2.2.2.2.2.2.2.2.2.1 ∧ VZ r.2.2.2.2.2.2.2.2.2.2.2.2 ∧ Tab_versionInUse r.2.1 = 3) := by
  unfold X_init
  refine So.bd yy_Tab_init fun q1 h1 => So.bd t_Prog_init fun q2 h2 => So.bd t_Walk_init fun q3 h3 => So.bd t_Wri_init fun q4 h4 => So.bd t_Bits_init_1000 fun q5 h5 => ?_
  have hre : So Rea_init (fun _ => True) := So.one trivial
  refine So.bd hre fun q6 _ => So.bd (yy_Grd_init hf) fun q7 h7 => So.lt (So.lt ?_)
  refine yy_xi_L hf (fun m hm => ?_) fu 0 0 _ rfl (by omega) (by omega) fun s hs => absurd hs (by omega)
  unfold X_init_j138
  exact So.lt (So.lt (So.one ⟨h7, hm, h1⟩))
theorem yy_mi_L357 {fu : Nat} {sMo_L357 : S_Mo} {sMthere_L357 : Nat → Int32} {sMscales_L357 : Nat → Int32} {sMreferences_L357 : Nat → Int32} {sMwidths_L357 : Nat → Int32} {sMlists_L357 : Nat → Int32} {sMlengths_L357 : Nat → Int32} {sMvalues_L357 : Nat → Int64} {sMread_L357 : Nat → Int64} {sMlist_L357 : Nat → Int32} {sMnext_L357 : Nat → Int32} {sMend_L357 : Nat → Int32} {sMbegin_L357 : Nat → Int32} {sMleft_L357 : Nat → Int32} {sMturn_L357 : Nat → Int32} {sMfoundOps_L357 : Nat → Int32} {sMops_L357 : Nat → Int32} {sMkind_L357 : Nat → Int32} {sMcode_L357 : Nat → Int32} {sMwidth_L357 : Nat → Int32} {sMscale_L357 : Nat → Int32} {sMlink_L357 : Nat → Int32} {sMrepeat_L357 : Nat → Int32} {sMbase_L357 : Nat → Int64} {sMelementAt_L357 : Nat → Int32} {sMpointAt_L357 : Nat → Int32} {sMbits_L357 : Nat → Int32} {sMmade_L357 : Nat → Int32} {sMtape_L357 : Nat → Int32} {sMfirstKind_L357 : Nat → Int32} {sMfirstWidth_L357 : Nat → Int32} {sMfirstScale_L357 : Nat → Int32} {sMfirstBase_L357 : Nat → Int64} {sMcodeOf_L357 : Nat → Int64} {sMcost_L357 : Nat → Int64} {sMcut_L357 : Nat → Int32} {sMends_L357 : Nat → Int32} : ∀ (n k : Nat) (x : Int32) (po pk : Nat → Int64), x.toInt = (k : Int) → k ≤ 64 → 64 - k < n → (∀ j, j < k → po j = (-9000000000000000000) ∧ pk j = (-9000000000000000000)) → So (Mod_init_L357 fu sMo_L357 sMthere_L357 sMscales_L357 sMreferences_L357 sMwidths_L357 sMlists_L357 sMlengths_L357 sMvalues_L357 sMread_L357 sMlist_L357 sMnext_L357 sMend_L357 sMbegin_L357 sMleft_L357 sMturn_L357 sMfoundOps_L357 sMops_L357 sMkind_L357 sMcode_L357 sMwidth_L357 sMscale_L357 sMlink_L357 sMrepeat_L357 sMbase_L357 sMelementAt_L357 sMpointAt_L357 sMbits_L357 sMmade_L357 sMtape_L357 sMfirstKind_L357 sMfirstWidth_L357 sMfirstScale_L357 sMfirstBase_L357 sMcodeOf_L357 sMcost_L357 sMcut_L357 sMends_L357 n x po pk) (fun r => r.1 = sMo_L357 ∧ r.2.2.2.2.2.2.2.1 = sMvalues_L357 ∧ ∀ j, j < 64 → r.2.2.2.2.2.2.2.2.2.2.2.2.2.2.2.2.2.2.2.2.2.2.2.2.2.2.2.2.2.2.2.2.2.1 j = (-9000000000000000000) ∧ r.2.2.2.2.2.2.2.2.2.2.2.2.2.2.2.2.2.2.2.2.2.2.2.2.2.2.2.2.2.2.2.2.2.2.1 j = (-9000000000000000000))
  | 0, k, x, po, pk, _, _, h, _ => absurd h (by omega)
  | n + 1, k, x, po, pk, hx, hk, hn, hv => by
    rw [Mod_init_L357]
    have k1 : (1 : Int32).toInt = 1 := by decide
    have k64 : (64 : Int32).toInt = 64 := by decide
    refine So.ite (fun c => ?_) (fun c => ?_) <;> rw [i_le] at c
    · exact So.one ⟨rfl, rfl, fun j hj => hv j (by omega)⟩
    · have e1 : (x + 1).toInt = ((k + 1 : Nat) : Int) := by
        rw [i_add (a := x) (b := 1) (by omega) (by omega), k1, hx]
        omega
      have en : x.toNatClampNeg = k := by have := i_nat (a := x) (by omega); omega
      refine So.gd (i_in.mpr (by omega)) (So.lt (So.gd (i_in.mpr (by omega)) (So.lt ?_)))
      refine yy_mi_L357 n (k + 1) (x + 1) _ _ e1 (by omega) (by omega) fun j hj => ?_
      rw [en]
      by_cases ej : j = k
      · rw [ej, updL_at, updL_at]
        exact ⟨rfl, rfl⟩
      · rw [updL_ne ej, updL_ne ej]
        exact hv j (by omega)
theorem yy_mi_L333 {fu : Nat} {sMo_L333 : S_Mo} {sMthere_L333 : Nat → Int32} {sMscales_L333 : Nat → Int32} {sMreferences_L333 : Nat → Int32} {sMwidths_L333 : Nat → Int32} {sMlists_L333 : Nat → Int32} {sMlengths_L333 : Nat → Int32} {sMread_L333 : Nat → Int64} {sMlist_L333 : Nat → Int32} {sMnext_L333 : Nat → Int32} {sMend_L333 : Nat → Int32} {sMbegin_L333 : Nat → Int32} {sMleft_L333 : Nat → Int32} {sMturn_L333 : Nat → Int32} {sMfoundOps_L333 : Nat → Int32} {sMops_L333 : Nat → Int32} {sMkind_L333 : Nat → Int32} {sMcode_L333 : Nat → Int32} {sMwidth_L333 : Nat → Int32} {sMscale_L333 : Nat → Int32} {sMlink_L333 : Nat → Int32} {sMrepeat_L333 : Nat → Int32} {sMbase_L333 : Nat → Int64} {sMelementAt_L333 : Nat → Int32} {sMpointAt_L333 : Nat → Int32} {sMbits_L333 : Nat → Int32} {sMmade_L333 : Nat → Int32} {sMtape_L333 : Nat → Int32} {sMfirstKind_L333 : Nat → Int32} {sMfirstWidth_L333 : Nat → Int32} {sMfirstScale_L333 : Nat → Int32} {sMfirstBase_L333 : Nat → Int64} {sMpoints_L333 : Nat → Int64} {sMpacked_L333 : Nat → Int64} {sMcodeOf_L333 : Nat → Int64} {sMcost_L333 : Nat → Int64} {sMcut_L333 : Nat → Int32} {sMends_L333 : Nat → Int32} {ke : (Nat → Int64) → Option M39} {P : M39 → Prop} (hke : ∀ m, (∀ j, j < 800 → m j = (-9000000000000000000)) → So (ke m) P) : ∀ (n k : Nat) (x : Int32) (va : Nat → Int64), x.toInt = (k : Int) → k ≤ 800 → 800 - k < n → (∀ j, j < k → va j = (-9000000000000000000)) → So (Mod_init_L333 fu sMo_L333 sMthere_L333 sMscales_L333 sMreferences_L333 sMwidths_L333 sMlists_L333 sMlengths_L333 sMread_L333 sMlist_L333 sMnext_L333 sMend_L333 sMbegin_L333 sMleft_L333 sMturn_L333 sMfoundOps_L333 sMops_L333 sMkind_L333 sMcode_L333 sMwidth_L333 sMscale_L333 sMlink_L333 sMrepeat_L333 sMbase_L333 sMelementAt_L333 sMpointAt_L333 sMbits_L333 sMmade_L333 sMtape_L333 sMfirstKind_L333 sMfirstWidth_L333 sMfirstScale_L333 sMfirstBase_L333 sMpoints_L333 sMpacked_L333 sMcodeOf_L333 sMcost_L333 sMcut_L333 sMends_L333 ke n x va) P
  | 0, k, x, va, _, _, h, _ => absurd h (by omega)
  | n + 1, k, x, va, hx, hk, hn, hv => by
    rw [Mod_init_L333]
    have k1 : (1 : Int32).toInt = 1 := by decide
    have k8 : (800 : Int32).toInt = 800 := by decide
    refine So.ite (fun c => ?_) (fun c => ?_) <;> rw [i_le] at c
    · exact hke va fun j hj => hv j (by omega)
    · have e1 : (x + 1).toInt = ((k + 1 : Nat) : Int) := by
        rw [i_add (a := x) (b := 1) (by omega) (by omega), k1, hx]
        omega
      have en : x.toNatClampNeg = k := by have := i_nat (a := x) (by omega); omega
      refine So.gd (i_in.mpr (by omega)) (So.lt ?_)
      refine yy_mi_L333 hke n (k + 1) (x + 1) _ e1 (by omega) (by omega) fun j hj => ?_
      rw [en]
      by_cases ej : j = k
      · rw [ej, updL_at]
      · rw [updL_ne ej]
        exact hv j (by omega)
theorem yy_Mod_init {fu : Nat} (hf : 12000 ≤ fu) : So (Mod_init fu) (fun r => Mo_codes r.1 = (-1) ∧ (∀ j, j < 64 → r.2.2.2.2.2.2.2.2.2.2.2.2.2.2.2.2.2.2.2.2.2.2.2.2.2.2.2.2.2.2.2.2.2.1 j = (-9000000000000000000) ∧ r.2.2.2.2.2.2.2.2.2.2.2.2.2.2.2.2.2.2.2.2.2.2.2.2.2.2.2.2.2.2.2.2.2.2.1 j = (-9000000000000000000)) ∧ (∀ j, j < 800 → r.2.2.2.2.2.2.2.1 j = (-9000000000000000000)) ∧ Mo_used r.1 = 3) := by
  unfold Mod_init
  refine So.lt (So.lt (So.lt (So.lt (So.lt (So.lt (So.lt (So.lt (So.lt (So.lt (So.lt (So.lt (So.lt (So.lt (So.lt (So.lt (So.lt (So.lt (So.lt (So.lt (So.lt (So.lt (So.lt (So.lt (So.lt (So.lt (So.lt (So.lt (So.lt (So.lt (So.lt (So.lt (So.lt (So.lt (So.lt (So.lt (So.lt (So.lt (So.lt ?_))))))))))))))))))))))))))))))))))))))
  refine yy_mi_L333 (fun m hm => ?_) fu 0 0 _ rfl (by omega) (by omega) fun j hj => absurd hj (by omega)
  unfold Mod_init_j355
  refine So.imp (yy_mi_L357 fu 0 0 _ _ rfl (by omega) (by omega) fun j hj => absurd hj (by omega)) fun r hr => ?_
  obtain ⟨a, b, c⟩ := hr
  refine ⟨by rw [a], c, fun j hj => ?_, by rw [a]⟩
  rw [b]
  exact hm j hj
