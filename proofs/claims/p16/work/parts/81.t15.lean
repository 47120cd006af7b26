-- compile, fields, and what asks for a field (reference)
theorem t_Mod_compile {fu : Nat} {th sc wi ls le li ne en be lf tu fo op : Nat → Int32} {s : S_Mo} (hf : 12000 ≤ fu) (It : A_Mthere th) (Is : A_Mscales sc) (Iw : A_Mwidths wi) (Ils : A_Mlists ls) (Ile : A_Mlengths le) (I : I_Mo s) (Ifo : A_MfoundOps fo) (Iop : A_Mops op) : So (Mod_compile fu th sc wi ls le s li ne en be lf tu fo op) (fun r => I_Mo r.2.1 ∧ A_MfoundOps r.2.2.2.2.2.2.2.2.1 ∧ A_Mops r.2.2.2.2.2.2.2.2.2 ∧ KM r.2.1 s) := by
  unfold Mod_compile
  refine So.bd (t_Mod_compileAll hf Iw Is Ils Ile I Ifo Iop) fun q h => ?_
  obtain ⟨p1, p2, p3, p4, p5, p6⟩ := h
  have j : ∀ t : Int32, So (Mod_compile_j17 fu th sc wi ls le t q.1 q.2.1 q.2.2.1 q.2.2.2.1 q.2.2.2.2.1 q.2.2.2.2.2.1 q.2.2.2.2.2.2.1 q.2.2.2.2.2.2.2.1 q.2.2.2.2.2.2.2.2) (fun r => I_Mo r.2.1 ∧ A_MfoundOps r.2.2.2.2.2.2.2.2.1 ∧ A_Mops r.2.2.2.2.2.2.2.2.2 ∧ KM r.2.1 s) := by
    intro t
    unfold Mod_compile_j17
    refine So.lt ?_
    exact So.ite (fun _ => So.one ⟨I_Mo_set_thrown p1, p4, p5, p2⟩) (fun _ => So.one ⟨I_Mo_set_thrown p1, p4, p5, p2⟩)
  exact So.ite (fun _ => j _) (fun _ => j _)
theorem I_at {s : S_Mo} (I : I_Mo s) : 0 ≤ (Mo_at s).toInt := (I_Mo_at I).1
-- a walk behind a compiling without fault
theorem t_walk2 {fu : Nat} {th sc rf wi ls le : Nat → Int32} {va : Nat → Int64} {bi : Nat → Int32} {a0 a1 : Int32} {s z : S_Mo} {rd : Nat → Int64} {li ne en be lf tu fo op ki co wd sca lk rp : Nat → Int32} {ba : Nat → Int64} {ea pa : Nat → Int32} (hf : 12000 ≤ fu) (Is : A_Mscales sc) (Iw : A_Mwidths wi) (Ils : A_Mlists ls) (Ile : A_Mlengths le) (I : I_Mo s) (Ifo : A_MfoundOps fo) (Iop : A_Mops op) (Aw : A_Mwidth wd) (Ae : A_MelementAt ea) (Ap : A_MpointAt pa) (hz : Mo_fault s = 0) (h0 : 0 ≤ a0.toInt) (h1 : a0.toInt ≤ 7) (hm : a1.toInt < 2 ∨ ((Mo_at s).toInt ≤ (Mo_many s).toInt ∧ (Mo_many s).toInt ≤ 40000)) (hs : a1.toInt ≠ 3 ∨ (Mo_subsets s).toInt ≤ 8) (K : KM s z) (hc : CompOK fu th sc wi ls le (Mo_used z)) : So (Mod_walk fu th sc rf wi ls le va bi a0 a1 s rd li ne en be lf tu fo op ki co wd sca lk rp ba ea pa) (fun r => WR r (Mo_set_mode (Mo_set_subset s a0) a1) ∧ KM r.1 z) := by
  have hu : Mo_used s = Mo_used z := K.1
  have hg : 0 ≤ (Mo_fault s).toInt := by rw [hz]; decide
  refine So.imp (t_Mod_walk hf Iw Is Ils Ile I Ifo Iop Aw Ae Ap hg h0 h1 (I_at I) hm hs (by rw [hu]; exact hc)) fun r hr => ⟨hr, ?_⟩
  exact hr.2.1.1.trans K
abbrev A20 : Type := Int32 × A19
def AP (s : S_Mo) (r : A20) : Prop := I_Mo r.2.1 ∧ A_MfoundOps r.2.2.2.2.2.2.2.2.2.1 ∧ A_Mops r.2.2.2.2.2.2.2.2.2.2.1 ∧ A_Mwidth r.2.2.2.2.2.2.2.2.2.2.2.2.2.1 ∧ A_MelementAt r.2.2.2.2.2.2.2.2.2.2.2.2.2.2.2.2.2.2.1 ∧ A_MpointAt r.2.2.2.2.2.2.2.2.2.2.2.2.2.2.2.2.2.2.2 ∧ 0 ≤ r.1.toInt ∧ r.1.toInt ≤ 100 ∧ KM r.2.1 s
theorem t_ask_j51 {fu : Nat} {th sc rf wi ls le : Nat → Int32} {va : Nat → Int64} {bi : Nat → Int32} {x2 x3 x4 : Int32} {s z : S_Mo} {rd : Nat → Int64} {li ne en be lf tu fo op ki co wd sca lk rp : Nat → Int32} {ba : Nat → Int64} {ea pa : Nat → Int32} (I : I_Mo s) (Ifo : A_MfoundOps fo) (Iop : A_Mops op) (Aw : A_Mwidth wd) (Ae : A_MelementAt ea) (Ap : A_MpointAt pa) (K : KM s z) : So (Mod_ask_j51 fu th sc rf wi ls le va bi x2 x3 x4 s rd li ne en be lf tu fo op ki co wd sca lk rp ba ea pa) (AP z) := by
  unfold Mod_ask_j51
  have I2 : I_Mo (Mo_set_place (Mo_set_fault s x2) x3) := I_Mo_set_place (I_Mo_set_fault I)
  refine So.lt (So.lt ?_)
  refine So.ite (fun _ => ?_) (fun _ => ?_)
  · exact So.one ⟨I2, Ifo, Iop, Aw, Ae, Ap, (by decide : (0 : Int) ≤ (0 : Int32).toInt), (by decide : (0 : Int32).toInt ≤ 100), K⟩
  · exact So.one ⟨I2, Ifo, Iop, Aw, Ae, Ap, (I_Mo_fields I).1, (I_Mo_fields I).2, K⟩
theorem t_Mod_ask {fu : Nat} {th sc rf wi ls le : Nat → Int32} {va : Nat → Int64} {bi : Nat → Int32} {a0 : Int32} {s : S_Mo} {rd : Nat → Int64} {li ne en be lf tu fo op ki co wd sca lk rp : Nat → Int32} {ba : Nat → Int64} {ea pa : Nat → Int32} (hf : 12000 ≤ fu) (It : A_Mthere th) (Is : A_Mscales sc) (Iw : A_Mwidths wi) (Ils : A_Mlists ls) (Ile : A_Mlengths le) (I : I_Mo s) (Ifo : A_MfoundOps fo) (Iop : A_Mops op) (Aw : A_Mwidth wd) (Ae : A_MelementAt ea) (Ap : A_MpointAt pa) : So (Mod_ask fu th sc rf wi ls le va bi a0 s rd li ne en be lf tu fo op ki co wd sca lk rp ba ea pa) (AP s) := by
  unfold Mod_ask
  refine So.bd (t_Mod_compileAll hf Iw Is Ils Ile I Ifo Iop) fun q h => ?_
  obtain ⟨p1, p2, p3, p4, p5, p6⟩ := h
  refine So.lt ?_
  have I2 : I_Mo (Mo_set_fields q.1 0) := I_Mo_set_fields p1 (by decide)
  have K2 : KM (Mo_set_fields q.1 0) s := p2
  have j37 : So (Mod_ask_j37 fu th sc rf wi ls le va bi a0 (Mo_fault s) (Mo_place s) (Mo_set_fields q.1 0) rd q.2.1 q.2.2.1 q.2.2.2.1 q.2.2.2.2.1 q.2.2.2.2.2.1 q.2.2.2.2.2.2.1 q.2.2.2.2.2.2.2.1 q.2.2.2.2.2.2.2.2 ki co wd sca lk rp ba ea pa) (AP s) := by
    unfold Mod_ask_j37 Mod_ask_j38
    refine So.pos (by decide) ?_
    exact t_ask_j51 I2 p4 p5 Aw Ae Ap K2
  refine So.ite (fun c1 => ?_) (fun c1 => j37)
  refine So.bd t_Mod_isSubset fun q3 h3 => ?_
  refine So.ite (fun c2 => j37) (fun c2 => ?_)
  rw [i_eq] at c2
  have k0 : (0 : Int32).toInt = 0 := by decide
  unfold Mod_ask_j38
  refine So.neg (by decide) ?_
  refine So.bd (t_walk2 (z := s) hf Is Iw Ils Ile I2 p4 p5 Aw Ae Ap c1 (by omega) (by omega) (Or.inl (by decide)) (Or.inl (by decide)) K2 (p6 c1)) fun r hr => ?_
  obtain ⟨⟨w1, w2, w3, w4, w5, w6, w7⟩, w8⟩ := hr
  exact t_ask_j51 w1.1 w3 w4 w5 w6 w7 w8
theorem t_Mod_fields {fu : Nat} {th sc rf wi ls le : Nat → Int32} {va : Nat → Int64} {bi : Nat → Int32} {a0 : Int32} {s : S_Mo} {rd : Nat → Int64} {li ne en be lf tu fo op ki co wd sca lk rp : Nat → Int32} {ba : Nat → Int64} {ea pa : Nat → Int32} (hf : 12000 ≤ fu) (It : A_Mthere th) (Is : A_Mscales sc) (Iw : A_Mwidths wi) (Ils : A_Mlists ls) (Ile : A_Mlengths le) (I : I_Mo s) (Ifo : A_MfoundOps fo) (Iop : A_Mops op) (Aw : A_Mwidth wd) (Ae : A_MelementAt ea) (Ap : A_MpointAt pa) : So (Mod_fields fu th sc rf wi ls le va bi a0 s rd li ne en be lf tu fo op ki co wd sca lk rp ba ea pa) (AP s) := by
  unfold Mod_fields
  have k0 : (0 : Int32).toInt = 0 := by decide
  have j42 : ∀ (s' : S_Mo) (rd' : Nat → Int64) (li' ne' en' be' lf' tu' fo' op' ki' co' wd' sca' lk' rp' : Nat → Int32) (ba' : Nat → Int64) (ea' pa' : Nat → Int32), I_Mo s' → A_MfoundOps fo' → A_Mops op' → A_Mwidth wd' → A_MelementAt ea' → A_MpointAt pa' → KM s' s → So (Mod_fields_j42 fu th sc rf wi ls le va bi s' rd' li' ne' en' be' lf' tu' fo' op' ki' co' wd' sca' lk' rp' ba' ea' pa') (AP s) := by
    intro s' rd' li' ne' en' be' lf' tu' fo' op' ki' co' wd' sca' lk' rp' ba' ea' pa' I' F' O' W' E' P' K'
    unfold Mod_fields_j42 Mod_fields_j55
    have f := I_Mo_fields I'
    refine So.ite (fun _ => So.lt (So.ite (fun _ => ?_) (fun _ => ?_))) (fun _ => So.lt (So.ite (fun _ => ?_) (fun _ => ?_)))
    · exact So.one ⟨I_Mo_set_thrown I', F', O', W', E', P', f.1, f.2, K'⟩
    · exact So.one ⟨I_Mo_set_thrown I', F', O', W', E', P', (by decide : (0 : Int) ≤ (0 : Int32).toInt), (by decide : (0 : Int32).toInt ≤ 100), K'⟩
    · exact So.one ⟨I_Mo_set_thrown I', F', O', W', E', P', f.1, f.2, K'⟩
    · exact So.one ⟨I_Mo_set_thrown I', F', O', W', E', P', (by decide : (0 : Int) ≤ (0 : Int32).toInt), (by decide : (0 : Int32).toInt ≤ 100), K'⟩
  have j13 : ∀ t : Int32, (t ≤ 0 → 0 ≤ a0.toInt ∧ a0.toInt ≤ 7) → So (Mod_fields_j13 fu th sc rf wi ls le va bi a0 t s rd li ne en be lf tu fo op ki co wd sca lk rp ba ea pa) (AP s) := by
    intro t ht
    unfold Mod_fields_j13
    refine So.lt ?_
    refine So.ite (fun c => ?_) (fun c => ?_)
    · have hr := ht c
      refine So.bd (t_Mod_compileAll hf Iw Is Ils Ile (I_Mo_set_thrown (v := t) I) Ifo Iop) fun q h => ?_
      obtain ⟨p1, p2, p3, p4, p5, p6⟩ := h
      have K2 : KM q.1 s := p2
      refine So.ite (fun c1 => ?_) (fun c1 => ?_)
      · refine So.bd (t_walk2 (z := s) hf Is Iw Ils Ile p1 p4 p5 Aw Ae Ap c1 (by omega) (by omega) (Or.inl (by decide)) (Or.inl (by decide)) K2 (p6 c1)) fun r hr => ?_
        obtain ⟨⟨w1, w2, w3, w4, w5, w6, w7⟩, w8⟩ := hr
        exact j42 _ _ _ _ _ _ _ _ _ _ _ _ _ _ _ _ _ _ _ w1.1 w3 w4 w5 w6 w7 w8
      · exact j42 _ _ _ _ _ _ _ _ _ _ _ _ _ _ _ _ _ _ _ p1 p4 p5 Aw Ae Ap K2
    · exact So.one ⟨I_Mo_set_thrown I, Ifo, Iop, Aw, Ae, Ap, (by decide : (0 : Int) ≤ (0 : Int32).toInt), (by decide : (0 : Int32).toInt ≤ 100), KM.refl _⟩
  refine So.bd t_Mod_isSubset fun q1 h1 => ?_
  refine So.ite (fun c => ?_) (fun c => ?_) <;> rw [i_eq] at c
  · exact j13 1 (fun h => absurd h (by decide))
  · exact j13 0 (fun _ => by omega)

theorem t_Mod_field {fu : Nat} {sMthere : (Nat → Int32)} {sMscales : (Nat → Int32)} {sMreferences : (Nat → Int32)} {sMwidths : (Nat → Int32)} {sMlists : (Nat → Int32)} {sMlengths : (Nat → Int32)} {sMvalues : (Nat → Int64)} {sMbits : (Nat → Int32)} {a0 : Int32} {a1 : Int32} {a2 : Int32} {sMo : S_Mo} {sMread : (Nat → Int64)} {sMlist : (Nat → Int32)} {sMnext : (Nat → Int32)} {sMend : (Nat → Int32)} {sMbegin : (Nat → Int32)} {sMleft : (Nat → Int32)} {sMturn : (Nat → Int32)} {sMfoundOps : (Nat → Int32)} {sMops : (Nat → Int32)} {sMkind : (Nat → Int32)} {sMcode : (Nat → Int32)} {sMwidth : (Nat → Int32)} {sMscale : (Nat → Int32)} {sMlink : (Nat → Int32)} {sMrepeat : (Nat → Int32)} {sMbase : (Nat → Int64)} {sMelementAt : (Nat → Int32)} {sMpointAt : (Nat → Int32)} (hf : 12000 ≤ fu) (I_sMthere : A_Mthere sMthere) (I_sMscales : A_Mscales sMscales) (I_sMwidths : A_Mwidths sMwidths) (I_sMlists : A_Mlists sMlists) (I_sMlengths : A_Mlengths sMlengths) (I_sMo : I_Mo sMo) (I_sMfoundOps : A_MfoundOps sMfoundOps) (I_sMops : A_Mops sMops) (I_sMwidth : A_Mwidth sMwidth) (I_sMelementAt : A_MelementAt sMelementAt) (I_sMpointAt : A_MpointAt sMpointAt) : So (Mod_field fu sMthere sMscales sMreferences sMwidths sMlists sMlengths sMvalues sMbits a0 a1 a2 sMo sMread sMlist sMnext sMend sMbegin sMleft sMturn sMfoundOps sMops sMkind sMcode sMwidth sMscale sMlink sMrepeat sMbase sMelementAt sMpointAt) (fun r => I_Mo r.2.1 ∧ A_MfoundOps r.2.2.2.2.2.2.2.2.2.1 ∧ A_Mops r.2.2.2.2.2.2.2.2.2.2.1 ∧ A_Mwidth r.2.2.2.2.2.2.2.2.2.2.2.2.2.1 ∧ A_MelementAt r.2.2.2.2.2.2.2.2.2.2.2.2.2.2.2.2.2.2.1 ∧ A_MpointAt r.2.2.2.2.2.2.2.2.2.2.2.2.2.2.2.2.2.2.2 ∧ KM r.2.1 sMo) := by
  unfold Mod_field
  refine So.lt2 fun sMo_1 e_1 => ?_
  have I_2 : I_Mo sMo_1 := by rw [e_1]; exact (I_Mo_set_thrown I_sMo)
  have K_3 : KM sMo_1 sMo := by rw [e_1]; exact (KM.refl _)
  have k_4 : (0 : Int32).toInt = 0 := by decide
  refine So.ite (fun c_5 => ?_) (fun c_5 => ?_)
  · rw [i_lt] at c_5
    exact So.one ⟨I_2, I_sMfoundOps, I_sMops, I_sMwidth, I_sMelementAt, I_sMpointAt, K_3⟩
  · rw [i_lt] at c_5
    refine So.bd (t_Mod_ask hf I_sMthere I_sMscales I_sMwidths I_sMlists I_sMlengths I_2 I_sMfoundOps I_sMops I_sMwidth I_sMelementAt I_sMpointAt) fun q2 h_6 => ?_
    obtain ⟨p_7, p_8, p_9, p_10, p_11, p_12, p_13, p_14, p_15⟩ := h_6
    refine So.ite (fun c_16 => ?_) (fun c_16 => ?_)
    · rw [i_lt] at c_16
      refine So.ite (fun c_17 => ?_) (fun c_17 => ?_)
      · rw [i_eq] at c_17
        refine So.gd (i_in.mpr (by omega)) ?_
        exact So.one ⟨p_7, p_8, p_9, p_10, p_11, p_12, (KM.trans p_15 K_3)⟩
      · rw [i_eq] at c_17
        refine So.ite (fun c_18 => ?_) (fun c_18 => ?_)
        · rw [i_eq] at c_18
          have k_19 : (1 : Int32).toInt = 1 := by decide
          refine So.gd (i_in.mpr (by omega)) ?_
          exact So.one ⟨p_7, p_8, p_9, p_10, p_11, p_12, (KM.trans p_15 K_3)⟩
        · rw [i_eq] at c_18
          have k_20 : (1 : Int32).toInt = 1 := by decide
          refine So.ite (fun c_21 => ?_) (fun c_21 => ?_)
          · rw [i_eq] at c_21
            have k_22 : (2 : Int32).toInt = 2 := by decide
            refine So.gd (i_in.mpr (by omega)) ?_
            exact So.one ⟨p_7, p_8, p_9, p_10, p_11, p_12, (KM.trans p_15 K_3)⟩
          · rw [i_eq] at c_21
            have k_23 : (2 : Int32).toInt = 2 := by decide
            refine So.ite (fun c_24 => ?_) (fun c_24 => ?_)
            · rw [i_eq] at c_24
              have k_25 : (3 : Int32).toInt = 3 := by decide
              refine So.gd (i_in.mpr (by omega)) ?_
              exact So.one ⟨p_7, p_8, p_9, p_10, p_11, p_12, (KM.trans p_15 K_3)⟩
            · rw [i_eq] at c_24
              have k_26 : (3 : Int32).toInt = 3 := by decide
              refine So.ite (fun c_27 => ?_) (fun c_27 => ?_)
              · rw [i_eq] at c_27
                have k_28 : (4 : Int32).toInt = 4 := by decide
                refine So.gd (i_in.mpr (by omega)) ?_
                exact So.one ⟨p_7, p_8, p_9, p_10, p_11, p_12, (KM.trans p_15 K_3)⟩
              · rw [i_eq] at c_27
                have k_29 : (4 : Int32).toInt = 4 := by decide
                refine So.ite (fun c_30 => ?_) (fun c_30 => ?_)
                · rw [i_eq] at c_30
                  have k_31 : (5 : Int32).toInt = 5 := by decide
                  refine So.gd (i_in.mpr (by omega)) ?_
                  exact So.one ⟨p_7, p_8, p_9, p_10, p_11, p_12, (KM.trans p_15 K_3)⟩
                · rw [i_eq] at c_30
                  have k_32 : (5 : Int32).toInt = 5 := by decide
                  exact So.one ⟨p_7, p_8, p_9, p_10, p_11, p_12, (KM.trans p_15 K_3)⟩
    · rw [i_lt] at c_16
      exact So.one ⟨p_7, p_8, p_9, p_10, p_11, p_12, (KM.trans p_15 K_3)⟩
theorem t_Mod_reference {fu : Nat} {sMthere : (Nat → Int32)} {sMscales : (Nat → Int32)} {sMreferences : (Nat → Int32)} {sMwidths : (Nat → Int32)} {sMlists : (Nat → Int32)} {sMlengths : (Nat → Int32)} {sMvalues : (Nat → Int64)} {sMbits : (Nat → Int32)} {a0 : Int32} {a1 : Int32} {sMo : S_Mo} {sMread : (Nat → Int64)} {sMlist : (Nat → Int32)} {sMnext : (Nat → Int32)} {sMend : (Nat → Int32)} {sMbegin : (Nat → Int32)} {sMleft : (Nat → Int32)} {sMturn : (Nat → Int32)} {sMfoundOps : (Nat → Int32)} {sMops : (Nat → Int32)} {sMkind : (Nat → Int32)} {sMcode : (Nat → Int32)} {sMwidth : (Nat → Int32)} {sMscale : (Nat → Int32)} {sMlink : (Nat → Int32)} {sMrepeat : (Nat → Int32)} {sMbase : (Nat → Int64)} {sMelementAt : (Nat → Int32)} {sMpointAt : (Nat → Int32)} (hf : 12000 ≤ fu) (I_sMthere : A_Mthere sMthere) (I_sMscales : A_Mscales sMscales) (I_sMwidths : A_Mwidths sMwidths) (I_sMlists : A_Mlists sMlists) (I_sMlengths : A_Mlengths sMlengths) (I_sMo : I_Mo sMo) (I_sMfoundOps : A_MfoundOps sMfoundOps) (I_sMops : A_Mops sMops) (I_sMwidth : A_Mwidth sMwidth) (I_sMelementAt : A_MelementAt sMelementAt) (I_sMpointAt : A_MpointAt sMpointAt) : So (Mod_reference fu sMthere sMscales sMreferences sMwidths sMlists sMlengths sMvalues sMbits a0 a1 sMo sMread sMlist sMnext sMend sMbegin sMleft sMturn sMfoundOps sMops sMkind sMcode sMwidth sMscale sMlink sMrepeat sMbase sMelementAt sMpointAt) (fun r => I_Mo r.2.1 ∧ A_MfoundOps r.2.2.2.2.2.2.2.2.2.1 ∧ A_Mops r.2.2.2.2.2.2.2.2.2.2.1 ∧ A_Mwidth r.2.2.2.2.2.2.2.2.2.2.2.2.2.1 ∧ A_MelementAt r.2.2.2.2.2.2.2.2.2.2.2.2.2.2.2.2.2.2.1 ∧ A_MpointAt r.2.2.2.2.2.2.2.2.2.2.2.2.2.2.2.2.2.2.2 ∧ KM r.2.1 sMo) := by
  unfold Mod_reference
  refine So.lt2 fun sMo_1 e_1 => ?_
  have I_2 : I_Mo sMo_1 := by rw [e_1]; exact (I_Mo_set_thrown I_sMo)
  have K_3 : KM sMo_1 sMo := by rw [e_1]; exact (KM.refl _)
  have k_4 : (0 : Int32).toInt = 0 := by decide
  refine So.ite (fun c_5 => ?_) (fun c_5 => ?_)
  · rw [i_lt] at c_5
    exact So.one ⟨I_2, I_sMfoundOps, I_sMops, I_sMwidth, I_sMelementAt, I_sMpointAt, K_3⟩
  · rw [i_lt] at c_5
    refine So.bd (t_Mod_ask hf I_sMthere I_sMscales I_sMwidths I_sMlists I_sMlengths I_2 I_sMfoundOps I_sMops I_sMwidth I_sMelementAt I_sMpointAt) fun q2 h_6 => ?_
    obtain ⟨p_7, p_8, p_9, p_10, p_11, p_12, p_13, p_14, p_15⟩ := h_6
    refine So.ite (fun c_16 => ?_) (fun c_16 => ?_)
    · rw [i_lt] at c_16
      refine So.gd (i_in.mpr (by omega)) ?_
      exact So.one ⟨p_7, p_8, p_9, p_10, p_11, p_12, (KM.trans p_15 K_3)⟩
    · rw [i_lt] at c_16
      exact So.one ⟨p_7, p_8, p_9, p_10, p_11, p_12, (KM.trans p_15 K_3)⟩
theorem t_Mod_find_L18 {fu : Nat} {sMthere : (Nat → Int32)} {sMscales : (Nat → Int32)} {sMreferences : (Nat → Int32)} {sMwidths : (Nat → Int32)} {sMlists : (Nat → Int32)} {sMlengths : (Nat → Int32)} {sMvalues : (Nat → Int64)} {sMbits : (Nat → Int32)} {x2_L18 : Int32} {x3_L18 : Int32} {x4_L18 : Int32} {x5_L18 : Int32} {sMo_L18 : S_Mo} {sMread_L18 : (Nat → Int64)} {sMlist_L18 : (Nat → Int32)} {sMnext_L18 : (Nat → Int32)} {sMend_L18 : (Nat → Int32)} {sMbegin_L18 : (Nat → Int32)} {sMleft_L18 : (Nat → Int32)} {sMturn_L18 : (Nat → Int32)} {sMfoundOps_L18 : (Nat → Int32)} {sMops_L18 : (Nat → Int32)} {sMkind_L18 : (Nat → Int32)} {sMcode_L18 : (Nat → Int32)} {sMwidth_L18 : (Nat → Int32)} {sMscale_L18 : (Nat → Int32)} {sMlink_L18 : (Nat → Int32)} {sMrepeat_L18 : (Nat → Int32)} {sMbase_L18 : (Nat → Int64)} {sMelementAt_L18 : (Nat → Int32)} {sMpointAt_L18 : (Nat → Int32)} (hf : 12000 ≤ fu) (I_sMthere : A_Mthere sMthere) (I_sMscales : A_Mscales sMscales) (I_sMwidths : A_Mwidths sMwidths) (I_sMlists : A_Mlists sMlists) (I_sMlengths : A_Mlengths sMlengths) (I_sMo_L18 : I_Mo sMo_L18) (I_sMfoundOps_L18 : A_MfoundOps sMfoundOps_L18) (I_sMops_L18 : A_Mops sMops_L18) (I_sMwidth_L18 : A_Mwidth sMwidth_L18) (I_sMelementAt_L18 : A_MelementAt sMelementAt_L18) (I_sMpointAt_L18 : A_MpointAt sMpointAt_L18) (g_0 : x5_L18.toInt ≤ 100) : ∀ (n : Nat) (x6_L18 : Int32) (x7_L18 : Int32), (0 ≤ x7_L18.toInt) → (x7_L18.toInt ≤ 100) → (100 - x7_L18.toInt < (n : Nat)) → So (Mod_find_L18 fu sMthere sMscales sMreferences sMwidths sMlists sMlengths sMvalues sMbits x2_L18 x3_L18 x4_L18 x5_L18 sMo_L18 sMread_L18 sMlist_L18 sMnext_L18 sMend_L18 sMbegin_L18 sMleft_L18 sMturn_L18 sMfoundOps_L18 sMops_L18 sMkind_L18 sMcode_L18 sMwidth_L18 sMscale_L18 sMlink_L18 sMrepeat_L18 sMbase_L18 sMelementAt_L18 sMpointAt_L18 n x6_L18 x7_L18) (fun r => I_Mo r.2.1 ∧ A_MfoundOps r.2.2.2.2.2.2.2.2.2.1 ∧ A_Mops r.2.2.2.2.2.2.2.2.2.2.1 ∧ A_Mwidth r.2.2.2.2.2.2.2.2.2.2.2.2.2.1 ∧ A_MelementAt r.2.2.2.2.2.2.2.2.2.2.2.2.2.2.2.2.2.2.1 ∧ A_MpointAt r.2.2.2.2.2.2.2.2.2.2.2.2.2.2.2.2.2.2.2 ∧ KM r.2.1 sMo_L18)
  | 0, x6_L18, x7_L18, l_0, l_1, l_2 => absurd l_2 (by omega)
  | n + 1, x6_L18, x7_L18, l_0, l_1, l_2 => by
    rw [Mod_find_L18]
    refine So.ite (fun c_1 => ?_) (fun c_1 => ?_)
    · rw [i_le] at c_1
      exact So.one ⟨I_sMo_L18, I_sMfoundOps_L18, I_sMops_L18, I_sMwidth_L18, I_sMelementAt_L18, I_sMpointAt_L18, (KM.refl _)⟩
    · rw [i_le] at c_1
      refine So.gd (i_in.mpr (by omega)) ?_
      refine So.ite (fun c_2 => ?_) (fun c_2 => ?_)
      · rw [i_eq] at c_2
        have k_3 : (0 : Int32).toInt = 0 := by decide
        refine So.gd (i_in.mpr (by omega)) ?_
        refine So.ite (fun c_4 => ?_) (fun c_4 => ?_)
        · rw [i_eq] at c_4
          refine So.ite (fun c_5 => ?_) (fun c_5 => ?_)
          · rw [i_eq] at c_5
            have k_6 : ((-1) : Int32).toInt = -1 := by decide
            unfold Mod_find_j65
            refine So.ite (fun c_7 => ?_) (fun c_7 => ?_)
            · rw [i_eq] at c_7
              exact So.one ⟨I_sMo_L18, I_sMfoundOps_L18, I_sMops_L18, I_sMwidth_L18, I_sMelementAt_L18, I_sMpointAt_L18, (KM.refl _)⟩
            · rw [i_eq] at c_7
              unfold Mod_find_j78
              have k_8 : (1 : Int32).toInt = 1 := by decide
              first | have f_9 := i_add (a := x7_L18) (b := 1) (by omega) (by omega) | have f_9 := i_addm x7_L18 1
              exact t_Mod_find_L18 hf I_sMthere I_sMscales I_sMwidths I_sMlists I_sMlengths I_sMo_L18 I_sMfoundOps_L18 I_sMops_L18 I_sMwidth_L18 I_sMelementAt_L18 I_sMpointAt_L18 (by show x5_L18.toInt ≤ 100; omega)   n _ _ (by show 0 ≤ (x7_L18 + 1).toInt; omega) (by show (x7_L18 + 1).toInt ≤ 100; omega) (by show 100 - (x7_L18 + 1).toInt < (n : Nat); omega)
          · rw [i_eq] at c_5
            have k_10 : ((-1) : Int32).toInt = -1 := by decide
            refine So.gd (i_in.mpr (by omega)) ?_
            refine So.ite (fun c_11 => ?_) (fun c_11 => ?_)
            · rw [i_eq] at c_11
              unfold Mod_find_j65
              refine So.ite (fun c_12 => ?_) (fun c_12 => ?_)
              · rw [i_eq] at c_12
                exact So.one ⟨I_sMo_L18, I_sMfoundOps_L18, I_sMops_L18, I_sMwidth_L18, I_sMelementAt_L18, I_sMpointAt_L18, (KM.refl _)⟩
              · rw [i_eq] at c_12
                unfold Mod_find_j78
                have k_13 : (1 : Int32).toInt = 1 := by decide
                first | have f_14 := i_add (a := x7_L18) (b := 1) (by omega) (by omega) | have f_14 := i_addm x7_L18 1
                exact t_Mod_find_L18 hf I_sMthere I_sMscales I_sMwidths I_sMlists I_sMlengths I_sMo_L18 I_sMfoundOps_L18 I_sMops_L18 I_sMwidth_L18 I_sMelementAt_L18 I_sMpointAt_L18 (by show x5_L18.toInt ≤ 100; omega)   n _ _ (by show 0 ≤ (x7_L18 + 1).toInt; omega) (by show (x7_L18 + 1).toInt ≤ 100; omega) (by show 100 - (x7_L18 + 1).toInt < (n : Nat); omega)
            · rw [i_eq] at c_11
              unfold Mod_find_j78
              have k_15 : (1 : Int32).toInt = 1 := by decide
              first | have f_16 := i_add (a := x7_L18) (b := 1) (by omega) (by omega) | have f_16 := i_addm x7_L18 1
              exact t_Mod_find_L18 hf I_sMthere I_sMscales I_sMwidths I_sMlists I_sMlengths I_sMo_L18 I_sMfoundOps_L18 I_sMops_L18 I_sMwidth_L18 I_sMelementAt_L18 I_sMpointAt_L18 (by show x5_L18.toInt ≤ 100; omega)   n _ _ (by show 0 ≤ (x7_L18 + 1).toInt; omega) (by show (x7_L18 + 1).toInt ≤ 100; omega) (by show 100 - (x7_L18 + 1).toInt < (n : Nat); omega)
        · rw [i_eq] at c_4
          unfold Mod_find_j78
          have k_17 : (1 : Int32).toInt = 1 := by decide
          first | have f_18 := i_add (a := x7_L18) (b := 1) (by omega) (by omega) | have f_18 := i_addm x7_L18 1
          exact t_Mod_find_L18 hf I_sMthere I_sMscales I_sMwidths I_sMlists I_sMlengths I_sMo_L18 I_sMfoundOps_L18 I_sMops_L18 I_sMwidth_L18 I_sMelementAt_L18 I_sMpointAt_L18 (by show x5_L18.toInt ≤ 100; omega)   n _ _ (by show 0 ≤ (x7_L18 + 1).toInt; omega) (by show (x7_L18 + 1).toInt ≤ 100; omega) (by show 100 - (x7_L18 + 1).toInt < (n : Nat); omega)
      · rw [i_eq] at c_2
        have k_19 : (0 : Int32).toInt = 0 := by decide
        unfold Mod_find_j78
        have k_20 : (1 : Int32).toInt = 1 := by decide
        first | have f_21 := i_add (a := x7_L18) (b := 1) (by omega) (by omega) | have f_21 := i_addm x7_L18 1
        exact t_Mod_find_L18 hf I_sMthere I_sMscales I_sMwidths I_sMlists I_sMlengths I_sMo_L18 I_sMfoundOps_L18 I_sMops_L18 I_sMwidth_L18 I_sMelementAt_L18 I_sMpointAt_L18 (by show x5_L18.toInt ≤ 100; omega)   n _ _ (by show 0 ≤ (x7_L18 + 1).toInt; omega) (by show (x7_L18 + 1).toInt ≤ 100; omega) (by show 100 - (x7_L18 + 1).toInt < (n : Nat); omega)
theorem t_Mod_find {fu : Nat} {sMthere : (Nat → Int32)} {sMscales : (Nat → Int32)} {sMreferences : (Nat → Int32)} {sMwidths : (Nat → Int32)} {sMlists : (Nat → Int32)} {sMlengths : (Nat → Int32)} {sMvalues : (Nat → Int64)} {sMbits : (Nat → Int32)} {a0 : Int32} {a1 : Int32} {a2 : Int32} {a3 : Int32} {sMo : S_Mo} {sMread : (Nat → Int64)} {sMlist : (Nat → Int32)} {sMnext : (Nat → Int32)} {sMend : (Nat → Int32)} {sMbegin : (Nat → Int32)} {sMleft : (Nat → Int32)} {sMturn : (Nat → Int32)} {sMfoundOps : (Nat → Int32)} {sMops : (Nat → Int32)} {sMkind : (Nat → Int32)} {sMcode : (Nat → Int32)} {sMwidth : (Nat → Int32)} {sMscale : (Nat → Int32)} {sMlink : (Nat → Int32)} {sMrepeat : (Nat → Int32)} {sMbase : (Nat → Int64)} {sMelementAt : (Nat → Int32)} {sMpointAt : (Nat → Int32)} (hf : 12000 ≤ fu) (I_sMthere : A_Mthere sMthere) (I_sMscales : A_Mscales sMscales) (I_sMwidths : A_Mwidths sMwidths) (I_sMlists : A_Mlists sMlists) (I_sMlengths : A_Mlengths sMlengths) (I_sMo : I_Mo sMo) (I_sMfoundOps : A_MfoundOps sMfoundOps) (I_sMops : A_Mops sMops) (I_sMwidth : A_Mwidth sMwidth) (I_sMelementAt : A_MelementAt sMelementAt) (I_sMpointAt : A_MpointAt sMpointAt) : So (Mod_find fu sMthere sMscales sMreferences sMwidths sMlists sMlengths sMvalues sMbits a0 a1 a2 a3 sMo sMread sMlist sMnext sMend sMbegin sMleft sMturn sMfoundOps sMops sMkind sMcode sMwidth sMscale sMlink sMrepeat sMbase sMelementAt sMpointAt) (fun r => I_Mo r.2.1 ∧ A_MfoundOps r.2.2.2.2.2.2.2.2.2.1 ∧ A_Mops r.2.2.2.2.2.2.2.2.2.2.1 ∧ A_Mwidth r.2.2.2.2.2.2.2.2.2.2.2.2.2.1 ∧ A_MelementAt r.2.2.2.2.2.2.2.2.2.2.2.2.2.2.2.2.2.2.1 ∧ A_MpointAt r.2.2.2.2.2.2.2.2.2.2.2.2.2.2.2.2.2.2.2 ∧ KM r.2.1 sMo) := by
  unfold Mod_find
  refine So.lt2 fun sMo_1 e_1 => ?_
  have I_2 : I_Mo sMo_1 := by rw [e_1]; exact (I_Mo_set_thrown I_sMo)
  have K_3 : KM sMo_1 sMo := by rw [e_1]; exact (KM.refl _)
  have k_4 : (0 : Int32).toInt = 0 := by decide
  refine So.bd (t_Mod_ask hf I_sMthere I_sMscales I_sMwidths I_sMlists I_sMlengths I_2 I_sMfoundOps I_sMops I_sMwidth I_sMelementAt I_sMpointAt) fun q2 h_5 => ?_
  obtain ⟨p_6, p_7, p_8, p_9, p_10, p_11, p_12, p_13, p_14⟩ := h_5
  refine So.imp (t_Mod_find_L18 hf I_sMthere I_sMscales I_sMwidths I_sMlists I_sMlengths p_6 p_7 p_8 p_9 p_10 p_11 (by show q2.1.toInt ≤ 100; omega) fu _ _ (by show 0 ≤ (0 : Int32).toInt; omega) (by show (0 : Int32).toInt ≤ 100; omega) (by show 100 - (0 : Int32).toInt < (fu : Nat); omega)) fun q_z h_z => ?_
  obtain ⟨p_15, p_16, p_17, p_18, p_19, p_20, p_21⟩ := h_z
  exact ⟨p_15, p_16, p_17, p_18, p_19, p_20, (KM.trans p_21 (KM.trans p_14 K_3))⟩
