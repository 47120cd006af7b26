set_option maxHeartbeats 4000000 in
theorem t_La_c0 {fu : Nat} {xs : Nat → Int32} {L : Nat} {sX : S_X} {x4 : Int32} {sTab : S_Tab} {sMo : S_Mo} {sMthere : (Nat → Int32)} {sMscales : (Nat → Int32)} {sMreferences : (Nat → Int32)} {sMwidths : (Nat → Int32)} (hf : 45000 ≤ fu) (I_sTab : I_Tab sTab) (I_sMo : I_Mo sMo) (I_sMthere : A_Mthere sMthere) (I_sMscales : A_Mscales sMscales) (I_sMwidths : A_Mwidths sMwidths) (g_0 : 0 ≤ x4.toInt) (g_1 : x4.toInt + 5 < (L : Int)) (g_2 : (L : Int) ≤ 3072) : So (La_c0 fu xs L sX x4 sTab sMo sMthere sMscales sMreferences sMwidths) (fun r => I_Tab r.1 ∧ I_Mo r.2.1 ∧ A_Mthere r.2.2.1 ∧ A_Mscales r.2.2.2.1 ∧ A_Mwidths r.2.2.2.2.2 ∧ ((Mo_used r.2.1).toInt = (Mo_used sMo).toInt) ∧ ((Mo_taped r.2.1).toInt = (Mo_taped sMo).toInt) ∧ ((Mo_madeMany r.2.1).toInt = (Mo_madeMany sMo).toInt) ∧ ((Mo_madeKind r.2.1).toInt = (Mo_madeKind sMo).toInt) ∧ ((Mo_madeSubsets r.2.1).toInt = (Mo_madeSubsets sMo).toInt) ∧ ((Mo_written r.2.1).toInt = (Mo_written sMo).toInt)) := by
  unfold La_c0
  have k_1 : (1 : Int32).toInt = 1 := by decide
  first | have f_2 := i_add (a := x4) (b := 1) (by omega) (by omega) | have f_2 := i_addm x4 1
  refine So.gd (i_in.mpr (by omega)) ?_
  have k_3 : (2 : Int32).toInt = 2 := by decide
  first | have f_4 := i_add (a := x4) (b := 2) (by omega) (by omega) | have f_4 := i_addm x4 2
  refine So.gd (i_in.mpr (by omega)) ?_
  have k_5 : (3 : Int32).toInt = 3 := by decide
  first | have f_6 := i_add (a := x4) (b := 3) (by omega) (by omega) | have f_6 := i_addm x4 3
  refine So.gd (i_in.mpr (by omega)) ?_
  have k_7 : (4 : Int32).toInt = 4 := by decide
  first | have f_8 := i_add (a := x4) (b := 4) (by omega) (by omega) | have f_8 := i_addm x4 4
  refine So.gd (i_in.mpr (by omega)) ?_
  have k_9 : (5 : Int32).toInt = 5 := by decide
  first | have f_10 := i_add (a := x4) (b := 5) (by omega) (by omega) | have f_10 := i_addm x4 5
  refine So.gd (i_in.mpr (by omega)) ?_
  refine So.bd (t_Law_element I_sTab) fun q6 h_11 => ?_
  obtain ⟨p_12, p_13⟩ := h_11
  refine So.gd (i_in.mpr (by omega)) ?_
  refine So.gd (i_in.mpr (by omega)) ?_
  refine So.gd (i_in.mpr (by omega)) ?_
  refine So.gd (i_in.mpr (by omega)) ?_
  refine So.gd (i_in.mpr (by omega)) ?_
  have f_14 := I_Mo_used I_sMo
  have f_15 := I_Mo_taped I_sMo
  have f_16 := I_Mo_madeMany I_sMo
  refine So.bd (t_Mod_element I_sMo I_sMthere I_sMscales I_sMwidths) fun q12 h_17 => ?_
  obtain ⟨p_18, p_19, p_20, p_21, p_22, p_23, p_24, p_25, p_26, p_27, p_28⟩ := h_17
  exact So.one ⟨p_12, p_18, p_19, p_20, p_21, (by show (Mo_used q12.1).toInt = (Mo_used sMo).toInt; omega), (by show (Mo_taped q12.1).toInt = (Mo_taped sMo).toInt; omega), (by show (Mo_madeMany q12.1).toInt = (Mo_madeMany sMo).toInt; omega), (by show (Mo_madeKind q12.1).toInt = (Mo_madeKind sMo).toInt; omega), (by show (Mo_madeSubsets q12.1).toInt = (Mo_madeSubsets sMo).toInt; omega), (by show (Mo_written q12.1).toInt = (Mo_written sMo).toInt; omega)⟩
set_option maxHeartbeats 4000000 in
theorem t_La_c1 {fu : Nat} {xs : Nat → Int32} {L : Nat} {sX : S_X} {x4 : Int32} {sTab : S_Tab} {sMo : S_Mo} {sMthere : (Nat → Int32)} (hf : 45000 ≤ fu) (I_sTab : I_Tab sTab) (I_sMo : I_Mo sMo) (I_sMthere : A_Mthere sMthere) (g_0 : 0 ≤ x4.toInt) (g_1 : x4.toInt + 5 < (L : Int)) (g_2 : (L : Int) ≤ 3072) : So (La_c1 fu xs L sX x4 sTab sMo sMthere) (fun r => I_Tab r.1 ∧ I_Mo r.2.1 ∧ A_Mthere r.2.2 ∧ ((Mo_used r.2.1).toInt = (Mo_used sMo).toInt) ∧ ((Mo_taped r.2.1).toInt = (Mo_taped sMo).toInt) ∧ ((Mo_madeMany r.2.1).toInt = (Mo_madeMany sMo).toInt) ∧ ((Mo_madeKind r.2.1).toInt = (Mo_madeKind sMo).toInt) ∧ ((Mo_madeSubsets r.2.1).toInt = (Mo_madeSubsets sMo).toInt) ∧ ((Mo_written r.2.1).toInt = (Mo_written sMo).toInt)) := by
  unfold La_c1
  have k_1 : (1 : Int32).toInt = 1 := by decide
  first | have f_2 := i_add (a := x4) (b := 1) (by omega) (by omega) | have f_2 := i_addm x4 1
  refine So.gd (i_in.mpr (by omega)) ?_
  have k_3 : (2 : Int32).toInt = 2 := by decide
  first | have f_4 := i_add (a := x4) (b := 2) (by omega) (by omega) | have f_4 := i_addm x4 2
  refine So.gd (i_in.mpr (by omega)) ?_
  refine So.bd (t_X_drop I_sTab) fun q3 h_5 => ?_
  have p_6 := h_5
  refine So.gd (i_in.mpr (by omega)) ?_
  refine So.gd (i_in.mpr (by omega)) ?_
  have f_7 := I_Mo_used I_sMo
  have f_8 := I_Mo_taped I_sMo
  have f_9 := I_Mo_madeMany I_sMo
  refine So.bd (t_Mod_drop I_sMo I_sMthere) fun q6 h_10 => ?_
  obtain ⟨p_11, p_12, p_13, p_14, p_15, p_16, p_17, p_18⟩ := h_10
  exact So.one ⟨p_6, p_11, p_12, (by show (Mo_used q6.2.1).toInt = (Mo_used sMo).toInt; omega), (by show (Mo_taped q6.2.1).toInt = (Mo_taped sMo).toInt; omega), (by show (Mo_madeMany q6.2.1).toInt = (Mo_madeMany sMo).toInt; omega), (by show (Mo_madeKind q6.2.1).toInt = (Mo_madeKind sMo).toInt; omega), (by show (Mo_madeSubsets q6.2.1).toInt = (Mo_madeSubsets sMo).toInt; omega), (by show (Mo_written q6.2.1).toInt = (Mo_written sMo).toInt; omega)⟩
set_option maxHeartbeats 4000000 in
theorem t_La_c2 {fu : Nat} {xs : Nat → Int32} {L : Nat} {sX : S_X} {x4 : Int32} {sTab : S_Tab} {sMo : S_Mo} (hf : 45000 ≤ fu) (I_sTab : I_Tab sTab) (I_sMo : I_Mo sMo) (g_0 : 0 ≤ x4.toInt) (g_1 : x4.toInt + 5 < (L : Int)) (g_2 : (L : Int) ≤ 3072) : So (La_c2 fu xs L sX x4 sTab sMo) (fun r => I_Tab r.1 ∧ I_Mo r.2 ∧ ((Mo_taped r.2).toInt = (Mo_taped sMo).toInt) ∧ ((Mo_madeMany r.2).toInt = (Mo_madeMany sMo).toInt) ∧ ((Mo_madeKind r.2).toInt = (Mo_madeKind sMo).toInt) ∧ ((Mo_madeSubsets r.2).toInt = (Mo_madeSubsets sMo).toInt) ∧ ((Mo_written r.2).toInt = (Mo_written sMo).toInt)) := by
  unfold La_c2
  have k_1 : (1 : Int32).toInt = 1 := by decide
  first | have f_2 := i_add (a := x4) (b := 1) (by omega) (by omega) | have f_2 := i_addm x4 1
  refine So.gd (i_in.mpr (by omega)) ?_
  refine So.bd (t_Law_version I_sTab) fun q2 h_3 => ?_
  obtain ⟨p_4, p_5⟩ := h_3
  refine So.gd (i_in.mpr (by omega)) ?_
  have f_6 := I_Mo_taped I_sMo
  have f_7 := I_Mo_madeMany I_sMo
  refine So.bd (t_Mod_version I_sMo) fun q4 h_8 => ?_
  obtain ⟨p_9, p_10, p_11, p_12, p_13, p_14, p_15⟩ := h_8
  exact So.one ⟨p_4, p_9, (by show (Mo_taped q4).toInt = (Mo_taped sMo).toInt; omega), (by show (Mo_madeMany q4).toInt = (Mo_madeMany sMo).toInt; omega), (by show (Mo_madeKind q4).toInt = (Mo_madeKind sMo).toInt; omega), (by show (Mo_madeSubsets q4).toInt = (Mo_madeSubsets sMo).toInt; omega), (by show (Mo_written q4).toInt = (Mo_written sMo).toInt; omega)⟩
set_option maxHeartbeats 4000000 in
theorem t_La_c3 {fu : Nat} {xs : Nat → Int32} {L : Nat} {sX : S_X} {x4 : Int32} {sTab : S_Tab} {sMo : S_Mo} {sMlists : (Nat → Int32)} {sMlengths : (Nat → Int32)} {sRW : (Nat → Int64)} (hf : 45000 ≤ fu) (I_sTab : I_Tab sTab) (I_sMo : I_Mo sMo) (I_sMlists : A_Mlists sMlists) (I_sMlengths : A_Mlengths sMlengths) (g_0 : 0 ≤ x4.toInt) (g_1 : x4.toInt + 5 < (L : Int)) (g_2 : (L : Int) ≤ 3072) : So (La_c3 fu xs L sX x4 sTab sMo sMlists sMlengths sRW) (fun r => I_Tab r.1 ∧ I_Mo r.2.1 ∧ A_Mlists r.2.2.1 ∧ A_Mlengths r.2.2.2.1 ∧ ((Mo_used r.2.1).toInt = (Mo_used sMo).toInt) ∧ ((Mo_taped r.2.1).toInt = (Mo_taped sMo).toInt) ∧ ((Mo_madeMany r.2.1).toInt = (Mo_madeMany sMo).toInt) ∧ ((Mo_madeKind r.2.1).toInt = (Mo_madeKind sMo).toInt) ∧ ((Mo_madeSubsets r.2.1).toInt = (Mo_madeSubsets sMo).toInt) ∧ ((Mo_written r.2.1).toInt = (Mo_written sMo).toInt)) := by
  unfold La_c3
  have k_1 : (1 : Int32).toInt = 1 := by decide
  first | have f_2 := i_add (a := x4) (b := 1) (by omega) (by omega) | have f_2 := i_addm x4 1
  refine So.gd (i_in.mpr (by omega)) ?_
  have k_3 : (2 : Int32).toInt = 2 := by decide
  first | have f_4 := i_add (a := x4) (b := 2) (by omega) (by omega) | have f_4 := i_addm x4 2
  refine So.gd (i_in.mpr (by omega)) ?_
  refine So.bd (t_Law_append (Nat.le_trans (by decide) hf) I_sTab (by show (1 : Int) = 1; omega)) fun q3 h_5 => ?_
  obtain ⟨p_6, p_7⟩ := h_5
  refine So.gd (i_in.mpr (by omega)) ?_
  refine So.gd (i_in.mpr (by omega)) ?_
  have f_8 := I_Mo_used I_sMo
  have f_9 := I_Mo_taped I_sMo
  have f_10 := I_Mo_madeMany I_sMo
  refine So.bd (t_Mod_append I_sMo I_sMlists I_sMlengths) fun q6 h_11 => ?_
  obtain ⟨p_12, p_13, p_14, p_15, p_16, p_17, p_18, p_19, p_20, p_21, p_22⟩ := h_11
  exact So.one ⟨p_6, p_12, p_13, p_14, (by show (Mo_used q6.2.1).toInt = (Mo_used sMo).toInt; omega), (by show (Mo_taped q6.2.1).toInt = (Mo_taped sMo).toInt; omega), (by show (Mo_madeMany q6.2.1).toInt = (Mo_madeMany sMo).toInt; omega), (by show (Mo_madeKind q6.2.1).toInt = (Mo_madeKind sMo).toInt; omega), (by show (Mo_madeSubsets q6.2.1).toInt = (Mo_madeSubsets sMo).toInt; omega), (by show (Mo_written q6.2.1).toInt = (Mo_written sMo).toInt; omega)⟩
set_option maxHeartbeats 4000000 in
theorem t_La_c4 {fu : Nat} {xs : Nat → Int32} {L : Nat} {sX : S_X} {x4 : Int32} {sTab : S_Tab} {sMo : S_Mo} {sMlengths : (Nat → Int32)} (hf : 45000 ≤ fu) (I_sTab : I_Tab sTab) (I_sMo : I_Mo sMo) (I_sMlengths : A_Mlengths sMlengths) (g_0 : 0 ≤ x4.toInt) (g_1 : x4.toInt + 5 < (L : Int)) (g_2 : (L : Int) ≤ 3072) : So (La_c4 fu xs L sX x4 sTab sMo sMlengths) (fun r => I_Tab r.1 ∧ I_Mo r.2.1 ∧ A_Mlengths r.2.2 ∧ ((Mo_used r.2.1).toInt = (Mo_used sMo).toInt) ∧ ((Mo_taped r.2.1).toInt = (Mo_taped sMo).toInt) ∧ ((Mo_madeMany r.2.1).toInt = (Mo_madeMany sMo).toInt) ∧ ((Mo_madeKind r.2.1).toInt = (Mo_madeKind sMo).toInt) ∧ ((Mo_madeSubsets r.2.1).toInt = (Mo_madeSubsets sMo).toInt) ∧ ((Mo_written r.2.1).toInt = (Mo_written sMo).toInt)) := by
  unfold La_c4
  have k_1 : (1 : Int32).toInt = 1 := by decide
  first | have f_2 := i_add (a := x4) (b := 1) (by omega) (by omega) | have f_2 := i_addm x4 1
  refine So.gd (i_in.mpr (by omega)) ?_
  refine So.bd (t_Law_clear I_sTab) fun q2 h_3 => ?_
  obtain ⟨p_4, p_5⟩ := h_3
  refine So.gd (i_in.mpr (by omega)) ?_
  have f_6 := I_Mo_used I_sMo
  have f_7 := I_Mo_taped I_sMo
  have f_8 := I_Mo_madeMany I_sMo
  refine So.bd (t_Mod_clear I_sMo I_sMlengths) fun q4 h_9 => ?_
  obtain ⟨p_10, p_11, p_12, p_13, p_14, p_15, p_16, p_17, p_18⟩ := h_9
  exact So.one ⟨p_4, p_10, p_11, (by show (Mo_used q4.1).toInt = (Mo_used sMo).toInt; omega), (by show (Mo_taped q4.1).toInt = (Mo_taped sMo).toInt; omega), (by show (Mo_madeMany q4.1).toInt = (Mo_madeMany sMo).toInt; omega), (by show (Mo_madeKind q4.1).toInt = (Mo_madeKind sMo).toInt; omega), (by show (Mo_madeSubsets q4.1).toInt = (Mo_madeSubsets sMo).toInt; omega), (by show (Mo_written q4.1).toInt = (Mo_written sMo).toInt; omega)⟩
set_option maxHeartbeats 4000000 in
theorem t_La_c5 {fu : Nat} {xs : Nat → Int32} {L : Nat} {sTab : S_Tab} {sMthere : (Nat → Int32)} {sMscales : (Nat → Int32)} {sMwidths : (Nat → Int32)} {sMlists : (Nat → Int32)} {sMlengths : (Nat → Int32)} {x4 : Int32} {sX : S_X} {sProg : S_Prog} {sMo : S_Mo} {sMlist : (Nat → Int32)} {sMnext : (Nat → Int32)} {sMend : (Nat → Int32)} {sMbegin : (Nat → Int32)} {sMleft : (Nat → Int32)} {sMturn : (Nat → Int32)} {sMfoundOps : (Nat → Int32)} {sMops : (Nat → Int32)} {sRW : (Nat → Int64)} (hf : 45000 ≤ fu) (I_sTab : I_Tab sTab) (I_sMthere : A_Mthere sMthere) (I_sMscales : A_Mscales sMscales) (I_sMwidths : A_Mwidths sMwidths) (I_sMlists : A_Mlists sMlists) (I_sMlengths : A_Mlengths sMlengths) (I_sProg : I_Prog sProg) (I_sMo : I_Mo sMo) (I_sMfoundOps : A_MfoundOps sMfoundOps) (I_sMops : A_Mops sMops) (g_0 : 0 ≤ x4.toInt) (g_1 : x4.toInt + 5 < (L : Int)) (g_2 : (L : Int) ≤ 3072) : So (La_c5 fu xs L sTab sMthere sMscales sMwidths sMlists sMlengths x4 sX sProg sMo sMlist sMnext sMend sMbegin sMleft sMturn sMfoundOps sMops sRW) (fun r => I_Prog r.2.1 ∧ I_Mo r.2.2.1 ∧ A_MfoundOps r.2.2.2.2.2.2.2.2.2.1 ∧ A_Mops r.2.2.2.2.2.2.2.2.2.2.1 ∧ ((Mo_used r.2.2.1).toInt = (Mo_used sMo).toInt) ∧ ((Mo_taped r.2.2.1).toInt = (Mo_taped sMo).toInt) ∧ ((Mo_madeMany r.2.2.1).toInt = (Mo_madeMany sMo).toInt) ∧ ((Mo_madeKind r.2.2.1).toInt = (Mo_madeKind sMo).toInt) ∧ ((Mo_madeSubsets r.2.2.1).toInt = (Mo_madeSubsets sMo).toInt) ∧ ((Mo_written r.2.2.1).toInt = (Mo_written sMo).toInt)) := by
  unfold La_c5
  have k_1 : (1 : Int32).toInt = 1 := by decide
  refine So.bd (t_Law_compile (Nat.le_trans (by decide) hf) I_sTab I_sProg (by show (1 : Int) = 1; omega)) fun q1 h_2 => ?_
  obtain ⟨p_3, p_4⟩ := h_2
  refine So.bd (t_Mod_compile (Nat.le_trans (by decide) hf) I_sMthere I_sMscales I_sMwidths I_sMlists I_sMlengths I_sMo I_sMfoundOps I_sMops) fun q2 h_5 => ?_
  obtain ⟨p_6, p_7, p_8, p_9⟩ := h_5
  have f_10 := congrArg Int32.toInt p_9.1
  have f_11 := congrArg Int32.toInt p_9.2.1
  have f_12 := congrArg Int32.toInt p_9.2.2.2.2.1
  have f_13 := congrArg Int32.toInt p_9.2.2.2.2.2.1
  have f_14 := congrArg Int32.toInt p_9.2.2.2.2.2.2.1
  have f_15 := congrArg Int32.toInt p_9.2.2.2.2.2.2.2.1
  exact So.one ⟨p_3, p_6, p_7, p_8, (by show (Mo_used q2.2.1).toInt = (Mo_used sMo).toInt; omega), (by show (Mo_taped q2.2.1).toInt = (Mo_taped sMo).toInt; omega), (by show (Mo_madeMany q2.2.1).toInt = (Mo_madeMany sMo).toInt; omega), (by show (Mo_madeKind q2.2.1).toInt = (Mo_madeKind sMo).toInt; omega), (by show (Mo_madeSubsets q2.2.1).toInt = (Mo_madeSubsets sMo).toInt; omega), (by show (Mo_written q2.2.1).toInt = (Mo_written sMo).toInt; omega)⟩
set_option maxHeartbeats 4000000 in
theorem t_La_c6 {fu : Nat} {xs : Nat → Int32} {L : Nat} {sX : S_X} {x4 : Int32} {sMo : S_Mo} (hf : 45000 ≤ fu) (I_sMo : I_Mo sMo) (g_0 : 0 ≤ x4.toInt) (g_1 : x4.toInt + 5 < (L : Int)) (g_2 : (L : Int) ≤ 3072) : So (La_c6 fu xs L sX x4 sMo) (fun r => I_Mo r ∧ ((Mo_used r).toInt = (Mo_used sMo).toInt) ∧ ((Mo_taped r).toInt = (Mo_taped sMo).toInt) ∧ ((Mo_madeMany r).toInt = (Mo_madeMany sMo).toInt) ∧ ((Mo_madeKind r).toInt = (Mo_madeKind sMo).toInt) ∧ ((Mo_madeSubsets r).toInt = (Mo_madeSubsets sMo).toInt) ∧ ((Mo_written r).toInt = (Mo_written sMo).toInt)) := by
  unfold La_c6
  have k_1 : (1 : Int32).toInt = 1 := by decide
  first | have f_2 := i_add (a := x4) (b := 1) (by omega) (by omega) | have f_2 := i_addm x4 1
  refine So.gd (i_in.mpr (by omega)) ?_
  refine So.bd (t_X_fault ) fun q2 h_3 => ?_
  refine So.gd (i_in.mpr (by omega)) ?_
  have f_4 := I_Mo_used I_sMo
  have f_5 := I_Mo_taped I_sMo
  have f_6 := I_Mo_madeMany I_sMo
  refine So.bd (t_Mod_fault I_sMo) fun q4 h_7 => ?_
  obtain ⟨p_8, p_9, p_10, p_11, p_12, p_13, p_14⟩ := h_7
  exact So.one ⟨p_8, (by show (Mo_used q4.2).toInt = (Mo_used sMo).toInt; omega), (by show (Mo_taped q4.2).toInt = (Mo_taped sMo).toInt; omega), (by show (Mo_madeMany q4.2).toInt = (Mo_madeMany sMo).toInt; omega), (by show (Mo_madeKind q4.2).toInt = (Mo_madeKind sMo).toInt; omega), (by show (Mo_madeSubsets q4.2).toInt = (Mo_madeSubsets sMo).toInt; omega), (by show (Mo_written q4.2).toInt = (Mo_written sMo).toInt; omega)⟩
set_option maxHeartbeats 4000000 in
theorem t_La_c7 {fu : Nat} {xs : Nat → Int32} {L : Nat} {sX : S_X} {x4 : Int32} {sVAL : (Nat → Nat → Int64)} {sMo : S_Mo} {sMvalues : (Nat → Int64)} (hf : 45000 ≤ fu) (I_sMo : I_Mo sMo) (g_0 : 0 ≤ x4.toInt) (g_1 : x4.toInt + 5 < (L : Int)) (g_2 : (L : Int) ≤ 3072) : So (La_c7 fu xs L sX x4 sVAL sMo sMvalues) (fun r => I_Mo r.2.1 ∧ ((Mo_used r.2.1).toInt = (Mo_used sMo).toInt) ∧ ((Mo_taped r.2.1).toInt = (Mo_taped sMo).toInt) ∧ ((Mo_madeMany r.2.1).toInt = (Mo_madeMany sMo).toInt) ∧ ((Mo_madeKind r.2.1).toInt = (Mo_madeKind sMo).toInt) ∧ ((Mo_madeSubsets r.2.1).toInt = (Mo_madeSubsets sMo).toInt) ∧ ((Mo_written r.2.1).toInt = (Mo_written sMo).toInt)) := by
  unfold La_c7
  have k_1 : (1 : Int32).toInt = 1 := by decide
  first | have f_2 := i_add (a := x4) (b := 1) (by omega) (by omega) | have f_2 := i_addm x4 1
  refine So.gd (i_in.mpr (by omega)) ?_
  have k_3 : (2 : Int32).toInt = 2 := by decide
  first | have f_4 := i_add (a := x4) (b := 2) (by omega) (by omega) | have f_4 := i_addm x4 2
  refine So.gd (i_in.mpr (by omega)) ?_
  have k_5 : (3 : Int32).toInt = 3 := by decide
  first | have f_6 := i_add (a := x4) (b := 3) (by omega) (by omega) | have f_6 := i_addm x4 3
  refine So.gd (i_in.mpr (by omega)) ?_
  have k_7 : (4 : Int32).toInt = 4 := by decide
  first | have f_8 := i_add (a := x4) (b := 4) (by omega) (by omega) | have f_8 := i_addm x4 4
  refine So.gd (i_in.mpr (by omega)) ?_
  refine So.bd (t_Law_put ) fun q5 h_9 => ?_
  have p_10 := h_9
  refine So.gd (i_in.mpr (by omega)) ?_
  refine So.gd (i_in.mpr (by omega)) ?_
  refine So.gd (i_in.mpr (by omega)) ?_
  refine So.gd (i_in.mpr (by omega)) ?_
  have f_11 := I_Mo_used I_sMo
  have f_12 := I_Mo_taped I_sMo
  have f_13 := I_Mo_madeMany I_sMo
  refine So.bd (t_Mod_put I_sMo) fun q10 h_14 => ?_
  obtain ⟨p_15, p_16, p_17, p_18, p_19, p_20, p_21, p_22⟩ := h_14
  exact So.one ⟨p_15, (by show (Mo_used q10.1).toInt = (Mo_used sMo).toInt; omega), (by show (Mo_taped q10.1).toInt = (Mo_taped sMo).toInt; omega), (by show (Mo_madeMany q10.1).toInt = (Mo_madeMany sMo).toInt; omega), (by show (Mo_madeKind q10.1).toInt = (Mo_madeKind sMo).toInt; omega), (by show (Mo_madeSubsets q10.1).toInt = (Mo_madeSubsets sMo).toInt; omega), (by show (Mo_written q10.1).toInt = (Mo_written sMo).toInt; omega)⟩
set_option maxHeartbeats 4000000 in
theorem t_La_c8 {fu : Nat} {xs : Nat → Int32} {L : Nat} {sX : S_X} {sVAL : (Nat → Nat → Int64)} {sMvalues : (Nat → Int64)} {x4 : Int32} {sMo : S_Mo} {sRW : (Nat → Int64)} (hf : 45000 ≤ fu) (I_sMo : I_Mo sMo) (g_0 : 0 ≤ x4.toInt) (g_1 : x4.toInt + 5 < (L : Int)) (g_2 : (L : Int) ≤ 3072) : So (La_c8 fu xs L sX sVAL sMvalues x4 sMo sRW) (fun r => I_Mo r.1 ∧ ((Mo_used r.1).toInt = (Mo_used sMo).toInt) ∧ ((Mo_taped r.1).toInt = (Mo_taped sMo).toInt) ∧ ((Mo_madeMany r.1).toInt = (Mo_madeMany sMo).toInt) ∧ ((Mo_madeKind r.1).toInt = (Mo_madeKind sMo).toInt) ∧ ((Mo_madeSubsets r.1).toInt = (Mo_madeSubsets sMo).toInt) ∧ ((Mo_written r.1).toInt = (Mo_written sMo).toInt)) := by
  unfold La_c8
  have k_1 : (1 : Int32).toInt = 1 := by decide
  first | have f_2 := i_add (a := x4) (b := 1) (by omega) (by omega) | have f_2 := i_addm x4 1
  refine So.gd (i_in.mpr (by omega)) ?_
  have k_3 : (2 : Int32).toInt = 2 := by decide
  first | have f_4 := i_add (a := x4) (b := 2) (by omega) (by omega) | have f_4 := i_addm x4 2
  refine So.gd (i_in.mpr (by omega)) ?_
  refine So.bd (t_Law_get (by show (1 : Int) = 1; omega)) fun q3 h_5 => ?_
  have p_6 := h_5
  refine So.gd (i_in.mpr (by omega)) ?_
  refine So.gd (i_in.mpr (by omega)) ?_
  have f_7 := I_Mo_used I_sMo
  have f_8 := I_Mo_taped I_sMo
  have f_9 := I_Mo_madeMany I_sMo
  refine So.bd (t_Mod_get I_sMo) fun q6 h_10 => ?_
  obtain ⟨p_11, p_12, p_13, p_14, p_15, p_16, p_17⟩ := h_10
  exact So.one ⟨p_11, (by show (Mo_used q6.2).toInt = (Mo_used sMo).toInt; omega), (by show (Mo_taped q6.2).toInt = (Mo_taped sMo).toInt; omega), (by show (Mo_madeMany q6.2).toInt = (Mo_madeMany sMo).toInt; omega), (by show (Mo_madeKind q6.2).toInt = (Mo_madeKind sMo).toInt; omega), (by show (Mo_madeSubsets q6.2).toInt = (Mo_madeSubsets sMo).toInt; omega), (by show (Mo_written q6.2).toInt = (Mo_written sMo).toInt; omega)⟩
set_option maxHeartbeats 4000000 in
theorem t_La_c9 {fu : Nat} {xs : Nat → Int32} {L : Nat} {sTab : S_Tab} {sVAL : (Nat → Nat → Int64)} {sMthere : (Nat → Int32)} {sMscales : (Nat → Int32)} {sMreferences : (Nat → Int32)} {sMwidths : (Nat → Int32)} {sMlists : (Nat → Int32)} {sMlengths : (Nat → Int32)} {sMvalues : (Nat → Int64)} {sMbits : (Nat → Int32)} {x4 : Int32} {sX : S_X} {sProg : S_Prog} {sWalk : S_Walk} {sFld : S_Fld} {sLps : S_Lps} {sMo : S_Mo} {sMread : (Nat → Int64)} {sMlist : (Nat → Int32)} {sMnext : (Nat → Int32)} {sMend : (Nat → Int32)} {sMbegin : (Nat → Int32)} {sMleft : (Nat → Int32)} {sMturn : (Nat → Int32)} {sMfoundOps : (Nat → Int32)} {sMops : (Nat → Int32)} {sMkind : (Nat → Int32)} {sMcode : (Nat → Int32)} {sMwidth : (Nat → Int32)} {sMscale : (Nat → Int32)} {sMlink : (Nat → Int32)} {sMrepeat : (Nat → Int32)} {sMbase : (Nat → Int64)} {sMelementAt : (Nat → Int32)} {sMpointAt : (Nat → Int32)} {sRW : (Nat → Int64)} (hf : 45000 ≤ fu) (I_sTab : I_Tab sTab) (I_sMthere : A_Mthere sMthere) (I_sMscales : A_Mscales sMscales) (I_sMwidths : A_Mwidths sMwidths) (I_sMlists : A_Mlists sMlists) (I_sMlengths : A_Mlengths sMlengths) (I_sProg : I_Prog sProg) (I_sWalk : I_Walk sWalk) (I_sFld : I_Fld sFld) (I_sLps : I_Lps sLps) (I_sMo : I_Mo sMo) (I_sMfoundOps : A_MfoundOps sMfoundOps) (I_sMops : A_Mops sMops) (I_sMwidth : A_Mwidth sMwidth) (I_sMelementAt : A_MelementAt sMelementAt) (I_sMpointAt : A_MpointAt sMpointAt) (g_0 : 0 ≤ x4.toInt) (g_1 : x4.toInt + 5 < (L : Int)) (g_2 : (L : Int) ≤ 3072) : So (La_c9 fu xs L sTab sVAL sMthere sMscales sMreferences sMwidths sMlists sMlengths sMvalues sMbits x4 sX sProg sWalk sFld sLps sMo sMread sMlist sMnext sMend sMbegin sMleft sMturn sMfoundOps sMops sMkind sMcode sMwidth sMscale sMlink sMrepeat sMbase sMelementAt sMpointAt sRW) (fun r => I_Prog r.2.1 ∧ I_Walk r.2.2.1 ∧ I_Fld r.2.2.2.1 ∧ I_Lps r.2.2.2.2.1 ∧ I_Mo r.2.2.2.2.2.1 ∧ A_MfoundOps r.2.2.2.2.2.2.2.2.2.2.2.2.2.1 ∧ A_Mops r.2.2.2.2.2.2.2.2.2.2.2.2.2.2.1 ∧ A_Mwidth r.2.2.2.2.2.2.2.2.2.2.2.2.2.2.2.2.2.1 ∧ A_MelementAt r.2.2.2.2.2.2.2.2.2.2.2.2.2.2.2.2.2.2.2.2.2.2.1 ∧ A_MpointAt r.2.2.2.2.2.2.2.2.2.2.2.2.2.2.2.2.2.2.2.2.2.2.2.1 ∧ ((Mo_used r.2.2.2.2.2.1).toInt = (Mo_used sMo).toInt) ∧ ((Mo_taped r.2.2.2.2.2.1).toInt = (Mo_taped sMo).toInt) ∧ ((Mo_madeMany r.2.2.2.2.2.1).toInt = (Mo_madeMany sMo).toInt) ∧ ((Mo_madeKind r.2.2.2.2.2.1).toInt = (Mo_madeKind sMo).toInt) ∧ ((Mo_madeSubsets r.2.2.2.2.2.1).toInt = (Mo_madeSubsets sMo).toInt) ∧ ((Mo_written r.2.2.2.2.2.1).toInt = (Mo_written sMo).toInt)) := by
  unfold La_c9
  have k_1 : (1 : Int32).toInt = 1 := by decide
  first | have f_2 := i_add (a := x4) (b := 1) (by omega) (by omega) | have f_2 := i_addm x4 1
  refine So.gd (i_in.mpr (by omega)) ?_
  refine So.bd (t_Law_fields (Nat.le_trans (by decide) hf) I_sTab I_sProg I_sWalk I_sFld I_sLps (by show (1 : Int) = 1; omega)) fun q2 h_3 => ?_
  obtain ⟨p_4, p_5, p_6, p_7, p_8⟩ := h_3
  refine So.gd (i_in.mpr (by omega)) ?_
  refine So.bd (t_Mod_fields (Nat.le_trans (by decide) hf) I_sMthere I_sMscales I_sMwidths I_sMlists I_sMlengths I_sMo I_sMfoundOps I_sMops I_sMwidth I_sMelementAt I_sMpointAt) fun q4 h_9 => ?_
  obtain ⟨p_10, p_11, p_12, p_13, p_14, p_15, p_16, p_17, p_18⟩ := h_9
  have f_19 := congrArg Int32.toInt p_18.1
  have f_20 := congrArg Int32.toInt p_18.2.1
  have f_21 := congrArg Int32.toInt p_18.2.2.2.2.1
  have f_22 := congrArg Int32.toInt p_18.2.2.2.2.2.1
  have f_23 := congrArg Int32.toInt p_18.2.2.2.2.2.2.1
  have f_24 := congrArg Int32.toInt p_18.2.2.2.2.2.2.2.1
  exact So.one ⟨p_4, p_5, p_6, p_7, p_10, p_11, p_12, p_13, p_14, p_15, (by show (Mo_used q4.2.1).toInt = (Mo_used sMo).toInt; omega), (by show (Mo_taped q4.2.1).toInt = (Mo_taped sMo).toInt; omega), (by show (Mo_madeMany q4.2.1).toInt = (Mo_madeMany sMo).toInt; omega), (by show (Mo_madeKind q4.2.1).toInt = (Mo_madeKind sMo).toInt; omega), (by show (Mo_madeSubsets q4.2.1).toInt = (Mo_madeSubsets sMo).toInt; omega), (by show (Mo_written q4.2.1).toInt = (Mo_written sMo).toInt; omega)⟩
set_option maxHeartbeats 4000000 in
theorem t_La_c10 {fu : Nat} {xs : Nat → Int32} {L : Nat} {sX : S_X} {sTab : S_Tab} {sVAL : (Nat → Nat → Int64)} {sMthere : (Nat → Int32)} {sMscales : (Nat → Int32)} {sMreferences : (Nat → Int32)} {sMwidths : (Nat → Int32)} {sMlists : (Nat → Int32)} {sMlengths : (Nat → Int32)} {sMvalues : (Nat → Int64)} {sMbits : (Nat → Int32)} {x4 : Int32} {sProg : S_Prog} {sWalk : S_Walk} {sFld : S_Fld} {sLps : S_Lps} {sMo : S_Mo} {sMread : (Nat → Int64)} {sMlist : (Nat → Int32)} {sMnext : (Nat → Int32)} {sMend : (Nat → Int32)} {sMbegin : (Nat → Int32)} {sMleft : (Nat → Int32)} {sMturn : (Nat → Int32)} {sMfoundOps : (Nat → Int32)} {sMops : (Nat → Int32)} {sMkind : (Nat → Int32)} {sMcode : (Nat → Int32)} {sMwidth : (Nat → Int32)} {sMscale : (Nat → Int32)} {sMlink : (Nat → Int32)} {sMrepeat : (Nat → Int32)} {sMbase : (Nat → Int64)} {sMelementAt : (Nat → Int32)} {sMpointAt : (Nat → Int32)} (hf : 45000 ≤ fu) (I_sTab : I_Tab sTab) (I_sMthere : A_Mthere sMthere) (I_sMscales : A_Mscales sMscales) (I_sMwidths : A_Mwidths sMwidths) (I_sMlists : A_Mlists sMlists) (I_sMlengths : A_Mlengths sMlengths) (I_sProg : I_Prog sProg) (I_sWalk : I_Walk sWalk) (I_sFld : I_Fld sFld) (I_sLps : I_Lps sLps) (I_sMo : I_Mo sMo) (I_sMfoundOps : A_MfoundOps sMfoundOps) (I_sMops : A_Mops sMops) (I_sMwidth : A_Mwidth sMwidth) (I_sMelementAt : A_MelementAt sMelementAt) (I_sMpointAt : A_MpointAt sMpointAt) (g_0 : 0 ≤ x4.toInt) (g_1 : x4.toInt + 5 < (L : Int)) (g_2 : (L : Int) ≤ 3072) : So (La_c10 fu xs L sX sTab sVAL sMthere sMscales sMreferences sMwidths sMlists sMlengths sMvalues sMbits x4 sProg sWalk sFld sLps sMo sMread sMlist sMnext sMend sMbegin sMleft sMturn sMfoundOps sMops sMkind sMcode sMwidth sMscale sMlink sMrepeat sMbase sMelementAt sMpointAt) (fun r => I_Prog r.1 ∧ I_Walk r.2.1 ∧ I_Fld r.2.2.1 ∧ I_Lps r.2.2.2.1 ∧ I_Mo r.2.2.2.2.1 ∧ A_MfoundOps r.2.2.2.2.2.2.2.2.2.2.2.2.1 ∧ A_Mops r.2.2.2.2.2.2.2.2.2.2.2.2.2.1 ∧ A_Mwidth r.2.2.2.2.2.2.2.2.2.2.2.2.2.2.2.2.1 ∧ A_MelementAt r.2.2.2.2.2.2.2.2.2.2.2.2.2.2.2.2.2.2.2.2.2.1 ∧ A_MpointAt r.2.2.2.2.2.2.2.2.2.2.2.2.2.2.2.2.2.2.2.2.2.2 ∧ ((Mo_used r.2.2.2.2.1).toInt = (Mo_used sMo).toInt) ∧ ((Mo_taped r.2.2.2.2.1).toInt = (Mo_taped sMo).toInt) ∧ ((Mo_madeMany r.2.2.2.2.1).toInt = (Mo_madeMany sMo).toInt) ∧ ((Mo_madeKind r.2.2.2.2.1).toInt = (Mo_madeKind sMo).toInt) ∧ ((Mo_madeSubsets r.2.2.2.2.1).toInt = (Mo_madeSubsets sMo).toInt) ∧ ((Mo_written r.2.2.2.2.1).toInt = (Mo_written sMo).toInt)) := by
  unfold La_c10
  have k_1 : (1 : Int32).toInt = 1 := by decide
  first | have f_2 := i_add (a := x4) (b := 1) (by omega) (by omega) | have f_2 := i_addm x4 1
  refine So.gd (i_in.mpr (by omega)) ?_
  have k_3 : (2 : Int32).toInt = 2 := by decide
  first | have f_4 := i_add (a := x4) (b := 2) (by omega) (by omega) | have f_4 := i_addm x4 2
  refine So.gd (i_in.mpr (by omega)) ?_
  have k_5 : (3 : Int32).toInt = 3 := by decide
  first | have f_6 := i_add (a := x4) (b := 3) (by omega) (by omega) | have f_6 := i_addm x4 3
  refine So.gd (i_in.mpr (by omega)) ?_
  refine So.bd (t_X_field (Nat.le_trans (by decide) hf) I_sTab I_sProg I_sWalk I_sFld I_sLps) fun q4 h_7 => ?_
  obtain ⟨p_8, p_9, p_10, p_11⟩ := h_7
  refine So.gd (i_in.mpr (by omega)) ?_
  refine So.gd (i_in.mpr (by omega)) ?_
  refine So.gd (i_in.mpr (by omega)) ?_
  refine So.bd (t_Mod_field (Nat.le_trans (by decide) hf) I_sMthere I_sMscales I_sMwidths I_sMlists I_sMlengths I_sMo I_sMfoundOps I_sMops I_sMwidth I_sMelementAt I_sMpointAt) fun q8 h_12 => ?_
  obtain ⟨p_13, p_14, p_15, p_16, p_17, p_18, p_19⟩ := h_12
  have f_20 := congrArg Int32.toInt p_19.1
  have f_21 := congrArg Int32.toInt p_19.2.1
  have f_22 := congrArg Int32.toInt p_19.2.2.2.2.1
  have f_23 := congrArg Int32.toInt p_19.2.2.2.2.2.1
  have f_24 := congrArg Int32.toInt p_19.2.2.2.2.2.2.1
  have f_25 := congrArg Int32.toInt p_19.2.2.2.2.2.2.2.1
  exact So.one ⟨p_8, p_9, p_10, p_11, p_13, p_14, p_15, p_16, p_17, p_18, (by show (Mo_used q8.2.1).toInt = (Mo_used sMo).toInt; omega), (by show (Mo_taped q8.2.1).toInt = (Mo_taped sMo).toInt; omega), (by show (Mo_madeMany q8.2.1).toInt = (Mo_madeMany sMo).toInt; omega), (by show (Mo_madeKind q8.2.1).toInt = (Mo_madeKind sMo).toInt; omega), (by show (Mo_madeSubsets q8.2.1).toInt = (Mo_madeSubsets sMo).toInt; omega), (by show (Mo_written q8.2.1).toInt = (Mo_written sMo).toInt; omega)⟩
set_option maxHeartbeats 4000000 in
theorem t_La_c11 {fu : Nat} {xs : Nat → Int32} {L : Nat} {sX : S_X} {sTab : S_Tab} {sVAL : (Nat → Nat → Int64)} {sMthere : (Nat → Int32)} {sMscales : (Nat → Int32)} {sMreferences : (Nat → Int32)} {sMwidths : (Nat → Int32)} {sMlists : (Nat → Int32)} {sMlengths : (Nat → Int32)} {sMvalues : (Nat → Int64)} {sMbits : (Nat → Int32)} {x4 : Int32} {sProg : S_Prog} {sWalk : S_Walk} {sFld : S_Fld} {sLps : S_Lps} {sMo : S_Mo} {sMread : (Nat → Int64)} {sMlist : (Nat → Int32)} {sMnext : (Nat → Int32)} {sMend : (Nat → Int32)} {sMbegin : (Nat → Int32)} {sMleft : (Nat → Int32)} {sMturn : (Nat → Int32)} {sMfoundOps : (Nat → Int32)} {sMops : (Nat → Int32)} {sMkind : (Nat → Int32)} {sMcode : (Nat → Int32)} {sMwidth : (Nat → Int32)} {sMscale : (Nat → Int32)} {sMlink : (Nat → Int32)} {sMrepeat : (Nat → Int32)} {sMbase : (Nat → Int64)} {sMelementAt : (Nat → Int32)} {sMpointAt : (Nat → Int32)} (hf : 45000 ≤ fu) (I_sTab : I_Tab sTab) (I_sMthere : A_Mthere sMthere) (I_sMscales : A_Mscales sMscales) (I_sMwidths : A_Mwidths sMwidths) (I_sMlists : A_Mlists sMlists) (I_sMlengths : A_Mlengths sMlengths) (I_sProg : I_Prog sProg) (I_sWalk : I_Walk sWalk) (I_sFld : I_Fld sFld) (I_sLps : I_Lps sLps) (I_sMo : I_Mo sMo) (I_sMfoundOps : A_MfoundOps sMfoundOps) (I_sMops : A_Mops sMops) (I_sMwidth : A_Mwidth sMwidth) (I_sMelementAt : A_MelementAt sMelementAt) (I_sMpointAt : A_MpointAt sMpointAt) (g_0 : 0 ≤ x4.toInt) (g_1 : x4.toInt + 5 < (L : Int)) (g_2 : (L : Int) ≤ 3072) : So (La_c11 fu xs L sX sTab sVAL sMthere sMscales sMreferences sMwidths sMlists sMlengths sMvalues sMbits x4 sProg sWalk sFld sLps sMo sMread sMlist sMnext sMend sMbegin sMleft sMturn sMfoundOps sMops sMkind sMcode sMwidth sMscale sMlink sMrepeat sMbase sMelementAt sMpointAt) (fun r => I_Prog r.1 ∧ I_Walk r.2.1 ∧ I_Fld r.2.2.1 ∧ I_Lps r.2.2.2.1 ∧ I_Mo r.2.2.2.2.1 ∧ A_MfoundOps r.2.2.2.2.2.2.2.2.2.2.2.2.1 ∧ A_Mops r.2.2.2.2.2.2.2.2.2.2.2.2.2.1 ∧ A_Mwidth r.2.2.2.2.2.2.2.2.2.2.2.2.2.2.2.2.1 ∧ A_MelementAt r.2.2.2.2.2.2.2.2.2.2.2.2.2.2.2.2.2.2.2.2.2.1 ∧ A_MpointAt r.2.2.2.2.2.2.2.2.2.2.2.2.2.2.2.2.2.2.2.2.2.2 ∧ ((Mo_used r.2.2.2.2.1).toInt = (Mo_used sMo).toInt) ∧ ((Mo_taped r.2.2.2.2.1).toInt = (Mo_taped sMo).toInt) ∧ ((Mo_madeMany r.2.2.2.2.1).toInt = (Mo_madeMany sMo).toInt) ∧ ((Mo_madeKind r.2.2.2.2.1).toInt = (Mo_madeKind sMo).toInt) ∧ ((Mo_madeSubsets r.2.2.2.2.1).toInt = (Mo_madeSubsets sMo).toInt) ∧ ((Mo_written r.2.2.2.2.1).toInt = (Mo_written sMo).toInt)) := by
  unfold La_c11
  have k_1 : (1 : Int32).toInt = 1 := by decide
  first | have f_2 := i_add (a := x4) (b := 1) (by omega) (by omega) | have f_2 := i_addm x4 1
  refine So.gd (i_in.mpr (by omega)) ?_
  have k_3 : (2 : Int32).toInt = 2 := by decide
  first | have f_4 := i_add (a := x4) (b := 2) (by omega) (by omega) | have f_4 := i_addm x4 2
  refine So.gd (i_in.mpr (by omega)) ?_
  refine So.bd (t_X_reference (Nat.le_trans (by decide) hf) I_sTab I_sProg I_sWalk I_sFld I_sLps) fun q3 h_5 => ?_
  obtain ⟨p_6, p_7, p_8, p_9⟩ := h_5
  refine So.gd (i_in.mpr (by omega)) ?_
  refine So.gd (i_in.mpr (by omega)) ?_
  refine So.bd (t_Mod_reference (Nat.le_trans (by decide) hf) I_sMthere I_sMscales I_sMwidths I_sMlists I_sMlengths I_sMo I_sMfoundOps I_sMops I_sMwidth I_sMelementAt I_sMpointAt) fun q6 h_10 => ?_
  obtain ⟨p_11, p_12, p_13, p_14, p_15, p_16, p_17⟩ := h_10
  have f_18 := congrArg Int32.toInt p_17.1
  have f_19 := congrArg Int32.toInt p_17.2.1
  have f_20 := congrArg Int32.toInt p_17.2.2.2.2.1
  have f_21 := congrArg Int32.toInt p_17.2.2.2.2.2.1
  have f_22 := congrArg Int32.toInt p_17.2.2.2.2.2.2.1
  have f_23 := congrArg Int32.toInt p_17.2.2.2.2.2.2.2.1
  exact So.one ⟨p_6, p_7, p_8, p_9, p_11, p_12, p_13, p_14, p_15, p_16, (by show (Mo_used q6.2.1).toInt = (Mo_used sMo).toInt; omega), (by show (Mo_taped q6.2.1).toInt = (Mo_taped sMo).toInt; omega), (by show (Mo_madeMany q6.2.1).toInt = (Mo_madeMany sMo).toInt; omega), (by show (Mo_madeKind q6.2.1).toInt = (Mo_madeKind sMo).toInt; omega), (by show (Mo_madeSubsets q6.2.1).toInt = (Mo_madeSubsets sMo).toInt; omega), (by show (Mo_written q6.2.1).toInt = (Mo_written sMo).toInt; omega)⟩
set_option maxHeartbeats 4000000 in
theorem t_La_c12 {fu : Nat} {xs : Nat → Int32} {L : Nat} {sX : S_X} {sTab : S_Tab} {sVAL : (Nat → Nat → Int64)} {sMthere : (Nat → Int32)} {sMscales : (Nat → Int32)} {sMreferences : (Nat → Int32)} {sMwidths : (Nat → Int32)} {sMlists : (Nat → Int32)} {sMlengths : (Nat → Int32)} {sMvalues : (Nat → Int64)} {sMbits : (Nat → Int32)} {x4 : Int32} {sProg : S_Prog} {sWalk : S_Walk} {sFld : S_Fld} {sLps : S_Lps} {sMo : S_Mo} {sMread : (Nat → Int64)} {sMlist : (Nat → Int32)} {sMnext : (Nat → Int32)} {sMend : (Nat → Int32)} {sMbegin : (Nat → Int32)} {sMleft : (Nat → Int32)} {sMturn : (Nat → Int32)} {sMfoundOps : (Nat → Int32)} {sMops : (Nat → Int32)} {sMkind : (Nat → Int32)} {sMcode : (Nat → Int32)} {sMwidth : (Nat → Int32)} {sMscale : (Nat → Int32)} {sMlink : (Nat → Int32)} {sMrepeat : (Nat → Int32)} {sMbase : (Nat → Int64)} {sMelementAt : (Nat → Int32)} {sMpointAt : (Nat → Int32)} (hf : 45000 ≤ fu) (I_sTab : I_Tab sTab) (I_sMthere : A_Mthere sMthere) (I_sMscales : A_Mscales sMscales) (I_sMwidths : A_Mwidths sMwidths) (I_sMlists : A_Mlists sMlists) (I_sMlengths : A_Mlengths sMlengths) (I_sProg : I_Prog sProg) (I_sWalk : I_Walk sWalk) (I_sFld : I_Fld sFld) (I_sLps : I_Lps sLps) (I_sMo : I_Mo sMo) (I_sMfoundOps : A_MfoundOps sMfoundOps) (I_sMops : A_Mops sMops) (I_sMwidth : A_Mwidth sMwidth) (I_sMelementAt : A_MelementAt sMelementAt) (I_sMpointAt : A_MpointAt sMpointAt) (g_0 : 0 ≤ x4.toInt) (g_1 : x4.toInt + 5 < (L : Int)) (g_2 : (L : Int) ≤ 3072) : So (La_c12 fu xs L sX sTab sVAL sMthere sMscales sMreferences sMwidths sMlists sMlengths sMvalues sMbits x4 sProg sWalk sFld sLps sMo sMread sMlist sMnext sMend sMbegin sMleft sMturn sMfoundOps sMops sMkind sMcode sMwidth sMscale sMlink sMrepeat sMbase sMelementAt sMpointAt) (fun r => I_Prog r.1 ∧ I_Walk r.2.1 ∧ I_Fld r.2.2.1 ∧ I_Lps r.2.2.2.1 ∧ I_Mo r.2.2.2.2.1 ∧ A_MfoundOps r.2.2.2.2.2.2.2.2.2.2.2.2.1 ∧ A_Mops r.2.2.2.2.2.2.2.2.2.2.2.2.2.1 ∧ A_Mwidth r.2.2.2.2.2.2.2.2.2.2.2.2.2.2.2.2.1 ∧ A_MelementAt r.2.2.2.2.2.2.2.2.2.2.2.2.2.2.2.2.2.2.2.2.2.1 ∧ A_MpointAt r.2.2.2.2.2.2.2.2.2.2.2.2.2.2.2.2.2.2.2.2.2.2 ∧ ((Mo_used r.2.2.2.2.1).toInt = (Mo_used sMo).toInt) ∧ ((Mo_taped r.2.2.2.2.1).toInt = (Mo_taped sMo).toInt) ∧ ((Mo_madeMany r.2.2.2.2.1).toInt = (Mo_madeMany sMo).toInt) ∧ ((Mo_madeKind r.2.2.2.2.1).toInt = (Mo_madeKind sMo).toInt) ∧ ((Mo_madeSubsets r.2.2.2.2.1).toInt = (Mo_madeSubsets sMo).toInt) ∧ ((Mo_written r.2.2.2.2.1).toInt = (Mo_written sMo).toInt)) := by
  unfold La_c12
  have k_1 : (1 : Int32).toInt = 1 := by decide
  first | have f_2 := i_add (a := x4) (b := 1) (by omega) (by omega) | have f_2 := i_addm x4 1
  refine So.gd (i_in.mpr (by omega)) ?_
  have k_3 : (2 : Int32).toInt = 2 := by decide
  first | have f_4 := i_add (a := x4) (b := 2) (by omega) (by omega) | have f_4 := i_addm x4 2
  refine So.gd (i_in.mpr (by omega)) ?_
  have k_5 : (3 : Int32).toInt = 3 := by decide
  first | have f_6 := i_add (a := x4) (b := 3) (by omega) (by omega) | have f_6 := i_addm x4 3
  refine So.gd (i_in.mpr (by omega)) ?_
  have k_7 : (4 : Int32).toInt = 4 := by decide
  first | have f_8 := i_add (a := x4) (b := 4) (by omega) (by omega) | have f_8 := i_addm x4 4
  refine So.gd (i_in.mpr (by omega)) ?_
  refine So.bd (t_X_find (Nat.le_trans (by decide) hf) I_sTab I_sProg I_sWalk I_sFld I_sLps) fun q5 h_9 => ?_
  obtain ⟨p_10, p_11, p_12, p_13⟩ := h_9
  refine So.gd (i_in.mpr (by omega)) ?_
  refine So.gd (i_in.mpr (by omega)) ?_
  refine So.gd (i_in.mpr (by omega)) ?_
  refine So.gd (i_in.mpr (by omega)) ?_
  refine So.bd (t_Mod_find (Nat.le_trans (by decide) hf) I_sMthere I_sMscales I_sMwidths I_sMlists I_sMlengths I_sMo I_sMfoundOps I_sMops I_sMwidth I_sMelementAt I_sMpointAt) fun q10 h_14 => ?_
  obtain ⟨p_15, p_16, p_17, p_18, p_19, p_20, p_21⟩ := h_14
  have f_22 := congrArg Int32.toInt p_21.1
  have f_23 := congrArg Int32.toInt p_21.2.1
  have f_24 := congrArg Int32.toInt p_21.2.2.2.2.1
  have f_25 := congrArg Int32.toInt p_21.2.2.2.2.2.1
  have f_26 := congrArg Int32.toInt p_21.2.2.2.2.2.2.1
  have f_27 := congrArg Int32.toInt p_21.2.2.2.2.2.2.2.1
  exact So.one ⟨p_10, p_11, p_12, p_13, p_15, p_16, p_17, p_18, p_19, p_20, (by show (Mo_used q10.2.1).toInt = (Mo_used sMo).toInt; omega), (by show (Mo_taped q10.2.1).toInt = (Mo_taped sMo).toInt; omega), (by show (Mo_madeMany q10.2.1).toInt = (Mo_madeMany sMo).toInt; omega), (by show (Mo_madeKind q10.2.1).toInt = (Mo_madeKind sMo).toInt; omega), (by show (Mo_madeSubsets q10.2.1).toInt = (Mo_madeSubsets sMo).toInt; omega), (by show (Mo_written q10.2.1).toInt = (Mo_written sMo).toInt; omega)⟩
set_option maxHeartbeats 4000000 in
theorem t_La_c13 {fu : Nat} {xs : Nat → Int32} {L : Nat} {sTab : S_Tab} {sWri : S_Wri} {sVAL : (Nat → Nat → Int64)} {sMthere : (Nat → Int32)} {sMscales : (Nat → Int32)} {sMreferences : (Nat → Int32)} {sMwidths : (Nat → Int32)} {sMlists : (Nat → Int32)} {sMlengths : (Nat → Int32)} {sMvalues : (Nat → Int64)} {x4 : Int32} {sX : S_X} {sProg : S_Prog} {sWalk : S_Walk} {sFld : S_Fld} {sLps : S_Lps} {sWB : S_Bits} {sMo : S_Mo} {sMread : (Nat → Int64)} {sMlist : (Nat → Int32)} {sMnext : (Nat → Int32)} {sMend : (Nat → Int32)} {sMbegin : (Nat → Int32)} {sMleft : (Nat → Int32)} {sMturn : (Nat → Int32)} {sMfoundOps : (Nat → Int32)} {sMops : (Nat → Int32)} {sMkind : (Nat → Int32)} {sMcode : (Nat → Int32)} {sMwidth : (Nat → Int32)} {sMscale : (Nat → Int32)} {sMlink : (Nat → Int32)} {sMrepeat : (Nat → Int32)} {sMbase : (Nat → Int64)} {sMelementAt : (Nat → Int32)} {sMpointAt : (Nat → Int32)} {sMbits : (Nat → Int32)} {sMmade : (Nat → Int32)} {sMfirstKind : (Nat → Int32)} {sMfirstWidth : (Nat → Int32)} {sMfirstScale : (Nat → Int32)} {sMfirstBase : (Nat → Int64)} {sRW : (Nat → Int64)} (hf : 45000 ≤ fu) (I_sTab : I_Tab sTab) (I_sMthere : A_Mthere sMthere) (I_sMscales : A_Mscales sMscales) (I_sMwidths : A_Mwidths sMwidths) (I_sMlists : A_Mlists sMlists) (I_sMlengths : A_Mlengths sMlengths) (I_sProg : I_Prog sProg) (I_sWalk : I_Walk sWalk) (I_sFld : I_Fld sFld) (I_sLps : I_Lps sLps) (I_sWB : I_Bits sWB) (I_sMo : I_Mo sMo) (I_sMfoundOps : A_MfoundOps sMfoundOps) (I_sMops : A_Mops sMops) (I_sMwidth : A_Mwidth sMwidth) (I_sMelementAt : A_MelementAt sMelementAt) (I_sMpointAt : A_MpointAt sMpointAt) (g_0 : 0 ≤ x4.toInt) (g_1 : x4.toInt + 5 < (L : Int)) (g_2 : (L : Int) ≤ 3072) : So (La_c13 fu xs L sTab sWri sVAL sMthere sMscales sMreferences sMwidths sMlists sMlengths sMvalues x4 sX sProg sWalk sFld sLps sWB sMo sMread sMlist sMnext sMend sMbegin sMleft sMturn sMfoundOps sMops sMkind sMcode sMwidth sMscale sMlink sMrepeat sMbase sMelementAt sMpointAt sMbits sMmade sMfirstKind sMfirstWidth sMfirstScale sMfirstBase sRW) (fun r => I_Prog r.2.1 ∧ I_Walk r.2.2.1 ∧ I_Fld r.2.2.2.1 ∧ I_Lps r.2.2.2.2.1 ∧ I_Bits r.2.2.2.2.2.1 ∧ I_Mo r.2.2.2.2.2.2.1 ∧ A_MfoundOps r.2.2.2.2.2.2.2.2.2.2.2.2.2.2.1 ∧ A_Mops r.2.2.2.2.2.2.2.2.2.2.2.2.2.2.2.1 ∧ A_Mwidth r.2.2.2.2.2.2.2.2.2.2.2.2.2.2.2.2.2.2.1 ∧ A_MelementAt r.2.2.2.2.2.2.2.2.2.2.2.2.2.2.2.2.2.2.2.2.2.2.2.1 ∧ A_MpointAt r.2.2.2.2.2.2.2.2.2.2.2.2.2.2.2.2.2.2.2.2.2.2.2.2.1 ∧ ((Mo_used r.2.2.2.2.2.2.1).toInt = (Mo_used sMo).toInt) ∧ ((Mo_taped r.2.2.2.2.2.2.1).toInt = (Mo_taped sMo).toInt)) := by
  unfold La_c13
  have k_1 : (1 : Int32).toInt = 1 := by decide
  first | have f_2 := i_add (a := x4) (b := 1) (by omega) (by omega) | have f_2 := i_addm x4 1
  refine So.gd (i_in.mpr (by omega)) ?_
  have k_3 : (2 : Int32).toInt = 2 := by decide
  first | have f_4 := i_add (a := x4) (b := 2) (by omega) (by omega) | have f_4 := i_addm x4 2
  refine So.gd (i_in.mpr (by omega)) ?_
  refine So.ite (fun c_5 => ?_) (fun c_5 => ?_)
  · rw [i_eq] at c_5
    have k_6 : (0 : Int32).toInt = 0 := by decide
    unfold La_c13_j698
    refine So.bd (t_Law_write (Nat.le_trans (by decide) hf) I_sTab I_sProg I_sWalk I_sFld I_sLps I_sWB (by show (1 : Int) = 1; omega)) fun q4 h_7 => ?_
    obtain ⟨p_8, p_9, p_10, p_11, p_12, p_13⟩ := h_7
    refine So.gd (i_in.mpr (by omega)) ?_
    refine So.gd (i_in.mpr (by omega)) ?_
    refine So.ite (fun c_14 => ?_) (fun c_14 => ?_)
    · rw [i_eq] at c_14
      unfold La_c13_j725
      have f_15 := I_Mo_used I_sMo
      have f_16 := I_Mo_taped I_sMo
      refine So.bd (t_Mod_write hf I_sMthere I_sMscales I_sMwidths I_sMlists I_sMlengths I_sMo I_sMfoundOps I_sMops I_sMwidth I_sMelementAt I_sMpointAt) fun q8 h_17 => ?_
      obtain ⟨p_18, p_19, p_20, p_21, p_22, p_23, p_24, p_25⟩ := h_17
      exact So.one ⟨p_8, p_9, p_10, p_11, p_12, p_18, p_19, p_20, p_21, p_22, p_23, (by show (Mo_used q8.2.1).toInt = (Mo_used sMo).toInt; omega), (by show (Mo_taped q8.2.1).toInt = (Mo_taped sMo).toInt; omega)⟩
    · rw [i_eq] at c_14
      unfold La_c13_j725
      have f_26 := I_Mo_used I_sMo
      have f_27 := I_Mo_taped I_sMo
      refine So.bd (t_Mod_write hf I_sMthere I_sMscales I_sMwidths I_sMlists I_sMlengths I_sMo I_sMfoundOps I_sMops I_sMwidth I_sMelementAt I_sMpointAt) fun q8 h_28 => ?_
      obtain ⟨p_29, p_30, p_31, p_32, p_33, p_34, p_35, p_36⟩ := h_28
      exact So.one ⟨p_8, p_9, p_10, p_11, p_12, p_29, p_30, p_31, p_32, p_33, p_34, (by show (Mo_used q8.2.1).toInt = (Mo_used sMo).toInt; omega), (by show (Mo_taped q8.2.1).toInt = (Mo_taped sMo).toInt; omega)⟩
  · rw [i_eq] at c_5
    have k_37 : (0 : Int32).toInt = 0 := by decide
    unfold La_c13_j698
    refine So.bd (t_Law_write (Nat.le_trans (by decide) hf) I_sTab I_sProg I_sWalk I_sFld I_sLps I_sWB (by show (1 : Int) = 1; omega)) fun q4 h_38 => ?_
    obtain ⟨p_39, p_40, p_41, p_42, p_43, p_44⟩ := h_38
    refine So.gd (i_in.mpr (by omega)) ?_
    refine So.gd (i_in.mpr (by omega)) ?_
    refine So.ite (fun c_45 => ?_) (fun c_45 => ?_)
    · rw [i_eq] at c_45
      unfold La_c13_j725
      have f_46 := I_Mo_used I_sMo
      have f_47 := I_Mo_taped I_sMo
      refine So.bd (t_Mod_write hf I_sMthere I_sMscales I_sMwidths I_sMlists I_sMlengths I_sMo I_sMfoundOps I_sMops I_sMwidth I_sMelementAt I_sMpointAt) fun q8 h_48 => ?_
      obtain ⟨p_49, p_50, p_51, p_52, p_53, p_54, p_55, p_56⟩ := h_48
      exact So.one ⟨p_39, p_40, p_41, p_42, p_43, p_49, p_50, p_51, p_52, p_53, p_54, (by show (Mo_used q8.2.1).toInt = (Mo_used sMo).toInt; omega), (by show (Mo_taped q8.2.1).toInt = (Mo_taped sMo).toInt; omega)⟩
    · rw [i_eq] at c_45
      unfold La_c13_j725
      have f_57 := I_Mo_used I_sMo
      have f_58 := I_Mo_taped I_sMo
      refine So.bd (t_Mod_write hf I_sMthere I_sMscales I_sMwidths I_sMlists I_sMlengths I_sMo I_sMfoundOps I_sMops I_sMwidth I_sMelementAt I_sMpointAt) fun q8 h_59 => ?_
      obtain ⟨p_60, p_61, p_62, p_63, p_64, p_65, p_66, p_67⟩ := h_59
      exact So.one ⟨p_39, p_40, p_41, p_42, p_43, p_60, p_61, p_62, p_63, p_64, p_65, (by show (Mo_used q8.2.1).toInt = (Mo_used sMo).toInt; omega), (by show (Mo_taped q8.2.1).toInt = (Mo_taped sMo).toInt; omega)⟩
set_option maxHeartbeats 4000000 in
theorem t_La_c15 {fu : Nat} {xs : Nat → Int32} {L : Nat} {sX : S_X} {x4 : Int32} {sTP : S_Bits} {sMo : S_Mo} {sMtape : (Nat → Int32)} (hf : 45000 ≤ fu) (I_sTP : I_Bits sTP) (I_sMo : I_Mo sMo) (I_sMtape : A_Mtape sMtape) (g_0 : 0 ≤ x4.toInt) (g_1 : x4.toInt + 5 < (L : Int)) (g_2 : (L : Int) ≤ 3072) (g_3 : (Bits_length sTP).toInt ≤ 8000) : So (La_c15 fu xs L sX x4 sTP sMo sMtape) (fun r => I_Bits r.1 ∧ I_Mo r.2.1 ∧ A_Mtape r.2.2 ∧ ((Bits_length r.1).toInt ≤ 8000) ∧ ((Mo_used r.2.1).toInt = (Mo_used sMo).toInt) ∧ ((Mo_madeMany r.2.1).toInt = (Mo_madeMany sMo).toInt) ∧ ((Mo_madeKind r.2.1).toInt = (Mo_madeKind sMo).toInt) ∧ ((Mo_madeSubsets r.2.1).toInt = (Mo_madeSubsets sMo).toInt) ∧ ((Mo_written r.2.1).toInt = (Mo_written sMo).toInt)) := by
  unfold La_c15
  have k_1 : (1 : Int32).toInt = 1 := by decide
  first | have f_2 := i_add (a := x4) (b := 1) (by omega) (by omega) | have f_2 := i_addm x4 1
  refine So.gd (i_in.mpr (by omega)) ?_
  have k_3 : (2 : Int32).toInt = 2 := by decide
  first | have f_4 := i_add (a := x4) (b := 2) (by omega) (by omega) | have f_4 := i_addm x4 2
  refine So.gd (i_in.mpr (by omega)) ?_
  have f_5 := I_Bits_length I_sTP
  refine So.bd (t_X_feed (Nat.le_trans (by decide) hf) I_sTP (by show (Bits_length sTP).toInt ≤ 8000; omega)) fun q3 h_6 => ?_
  obtain ⟨p_7, p_8⟩ := h_6
  refine So.gd (i_in.mpr (by omega)) ?_
  refine So.gd (i_in.mpr (by omega)) ?_
  have f_9 := I_Mo_used I_sMo
  have f_10 := I_Mo_madeMany I_sMo
  refine So.bd (t_Mod_feed (Nat.le_trans (by decide) hf) I_sMo I_sMtape) fun q6 h_11 => ?_
  obtain ⟨p_12, p_13, p_14, p_15, p_16, p_17, p_18⟩ := h_11
  exact So.one ⟨p_7, p_12, p_13, (by show (Bits_length q3.2).toInt ≤ 8000; omega), (by show (Mo_used q6.2.1).toInt = (Mo_used sMo).toInt; omega), (by show (Mo_madeMany q6.2.1).toInt = (Mo_madeMany sMo).toInt; omega), (by show (Mo_madeKind q6.2.1).toInt = (Mo_madeKind sMo).toInt; omega), (by show (Mo_madeSubsets q6.2.1).toInt = (Mo_madeSubsets sMo).toInt; omega), (by show (Mo_written q6.2.1).toInt = (Mo_written sMo).toInt; omega)⟩
set_option maxHeartbeats 4000000 in
theorem t_La_c16 {fu : Nat} {xs : Nat → Int32} {L : Nat} {sTab : S_Tab} {sMthere : (Nat → Int32)} {sMscales : (Nat → Int32)} {sMreferences : (Nat → Int32)} {sMwidths : (Nat → Int32)} {sMlists : (Nat → Int32)} {sMlengths : (Nat → Int32)} {sMtape : (Nat → Int32)} {x4 : Int32} {sX : S_X} {sProg : S_Prog} {sWalk : S_Walk} {sFld : S_Fld} {sLps : S_Lps} {sTP : S_Bits} {sRea : S_Rea} {sRR : (Nat → Nat → Int64)} {sVAL : (Nat → Nat → Int64)} {sMo : S_Mo} {sMvalues : (Nat → Int64)} {sMread : (Nat → Int64)} {sMlist : (Nat → Int32)} {sMnext : (Nat → Int32)} {sMend : (Nat → Int32)} {sMbegin : (Nat → Int32)} {sMleft : (Nat → Int32)} {sMturn : (Nat → Int32)} {sMfoundOps : (Nat → Int32)} {sMops : (Nat → Int32)} {sMkind : (Nat → Int32)} {sMcode : (Nat → Int32)} {sMwidth : (Nat → Int32)} {sMscale : (Nat → Int32)} {sMlink : (Nat → Int32)} {sMrepeat : (Nat → Int32)} {sMbase : (Nat → Int64)} {sMelementAt : (Nat → Int32)} {sMpointAt : (Nat → Int32)} {sMbits : (Nat → Int32)} {sRW : (Nat → Int64)} (hf : 45000 ≤ fu) (I_sTab : I_Tab sTab) (I_sMthere : A_Mthere sMthere) (I_sMscales : A_Mscales sMscales) (I_sMwidths : A_Mwidths sMwidths) (I_sMlists : A_Mlists sMlists) (I_sMlengths : A_Mlengths sMlengths) (I_sMtape : A_Mtape sMtape) (I_sProg : I_Prog sProg) (I_sWalk : I_Walk sWalk) (I_sFld : I_Fld sFld) (I_sLps : I_Lps sLps) (I_sTP : I_Bits sTP) (I_sMo : I_Mo sMo) (I_sMfoundOps : A_MfoundOps sMfoundOps) (I_sMops : A_Mops sMops) (I_sMwidth : A_Mwidth sMwidth) (I_sMelementAt : A_MelementAt sMelementAt) (I_sMpointAt : A_MpointAt sMpointAt) (g_0 : 0 ≤ x4.toInt) (g_1 : x4.toInt + 5 < (L : Int)) (g_2 : (L : Int) ≤ 3072) (g_3 : (Bits_length sTP).toInt ≤ 8000) : So (La_c16 fu xs L sTab sMthere sMscales sMreferences sMwidths sMlists sMlengths sMtape x4 sX sProg sWalk sFld sLps sTP sRea sRR sVAL sMo sMvalues sMread sMlist sMnext sMend sMbegin sMleft sMturn sMfoundOps sMops sMkind sMcode sMwidth sMscale sMlink sMrepeat sMbase sMelementAt sMpointAt sMbits sRW) (fun r => I_Prog r.2.1 ∧ I_Walk r.2.2.1 ∧ I_Fld r.2.2.2.1 ∧ I_Lps r.2.2.2.2.1 ∧ I_Bits r.2.2.2.2.2.1 ∧ I_Mo r.2.2.2.2.2.2.2.2.2.1 ∧ A_MfoundOps r.2.2.2.2.2.2.2.2.2.2.2.2.2.2.2.2.2.2.1 ∧ A_Mops r.2.2.2.2.2.2.2.2.2.2.2.2.2.2.2.2.2.2.2.1 ∧ A_Mwidth r.2.2.2.2.2.2.2.2.2.2.2.2.2.2.2.2.2.2.2.2.2.2.1 ∧ A_MelementAt r.2.2.2.2.2.2.2.2.2.2.2.2.2.2.2.2.2.2.2.2.2.2.2.2.2.2.2.1 ∧ A_MpointAt r.2.2.2.2.2.2.2.2.2.2.2.2.2.2.2.2.2.2.2.2.2.2.2.2.2.2.2.2.1 ∧ ((Bits_length r.2.2.2.2.2.1).toInt ≤ 8000) ∧ ((Mo_used r.2.2.2.2.2.2.2.2.2.1).toInt = (Mo_used sMo).toInt) ∧ ((Mo_madeMany r.2.2.2.2.2.2.2.2.2.1).toInt = (Mo_madeMany sMo).toInt) ∧ ((Mo_madeKind r.2.2.2.2.2.2.2.2.2.1).toInt = (Mo_madeKind sMo).toInt) ∧ ((Mo_madeSubsets r.2.2.2.2.2.2.2.2.2.1).toInt = (Mo_madeSubsets sMo).toInt) ∧ ((Mo_written r.2.2.2.2.2.2.2.2.2.1).toInt = (Mo_written sMo).toInt)) := by
  unfold La_c16
  have k_1 : (1 : Int32).toInt = 1 := by decide
  have f_2 := I_Bits_length I_sTP
  refine So.bd (t_Law_read (Nat.le_trans (by decide) hf) I_sTab I_sProg I_sWalk I_sFld I_sLps I_sTP (by show (1 : Int) = 1; omega) (by show (Bits_length sTP).toInt ≤ 8000; omega)) fun q1 h_3 => ?_
  obtain ⟨p_4, p_5, p_6, p_7, p_8, p_9, p_10⟩ := h_3
  have f_11 := I_Mo_used I_sMo
  have f_12 := I_Mo_madeMany I_sMo
  refine So.bd (t_Mod_read (Nat.le_trans (by decide) hf) I_sMthere I_sMscales I_sMwidths I_sMlists I_sMlengths I_sMtape I_sMo I_sMfoundOps I_sMops I_sMwidth I_sMelementAt I_sMpointAt) fun q2 h_13 => ?_
  obtain ⟨p_14, p_15, p_16, p_17, p_18, p_19, p_20, p_21, p_22, p_23, p_24, p_25⟩ := h_13
  exact So.one ⟨p_4, p_5, p_6, p_7, p_8, p_14, p_15, p_16, p_17, p_18, p_19, (by show (Bits_length q1.2.2.2.2.2.2.2.2.2.1).toInt ≤ 8000; omega), (by show (Mo_used q2.2.1).toInt = (Mo_used sMo).toInt; omega), (by show (Mo_madeMany q2.2.1).toInt = (Mo_madeMany sMo).toInt; omega), (by show (Mo_madeKind q2.2.1).toInt = (Mo_madeKind sMo).toInt; omega), (by show (Mo_madeSubsets q2.2.1).toInt = (Mo_madeSubsets sMo).toInt; omega), (by show (Mo_written q2.2.1).toInt = (Mo_written sMo).toInt; omega)⟩
set_option maxHeartbeats 4000000 in
theorem t_La_c17 {fu : Nat} {xs : Nat → Int32} {L : Nat} {sX : S_X} {x4 : Int32} {sGrd : S_Grd} {sMo : S_Mo} {sMpoints : (Nat → Int64)} (hf : 45000 ≤ fu) (I_sGrd : I_Grd sGrd) (I_sMo : I_Mo sMo) (g_0 : 0 ≤ x4.toInt) (g_1 : x4.toInt + 5 < (L : Int)) (g_2 : (L : Int) ≤ 3072) : So (La_c17 fu xs L sX x4 sGrd sMo sMpoints) (fun r => I_Grd r.1 ∧ I_Mo r.2.1 ∧ ((Mo_used r.2.1).toInt = (Mo_used sMo).toInt) ∧ ((Mo_taped r.2.1).toInt = (Mo_taped sMo).toInt) ∧ ((Mo_madeMany r.2.1).toInt = (Mo_madeMany sMo).toInt) ∧ ((Mo_madeKind r.2.1).toInt = (Mo_madeKind sMo).toInt) ∧ ((Mo_madeSubsets r.2.1).toInt = (Mo_madeSubsets sMo).toInt) ∧ ((Mo_written r.2.1).toInt = (Mo_written sMo).toInt)) := by
  unfold La_c17
  have k_1 : (1 : Int32).toInt = 1 := by decide
  first | have f_2 := i_add (a := x4) (b := 1) (by omega) (by omega) | have f_2 := i_addm x4 1
  refine So.gd (i_in.mpr (by omega)) ?_
  have k_3 : (2 : Int32).toInt = 2 := by decide
  first | have f_4 := i_add (a := x4) (b := 2) (by omega) (by omega) | have f_4 := i_addm x4 2
  refine So.gd (i_in.mpr (by omega)) ?_
  have k_5 : (3 : Int32).toInt = 3 := by decide
  first | have f_6 := i_add (a := x4) (b := 3) (by omega) (by omega) | have f_6 := i_addm x4 3
  refine So.gd (i_in.mpr (by omega)) ?_
  refine So.bd (t_Law_point I_sGrd) fun q4 h_7 => ?_
  obtain ⟨p_8, p_9⟩ := h_7
  refine So.gd (i_in.mpr (by omega)) ?_
  refine So.gd (i_in.mpr (by omega)) ?_
  refine So.gd (i_in.mpr (by omega)) ?_
  have f_10 := I_Mo_used I_sMo
  have f_11 := I_Mo_taped I_sMo
  have f_12 := I_Mo_madeMany I_sMo
  refine So.bd (t_Mod_point I_sMo) fun q8 h_13 => ?_
  obtain ⟨p_14, p_15, p_16, p_17, p_18, p_19, p_20, p_21⟩ := h_13
  exact So.one ⟨p_8, p_14, (by show (Mo_used q8.1).toInt = (Mo_used sMo).toInt; omega), (by show (Mo_taped q8.1).toInt = (Mo_taped sMo).toInt; omega), (by show (Mo_madeMany q8.1).toInt = (Mo_madeMany sMo).toInt; omega), (by show (Mo_madeKind q8.1).toInt = (Mo_madeKind sMo).toInt; omega), (by show (Mo_madeSubsets q8.1).toInt = (Mo_madeSubsets sMo).toInt; omega), (by show (Mo_written q8.1).toInt = (Mo_written sMo).toInt; omega)⟩
set_option maxHeartbeats 4000000 in
theorem t_La_c18 {fu : Nat} {xs : Nat → Int32} {L : Nat} {sX : S_X} {sMpoints : (Nat → Int64)} {x4 : Int32} {sGrd : S_Grd} {sMo : S_Mo} {sMpacked : (Nat → Int64)} {sMcodeOf : (Nat → Int64)} {sMcost : (Nat → Int64)} {sMcut : (Nat → Int32)} {sMends : (Nat → Int32)} {sRW : (Nat → Int64)} (hf : 45000 ≤ fu) (I_sGrd : I_Grd sGrd) (I_sMo : I_Mo sMo) (g_0 : 0 ≤ x4.toInt) (g_1 : x4.toInt + 5 < (L : Int)) (g_2 : (L : Int) ≤ 3072) : So (La_c18 fu xs L sX sMpoints x4 sGrd sMo sMpacked sMcodeOf sMcost sMcut sMends sRW) (fun r => I_Grd r.1 ∧ I_Mo r.2.1 ∧ ((Mo_used r.2.1).toInt = (Mo_used sMo).toInt) ∧ ((Mo_taped r.2.1).toInt = (Mo_taped sMo).toInt) ∧ ((Mo_madeMany r.2.1).toInt = (Mo_madeMany sMo).toInt) ∧ ((Mo_madeKind r.2.1).toInt = (Mo_madeKind sMo).toInt) ∧ ((Mo_madeSubsets r.2.1).toInt = (Mo_madeSubsets sMo).toInt) ∧ ((Mo_written r.2.1).toInt = (Mo_written sMo).toInt)) := by
  unfold La_c18
  have k_1 : (1 : Int32).toInt = 1 := by decide
  first | have f_2 := i_add (a := x4) (b := 1) (by omega) (by omega) | have f_2 := i_addm x4 1
  refine So.gd (i_in.mpr (by omega)) ?_
  refine So.bd (t_Law_pack (Nat.le_trans (by decide) hf) I_sGrd (by show (1 : Int) = 1; omega)) fun q2 h_3 => ?_
  obtain ⟨p_4, p_5⟩ := h_3
  refine So.gd (i_in.mpr (by omega)) ?_
  have f_6 := I_Mo_used I_sMo
  have f_7 := I_Mo_taped I_sMo
  have f_8 := I_Mo_madeMany I_sMo
  refine So.bd (t_Mod_pack (Nat.le_trans (by decide) hf) I_sMo) fun q4 h_9 => ?_
  obtain ⟨p_10, p_11, p_12, p_13, p_14, p_15, p_16⟩ := h_9
  exact So.one ⟨p_4, p_10, (by show (Mo_used q4.2.1).toInt = (Mo_used sMo).toInt; omega), (by show (Mo_taped q4.2.1).toInt = (Mo_taped sMo).toInt; omega), (by show (Mo_madeMany q4.2.1).toInt = (Mo_madeMany sMo).toInt; omega), (by show (Mo_madeKind q4.2.1).toInt = (Mo_madeKind sMo).toInt; omega), (by show (Mo_madeSubsets q4.2.1).toInt = (Mo_madeSubsets sMo).toInt; omega), (by show (Mo_written q4.2.1).toInt = (Mo_written sMo).toInt; omega)⟩
set_option maxHeartbeats 4000000 in
theorem t_La_c19 {fu : Nat} {xs : Nat → Int32} {L : Nat} {sX : S_X} {sGrd : S_Grd} {sMpacked : (Nat → Int64)} {x4 : Int32} {sMo : S_Mo} (hf : 45000 ≤ fu) (I_sGrd : I_Grd sGrd) (I_sMo : I_Mo sMo) (g_0 : 0 ≤ x4.toInt) (g_1 : x4.toInt + 5 < (L : Int)) (g_2 : (L : Int) ≤ 3072) : So (La_c19 fu xs L sX sGrd sMpacked x4 sMo) (fun r => I_Mo r ∧ ((Mo_used r).toInt = (Mo_used sMo).toInt) ∧ ((Mo_taped r).toInt = (Mo_taped sMo).toInt) ∧ ((Mo_madeMany r).toInt = (Mo_madeMany sMo).toInt) ∧ ((Mo_madeKind r).toInt = (Mo_madeKind sMo).toInt) ∧ ((Mo_madeSubsets r).toInt = (Mo_madeSubsets sMo).toInt) ∧ ((Mo_written r).toInt = (Mo_written sMo).toInt)) := by
  unfold La_c19
  have k_1 : (1 : Int32).toInt = 1 := by decide
  first | have f_2 := i_add (a := x4) (b := 1) (by omega) (by omega) | have f_2 := i_addm x4 1
  refine So.gd (i_in.mpr (by omega)) ?_
  refine So.bd (t_X_packedAt I_sGrd) fun q2 h_3 => ?_
  refine So.gd (i_in.mpr (by omega)) ?_
  have f_4 := I_Mo_used I_sMo
  have f_5 := I_Mo_taped I_sMo
  have f_6 := I_Mo_madeMany I_sMo
  refine So.bd (t_Mod_packedAt I_sMo) fun q4 h_7 => ?_
  obtain ⟨p_8, p_9, p_10, p_11, p_12, p_13, p_14⟩ := h_7
  exact So.one ⟨p_8, (by show (Mo_used q4.2).toInt = (Mo_used sMo).toInt; omega), (by show (Mo_taped q4.2).toInt = (Mo_taped sMo).toInt; omega), (by show (Mo_madeMany q4.2).toInt = (Mo_madeMany sMo).toInt; omega), (by show (Mo_madeKind q4.2).toInt = (Mo_madeKind sMo).toInt; omega), (by show (Mo_madeSubsets q4.2).toInt = (Mo_madeSubsets sMo).toInt; omega), (by show (Mo_written q4.2).toInt = (Mo_written sMo).toInt; omega)⟩
set_option maxHeartbeats 4000000 in
theorem t_La_c20 {fu : Nat} {xs : Nat → Int32} {L : Nat} {sX : S_X} {sGrd : S_Grd} {sMcost : (Nat → Int64)} {sMends : (Nat → Int32)} {x4 : Int32} {sMo : S_Mo} (hf : 45000 ≤ fu) (I_sGrd : I_Grd sGrd) (I_sMo : I_Mo sMo) (g_0 : 0 ≤ x4.toInt) (g_1 : x4.toInt + 5 < (L : Int)) (g_2 : (L : Int) ≤ 3072) : So (La_c20 fu xs L sX sGrd sMcost sMends x4 sMo) (fun r => I_Mo r ∧ ((Mo_used r).toInt = (Mo_used sMo).toInt) ∧ ((Mo_taped r).toInt = (Mo_taped sMo).toInt) ∧ ((Mo_madeMany r).toInt = (Mo_madeMany sMo).toInt) ∧ ((Mo_madeKind r).toInt = (Mo_madeKind sMo).toInt) ∧ ((Mo_madeSubsets r).toInt = (Mo_madeSubsets sMo).toInt) ∧ ((Mo_written r).toInt = (Mo_written sMo).toInt)) := by
  unfold La_c20
  have k_1 : (1 : Int32).toInt = 1 := by decide
  first | have f_2 := i_add (a := x4) (b := 1) (by omega) (by omega) | have f_2 := i_addm x4 1
  refine So.gd (i_in.mpr (by omega)) ?_
  refine So.bd (t_X_group I_sGrd) fun q2 h_3 => ?_
  refine So.gd (i_in.mpr (by omega)) ?_
  have f_4 := I_Mo_used I_sMo
  have f_5 := I_Mo_taped I_sMo
  have f_6 := I_Mo_madeMany I_sMo
  refine So.bd (t_Mod_group I_sMo) fun q4 h_7 => ?_
  obtain ⟨p_8, p_9, p_10, p_11, p_12, p_13, p_14⟩ := h_7
  exact So.one ⟨p_8, (by show (Mo_used q4.2).toInt = (Mo_used sMo).toInt; omega), (by show (Mo_taped q4.2).toInt = (Mo_taped sMo).toInt; omega), (by show (Mo_madeMany q4.2).toInt = (Mo_madeMany sMo).toInt; omega), (by show (Mo_madeKind q4.2).toInt = (Mo_madeKind sMo).toInt; omega), (by show (Mo_madeSubsets q4.2).toInt = (Mo_madeSubsets sMo).toInt; omega), (by show (Mo_written q4.2).toInt = (Mo_written sMo).toInt; omega)⟩
