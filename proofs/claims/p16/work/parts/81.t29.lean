def GI (st : ST) : Prop := I_Tab (ST_Tab st) ∧ I_Prog (ST_Prog st) ∧ I_Walk (ST_Walk st) ∧ I_Fld (ST_Fld st) ∧ I_Lps (ST_Lps st) ∧ I_Bits (ST_WB st) ∧ I_Bits (ST_TP st) ∧ (Bits_length (ST_TP st)).toInt ≤ 8000 ∧ I_Grd (ST_Grd st) ∧ I_Mo (ST_Mo st) ∧ A_Mthere (ST_Mthere st) ∧ A_Mscales (ST_Mscales st) ∧ A_Mwidths (ST_Mwidths st) ∧ A_Mlists (ST_Mlists st) ∧ A_Mlengths (ST_Mlengths st) ∧ A_MfoundOps (ST_MfoundOps st) ∧ A_Mops (ST_Mops st) ∧ A_Mwidth (ST_Mwidth st) ∧ A_MelementAt (ST_MelementAt st) ∧ A_MpointAt (ST_MpointAt st) ∧ A_Mtape (ST_Mtape st) ∧ TbR (ST_Tab st) (Mo_used (ST_Mo st)) (ST_Mthere st) (ST_Mscales st) (ST_Mreferences st) (ST_Mwidths st) (ST_Mlists st) (ST_Mlengths st) ∧ RwR (ST_VAL st) (ST_Mvalues st) ∧ TpR (ST_TP st) (ST_Mtape st) (Mo_taped (ST_Mo st)) ∧ Rfb (ST_Mreferences st) ∧ MdR (ST_WB st) (ST_Mo st) (ST_Mmade st)
theorem t_Law_L {fu : Nat} {xs : Nat → Int32} {L : Nat} (hf : 45000 ≤ fu) (hL : L ≤ 3072) : ∀ (n : Nat) (x4 : Int32) (st : ST), GI st → 0 ≤ x4.toInt → x4.toInt ≤ 4000 → 4000 - x4.toInt < (n : Int) → So (Law_L fu xs L n x4 st) (fun _ => True)
  | 0, x4, st, _, _, _, h => absurd h (by omega)
  | n + 1, x4, st, G, h0, h1, hn => by
    rw [Law_L]
    obtain ⟨g_Tab, g_Prog, g_Walk, g_Fld, g_Lps, g_WB, g_TP, g_TPL, g_Grd, g_Mo, g_Mthere, g_Mscales, g_Mwidths, g_Mlists, g_Mlengths, g_MfoundOps, g_Mops, g_Mwidth, g_MelementAt, g_MpointAt, g_Mtape, g_TB, g_VA, g_TT, g_RF, g_MD⟩ := G
    have eL := i_of (n := L) (by omega)
    have k6 : (6 : Int32).toInt = 6 := by decide
    have e6 := i_sub (a := Int32.ofNat L) (b := 6) (by omega) (by omega)
    have ex := i_add (a := x4) (b := 6) (by omega) (by omega)
    refine So.ite (fun _ => So.one trivial) (fun c => ?_)
    rw [i_lt] at c
    refine So.gd (i_in.mpr (by omega)) ?_
    refine So.ite (fun _ => ?_) (fun _ => ?_)
    · refine So.bdq (t_La_c0 hf g_Tab g_Mo g_Mthere g_Mscales g_Mwidths (by omega) (by omega) (by omega)) fun q eq hq => ?_
      obtain ⟨h_0, h_1, h_2, h_3, h_4, h_5, h_6, h_7, h_8, h_9, h_10⟩ := hq
      exact t_Law_L hf hL n (x4 + 6) _ ⟨h_0, g_Prog, g_Walk, g_Fld, g_Lps, g_WB, g_TP, g_TPL, g_Grd, h_1, h_2, h_3, h_4, g_Mlists, g_Mlengths, g_MfoundOps, g_Mops, g_Mwidth, g_MelementAt, g_MpointAt, g_Mtape, (tb_c0 eq g_TB), g_VA, (TpR.keep g_TT h_6), (rf_c0 eq g_RF), (MdR.kp g_MD h_7 h_8 h_9 h_10)⟩ (by omega) (by omega) (by omega)
    refine So.ite (fun _ => ?_) (fun _ => ?_)
    · refine So.bdq (t_La_c1 hf g_Tab g_Mo g_Mthere (by omega) (by omega) (by omega)) fun q eq hq => ?_
      obtain ⟨h_0, h_1, h_2, h_3, h_4, h_5, h_6, h_7, h_8⟩ := hq
      exact t_Law_L hf hL n (x4 + 6) _ ⟨h_0, g_Prog, g_Walk, g_Fld, g_Lps, g_WB, g_TP, g_TPL, g_Grd, h_1, h_2, g_Mscales, g_Mwidths, g_Mlists, g_Mlengths, g_MfoundOps, g_Mops, g_Mwidth, g_MelementAt, g_MpointAt, g_Mtape, (tb_c1 eq g_TB), g_VA, (TpR.keep g_TT h_4), g_RF, (MdR.kp g_MD h_5 h_6 h_7 h_8)⟩ (by omega) (by omega) (by omega)
    refine So.ite (fun _ => ?_) (fun _ => ?_)
    · refine So.bdq (t_La_c2 hf g_Tab g_Mo (by omega) (by omega) (by omega)) fun q eq hq => ?_
      obtain ⟨h_0, h_1, h_2, h_3, h_4, h_5, h_6⟩ := hq
      exact t_Law_L hf hL n (x4 + 6) _ ⟨h_0, g_Prog, g_Walk, g_Fld, g_Lps, g_WB, g_TP, g_TPL, g_Grd, h_1, g_Mthere, g_Mscales, g_Mwidths, g_Mlists, g_Mlengths, g_MfoundOps, g_Mops, g_Mwidth, g_MelementAt, g_MpointAt, g_Mtape, (tb_c2 eq g_TB), g_VA, (TpR.keep g_TT h_2), g_RF, (MdR.kp g_MD h_3 h_4 h_5 h_6)⟩ (by omega) (by omega) (by omega)
    refine So.ite (fun _ => ?_) (fun _ => ?_)
    · refine So.bdq (t_La_c3 hf g_Tab g_Mo g_Mlists g_Mlengths (by omega) (by omega) (by omega)) fun q eq hq => ?_
      obtain ⟨h_0, h_1, h_2, h_3, h_4, h_5, h_6, h_7, h_8, h_9⟩ := hq
      exact t_Law_L hf hL n (x4 + 6) _ ⟨h_0, g_Prog, g_Walk, g_Fld, g_Lps, g_WB, g_TP, g_TPL, g_Grd, h_1, g_Mthere, g_Mscales, g_Mwidths, h_2, h_3, g_MfoundOps, g_Mops, g_Mwidth, g_MelementAt, g_MpointAt, g_Mtape, (tb_c3 hf g_Tab g_Mlengths eq g_TB), g_VA, (TpR.keep g_TT h_5), g_RF, (MdR.kp g_MD h_6 h_7 h_8 h_9)⟩ (by omega) (by omega) (by omega)
    refine So.ite (fun _ => ?_) (fun _ => ?_)
    · refine So.bdq (t_La_c4 hf g_Tab g_Mo g_Mlengths (by omega) (by omega) (by omega)) fun q eq hq => ?_
      obtain ⟨h_0, h_1, h_2, h_3, h_4, h_5, h_6, h_7, h_8⟩ := hq
      exact t_Law_L hf hL n (x4 + 6) _ ⟨h_0, g_Prog, g_Walk, g_Fld, g_Lps, g_WB, g_TP, g_TPL, g_Grd, h_1, g_Mthere, g_Mscales, g_Mwidths, g_Mlists, h_2, g_MfoundOps, g_Mops, g_Mwidth, g_MelementAt, g_MpointAt, g_Mtape, (tb_c4 eq g_TB), g_VA, (TpR.keep g_TT h_4), g_RF, (MdR.kp g_MD h_5 h_6 h_7 h_8)⟩ (by omega) (by omega) (by omega)
    refine So.ite (fun _ => ?_) (fun _ => ?_)
    · refine So.bdq (t_La_c5 hf g_Tab g_Mthere g_Mscales g_Mwidths g_Mlists g_Mlengths g_Prog g_Mo g_MfoundOps g_Mops (by omega) (by omega) (by omega)) fun q eq hq => ?_
      obtain ⟨h_0, h_1, h_2, h_3, h_4, h_5, h_6, h_7, h_8, h_9⟩ := hq
      exact t_Law_L hf hL n (x4 + 6) _ ⟨g_Tab, h_0, g_Walk, g_Fld, g_Lps, g_WB, g_TP, g_TPL, g_Grd, h_1, g_Mthere, g_Mscales, g_Mwidths, g_Mlists, g_Mlengths, h_2, h_3, g_Mwidth, g_MelementAt, g_MpointAt, g_Mtape, (TbR.keep g_TB h_4), g_VA, (TpR.keep g_TT h_5), g_RF, (MdR.kp g_MD h_6 h_7 h_8 h_9)⟩ (by omega) (by omega) (by omega)
    refine So.ite (fun _ => ?_) (fun _ => ?_)
    · refine So.bdq (t_La_c6 hf g_Mo (by omega) (by omega) (by omega)) fun q eq hq => ?_
      obtain ⟨h_0, h_1, h_2, h_3, h_4, h_5, h_6⟩ := hq
      exact t_Law_L hf hL n (x4 + 6) _ ⟨g_Tab, g_Prog, g_Walk, g_Fld, g_Lps, g_WB, g_TP, g_TPL, g_Grd, h_0, g_Mthere, g_Mscales, g_Mwidths, g_Mlists, g_Mlengths, g_MfoundOps, g_Mops, g_Mwidth, g_MelementAt, g_MpointAt, g_Mtape, (TbR.keep g_TB h_1), g_VA, (TpR.keep g_TT h_2), g_RF, (MdR.kp g_MD h_3 h_4 h_5 h_6)⟩ (by omega) (by omega) (by omega)
    refine So.ite (fun _ => ?_) (fun _ => ?_)
    · refine So.bdq (t_La_c7 hf g_Mo (by omega) (by omega) (by omega)) fun q eq hq => ?_
      obtain ⟨h_0, h_1, h_2, h_3, h_4, h_5, h_6⟩ := hq
      exact t_Law_L hf hL n (x4 + 6) _ ⟨g_Tab, g_Prog, g_Walk, g_Fld, g_Lps, g_WB, g_TP, g_TPL, g_Grd, h_0, g_Mthere, g_Mscales, g_Mwidths, g_Mlists, g_Mlengths, g_MfoundOps, g_Mops, g_Mwidth, g_MelementAt, g_MpointAt, g_Mtape, (TbR.keep g_TB h_1), (va_c7 eq g_VA), (TpR.keep g_TT h_2), g_RF, (MdR.kp g_MD h_3 h_4 h_5 h_6)⟩ (by omega) (by omega) (by omega)
    refine So.ite (fun _ => ?_) (fun _ => ?_)
    · refine So.bdq (t_La_c8 hf g_Mo (by omega) (by omega) (by omega)) fun q eq hq => ?_
      obtain ⟨h_0, h_1, h_2, h_3, h_4, h_5, h_6⟩ := hq
      exact t_Law_L hf hL n (x4 + 6) _ ⟨g_Tab, g_Prog, g_Walk, g_Fld, g_Lps, g_WB, g_TP, g_TPL, g_Grd, h_0, g_Mthere, g_Mscales, g_Mwidths, g_Mlists, g_Mlengths, g_MfoundOps, g_Mops, g_Mwidth, g_MelementAt, g_MpointAt, g_Mtape, (TbR.keep g_TB h_1), g_VA, (TpR.keep g_TT h_2), g_RF, (MdR.kp g_MD h_3 h_4 h_5 h_6)⟩ (by omega) (by omega) (by omega)
    refine So.ite (fun _ => ?_) (fun _ => ?_)
    · refine So.bdq (t_La_c9 hf g_Tab g_Mthere g_Mscales g_Mwidths g_Mlists g_Mlengths g_Prog g_Walk g_Fld g_Lps g_Mo g_MfoundOps g_Mops g_Mwidth g_MelementAt g_MpointAt (by omega) (by omega) (by omega)) fun q eq hq => ?_
      obtain ⟨h_0, h_1, h_2, h_3, h_4, h_5, h_6, h_7, h_8, h_9, h_10, h_11, h_12, h_13, h_14, h_15⟩ := hq
      exact t_Law_L hf hL n (x4 + 6) _ ⟨g_Tab, h_0, h_1, h_2, h_3, g_WB, g_TP, g_TPL, g_Grd, h_4, g_Mthere, g_Mscales, g_Mwidths, g_Mlists, g_Mlengths, h_5, h_6, h_7, h_8, h_9, g_Mtape, (TbR.keep g_TB h_10), g_VA, (TpR.keep g_TT h_11), g_RF, (MdR.kp g_MD h_12 h_13 h_14 h_15)⟩ (by omega) (by omega) (by omega)
    refine So.ite (fun _ => ?_) (fun _ => ?_)
    · refine So.bdq (t_La_c10 hf g_Tab g_Mthere g_Mscales g_Mwidths g_Mlists g_Mlengths g_Prog g_Walk g_Fld g_Lps g_Mo g_MfoundOps g_Mops g_Mwidth g_MelementAt g_MpointAt (by omega) (by omega) (by omega)) fun q eq hq => ?_
      obtain ⟨h_0, h_1, h_2, h_3, h_4, h_5, h_6, h_7, h_8, h_9, h_10, h_11, h_12, h_13, h_14, h_15⟩ := hq
      exact t_Law_L hf hL n (x4 + 6) _ ⟨g_Tab, h_0, h_1, h_2, h_3, g_WB, g_TP, g_TPL, g_Grd, h_4, g_Mthere, g_Mscales, g_Mwidths, g_Mlists, g_Mlengths, h_5, h_6, h_7, h_8, h_9, g_Mtape, (TbR.keep g_TB h_10), g_VA, (TpR.keep g_TT h_11), g_RF, (MdR.kp g_MD h_12 h_13 h_14 h_15)⟩ (by omega) (by omega) (by omega)
    refine So.ite (fun _ => ?_) (fun _ => ?_)
    · refine So.bdq (t_La_c11 hf g_Tab g_Mthere g_Mscales g_Mwidths g_Mlists g_Mlengths g_Prog g_Walk g_Fld g_Lps g_Mo g_MfoundOps g_Mops g_Mwidth g_MelementAt g_MpointAt (by omega) (by omega) (by omega)) fun q eq hq => ?_
      obtain ⟨h_0, h_1, h_2, h_3, h_4, h_5, h_6, h_7, h_8, h_9, h_10, h_11, h_12, h_13, h_14, h_15⟩ := hq
      exact t_Law_L hf hL n (x4 + 6) _ ⟨g_Tab, h_0, h_1, h_2, h_3, g_WB, g_TP, g_TPL, g_Grd, h_4, g_Mthere, g_Mscales, g_Mwidths, g_Mlists, g_Mlengths, h_5, h_6, h_7, h_8, h_9, g_Mtape, (TbR.keep g_TB h_10), g_VA, (TpR.keep g_TT h_11), g_RF, (MdR.kp g_MD h_12 h_13 h_14 h_15)⟩ (by omega) (by omega) (by omega)
    refine So.ite (fun _ => ?_) (fun _ => ?_)
    · refine So.bdq (t_La_c12 hf g_Tab g_Mthere g_Mscales g_Mwidths g_Mlists g_Mlengths g_Prog g_Walk g_Fld g_Lps g_Mo g_MfoundOps g_Mops g_Mwidth g_MelementAt g_MpointAt (by omega) (by omega) (by omega)) fun q eq hq => ?_
      obtain ⟨h_0, h_1, h_2, h_3, h_4, h_5, h_6, h_7, h_8, h_9, h_10, h_11, h_12, h_13, h_14, h_15⟩ := hq
      exact t_Law_L hf hL n (x4 + 6) _ ⟨g_Tab, h_0, h_1, h_2, h_3, g_WB, g_TP, g_TPL, g_Grd, h_4, g_Mthere, g_Mscales, g_Mwidths, g_Mlists, g_Mlengths, h_5, h_6, h_7, h_8, h_9, g_Mtape, (TbR.keep g_TB h_10), g_VA, (TpR.keep g_TT h_11), g_RF, (MdR.kp g_MD h_12 h_13 h_14 h_15)⟩ (by omega) (by omega) (by omega)
    refine So.ite (fun _ => ?_) (fun _ => ?_)
    · refine So.bdq (t_La_c13 hf g_Tab g_Mthere g_Mscales g_Mwidths g_Mlists g_Mlengths g_Prog g_Walk g_Fld g_Lps g_WB g_Mo g_MfoundOps g_Mops g_Mwidth g_MelementAt g_MpointAt (by omega) (by omega) (by omega)) fun q eq hq => ?_
      obtain ⟨h_0, h_1, h_2, h_3, h_4, h_5, h_6, h_7, h_8, h_9, h_10, h_11, h_12⟩ := hq
      exact t_Law_L hf hL n (x4 + 6) _ ⟨g_Tab, h_0, h_1, h_2, h_3, h_4, g_TP, g_TPL, g_Grd, h_5, g_Mthere, g_Mscales, g_Mwidths, g_Mlists, g_Mlengths, h_6, h_7, h_8, h_9, h_10, g_Mtape, (TbR.keep g_TB h_11), g_VA, (TpR.keep g_TT h_12), g_RF, (md_c13 hf g_Tab g_Prog g_Mwidths g_Mscales g_Mlists g_Mlengths g_RF g_Mo g_MfoundOps g_Mops g_Mwidth g_MelementAt g_MpointAt g_TB g_VA eq g_MD)⟩ (by omega) (by omega) (by omega)
    refine So.ite (fun _ => ?_) (fun _ => ?_)
    · refine So.bdq (t_La_c14 hf g_WB g_Mo (by omega) (by omega) (by omega) g_TB g_TT g_MD) fun q eq hq => ?_
      obtain ⟨h_0, h_1, h_2, h_3⟩ := hq
      exact t_Law_L hf hL n (x4 + 6) _ ⟨g_Tab, g_Prog, g_Walk, g_Fld, g_Lps, g_WB, g_TP, g_TPL, g_Grd, h_0, g_Mthere, g_Mscales, g_Mwidths, g_Mlists, g_Mlengths, g_MfoundOps, g_Mops, g_Mwidth, g_MelementAt, g_MpointAt, g_Mtape, h_1, g_VA, h_2, g_RF, h_3⟩ (by omega) (by omega) (by omega)
    refine So.ite (fun _ => ?_) (fun _ => ?_)
    · refine So.bdq (t_La_c15 hf g_TP g_Mo g_Mtape (by omega) (by omega) (by omega) g_TPL) fun q eq hq => ?_
      obtain ⟨h_0, h_1, h_2, h_3, h_4, h_5, h_6, h_7, h_8⟩ := hq
      exact t_Law_L hf hL n (x4 + 6) _ ⟨g_Tab, g_Prog, g_Walk, g_Fld, g_Lps, g_WB, h_0, h_3, g_Grd, h_1, g_Mthere, g_Mscales, g_Mwidths, g_Mlists, g_Mlengths, g_MfoundOps, g_Mops, g_Mwidth, g_MelementAt, g_MpointAt, h_2, (TbR.keep g_TB h_4), g_VA, (tt_c15 hf g_Mtape eq g_TT), g_RF, (MdR.kp g_MD h_5 h_6 h_7 h_8)⟩ (by omega) (by omega) (by omega)
    refine So.ite (fun _ => ?_) (fun _ => ?_)
    · refine So.bdq (t_La_c16 hf g_Tab g_Mthere g_Mscales g_Mwidths g_Mlists g_Mlengths g_Mtape g_Prog g_Walk g_Fld g_Lps g_TP g_Mo g_MfoundOps g_Mops g_Mwidth g_MelementAt g_MpointAt (by omega) (by omega) (by omega) g_TPL) fun q eq hq => ?_
      obtain ⟨h_0, h_1, h_2, h_3, h_4, h_5, h_6, h_7, h_8, h_9, h_10, h_11, h_12, h_13, h_14, h_15, h_16⟩ := hq
      exact t_Law_L hf hL n (x4 + 6) _ ⟨g_Tab, h_0, h_1, h_2, h_3, g_WB, h_4, h_11, g_Grd, h_5, g_Mthere, g_Mscales, g_Mwidths, g_Mlists, g_Mlengths, h_6, h_7, h_8, h_9, h_10, g_Mtape, (TbR.keep g_TB h_12), (rd_c16 hf g_Tab g_Prog g_TP g_TPL g_Mwidths g_Mscales g_Mlists g_Mlengths g_RF g_Mtape g_Mo g_MfoundOps g_Mops g_Mwidth g_MelementAt g_MpointAt g_TB g_VA g_TT eq).1, (rd_c16 hf g_Tab g_Prog g_TP g_TPL g_Mwidths g_Mscales g_Mlists g_Mlengths g_RF g_Mtape g_Mo g_MfoundOps g_Mops g_Mwidth g_MelementAt g_MpointAt g_TB g_VA g_TT eq).2, g_RF, (MdR.kp g_MD h_13 h_14 h_15 h_16)⟩ (by omega) (by omega) (by omega)
    refine So.ite (fun _ => ?_) (fun _ => ?_)
    · refine So.bdq (t_La_c17 hf g_Grd g_Mo (by omega) (by omega) (by omega)) fun q eq hq => ?_
      obtain ⟨h_0, h_1, h_2, h_3, h_4, h_5, h_6, h_7⟩ := hq
      exact t_Law_L hf hL n (x4 + 6) _ ⟨g_Tab, g_Prog, g_Walk, g_Fld, g_Lps, g_WB, g_TP, g_TPL, h_0, h_1, g_Mthere, g_Mscales, g_Mwidths, g_Mlists, g_Mlengths, g_MfoundOps, g_Mops, g_Mwidth, g_MelementAt, g_MpointAt, g_Mtape, (TbR.keep g_TB h_2), g_VA, (TpR.keep g_TT h_3), g_RF, (MdR.kp g_MD h_4 h_5 h_6 h_7)⟩ (by omega) (by omega) (by omega)
    refine So.ite (fun _ => ?_) (fun _ => ?_)
    · refine So.bdq (t_La_c18 hf g_Grd g_Mo (by omega) (by omega) (by omega)) fun q eq hq => ?_
      obtain ⟨h_0, h_1, h_2, h_3, h_4, h_5, h_6, h_7⟩ := hq
      exact t_Law_L hf hL n (x4 + 6) _ ⟨g_Tab, g_Prog, g_Walk, g_Fld, g_Lps, g_WB, g_TP, g_TPL, h_0, h_1, g_Mthere, g_Mscales, g_Mwidths, g_Mlists, g_Mlengths, g_MfoundOps, g_Mops, g_Mwidth, g_MelementAt, g_MpointAt, g_Mtape, (TbR.keep g_TB h_2), g_VA, (TpR.keep g_TT h_3), g_RF, (MdR.kp g_MD h_4 h_5 h_6 h_7)⟩ (by omega) (by omega) (by omega)
    refine So.ite (fun _ => ?_) (fun _ => ?_)
    · refine So.bdq (t_La_c19 hf g_Grd g_Mo (by omega) (by omega) (by omega)) fun q eq hq => ?_
      obtain ⟨h_0, h_1, h_2, h_3, h_4, h_5, h_6⟩ := hq
      exact t_Law_L hf hL n (x4 + 6) _ ⟨g_Tab, g_Prog, g_Walk, g_Fld, g_Lps, g_WB, g_TP, g_TPL, g_Grd, h_0, g_Mthere, g_Mscales, g_Mwidths, g_Mlists, g_Mlengths, g_MfoundOps, g_Mops, g_Mwidth, g_MelementAt, g_MpointAt, g_Mtape, (TbR.keep g_TB h_1), g_VA, (TpR.keep g_TT h_2), g_RF, (MdR.kp g_MD h_3 h_4 h_5 h_6)⟩ (by omega) (by omega) (by omega)
    refine So.ite (fun _ => ?_) (fun _ => ?_)
    · refine So.bdq (t_La_c20 hf g_Grd g_Mo (by omega) (by omega) (by omega)) fun q eq hq => ?_
      obtain ⟨h_0, h_1, h_2, h_3, h_4, h_5, h_6⟩ := hq
      exact t_Law_L hf hL n (x4 + 6) _ ⟨g_Tab, g_Prog, g_Walk, g_Fld, g_Lps, g_WB, g_TP, g_TPL, g_Grd, h_0, g_Mthere, g_Mscales, g_Mwidths, g_Mlists, g_Mlengths, g_MfoundOps, g_Mops, g_Mwidth, g_MelementAt, g_MpointAt, g_Mtape, (TbR.keep g_TB h_1), g_VA, (TpR.keep g_TT h_2), g_RF, (MdR.kp g_MD h_3 h_4 h_5 h_6)⟩ (by omega) (by omega) (by omega)
    exact t_Law_L hf hL n (x4 + 6) st ⟨g_Tab, g_Prog, g_Walk, g_Fld, g_Lps, g_WB, g_TP, g_TPL, g_Grd, g_Mo, g_Mthere, g_Mscales, g_Mwidths, g_Mlists, g_Mlengths, g_MfoundOps, g_Mops, g_Mwidth, g_MelementAt, g_MpointAt, g_Mtape, g_TB, g_VA, g_TT, g_RF, g_MD⟩ (by omega) (by omega) (by omega)
theorem t_Law_law {fu : Nat} {xs : Nat → Int32} {L : Nat} (hf : 45000 ≤ fu) (hL : L ≤ 3072) : So (Law_law fu xs L) (fun _ => True) := by
  unfold Law_law
  refine So.bd (So.and (t_X_init (by omega)) (So.and (yy_X_init (by omega)) (So.and (yw_X_init (by omega)) (yx_X_init (by omega))))) fun qx hx => So.bd (So.and (t_Mod_init (by omega)) (So.and (yy_Mod_init (by omega)) (yx_Mod_init (by omega)))) fun qm hm => So.lt ?_
  obtain ⟨⟨g_Tab, g_Prog, g_Walk, g_Fld, g_Lps, g_WB, g_TP, g_TPL, g_Grd, i_widths, i_sizes, i_length⟩, ⟨z_grd, z_val, z_ver⟩, z_byt, z_wb⟩ := hx
  obtain ⟨⟨g_Mo, g_Mthere, g_Mscales, g_Mwidths, g_Mlists, g_Mlengths, g_MfoundOps, g_Mops, g_Mwidth, g_MelementAt, g_MpointAt, g_Mtape, i_there, i_lengths, i_taped⟩, ⟨z_codes, z_pts, z_vals, z_used⟩, z_rf, z_wr⟩ := hm
  have k0 : (0 : Int32).toInt = 0 := by decide
  exact t_Law_L hf hL fu 0 _ ⟨g_Tab, g_Prog, g_Walk, g_Fld, g_Lps, g_WB, g_TP, g_TPL, g_Grd, g_Mo, g_Mthere, g_Mscales, g_Mwidths, g_Mlists, g_Mlengths, g_MfoundOps, g_Mops, g_Mwidth, g_MelementAt, g_MpointAt, g_Mtape, (tb_init i_widths i_there i_sizes i_lengths z_ver z_used), (va_init z_val z_vals), (tt_zero i_length (fun j _ => z_byt j) i_taped), (z_rf), (Or.inl ⟨z_wr, z_wb⟩)⟩ (by decide) (by decide) (by omega)
abbrev FUEL : Nat := 60000
theorem law_pure {xs : Nat → Int32} {L : Nat} (hL : L ≤ 3072) : Law_law FUEL xs L = some () := by
  obtain ⟨r, e, _⟩ := t_Law_law (fu := FUEL) (xs := xs) (L := L) (by decide) hL
  exact e
