def Prog_fail (a0 : Int32) (sProg : S_Prog) : Option (S_Prog) := o_lt (Prog_set_fault sProg a0) fun sProg_1 => (o_lt (Prog_set_place sProg_1 (Prog_templatePlace sProg_1)) fun sProg_2 => (some sProg_2))
abbrev rm_Prog_fail : Room := { frames := 0, cells := 0, slots := 0, locals := 0 }
set_option maxHeartbeats 4000000 in
set_option maxRecDepth 100000 in
theorem c_Prog_fail (l : Launch) (D : va_G) (K : Nat → ClassId) (hTab : Nat → Nat) (hProg : Nat → Nat) (sProg : S_Prog) (a0 : Int32) (sProg' : S_Prog) (hf : Prog_fail a0 sProg = some sProg') : mv l D K y_Prog_fail ws_Prog_fail rm_Prog_fail [.ref (hProg 0), .int a0] (fl [wProg K hProg (hTab 0) sProg]) (fl [wProg K hProg (hTab 0) sProg']) := by
  refine mv_of (cc := b_Prog_fail) (maxL := 2) (own := "ObsMessages$Program") (by decide) rfl rfl (Nat.le_of_ble_eq_true rfl) ?_
  intro p e s m below meth c A ls hC hP hD hS hl
  obtain ⟨hx, hb, hml, hown, hts, hr, hlocks, hK, hF, hA⟩ := hC
  have hP : va_P D vwCl (fl [wProg K hProg (hTab 0) sProg]) s.heap := hP
  have hl : lv_has ls 2 [(0, .ref (hProg 0)), (1, .int a0)] := hl
  suffices hW : ∀ (H : Heap) (locs : List Loc), va_P D vwCl (fl [wProg K hProg (hTab 0) sProg]) H → va_S A s.heap H locs → W p l e rm_Prog_fail s m ([.ref (hProg 0), .int a0] : List Value).toArray below meth c H locs 0 0 (Qv below ([.ref (hProg 0), .int a0] : List Value).toArray s D K A (fl [wProg K hProg (hTab 0) sProg'])) (F0 m 0 ls []) from hW s.heap [] hP hS
  clear hP hS
  intro H locs hP hS
  refine lv_aload_n (pc := 0) hx hb d_Prog_fail_0 rfl (lv_at hl 0 rfl) ?_
  refine lv_iload_n (pc := 1) hx hb d_Prog_fail_1 rfl (lv_at hl 1 rfl) ?_
  refine va_put (D := D) (ci := 2) (v := .int a0) (ty := .int) (C := R_Prog) (T := T_Prog) (N := 14) (pc := 2) hx hb hts (fun w h => List.mem_cons_of_mem _ (in_Prog w h)) ty_Prog ty_Prog_ok nm_Prog hown hK hP hD hS _ (fl_at 0 0 rfl rfl) rfl 3 (by decide) (hts _ (List.mem_cons_of_mem _ tw_81)) (fun _ h9 => h9) rfl (by decide +kernel) rfl rfl (Nat.le_of_ble_eq_true rfl) d_Prog_fail_2 (fun H locs hP hD hS => ?_)
  obtain ⟨sProg_1, esProg_1, hf⟩ := o_lt_e hf
  have hP : va_P D vwCl (fl [wProg K hProg (hTab 0) sProg_1]) H := by rw [esProg_1]; exact fl_P 0 0 rfl (Nat.le_of_ble_eq_true rfl) rfl rfl hP
  have hD : va_D A (fl [wProg K hProg (hTab 0) sProg_1]) := by rw [esProg_1]; exact fl_D 0 0 rfl (Nat.le_of_ble_eq_true rfl) rfl rfl hD
  refine lv_aload_n (pc := 5) hx hb d_Prog_fail_5 rfl (lv_at hl 0 rfl) ?_
  refine lv_aload_n (pc := 6) hx hb d_Prog_fail_6 rfl (lv_at hl 0 rfl) ?_
  refine va_get (D := D) (ci := 2) (v := .int (Prog_templatePlace sProg_1)) (C := R_Prog) (T := T_Prog) (N := 14) (pc := 7) hx hb hts (fun w h => List.mem_cons_of_mem _ (in_Prog w h)) hown hK hP _ (fl_at 0 0 rfl rfl) rfl 13 (by decide) (hts _ (List.mem_cons_of_mem _ tw_93)) (fun _ h9 => h9) rfl d_Prog_fail_7 ?_
  refine va_put (D := D) (ci := 2) (v := .int (Prog_templatePlace sProg_1)) (ty := .int) (C := R_Prog) (T := T_Prog) (N := 14) (pc := 10) hx hb hts (fun w h => List.mem_cons_of_mem _ (in_Prog w h)) ty_Prog ty_Prog_ok nm_Prog hown hK hP hD hS _ (fl_at 0 0 rfl rfl) rfl 4 (by decide) (hts _ (List.mem_cons_of_mem _ tw_83)) (fun _ h9 => h9) rfl (by decide +kernel) rfl rfl (Nat.le_of_ble_eq_true rfl) d_Prog_fail_10 (fun H locs hP hD hS => ?_)
  obtain ⟨sProg_2, esProg_2, hf⟩ := o_lt_e hf
  have hP : va_P D vwCl (fl [wProg K hProg (hTab 0) sProg_2]) H := by rw [esProg_2]; exact fl_P 0 0 rfl (Nat.le_of_ble_eq_true rfl) rfl rfl hP
  have hD : va_D A (fl [wProg K hProg (hTab 0) sProg_2]) := by rw [esProg_2]; exact fl_D 0 0 rfl (Nat.le_of_ble_eq_true rfl) rfl rfl hD
  cases hf
  exact ret_v hx hb hr hlocks hK hP hS d_Prog_fail_13
def Prog_openList (a0 : Int32) (a1 : Int32) (a2 : Int32) (a3 : Int32) (sProg : S_Prog) : Option (S_Prog) := if (Prog_open sProg) < 64 then o_gd (o_in (Prog_open sProg) 64) (o_lt (Prog_put_openAts sProg (Prog_open sProg : Int32).toNatClampNeg a0) fun sProg_2 => (o_gd (o_in (Prog_open sProg_2) 64) (o_lt (Prog_put_openEnds sProg_2 (Prog_open sProg_2 : Int32).toNatClampNeg a1) fun sProg_4 => (o_gd (o_in (Prog_open sProg_4) 64) (o_lt (Prog_put_openSequences sProg_4 (Prog_open sProg_4 : Int32).toNatClampNeg a2) fun sProg_6 => (o_gd (o_in (Prog_open sProg_6) 64) (o_lt (Prog_put_openRepeats sProg_6 (Prog_open sProg_6 : Int32).toNatClampNeg a3) fun sProg_8 => (o_gd (o_cp 0 ((Prog_open sProg_8) * 4) 4 4 256) (o_lt (Prog_set_foundSettings sProg_8 (va_cpy (Prog_settings sProg_8) (Prog_foundSettings sProg_8) (0 : Int32).toNatClampNeg ((Prog_open sProg_8) * 4 : Int32).toNatClampNeg (4 : Int32).toNatClampNeg)) fun sProg_9 => (o_lt (Prog_set_open sProg_9 ((Prog_open sProg_9) + 1)) fun sProg_10 => (some sProg_10))))))))))) else o_bd (Prog_fail 2 sProg) fun q11 => (some q11)
abbrev rm_Prog_openList : Room := { frames := 1, cells := 0, slots := 0, locals := 48 }
set_option maxHeartbeats 4000000 in
set_option maxRecDepth 100000 in
theorem c_Prog_openList (l : Launch) (D : va_G) (K : Nat → ClassId) (hTab : Nat → Nat) (hProg : Nat → Nat) (sProg : S_Prog) (a0 : Int32) (a1 : Int32) (a2 : Int32) (a3 : Int32) (sProg' : S_Prog) (hf : Prog_openList a0 a1 a2 a3 sProg = some sProg') : mv l D K y_Prog_openList ws_Prog_openList rm_Prog_openList [.ref (hProg 0), .int a0, .int a1, .int a2, .int a3] (fl [wProg K hProg (hTab 0) sProg]) (fl [wProg K hProg (hTab 0) sProg']) := by
  refine mv_of (cc := b_Prog_openList) (maxL := 5) (own := "ObsMessages$Program") (by decide) rfl rfl (Nat.le_of_ble_eq_true rfl) ?_
  intro p e s m below meth c A ls hC hP hD hS hl
  obtain ⟨hx, hb, hml, hown, hts, hr, hlocks, hK, hF, hA⟩ := hC
  have hP : va_P D vwCl (fl [wProg K hProg (hTab 0) sProg]) s.heap := hP
  have hl : lv_has ls 5 [(0, .ref (hProg 0)), (1, .int a0), (2, .int a1), (3, .int a2), (4, .int a3)] := hl
  suffices hW : ∀ (H : Heap) (locs : List Loc), va_P D vwCl (fl [wProg K hProg (hTab 0) sProg]) H → va_S A s.heap H locs → W p l e rm_Prog_openList s m ([.ref (hProg 0), .int a0, .int a1, .int a2, .int a3] : List Value).toArray below meth c H locs 0 0 (Qv below ([.ref (hProg 0), .int a0, .int a1, .int a2, .int a3] : List Value).toArray s D K A (fl [wProg K hProg (hTab 0) sProg'])) (F0 m 0 ls []) from hW s.heap [] hP hS
  clear hP hS
  intro H locs hP hS
  refine lv_aload_n (pc := 0) hx hb d_Prog_openList_0 rfl (lv_at hl 0 rfl) ?_
  refine va_get (D := D) (ci := 2) (v := .int (Prog_open sProg)) (C := R_Prog) (T := T_Prog) (N := 14) (pc := 1) hx hb hts (fun w h => List.mem_cons_of_mem _ (in_Prog w h)) hown hK hP _ (fl_at 0 0 rfl rfl) rfl 12 (by decide) (hts _ (List.mem_cons_of_mem _ tw_92)) (fun _ h9 => h9) rfl d_Prog_openList_1 ?_
  refine lv_bipush (v := 64) (pc := 4) hx hb d_Prog_openList_4 (by decide) ?_
  refine lv_icmp_lt (tgt := 15) (pc := 6) hx hb d_Prog_openList_6 (by decide) (fun c12 => ?_) (fun c12 => ?_)
  · replace hf := o_t c12 hf
    refine lv_aload_n (pc := 15) hx hb d_Prog_openList_15 rfl (lv_at hl 0 rfl) ?_
    refine va_get (D := D) (ci := 2) (v := .ref (hProg 4)) (C := R_Prog) (T := T_Prog) (N := 14) (pc := 16) hx hb hts (fun w h => List.mem_cons_of_mem _ (in_Prog w h)) hown hK hP _ (fl_at 0 0 rfl rfl) rfl 7 (by decide) (hts _ (List.mem_cons_of_mem _ tw_87)) (fun _ h9 => h9) rfl d_Prog_openList_16 ?_
    refine lv_aload_n (pc := 19) hx hb d_Prog_openList_19 rfl (lv_at hl 0 rfl) ?_
    refine va_get (D := D) (ci := 2) (v := .int (Prog_open sProg)) (C := R_Prog) (T := T_Prog) (N := 14) (pc := 20) hx hb hts (fun w h => List.mem_cons_of_mem _ (in_Prog w h)) hown hK hP _ (fl_at 0 0 rfl rfl) rfl 12 (by decide) (hts _ (List.mem_cons_of_mem _ tw_92)) (fun _ h9 => h9) rfl d_Prog_openList_20 ?_
    refine lv_iload_n (pc := 23) hx hb d_Prog_openList_23 rfl (lv_at hl 1 rfl) ?_
    obtain ⟨hi1, hf⟩ := o_gi_e hf
    refine va_iast (D := D) (pc := 24) hx hb hK hP hD hS _ 0 (fl_at 0 4 rfl rfl) rfl hi1 d_Prog_openList_24 (fun H locs hP hD hS => ?_)
    obtain ⟨sProg_2, esProg_2, hf⟩ := o_lt_e hf
    have hP : va_P D vwCl (fl [wProg K hProg (hTab 0) sProg_2]) H := by rw [esProg_2]; exact fl_P 0 4 rfl (Nat.le_of_ble_eq_true rfl) rfl rfl hP
    have hD : va_D A (fl [wProg K hProg (hTab 0) sProg_2]) := by rw [esProg_2]; exact fl_D 0 4 rfl (Nat.le_of_ble_eq_true rfl) rfl rfl hD
    refine lv_aload_n (pc := 25) hx hb d_Prog_openList_25 rfl (lv_at hl 0 rfl) ?_
    refine va_get (D := D) (ci := 2) (v := .ref (hProg 5)) (C := R_Prog) (T := T_Prog) (N := 14) (pc := 26) hx hb hts (fun w h => List.mem_cons_of_mem _ (in_Prog w h)) hown hK hP _ (fl_at 0 0 rfl rfl) rfl 8 (by decide) (hts _ (List.mem_cons_of_mem _ tw_88)) (fun _ h9 => h9) rfl d_Prog_openList_26 ?_
    refine lv_aload_n (pc := 29) hx hb d_Prog_openList_29 rfl (lv_at hl 0 rfl) ?_
    refine va_get (D := D) (ci := 2) (v := .int (Prog_open sProg_2)) (C := R_Prog) (T := T_Prog) (N := 14) (pc := 30) hx hb hts (fun w h => List.mem_cons_of_mem _ (in_Prog w h)) hown hK hP _ (fl_at 0 0 rfl rfl) rfl 12 (by decide) (hts _ (List.mem_cons_of_mem _ tw_92)) (fun _ h9 => h9) rfl d_Prog_openList_30 ?_
    refine lv_iload_n (pc := 33) hx hb d_Prog_openList_33 rfl (lv_at hl 2 rfl) ?_
    obtain ⟨hi3, hf⟩ := o_gi_e hf
    refine va_iast (D := D) (pc := 34) hx hb hK hP hD hS _ 0 (fl_at 0 5 rfl rfl) rfl hi3 d_Prog_openList_34 (fun H locs hP hD hS => ?_)
    obtain ⟨sProg_4, esProg_4, hf⟩ := o_lt_e hf
    have hP : va_P D vwCl (fl [wProg K hProg (hTab 0) sProg_4]) H := by rw [esProg_4]; exact fl_P 0 5 rfl (Nat.le_of_ble_eq_true rfl) rfl rfl hP
    have hD : va_D A (fl [wProg K hProg (hTab 0) sProg_4]) := by rw [esProg_4]; exact fl_D 0 5 rfl (Nat.le_of_ble_eq_true rfl) rfl rfl hD
    refine lv_aload_n (pc := 35) hx hb d_Prog_openList_35 rfl (lv_at hl 0 rfl) ?_
    refine va_get (D := D) (ci := 2) (v := .ref (hProg 6)) (C := R_Prog) (T := T_Prog) (N := 14) (pc := 36) hx hb hts (fun w h => List.mem_cons_of_mem _ (in_Prog w h)) hown hK hP _ (fl_at 0 0 rfl rfl) rfl 9 (by decide) (hts _ (List.mem_cons_of_mem _ tw_89)) (fun _ h9 => h9) rfl d_Prog_openList_36 ?_
    refine lv_aload_n (pc := 39) hx hb d_Prog_openList_39 rfl (lv_at hl 0 rfl) ?_
    refine va_get (D := D) (ci := 2) (v := .int (Prog_open sProg_4)) (C := R_Prog) (T := T_Prog) (N := 14) (pc := 40) hx hb hts (fun w h => List.mem_cons_of_mem _ (in_Prog w h)) hown hK hP _ (fl_at 0 0 rfl rfl) rfl 12 (by decide) (hts _ (List.mem_cons_of_mem _ tw_92)) (fun _ h9 => h9) rfl d_Prog_openList_40 ?_
    refine lv_iload_n (pc := 43) hx hb d_Prog_openList_43 rfl (lv_at hl 3 rfl) ?_
    obtain ⟨hi5, hf⟩ := o_gi_e hf
    refine va_iast (D := D) (pc := 44) hx hb hK hP hD hS _ 0 (fl_at 0 6 rfl rfl) rfl hi5 d_Prog_openList_44 (fun H locs hP hD hS => ?_)
    obtain ⟨sProg_6, esProg_6, hf⟩ := o_lt_e hf
    have hP : va_P D vwCl (fl [wProg K hProg (hTab 0) sProg_6]) H := by rw [esProg_6]; exact fl_P 0 6 rfl (Nat.le_of_ble_eq_true rfl) rfl rfl hP
    have hD : va_D A (fl [wProg K hProg (hTab 0) sProg_6]) := by rw [esProg_6]; exact fl_D 0 6 rfl (Nat.le_of_ble_eq_true rfl) rfl rfl hD
    refine lv_aload_n (pc := 45) hx hb d_Prog_openList_45 rfl (lv_at hl 0 rfl) ?_
    refine va_get (D := D) (ci := 2) (v := .ref (hProg 7)) (C := R_Prog) (T := T_Prog) (N := 14) (pc := 46) hx hb hts (fun w h => List.mem_cons_of_mem _ (in_Prog w h)) hown hK hP _ (fl_at 0 0 rfl rfl) rfl 10 (by decide) (hts _ (List.mem_cons_of_mem _ tw_90)) (fun _ h9 => h9) rfl d_Prog_openList_46 ?_
    refine lv_aload_n (pc := 49) hx hb d_Prog_openList_49 rfl (lv_at hl 0 rfl) ?_
    refine va_get (D := D) (ci := 2) (v := .int (Prog_open sProg_6)) (C := R_Prog) (T := T_Prog) (N := 14) (pc := 50) hx hb hts (fun w h => List.mem_cons_of_mem _ (in_Prog w h)) hown hK hP _ (fl_at 0 0 rfl rfl) rfl 12 (by decide) (hts _ (List.mem_cons_of_mem _ tw_92)) (fun _ h9 => h9) rfl d_Prog_openList_50 ?_
    refine lv_iload (pc := 53) hx hb d_Prog_openList_53 (lv_at hl 4 rfl) ?_
    obtain ⟨hi7, hf⟩ := o_gi_e hf
    refine va_iast (D := D) (pc := 55) hx hb hK hP hD hS _ 0 (fl_at 0 7 rfl rfl) rfl hi7 d_Prog_openList_55 (fun H locs hP hD hS => ?_)
    obtain ⟨sProg_8, esProg_8, hf⟩ := o_lt_e hf
    have hP : va_P D vwCl (fl [wProg K hProg (hTab 0) sProg_8]) H := by rw [esProg_8]; exact fl_P 0 7 rfl (Nat.le_of_ble_eq_true rfl) rfl rfl hP
    have hD : va_D A (fl [wProg K hProg (hTab 0) sProg_8]) := by rw [esProg_8]; exact fl_D 0 7 rfl (Nat.le_of_ble_eq_true rfl) rfl rfl hD
    refine lv_aload_n (pc := 56) hx hb d_Prog_openList_56 rfl (lv_at hl 0 rfl) ?_
    refine va_get (D := D) (ci := 2) (v := .ref (hProg 3)) (C := R_Prog) (T := T_Prog) (N := 14) (pc := 57) hx hb hts (fun w h => List.mem_cons_of_mem _ (in_Prog w h)) hown hK hP _ (fl_at 0 0 rfl rfl) rfl 6 (by decide) (hts _ (List.mem_cons_of_mem _ tw_86)) (fun _ h9 => h9) rfl d_Prog_openList_57 ?_
    refine lv_iconst (v := 0) (pc := 60) hx hb d_Prog_openList_60 (by decide) ?_
    refine lv_aload_n (pc := 61) hx hb d_Prog_openList_61 rfl (lv_at hl 0 rfl) ?_
    refine va_get (D := D) (ci := 2) (v := .ref (hProg 8)) (C := R_Prog) (T := T_Prog) (N := 14) (pc := 62) hx hb hts (fun w h => List.mem_cons_of_mem _ (in_Prog w h)) hown hK hP _ (fl_at 0 0 rfl rfl) rfl 11 (by decide) (hts _ (List.mem_cons_of_mem _ tw_91)) (fun _ h9 => h9) rfl d_Prog_openList_62 ?_
    refine lv_aload_n (pc := 65) hx hb d_Prog_openList_65 rfl (lv_at hl 0 rfl) ?_
    refine va_get (D := D) (ci := 2) (v := .int (Prog_open sProg_8)) (C := R_Prog) (T := T_Prog) (N := 14) (pc := 66) hx hb hts (fun w h => List.mem_cons_of_mem _ (in_Prog w h)) hown hK hP _ (fl_at 0 0 rfl rfl) rfl 12 (by decide) (hts _ (List.mem_cons_of_mem _ tw_92)) (fun _ h9 => h9) rfl d_Prog_openList_66 ?_
    refine lv_iconst (v := 4) (pc := 69) hx hb d_Prog_openList_69 (by decide) ?_
    refine lv_imul (pc := 70) hx hb d_Prog_openList_70 ?_
    refine lv_iconst (v := 4) (pc := 71) hx hb d_Prog_openList_71 (by decide) ?_
    obtain ⟨⟨hc1, hc2, hc3, hc4, hc5⟩, hf⟩ := o_cp_e hf
    refine va_copyi (D := D) (pc := 72) hx hb (hml.trans hl.1.symm) hown (hts _ (List.mem_cons_of_mem _ tw_464)) (hts _ (List.mem_cons_of_mem _ tw_466)) (hts _ (List.mem_cons_of_mem _ tw_465)) (hts _ (List.mem_cons_of_mem _ tw_19)) hK hP hD hS _ _ 0 0 (fl_at 0 3 rfl rfl) (fl_at 0 8 rfl rfl) rfl rfl rfl hc1 hc2 hc3 hc4 hc5 (fun _ _ => rfl) (by decide) (by decide) d_Prog_openList_72 (fun H locs hP hD hS => ?_)
    obtain ⟨sProg_9, esProg_9, hf⟩ := o_lt_e hf
    have hP : va_P D vwCl (fl [wProg K hProg (hTab 0) sProg_9]) H := by rw [esProg_9]; exact fl_P 0 8 rfl (Nat.le_of_ble_eq_true rfl) rfl rfl hP
    have hD : va_D A (fl [wProg K hProg (hTab 0) sProg_9]) := by rw [esProg_9]; exact fl_D 0 8 rfl (Nat.le_of_ble_eq_true rfl) rfl rfl hD
    refine lv_aload_n (pc := 75) hx hb d_Prog_openList_75 rfl (lv_at hl 0 rfl) ?_
    refine lv_dup (pc := 76) hx hb d_Prog_openList_76 rfl ?_
    refine va_get (D := D) (ci := 2) (v := .int (Prog_open sProg_9)) (C := R_Prog) (T := T_Prog) (N := 14) (pc := 77) hx hb hts (fun w h => List.mem_cons_of_mem _ (in_Prog w h)) hown hK hP _ (fl_at 0 0 rfl rfl) rfl 12 (by decide) (hts _ (List.mem_cons_of_mem _ tw_92)) (fun _ h9 => h9) rfl d_Prog_openList_77 ?_
    refine lv_iconst (v := 1) (pc := 80) hx hb d_Prog_openList_80 (by decide) ?_
    refine lv_iadd (pc := 81) hx hb d_Prog_openList_81 ?_
    refine va_put (D := D) (ci := 2) (v := .int ((Prog_open sProg_9) + 1)) (ty := .int) (C := R_Prog) (T := T_Prog) (N := 14) (pc := 82) hx hb hts (fun w h => List.mem_cons_of_mem _ (in_Prog w h)) ty_Prog ty_Prog_ok nm_Prog hown hK hP hD hS _ (fl_at 0 0 rfl rfl) rfl 12 (by decide) (hts _ (List.mem_cons_of_mem _ tw_92)) (fun _ h9 => h9) rfl (by decide +kernel) rfl rfl (Nat.le_of_ble_eq_true rfl) d_Prog_openList_82 (fun H locs hP hD hS => ?_)
    obtain ⟨sProg_10, esProg_10, hf⟩ := o_lt_e hf
    have hP : va_P D vwCl (fl [wProg K hProg (hTab 0) sProg_10]) H := by rw [esProg_10]; exact fl_P 0 0 rfl (Nat.le_of_ble_eq_true rfl) rfl rfl hP
    have hD : va_D A (fl [wProg K hProg (hTab 0) sProg_10]) := by rw [esProg_10]; exact fl_D 0 0 rfl (Nat.le_of_ble_eq_true rfl) rfl rfl hD
    cases hf
    exact ret_v hx hb hr hlocks hK hP hS d_Prog_openList_85
  · replace hf := o_f c12 hf
    refine lv_aload_n (pc := 9) hx hb d_Prog_openList_9 rfl (lv_at hl 0 rfl) ?_
    refine lv_iconst (v := 2) (pc := 10) hx hb d_Prog_openList_10 (by decide) ?_
    obtain ⟨q11, hq11, hf⟩ := o_bd_e hf
    refine fi_v (pc := 11) (va_runV (As := [.int 2]) (rest := []) ⟨hx, hb, hml, hown, hts⟩ ((c_Prog_fail l D K hTab hProg sProg 2 q11 hq11) _) (cwV 1 hts (gV tw_460 tw_462 tp_2 tw_3 tw_463) rfl rfl rfl (by decide +kernel) ⟨by decide, by decide⟩) ⟨mPre_blind, va_recv hK hP (ci := 2) rfl (fl_at 0 0 rfl rfl), (mPre_fl hK hF hA hP hD hS [0] rfl rfl)⟩ rfl rfl hl.1 rfl (lv_room (Nat.le_of_ble_eq_true rfl)) d_Prog_openList_11 ⟨Nat.zero_le _, Nat.zero_le _⟩) hA hP hD hS [0] rfl rfl (fun H locs hP hD hS => ?_)
    have hP : va_P D vwCl (fl [wProg K hProg (hTab 0) q11]) H := hP
    have hD : va_D A (fl [wProg K hProg (hTab 0) q11]) := hD
    cases hf
    exact ret_v hx hb hr hlocks hK hP hS d_Prog_openList_14
def Prog_closeList_L12 (fu : Nat) (sProg_L12 : S_Prog) (ke_12 : Option (S_Prog)) : Nat → Int32 → Option (S_Prog)
  | 0, _ => none
  | n + 1, x1_L12 => if 4 ≤ x1_L12 then ke_12  else o_gd (o_in x1_L12 4) (o_gd (o_in (((Prog_open sProg_L12) * 4) + x1_L12) 256) (if (Prog_settings sProg_L12 (x1_L12 : Int32).toNatClampNeg) = (Prog_foundSettings sProg_L12 (((Prog_open sProg_L12) * 4) + x1_L12 : Int32).toNatClampNeg) then Prog_closeList_L12 fu sProg_L12 ke_12 n (x1_L12 + 1) else o_bd (Prog_fail 4 sProg_L12) fun q4 => (some q4)))
def Prog_closeList_j51 (fu : Nat) (sProg_j51 : S_Prog) : Option (S_Prog) := o_gd (o_in (Prog_open sProg_j51) 64) (if (Prog_openRepeats sProg_j51 (Prog_open sProg_j51 : Int32).toNatClampNeg) = ((-1)) then some sProg_j51 else o_gd (o_in (Prog_open sProg_j51) 64) (o_gd (o_in (Prog_openRepeats sProg_j51 (Prog_open sProg_j51 : Int32).toNatClampNeg) 1000) (o_lt (Prog_put_bodyEnds sProg_j51 (Prog_openRepeats sProg_j51 (Prog_open sProg_j51 : Int32).toNatClampNeg : Int32).toNatClampNeg (Prog_size sProg_j51)) fun sProg_10 => (some sProg_10))))
def Prog_closeList (fu : Nat) (sProg : S_Prog) : Option (S_Prog) := o_lt (Prog_set_open sProg ((Prog_open sProg) - 1)) fun sProg_1 => (Prog_closeList_L12 fu sProg_1 (Prog_closeList_j51 fu sProg_1) fu 0)
abbrev rm_Prog_closeList : Room := { frames := 1, cells := 0, slots := 0, locals := 21 }
set_option maxHeartbeats 4000000 in
set_option maxRecDepth 100000 in
theorem c_Prog_closeList (l : Launch) (D : va_G) (K : Nat → ClassId) (fu : Nat) (hTab : Nat → Nat) (hProg : Nat → Nat) (sProg : S_Prog) (sProg' : S_Prog) (hf : Prog_closeList fu sProg = some sProg') : mv l D K y_Prog_closeList ws_Prog_closeList rm_Prog_closeList [.ref (hProg 0)] (fl [wProg K hProg (hTab 0) sProg]) (fl [wProg K hProg (hTab 0) sProg']) := by
  refine mv_of (cc := b_Prog_closeList) (maxL := 2) (own := "ObsMessages$Program") (by decide) rfl rfl (Nat.le_of_ble_eq_true rfl) ?_
  intro p e s m below meth c A ls hC hP hD hS hl
  obtain ⟨hx, hb, hml, hown, hts, hr, hlocks, hK, hF, hA⟩ := hC
  have hP : va_P D vwCl (fl [wProg K hProg (hTab 0) sProg]) s.heap := hP
  have hl : lv_has ls 2 [(0, .ref (hProg 0))] := hl
  suffices hW : ∀ (H : Heap) (locs : List Loc), va_P D vwCl (fl [wProg K hProg (hTab 0) sProg]) H → va_S A s.heap H locs → W p l e rm_Prog_closeList s m ([.ref (hProg 0)] : List Value).toArray below meth c H locs 0 0 (Qv below ([.ref (hProg 0)] : List Value).toArray s D K A (fl [wProg K hProg (hTab 0) sProg'])) (F0 m 0 ls []) from hW s.heap [] hP hS
  clear hP hS
  intro H locs hP hS
  have J51 : ∀ (sProg_j51 : S_Prog) (H : Heap) (locs : List Loc) (ls : Array Slot), va_P D vwCl (fl [wProg K hProg (hTab 0) sProg_j51]) H → va_D A (fl [wProg K hProg (hTab 0) sProg_j51]) → va_S A s.heap H locs → lv_has ls 2 [(0, .ref (hProg 0))] → Prog_closeList_j51 fu sProg_j51 = some sProg' → W p l e rm_Prog_closeList s m ([.ref (hProg 0)] : List Value).toArray below meth c H locs 0 0 (Qv below ([.ref (hProg 0)] : List Value).toArray s D K A (fl [wProg K hProg (hTab 0) sProg'])) (F0 m 51 ls []) := by
    intro sProg_j51 H locs ls hP hD hS hl hf
    refine lv_aload_n (pc := 51) hx hb d_Prog_closeList_51 rfl (lv_at hl 0 rfl) ?_
    refine va_get (D := D) (ci := 2) (v := .ref (hProg 7)) (C := R_Prog) (T := T_Prog) (N := 14) (pc := 52) hx hb hts (fun w h => List.mem_cons_of_mem _ (in_Prog w h)) hown hK hP _ (fl_at 0 0 rfl rfl) rfl 10 (by decide) (hts _ (List.mem_cons_of_mem _ tw_90)) (fun _ h9 => h9) rfl d_Prog_closeList_52 ?_
    refine lv_aload_n (pc := 55) hx hb d_Prog_closeList_55 rfl (lv_at hl 0 rfl) ?_
    refine va_get (D := D) (ci := 2) (v := .int (Prog_open sProg_j51)) (C := R_Prog) (T := T_Prog) (N := 14) (pc := 56) hx hb hts (fun w h => List.mem_cons_of_mem _ (in_Prog w h)) hown hK hP _ (fl_at 0 0 rfl rfl) rfl 12 (by decide) (hts _ (List.mem_cons_of_mem _ tw_92)) (fun _ h9 => h9) rfl d_Prog_closeList_56 ?_
    obtain ⟨hi7, hf⟩ := o_gi_e hf
    refine va_iald (D := D) (pc := 59) hx hb hK hP _ 0 (fl_at 0 7 rfl rfl) rfl hi7 d_Prog_closeList_59 ?_
    refine lv_iconst (v := (-1)) (pc := 60) hx hb d_Prog_closeList_60 (by decide) ?_
    refine lv_icmp_eq (tgt := 82) (pc := 61) hx hb d_Prog_closeList_61 (by decide) (fun c11 => ?_) (fun c11 => ?_)
    · replace hf := o_t c11 hf
      cases hf
      exact ret_v hx hb hr hlocks hK hP hS d_Prog_closeList_82
    · replace hf := o_f c11 hf
      refine lv_aload_n (pc := 64) hx hb d_Prog_closeList_64 rfl (lv_at hl 0 rfl) ?_
      refine va_get (D := D) (ci := 2) (v := .ref (hProg 2)) (C := R_Prog) (T := T_Prog) (N := 14) (pc := 65) hx hb hts (fun w h => List.mem_cons_of_mem _ (in_Prog w h)) hown hK hP _ (fl_at 0 0 rfl rfl) rfl 1 (by decide) (hts _ (List.mem_cons_of_mem _ tw_76)) (fun _ h9 => h9) rfl d_Prog_closeList_65 ?_
      refine lv_aload_n (pc := 68) hx hb d_Prog_closeList_68 rfl (lv_at hl 0 rfl) ?_
      refine va_get (D := D) (ci := 2) (v := .ref (hProg 7)) (C := R_Prog) (T := T_Prog) (N := 14) (pc := 69) hx hb hts (fun w h => List.mem_cons_of_mem _ (in_Prog w h)) hown hK hP _ (fl_at 0 0 rfl rfl) rfl 10 (by decide) (hts _ (List.mem_cons_of_mem _ tw_90)) (fun _ h9 => h9) rfl d_Prog_closeList_69 ?_
      refine lv_aload_n (pc := 72) hx hb d_Prog_closeList_72 rfl (lv_at hl 0 rfl) ?_
      refine va_get (D := D) (ci := 2) (v := .int (Prog_open sProg_j51)) (C := R_Prog) (T := T_Prog) (N := 14) (pc := 73) hx hb hts (fun w h => List.mem_cons_of_mem _ (in_Prog w h)) hown hK hP _ (fl_at 0 0 rfl rfl) rfl 12 (by decide) (hts _ (List.mem_cons_of_mem _ tw_92)) (fun _ h9 => h9) rfl d_Prog_closeList_73 ?_
      obtain ⟨hi8, hf⟩ := o_gi_e hf
      refine va_iald (D := D) (pc := 76) hx hb hK hP _ 0 (fl_at 0 7 rfl rfl) rfl hi8 d_Prog_closeList_76 ?_
      refine lv_aload_n (pc := 77) hx hb d_Prog_closeList_77 rfl (lv_at hl 0 rfl) ?_
      refine va_get (D := D) (ci := 2) (v := .int (Prog_size sProg_j51)) (C := R_Prog) (T := T_Prog) (N := 14) (pc := 78) hx hb hts (fun w h => List.mem_cons_of_mem _ (in_Prog w h)) hown hK hP _ (fl_at 0 0 rfl rfl) rfl 2 (by decide) (hts _ (List.mem_cons_of_mem _ tw_78)) (fun _ h9 => h9) rfl d_Prog_closeList_78 ?_
      obtain ⟨hi9, hf⟩ := o_gi_e hf
      refine va_iast (D := D) (pc := 81) hx hb hK hP hD hS _ 0 (fl_at 0 2 rfl rfl) rfl hi9 d_Prog_closeList_81 (fun H locs hP hD hS => ?_)
      obtain ⟨sProg_10, esProg_10, hf⟩ := o_lt_e hf
      have hP : va_P D vwCl (fl [wProg K hProg (hTab 0) sProg_10]) H := by rw [esProg_10]; exact fl_P 0 2 rfl (Nat.le_of_ble_eq_true rfl) rfl rfl hP
      have hD : va_D A (fl [wProg K hProg (hTab 0) sProg_10]) := by rw [esProg_10]; exact fl_D 0 2 rfl (Nat.le_of_ble_eq_true rfl) rfl rfl hD
      cases hf
      exact ret_v hx hb hr hlocks hK hP hS d_Prog_closeList_82
  refine lv_aload_n (pc := 0) hx hb d_Prog_closeList_0 rfl (lv_at hl 0 rfl) ?_
  refine lv_dup (pc := 1) hx hb d_Prog_closeList_1 rfl ?_
  refine va_get (D := D) (ci := 2) (v := .int (Prog_open sProg)) (C := R_Prog) (T := T_Prog) (N := 14) (pc := 2) hx hb hts (fun w h => List.mem_cons_of_mem _ (in_Prog w h)) hown hK hP _ (fl_at 0 0 rfl rfl) rfl 12 (by decide) (hts _ (List.mem_cons_of_mem _ tw_92)) (fun _ h9 => h9) rfl d_Prog_closeList_2 ?_
  refine lv_iconst (v := 1) (pc := 5) hx hb d_Prog_closeList_5 (by decide) ?_
  refine lv_isub (pc := 6) hx hb d_Prog_closeList_6 ?_
  refine va_put (D := D) (ci := 2) (v := .int ((Prog_open sProg) - 1)) (ty := .int) (C := R_Prog) (T := T_Prog) (N := 14) (pc := 7) hx hb hts (fun w h => List.mem_cons_of_mem _ (in_Prog w h)) ty_Prog ty_Prog_ok nm_Prog hown hK hP hD hS _ (fl_at 0 0 rfl rfl) rfl 12 (by decide) (hts _ (List.mem_cons_of_mem _ tw_92)) (fun _ h9 => h9) rfl (by decide +kernel) rfl rfl (Nat.le_of_ble_eq_true rfl) d_Prog_closeList_7 (fun H locs hP hD hS => ?_)
  obtain ⟨sProg_1, esProg_1, hf⟩ := o_lt_e hf
  have hP : va_P D vwCl (fl [wProg K hProg (hTab 0) sProg_1]) H := by rw [esProg_1]; exact fl_P 0 0 rfl (Nat.le_of_ble_eq_true rfl) rfl rfl hP
  have hD : va_D A (fl [wProg K hProg (hTab 0) sProg_1]) := by rw [esProg_1]; exact fl_D 0 0 rfl (Nat.le_of_ble_eq_true rfl) rfl rfl hD
  refine lv_iconst (v := 0) (pc := 10) hx hb d_Prog_closeList_10 (by decide) ?_
  refine lv_istore_n (lv' := [(1, .int 0), (0, .ref (hProg 0))]) (pc := 11) hx hb d_Prog_closeList_11 rfl hl (by decide) rfl (fun ls hl => ?_)
  have L12 : ∀ (sProg_L12 : S_Prog) (n : Nat) (x1_L12 : Int32) (H : Heap) (locs : List Loc) (ls : Array Slot), va_P D vwCl (fl [wProg K hProg (hTab 0) sProg_L12]) H → va_D A (fl [wProg K hProg (hTab 0) sProg_L12]) → va_S A s.heap H locs → lv_has ls 2 [(0, .ref (hProg 0)), (1, .int x1_L12)] → Prog_closeList_L12 fu sProg_L12 (Prog_closeList_j51 fu sProg_L12) n x1_L12 = some sProg' → W p l e rm_Prog_closeList s m ([.ref (hProg 0)] : List Value).toArray below meth c H locs 0 0 (Qv below ([.ref (hProg 0)] : List Value).toArray s D K A (fl [wProg K hProg (hTab 0) sProg'])) (F0 m 12 ls []) := by
    intro sProg_L12 n
    induction n with
    | zero =>
      intro x1_L12 H locs ls hP hD hS hl hf
      exact absurd hf (fun h => nomatch h)
    | succ n_12 ih_12 =>
      intro x1_L12 H locs ls hP hD hS hl hf
      refine lv_iload_n (pc := 12) hx hb d_Prog_closeList_12 rfl (lv_at hl 1 rfl) ?_
      refine lv_iconst (v := 4) (pc := 13) hx hb d_Prog_closeList_13 (by decide) ?_
      refine lv_icmp_ge (tgt := 51) (pc := 14) hx hb d_Prog_closeList_14 (by decide) (fun c6 => ?_) (fun c6 => ?_)
      · replace hf := o_t c6 hf
        exact J51 sProg_L12 H locs ls hP hD hS (lv_sub hl [0] rfl) hf
      · replace hf := o_f c6 hf
        refine lv_aload_n (pc := 17) hx hb d_Prog_closeList_17 rfl (lv_at hl 0 rfl) ?_
        refine va_get (D := D) (ci := 2) (v := .ref (hProg 3)) (C := R_Prog) (T := T_Prog) (N := 14) (pc := 18) hx hb hts (fun w h => List.mem_cons_of_mem _ (in_Prog w h)) hown hK hP _ (fl_at 0 0 rfl rfl) rfl 6 (by decide) (hts _ (List.mem_cons_of_mem _ tw_86)) (fun _ h9 => h9) rfl d_Prog_closeList_18 ?_
        refine lv_iload_n (pc := 21) hx hb d_Prog_closeList_21 rfl (lv_at hl 1 rfl) ?_
        obtain ⟨hi2, hf⟩ := o_gi_e hf
        refine va_iald (D := D) (pc := 22) hx hb hK hP _ 0 (fl_at 0 3 rfl rfl) rfl hi2 d_Prog_closeList_22 ?_
        refine lv_aload_n (pc := 23) hx hb d_Prog_closeList_23 rfl (lv_at hl 0 rfl) ?_
        refine va_get (D := D) (ci := 2) (v := .ref (hProg 8)) (C := R_Prog) (T := T_Prog) (N := 14) (pc := 24) hx hb hts (fun w h => List.mem_cons_of_mem _ (in_Prog w h)) hown hK hP _ (fl_at 0 0 rfl rfl) rfl 11 (by decide) (hts _ (List.mem_cons_of_mem _ tw_91)) (fun _ h9 => h9) rfl d_Prog_closeList_24 ?_
        refine lv_aload_n (pc := 27) hx hb d_Prog_closeList_27 rfl (lv_at hl 0 rfl) ?_
        refine va_get (D := D) (ci := 2) (v := .int (Prog_open sProg_L12)) (C := R_Prog) (T := T_Prog) (N := 14) (pc := 28) hx hb hts (fun w h => List.mem_cons_of_mem _ (in_Prog w h)) hown hK hP _ (fl_at 0 0 rfl rfl) rfl 12 (by decide) (hts _ (List.mem_cons_of_mem _ tw_92)) (fun _ h9 => h9) rfl d_Prog_closeList_28 ?_
        refine lv_iconst (v := 4) (pc := 31) hx hb d_Prog_closeList_31 (by decide) ?_
        refine lv_imul (pc := 32) hx hb d_Prog_closeList_32 ?_
        refine lv_iload_n (pc := 33) hx hb d_Prog_closeList_33 rfl (lv_at hl 1 rfl) ?_
        refine lv_iadd (pc := 34) hx hb d_Prog_closeList_34 ?_
        obtain ⟨hi3, hf⟩ := o_gi_e hf
        refine va_iald (D := D) (pc := 35) hx hb hK hP _ 0 (fl_at 0 8 rfl rfl) rfl hi3 d_Prog_closeList_35 ?_
        refine lv_icmp_eq (tgt := 45) (pc := 36) hx hb d_Prog_closeList_36 (by decide) (fun c5 => ?_) (fun c5 => ?_)
        · replace hf := o_t c5 hf
          refine lv_iinc (v := x1_L12 + 1) (lv' := [(1, .int (x1_L12 + 1)), (0, .ref (hProg 0))]) (pc := 45) hx hb d_Prog_closeList_45 hl (k := 1) rfl rfl (by decide) rfl (fun ls hl => ?_)
          refine lv_goto (tgt := 12) (pc := 48) hx hb d_Prog_closeList_48 (by decide) ?_
          exact ih_12 (x1_L12 + 1) H locs ls hP hD hS (lv_sub hl [1, 0] rfl) hf
        · replace hf := o_f c5 hf
          refine lv_aload_n (pc := 39) hx hb d_Prog_closeList_39 rfl (lv_at hl 0 rfl) ?_
          refine lv_iconst (v := 4) (pc := 40) hx hb d_Prog_closeList_40 (by decide) ?_
          obtain ⟨q4, hq4, hf⟩ := o_bd_e hf
          refine fi_v (pc := 41) (va_runV (As := [.int 4]) (rest := []) ⟨hx, hb, hml, hown, hts⟩ ((c_Prog_fail l D K hTab hProg sProg_L12 4 q4 hq4) _) (cwV 1 hts (gV tw_460 tw_462 tp_2 tw_3 tw_463) rfl rfl rfl (by decide +kernel) ⟨by decide, by decide⟩) ⟨mPre_blind, va_recv hK hP (ci := 2) rfl (fl_at 0 0 rfl rfl), (mPre_fl hK hF hA hP hD hS [0] rfl rfl)⟩ rfl rfl hl.1 rfl (lv_room (Nat.le_of_ble_eq_true rfl)) d_Prog_closeList_41 ⟨Nat.zero_le _, Nat.zero_le _⟩) hA hP hD hS [0] rfl rfl (fun H locs hP hD hS => ?_)
          have hP : va_P D vwCl (fl [wProg K hProg (hTab 0) q4]) H := hP
          have hD : va_D A (fl [wProg K hProg (hTab 0) q4]) := hD
          cases hf
          exact ret_v hx hb hr hlocks hK hP hS d_Prog_closeList_44
  exact L12 sProg_1 fu 0 H locs ls hP hD hS (lv_sub hl [1, 0] rfl) hf
def Prog_takeUp_j16 (x2_j16 : Int32) (sProg_j16 : S_Prog) : Option (Int32 × S_Prog) := if (Prog_size sProg_j16) < 1000 then o_gd (o_in (Prog_size sProg_j16) 1000) (o_lt (Prog_put_descriptors sProg_j16 (Prog_size sProg_j16 : Int32).toNatClampNeg x2_j16) fun sProg_4 => (o_lt (Prog_set_size sProg_4 ((Prog_size sProg_4) + 1)) fun sProg_5 => (some ((1, sProg_5))))) else o_bd (Prog_fail 2 sProg_j16) fun q6 => (some ((0, q6)))
def Prog_takeUp (a0 : Int32) (a1 : Int32) (sProg : S_Prog) : Option (Int32 × S_Prog) := if a0 < 128 then Prog_takeUp_j16 a1 sProg else o_lt (Prog_set_templatePlace sProg (a0 - 128)) fun sProg_1 => (Prog_takeUp_j16 a1 sProg_1)
abbrev rm_Prog_takeUp : Room := { frames := 1, cells := 0, slots := 0, locals := 21 }
set_option maxHeartbeats 4000000 in
set_option maxRecDepth 100000 in
theorem c_Prog_takeUp (l : Launch) (D : va_G) (K : Nat → ClassId) (hTab : Nat → Nat) (hProg : Nat → Nat) (sProg : S_Prog) (a0 : Int32) (a1 : Int32) (r : Int32) (sProg' : S_Prog) (hf : Prog_takeUp a0 a1 sProg = some ((r, sProg'))) : mi l D K y_Prog_takeUp ws_Prog_takeUp rm_Prog_takeUp [.ref (hProg 0), .int a0, .int a1] (fl [wProg K hProg (hTab 0) sProg]) (fl [wProg K hProg (hTab 0) sProg']) r := by
  refine mi_of (cc := b_Prog_takeUp) (maxL := 3) (own := "ObsMessages$Program") (by decide) rfl rfl (Nat.le_of_ble_eq_true rfl) ?_
  intro p e s m below meth c A ls hC hP hD hS hl
  obtain ⟨hx, hb, hml, hown, hts, hr, hlocks, hK, hF, hA⟩ := hC
  have hP : va_P D vwCl (fl [wProg K hProg (hTab 0) sProg]) s.heap := hP
  have hl : lv_has ls 3 [(0, .ref (hProg 0)), (1, .int a0), (2, .int a1)] := hl
  suffices hW : ∀ (H : Heap) (locs : List Loc), va_P D vwCl (fl [wProg K hProg (hTab 0) sProg]) H → va_S A s.heap H locs → W p l e rm_Prog_takeUp s m ([.ref (hProg 0), .int a0, .int a1] : List Value).toArray below meth c H locs 0 0 (Qi below ([.ref (hProg 0), .int a0, .int a1] : List Value).toArray s D K A (fl [wProg K hProg (hTab 0) sProg']) r) (F0 m 0 ls []) from hW s.heap [] hP hS
  clear hP hS
  intro H locs hP hS
  have J16 : ∀ (x2_j16 : Int32) (sProg_j16 : S_Prog) (H : Heap) (locs : List Loc) (ls : Array Slot), va_P D vwCl (fl [wProg K hProg (hTab 0) sProg_j16]) H → va_D A (fl [wProg K hProg (hTab 0) sProg_j16]) → va_S A s.heap H locs → lv_has ls 3 [(0, .ref (hProg 0)), (2, .int x2_j16)] → Prog_takeUp_j16 x2_j16 sProg_j16 = some ((r, sProg')) → W p l e rm_Prog_takeUp s m ([.ref (hProg 0), .int a0, .int a1] : List Value).toArray below meth c H locs 0 0 (Qi below ([.ref (hProg 0), .int a0, .int a1] : List Value).toArray s D K A (fl [wProg K hProg (hTab 0) sProg']) r) (F0 m 16 ls []) := by
    intro x2_j16 sProg_j16 H locs ls hP hD hS hl hf
    refine lv_aload_n (pc := 16) hx hb d_Prog_takeUp_16 rfl (lv_at hl 0 rfl) ?_
    refine va_get (D := D) (ci := 2) (v := .int (Prog_size sProg_j16)) (C := R_Prog) (T := T_Prog) (N := 14) (pc := 17) hx hb hts (fun w h => List.mem_cons_of_mem _ (in_Prog w h)) hown hK hP _ (fl_at 0 0 rfl rfl) rfl 2 (by decide) (hts _ (List.mem_cons_of_mem _ tw_78)) (fun _ h9 => h9) rfl d_Prog_takeUp_17 ?_
    refine lv_sipush (v := 1000) (pc := 20) hx hb d_Prog_takeUp_20 (by decide) ?_
    refine lv_icmp_lt (tgt := 33) (pc := 23) hx hb d_Prog_takeUp_23 (by decide) (fun c7 => ?_) (fun c7 => ?_)
    · replace hf := o_t c7 hf
      refine lv_aload_n (pc := 33) hx hb d_Prog_takeUp_33 rfl (lv_at hl 0 rfl) ?_
      refine va_get (D := D) (ci := 2) (v := .ref (hProg 1)) (C := R_Prog) (T := T_Prog) (N := 14) (pc := 34) hx hb hts (fun w h => List.mem_cons_of_mem _ (in_Prog w h)) hown hK hP _ (fl_at 0 0 rfl rfl) rfl 0 (by decide) (hts _ (List.mem_cons_of_mem _ tw_74)) (fun _ h9 => h9) rfl d_Prog_takeUp_34 ?_
      refine lv_aload_n (pc := 37) hx hb d_Prog_takeUp_37 rfl (lv_at hl 0 rfl) ?_
      refine va_get (D := D) (ci := 2) (v := .int (Prog_size sProg_j16)) (C := R_Prog) (T := T_Prog) (N := 14) (pc := 38) hx hb hts (fun w h => List.mem_cons_of_mem _ (in_Prog w h)) hown hK hP _ (fl_at 0 0 rfl rfl) rfl 2 (by decide) (hts _ (List.mem_cons_of_mem _ tw_78)) (fun _ h9 => h9) rfl d_Prog_takeUp_38 ?_
      refine lv_iload_n (pc := 41) hx hb d_Prog_takeUp_41 rfl (lv_at hl 1 rfl) ?_
      obtain ⟨hi3, hf⟩ := o_gi_e hf
      refine va_iast (D := D) (pc := 42) hx hb hK hP hD hS _ 0 (fl_at 0 1 rfl rfl) rfl hi3 d_Prog_takeUp_42 (fun H locs hP hD hS => ?_)
      obtain ⟨sProg_4, esProg_4, hf⟩ := o_lt_e hf
      have hP : va_P D vwCl (fl [wProg K hProg (hTab 0) sProg_4]) H := by rw [esProg_4]; exact fl_P 0 1 rfl (Nat.le_of_ble_eq_true rfl) rfl rfl hP
      have hD : va_D A (fl [wProg K hProg (hTab 0) sProg_4]) := by rw [esProg_4]; exact fl_D 0 1 rfl (Nat.le_of_ble_eq_true rfl) rfl rfl hD
      refine lv_aload_n (pc := 43) hx hb d_Prog_takeUp_43 rfl (lv_at hl 0 rfl) ?_
      refine lv_dup (pc := 44) hx hb d_Prog_takeUp_44 rfl ?_
      refine va_get (D := D) (ci := 2) (v := .int (Prog_size sProg_4)) (C := R_Prog) (T := T_Prog) (N := 14) (pc := 45) hx hb hts (fun w h => List.mem_cons_of_mem _ (in_Prog w h)) hown hK hP _ (fl_at 0 0 rfl rfl) rfl 2 (by decide) (hts _ (List.mem_cons_of_mem _ tw_78)) (fun _ h9 => h9) rfl d_Prog_takeUp_45 ?_
      refine lv_iconst (v := 1) (pc := 48) hx hb d_Prog_takeUp_48 (by decide) ?_
      refine lv_iadd (pc := 49) hx hb d_Prog_takeUp_49 ?_
      refine va_put (D := D) (ci := 2) (v := .int ((Prog_size sProg_4) + 1)) (ty := .int) (C := R_Prog) (T := T_Prog) (N := 14) (pc := 50) hx hb hts (fun w h => List.mem_cons_of_mem _ (in_Prog w h)) ty_Prog ty_Prog_ok nm_Prog hown hK hP hD hS _ (fl_at 0 0 rfl rfl) rfl 2 (by decide) (hts _ (List.mem_cons_of_mem _ tw_78)) (fun _ h9 => h9) rfl (by decide +kernel) rfl rfl (Nat.le_of_ble_eq_true rfl) d_Prog_takeUp_50 (fun H locs hP hD hS => ?_)
      obtain ⟨sProg_5, esProg_5, hf⟩ := o_lt_e hf
      have hP : va_P D vwCl (fl [wProg K hProg (hTab 0) sProg_5]) H := by rw [esProg_5]; exact fl_P 0 0 rfl (Nat.le_of_ble_eq_true rfl) rfl rfl hP
      have hD : va_D A (fl [wProg K hProg (hTab 0) sProg_5]) := by rw [esProg_5]; exact fl_D 0 0 rfl (Nat.le_of_ble_eq_true rfl) rfl rfl hD
      refine lv_iconst (v := 1) (pc := 53) hx hb d_Prog_takeUp_53 (by decide) ?_
      cases hf
      exact ret_z hx hb hr hlocks hK hP hS rfl d_Prog_takeUp_54
    · replace hf := o_f c7 hf
      refine lv_aload_n (pc := 26) hx hb d_Prog_takeUp_26 rfl (lv_at hl 0 rfl) ?_
      refine lv_iconst (v := 2) (pc := 27) hx hb d_Prog_takeUp_27 (by decide) ?_
      obtain ⟨q6, hq6, hf⟩ := o_bd_e hf
      refine fi_v (pc := 28) (va_runV (As := [.int 2]) (rest := []) ⟨hx, hb, hml, hown, hts⟩ ((c_Prog_fail l D K hTab hProg sProg_j16 2 q6 hq6) _) (cwV 1 hts (gV tw_460 tw_462 tp_2 tw_3 tw_463) rfl rfl rfl (by decide +kernel) ⟨by decide, by decide⟩) ⟨mPre_blind, va_recv hK hP (ci := 2) rfl (fl_at 0 0 rfl rfl), (mPre_fl hK hF hA hP hD hS [0] rfl rfl)⟩ rfl rfl hl.1 rfl (lv_room (Nat.le_of_ble_eq_true rfl)) d_Prog_takeUp_28 ⟨Nat.zero_le _, Nat.zero_le _⟩) hA hP hD hS [0] rfl rfl (fun H locs hP hD hS => ?_)
      have hP : va_P D vwCl (fl [wProg K hProg (hTab 0) q6]) H := hP
      have hD : va_D A (fl [wProg K hProg (hTab 0) q6]) := hD
      refine lv_iconst (v := 0) (pc := 31) hx hb d_Prog_takeUp_31 (by decide) ?_
      cases hf
      exact ret_z hx hb hr hlocks hK hP hS rfl d_Prog_takeUp_32
  refine lv_iload_n (pc := 0) hx hb d_Prog_takeUp_0 rfl (lv_at hl 1 rfl) ?_
  refine lv_sipush (v := 128) (pc := 1) hx hb d_Prog_takeUp_1 (by decide) ?_
  refine lv_icmp_lt (tgt := 16) (pc := 4) hx hb d_Prog_takeUp_4 (by decide) (fun c2 => ?_) (fun c2 => ?_)
  · replace hf := o_t c2 hf
    exact J16 a1 sProg H locs ls hP hD hS (lv_sub hl [0, 2] rfl) hf
  · replace hf := o_f c2 hf
    refine lv_aload_n (pc := 7) hx hb d_Prog_takeUp_7 rfl (lv_at hl 0 rfl) ?_
    refine lv_iload_n (pc := 8) hx hb d_Prog_takeUp_8 rfl (lv_at hl 1 rfl) ?_
    refine lv_sipush (v := 128) (pc := 9) hx hb d_Prog_takeUp_9 (by decide) ?_
    refine lv_isub (pc := 12) hx hb d_Prog_takeUp_12 ?_
    refine va_put (D := D) (ci := 2) (v := .int (a0 - 128)) (ty := .int) (C := R_Prog) (T := T_Prog) (N := 14) (pc := 13) hx hb hts (fun w h => List.mem_cons_of_mem _ (in_Prog w h)) ty_Prog ty_Prog_ok nm_Prog hown hK hP hD hS _ (fl_at 0 0 rfl rfl) rfl 13 (by decide) (hts _ (List.mem_cons_of_mem _ tw_93)) (fun _ h9 => h9) rfl (by decide +kernel) rfl rfl (Nat.le_of_ble_eq_true rfl) d_Prog_takeUp_13 (fun H locs hP hD hS => ?_)
    obtain ⟨sProg_1, esProg_1, hf⟩ := o_lt_e hf
    have hP : va_P D vwCl (fl [wProg K hProg (hTab 0) sProg_1]) H := by rw [esProg_1]; exact fl_P 0 0 rfl (Nat.le_of_ble_eq_true rfl) rfl rfl hP
    have hD : va_D A (fl [wProg K hProg (hTab 0) sProg_1]) := by rw [esProg_1]; exact fl_D 0 0 rfl (Nat.le_of_ble_eq_true rfl) rfl rfl hD
    exact J16 a1 sProg_1 H locs ls hP hD hS (lv_sub hl [0, 2] rfl) hf
def Prog_lookAtElement (fu : Nat) (sTab : S_Tab) (a0 : Int32) (sProg : S_Prog) : Option (S_Prog) := o_bd (Tab_inForce fu sTab a0) fun q1 => (if q1 = ((-1)) then o_bd (Prog_fail 1 sProg) fun q16 => (some q16) else o_gd (o_in q1 320) (o_gd (o_in 0 4) (o_bd (Desc_addedWidth (Prog_settings sProg (0 : Int32).toNatClampNeg)) fun q4 => (o_lt ((Tab_widths sTab (q1 : Int32).toNatClampNeg) + q4) fun u5 => (o_gd (o_in q1 320) (o_gd (o_in 1 4) (o_bd (Desc_addedScale (Prog_settings sProg (1 : Int32).toNatClampNeg)) fun q8 => (o_lt ((Tab_scales sTab (q1 : Int32).toNatClampNeg) + q8) fun u9 => (o_bd (Tab_isWidth u5) fun q10 => (if q10 = 0 then o_bd (Prog_fail 5 sProg) fun q11 => (some q11) else o_bd (Tab_isScale u9) fun q12 => (if q12 = 0 then o_bd (Prog_fail 5 sProg) fun q13 => (some q13) else some sProg)))))))))))
abbrev rm_Prog_lookAtElement : Room := { frames := 2, cells := 0, slots := 0, locals := 43 }
set_option maxHeartbeats 4000000 in
set_option maxRecDepth 100000 in
theorem c_Prog_lookAtElement (l : Launch) (D : va_G) (K : Nat → ClassId) (fu : Nat) (hTab : Nat → Nat) (hProg : Nat → Nat) (sTab : S_Tab) (sProg : S_Prog) (a0 : Int32) (sProg' : S_Prog) (hf : Prog_lookAtElement fu sTab a0 sProg = some sProg') : mv l D K y_Prog_lookAtElement ws_Prog_lookAtElement rm_Prog_lookAtElement [.ref (hProg 0), .int a0] (fl [wTab K hTab sTab, wProg K hProg (hTab 0) sProg]) (fl [wTab K hTab sTab, wProg K hProg (hTab 0) sProg']) := by
  refine mv_of (cc := b_Prog_lookAtElement) (maxL := 5) (own := "ObsMessages$Program") (by decide) rfl rfl (Nat.le_of_ble_eq_true rfl) ?_
  intro p e s m below meth c A ls hC hP hD hS hl
  obtain ⟨hx, hb, hml, hown, hts, hr, hlocks, hK, hF, hA⟩ := hC
  have hP : va_P D vwCl (fl [wTab K hTab sTab, wProg K hProg (hTab 0) sProg]) s.heap := hP
  have hl : lv_has ls 5 [(0, .ref (hProg 0)), (1, .int a0)] := hl
  suffices hW : ∀ (H : Heap) (locs : List Loc), va_P D vwCl (fl [wTab K hTab sTab, wProg K hProg (hTab 0) sProg]) H → va_S A s.heap H locs → W p l e rm_Prog_lookAtElement s m ([.ref (hProg 0), .int a0] : List Value).toArray below meth c H locs 0 0 (Qv below ([.ref (hProg 0), .int a0] : List Value).toArray s D K A (fl [wTab K hTab sTab, wProg K hProg (hTab 0) sProg'])) (F0 m 0 ls []) from hW s.heap [] hP hS
  clear hP hS
  intro H locs hP hS
  refine lv_aload_n (pc := 0) hx hb d_Prog_lookAtElement_0 rfl (lv_at hl 0 rfl) ?_
  refine va_get (D := D) (ci := 2) (v := .ref (hTab 0)) (C := R_Prog) (T := T_Prog) (N := 14) (pc := 1) hx hb hts (fun w h => List.mem_cons_of_mem _ (in_Prog w h)) hown hK hP _ (fl_at 1 0 rfl rfl) rfl 5 (by decide) (hts _ (List.mem_cons_of_mem _ tw_85)) (fun _ h9 => h9) rfl d_Prog_lookAtElement_1 ?_
  refine lv_iload_n (pc := 4) hx hb d_Prog_lookAtElement_4 rfl (lv_at hl 1 rfl) ?_
  obtain ⟨q1, hq1, hf⟩ := o_bd_e hf
  refine fi_i (pc := 5) (va_runV (As := [.int a0]) (rest := []) ⟨hx, hb, hml, hown, hts⟩ ((c_Tab_inForce l D K fu hTab sTab a0 q1 hq1) _) (cwV 1 hts (gV tw_487 tw_488 tw_489 tw_2 tw_490) rfl rfl rfl (by decide +kernel) ⟨by decide, by decide⟩) ⟨mPre_blind, va_recv hK hP (ci := 1) rfl (fl_at 0 0 rfl rfl), (mPre_fl hK hF hA hP hD hS [0] rfl rfl)⟩ rfl rfl hl.1 rfl (lv_room (Nat.le_of_ble_eq_true rfl)) d_Prog_lookAtElement_5 ⟨Nat.zero_le _, Nat.zero_le _⟩) hA hP hD hS [0] rfl rfl (fun H locs hP hD hS => ?_)
  have hP : va_P D vwCl (fl [wTab K hTab sTab, wProg K hProg (hTab 0) sProg]) H := hP
  have hD : va_D A (fl [wTab K hTab sTab, wProg K hProg (hTab 0) sProg]) := hD
  refine lv_istore_n (lv' := [(2, .int q1), (0, .ref (hProg 0)), (1, .int a0)]) (pc := 8) hx hb d_Prog_lookAtElement_8 rfl hl (by decide) rfl (fun ls hl => ?_)
  refine lv_iload_n (pc := 9) hx hb d_Prog_lookAtElement_9 rfl (lv_at hl 0 rfl) ?_
  refine lv_iconst (v := (-1)) (pc := 10) hx hb d_Prog_lookAtElement_10 (by decide) ?_
  refine lv_icmp_ne (tgt := 20) (pc := 11) hx hb d_Prog_lookAtElement_11 (by decide) (fun c17 => ?_) (fun c17 => ?_)
  · replace hf := o_f c17 hf
    refine lv_aload_n (pc := 20) hx hb d_Prog_lookAtElement_20 rfl (lv_at hl 1 rfl) ?_
    refine va_get (D := D) (ci := 2) (v := .ref (hTab 0)) (C := R_Prog) (T := T_Prog) (N := 14) (pc := 21) hx hb hts (fun w h => List.mem_cons_of_mem _ (in_Prog w h)) hown hK hP _ (fl_at 1 0 rfl rfl) rfl 5 (by decide) (hts _ (List.mem_cons_of_mem _ tw_85)) (fun _ h9 => h9) rfl d_Prog_lookAtElement_21 ?_
    refine va_get (D := D) (ci := 1) (v := .ref (hTab 3)) (C := R_Tab) (T := T_Tab) (N := 6) (pc := 24) hx hb hts (fun w h => List.mem_cons_of_mem _ (in_Tab w h)) hown hK hP _ (fl_at 0 0 rfl rfl) rfl 2 (by decide) (hts _ (List.mem_cons_of_mem _ tw_45)) (fun _ h9 => h9) rfl d_Prog_lookAtElement_24 ?_
    refine lv_iload_n (pc := 27) hx hb d_Prog_lookAtElement_27 rfl (lv_at hl 0 rfl) ?_
    obtain ⟨hi2, hf⟩ := o_gi_e hf
    refine va_iald (D := D) (pc := 28) hx hb hK hP _ 0 (fl_at 0 3 rfl rfl) rfl hi2 d_Prog_lookAtElement_28 ?_
    refine lv_aload_n (pc := 29) hx hb d_Prog_lookAtElement_29 rfl (lv_at hl 1 rfl) ?_
    refine va_get (D := D) (ci := 2) (v := .ref (hProg 3)) (C := R_Prog) (T := T_Prog) (N := 14) (pc := 30) hx hb hts (fun w h => List.mem_cons_of_mem _ (in_Prog w h)) hown hK hP _ (fl_at 1 0 rfl rfl) rfl 6 (by decide) (hts _ (List.mem_cons_of_mem _ tw_86)) (fun _ h9 => h9) rfl d_Prog_lookAtElement_30 ?_
    refine lv_iconst (v := 0) (pc := 33) hx hb d_Prog_lookAtElement_33 (by decide) ?_
    obtain ⟨hi3, hf⟩ := o_gi_e hf
    refine va_iald (D := D) (pc := 34) hx hb hK hP _ 0 (fl_at 1 3 rfl rfl) rfl hi3 d_Prog_lookAtElement_34 ?_
    obtain ⟨q4, hq4, hf⟩ := o_bd_e hf
    refine fi_i (pc := 35) (va_runS (As := [.int (Prog_settings sProg (0 : Int32).toNatClampNeg)]) (rest := [.int (Tab_widths sTab (q1 : Int32).toNatClampNeg)]) ⟨hx, hb, hml, hown, hts⟩ ((c_Desc_addedWidth l D K (Prog_settings sProg (0 : Int32).toNatClampNeg) q4 hq4) _) (va_cwS 1 hts (gT tw_491 tw_492 tw_13 tw_493) rfl rfl rfl (by decide +kernel) ⟨by decide, by decide⟩) ⟨mPre_blind, (mPre_fl hK hF hA hP hD hS [] rfl rfl)⟩ rfl rfl hl.1 rfl (lv_room (Nat.le_of_ble_eq_true rfl)) d_Prog_lookAtElement_35 ⟨Nat.zero_le _, Nat.zero_le _⟩) hA hP hD hS [] rfl rfl (fun H locs hP hD hS => ?_)
    have hP : va_P D vwCl (fl [wTab K hTab sTab, wProg K hProg (hTab 0) sProg]) H := hP
    have hD : va_D A (fl [wTab K hTab sTab, wProg K hProg (hTab 0) sProg]) := hD
    refine lv_iadd (pc := 38) hx hb d_Prog_lookAtElement_38 ?_
    refine lv_topi (fun u5 eu5 => ?_)
    replace hf := o_lt_a eu5 hf
    refine lv_istore_n (lv' := [(3, .int u5), (2, .int q1), (0, .ref (hProg 0)), (1, .int a0)]) (pc := 39) hx hb d_Prog_lookAtElement_39 rfl hl (by decide) rfl (fun ls hl => ?_)
    refine lv_aload_n (pc := 40) hx hb d_Prog_lookAtElement_40 rfl (lv_at hl 2 rfl) ?_
    refine va_get (D := D) (ci := 2) (v := .ref (hTab 0)) (C := R_Prog) (T := T_Prog) (N := 14) (pc := 41) hx hb hts (fun w h => List.mem_cons_of_mem _ (in_Prog w h)) hown hK hP _ (fl_at 1 0 rfl rfl) rfl 5 (by decide) (hts _ (List.mem_cons_of_mem _ tw_85)) (fun _ h9 => h9) rfl d_Prog_lookAtElement_41 ?_
    refine va_get (D := D) (ci := 1) (v := .ref (hTab 1)) (C := R_Tab) (T := T_Tab) (N := 6) (pc := 44) hx hb hts (fun w h => List.mem_cons_of_mem _ (in_Tab w h)) hown hK hP _ (fl_at 0 0 rfl rfl) rfl 0 (by decide) (hts _ (List.mem_cons_of_mem _ tw_38)) (fun _ h9 => h9) rfl d_Prog_lookAtElement_44 ?_
    refine lv_iload_n (pc := 47) hx hb d_Prog_lookAtElement_47 rfl (lv_at hl 1 rfl) ?_
    obtain ⟨hi6, hf⟩ := o_gi_e hf
    refine va_iald (D := D) (pc := 48) hx hb hK hP _ 0 (fl_at 0 1 rfl rfl) rfl hi6 d_Prog_lookAtElement_48 ?_
    refine lv_aload_n (pc := 49) hx hb d_Prog_lookAtElement_49 rfl (lv_at hl 2 rfl) ?_
    refine va_get (D := D) (ci := 2) (v := .ref (hProg 3)) (C := R_Prog) (T := T_Prog) (N := 14) (pc := 50) hx hb hts (fun w h => List.mem_cons_of_mem _ (in_Prog w h)) hown hK hP _ (fl_at 1 0 rfl rfl) rfl 6 (by decide) (hts _ (List.mem_cons_of_mem _ tw_86)) (fun _ h9 => h9) rfl d_Prog_lookAtElement_50 ?_
    refine lv_iconst (v := 1) (pc := 53) hx hb d_Prog_lookAtElement_53 (by decide) ?_
    obtain ⟨hi7, hf⟩ := o_gi_e hf
    refine va_iald (D := D) (pc := 54) hx hb hK hP _ 0 (fl_at 1 3 rfl rfl) rfl hi7 d_Prog_lookAtElement_54 ?_
    obtain ⟨q8, hq8, hf⟩ := o_bd_e hf
    refine fi_i (pc := 55) (va_runS (As := [.int (Prog_settings sProg (1 : Int32).toNatClampNeg)]) (rest := [.int (Tab_scales sTab (q1 : Int32).toNatClampNeg)]) ⟨hx, hb, hml, hown, hts⟩ ((c_Desc_addedScale l D K (Prog_settings sProg (1 : Int32).toNatClampNeg) q8 hq8) _) (va_cwS 1 hts (gT tw_494 tw_495 tw_13 tw_496) rfl rfl rfl (by decide +kernel) ⟨by decide, by decide⟩) ⟨mPre_blind, (mPre_fl hK hF hA hP hD hS [] rfl rfl)⟩ rfl rfl hl.1 rfl (lv_room (Nat.le_of_ble_eq_true rfl)) d_Prog_lookAtElement_55 ⟨Nat.zero_le _, Nat.zero_le _⟩) hA hP hD hS [] rfl rfl (fun H locs hP hD hS => ?_)
    have hP : va_P D vwCl (fl [wTab K hTab sTab, wProg K hProg (hTab 0) sProg]) H := hP
    have hD : va_D A (fl [wTab K hTab sTab, wProg K hProg (hTab 0) sProg]) := hD
    refine lv_iadd (pc := 58) hx hb d_Prog_lookAtElement_58 ?_
    refine lv_topi (fun u9 eu9 => ?_)
    replace hf := o_lt_a eu9 hf
    refine lv_istore (lv' := [(4, .int u9), (3, .int u5), (2, .int q1), (0, .ref (hProg 0)), (1, .int a0)]) (pc := 59) hx hb d_Prog_lookAtElement_59 hl (by decide) rfl (fun ls hl => ?_)
    refine lv_iload_n (pc := 61) hx hb d_Prog_lookAtElement_61 rfl (lv_at hl 1 rfl) ?_
    obtain ⟨q10, hq10, hf⟩ := o_bd_e hf
    refine fi_i (pc := 62) (va_runS (As := [.int u5]) (rest := []) ⟨hx, hb, hml, hown, hts⟩ ((c_Tab_isWidth l D K u5 q10 hq10) _) (va_cwS 1 hts (gT tw_497 tw_498 tw_2 tw_499) rfl rfl rfl (by decide +kernel) ⟨by decide, by decide⟩) ⟨mPre_blind, (mPre_fl hK hF hA hP hD hS [] rfl rfl)⟩ rfl rfl hl.1 rfl (lv_room (Nat.le_of_ble_eq_true rfl)) d_Prog_lookAtElement_62 ⟨Nat.zero_le _, Nat.zero_le _⟩) hA hP hD hS [] rfl rfl (fun H locs hP hD hS => ?_)
    have hP : va_P D vwCl (fl [wTab K hTab sTab, wProg K hProg (hTab 0) sProg]) H := hP
    have hD : va_D A (fl [wTab K hTab sTab, wProg K hProg (hTab 0) sProg]) := hD
    refine lv_if_eq (tgt := 76) (pc := 65) hx hb d_Prog_lookAtElement_65 (by decide) (fun c15 => ?_) (fun c15 => ?_)
    · replace hf := o_t c15 hf
      refine lv_aload_n (pc := 76) hx hb d_Prog_lookAtElement_76 rfl (lv_at hl 3 rfl) ?_
      refine lv_iconst (v := 5) (pc := 77) hx hb d_Prog_lookAtElement_77 (by decide) ?_
      obtain ⟨q11, hq11, hf⟩ := o_bd_e hf
      refine fi_v (pc := 78) (va_runV (As := [.int 5]) (rest := []) ⟨hx, hb, hml, hown, hts⟩ ((c_Prog_fail l D K hTab hProg sProg 5 q11 hq11) _) (cwV 1 hts (gV tw_460 tw_462 tp_2 tw_3 tw_463) rfl rfl rfl (by decide +kernel) ⟨by decide, by decide⟩) ⟨mPre_blind, va_recv hK hP (ci := 2) rfl (fl_at 1 0 rfl rfl), (mPre_fl hK hF hA hP hD hS [1] rfl rfl)⟩ rfl rfl hl.1 rfl (lv_room (Nat.le_of_ble_eq_true rfl)) d_Prog_lookAtElement_78 ⟨Nat.zero_le _, Nat.zero_le _⟩) hA hP hD hS [1] rfl rfl (fun H locs hP hD hS => ?_)
      have hP : va_P D vwCl (fl [wTab K hTab sTab, wProg K hProg (hTab 0) q11]) H := hP
      have hD : va_D A (fl [wTab K hTab sTab, wProg K hProg (hTab 0) q11]) := hD
      cases hf
      exact ret_v hx hb hr hlocks hK hP hS d_Prog_lookAtElement_81
    · replace hf := o_f c15 hf
      refine lv_iload (pc := 68) hx hb d_Prog_lookAtElement_68 (lv_at hl 0 rfl) ?_
      obtain ⟨q12, hq12, hf⟩ := o_bd_e hf
      refine fi_i (pc := 70) (va_runS (As := [.int u9]) (rest := []) ⟨hx, hb, hml, hown, hts⟩ ((c_Tab_isScale l D K u9 q12 hq12) _) (va_cwS 1 hts (gT tw_500 tw_501 tw_2 tw_502) rfl rfl rfl (by decide +kernel) ⟨by decide, by decide⟩) ⟨mPre_blind, (mPre_fl hK hF hA hP hD hS [] rfl rfl)⟩ rfl rfl hl.1 rfl (lv_room (Nat.le_of_ble_eq_true rfl)) d_Prog_lookAtElement_70 ⟨Nat.zero_le _, Nat.zero_le _⟩) hA hP hD hS [] rfl rfl (fun H locs hP hD hS => ?_)
      have hP : va_P D vwCl (fl [wTab K hTab sTab, wProg K hProg (hTab 0) sProg]) H := hP
      have hD : va_D A (fl [wTab K hTab sTab, wProg K hProg (hTab 0) sProg]) := hD
      refine lv_if_ne (tgt := 81) (pc := 73) hx hb d_Prog_lookAtElement_73 (by decide) (fun c14 => ?_) (fun c14 => ?_)
      · replace hf := o_f c14 hf
        cases hf
        exact ret_v hx hb hr hlocks hK hP hS d_Prog_lookAtElement_81
      · replace hf := o_t c14 hf
        refine lv_aload_n (pc := 76) hx hb d_Prog_lookAtElement_76 rfl (lv_at hl 3 rfl) ?_
        refine lv_iconst (v := 5) (pc := 77) hx hb d_Prog_lookAtElement_77 (by decide) ?_
        obtain ⟨q13, hq13, hf⟩ := o_bd_e hf
        refine fi_v (pc := 78) (va_runV (As := [.int 5]) (rest := []) ⟨hx, hb, hml, hown, hts⟩ ((c_Prog_fail l D K hTab hProg sProg 5 q13 hq13) _) (cwV 1 hts (gV tw_460 tw_462 tp_2 tw_3 tw_463) rfl rfl rfl (by decide +kernel) ⟨by decide, by decide⟩) ⟨mPre_blind, va_recv hK hP (ci := 2) rfl (fl_at 1 0 rfl rfl), (mPre_fl hK hF hA hP hD hS [1] rfl rfl)⟩ rfl rfl hl.1 rfl (lv_room (Nat.le_of_ble_eq_true rfl)) d_Prog_lookAtElement_78 ⟨Nat.zero_le _, Nat.zero_le _⟩) hA hP hD hS [1] rfl rfl (fun H locs hP hD hS => ?_)
        have hP : va_P D vwCl (fl [wTab K hTab sTab, wProg K hProg (hTab 0) q13]) H := hP
        have hD : va_D A (fl [wTab K hTab sTab, wProg K hProg (hTab 0) q13]) := hD
        cases hf
        exact ret_v hx hb hr hlocks hK hP hS d_Prog_lookAtElement_81
  · replace hf := o_t c17 hf
    refine lv_aload_n (pc := 14) hx hb d_Prog_lookAtElement_14 rfl (lv_at hl 1 rfl) ?_
    refine lv_iconst (v := 1) (pc := 15) hx hb d_Prog_lookAtElement_15 (by decide) ?_
    obtain ⟨q16, hq16, hf⟩ := o_bd_e hf
    refine fi_v (pc := 16) (va_runV (As := [.int 1]) (rest := []) ⟨hx, hb, hml, hown, hts⟩ ((c_Prog_fail l D K hTab hProg sProg 1 q16 hq16) _) (cwV 1 hts (gV tw_460 tw_462 tp_2 tw_3 tw_463) rfl rfl rfl (by decide +kernel) ⟨by decide, by decide⟩) ⟨mPre_blind, va_recv hK hP (ci := 2) rfl (fl_at 1 0 rfl rfl), (mPre_fl hK hF hA hP hD hS [1] rfl rfl)⟩ rfl rfl hl.1 rfl (lv_room (Nat.le_of_ble_eq_true rfl)) d_Prog_lookAtElement_16 ⟨Nat.zero_le _, Nat.zero_le _⟩) hA hP hD hS [1] rfl rfl (fun H locs hP hD hS => ?_)
    have hP : va_P D vwCl (fl [wTab K hTab sTab, wProg K hProg (hTab 0) q16]) H := hP
    have hD : va_D A (fl [wTab K hTab sTab, wProg K hProg (hTab 0) q16]) := hD
    cases hf
    exact ret_v hx hb hr hlocks hK hP hS d_Prog_lookAtElement_19
def Prog_isTooDeep_j37 (fu : Nat) (sProg : S_Prog) (kc_4 : Int32 → Int32 → Option (Int32)) (ke_4 : Int32 → Option (Int32)) (x1_L4 : Int32) (x2_j37 : Int32) (x3_j37 : Int32) : Option (Int32) := kc_4 x2_j37 (x3_j37 + 1)
def Prog_isTooDeep_L4 (fu : Nat) (sProg : S_Prog) (x1_L4 : Int32) (ke_4 : Int32 → Option (Int32)) : Nat → Int32 → Int32 → Option (Int32)
  | 0, _, _ => none
  | n + 1, x2_L4, x3_L4 => if (Prog_open sProg) ≤ x3_L4 then ke_4 x2_L4 else o_gd (o_in x3_L4 64) (if (Prog_openSequences sProg (x3_L4 : Int32).toNatClampNeg) = x1_L4 then some 1 else o_gd (o_in x3_L4 64) (if (Prog_openSequences sProg (x3_L4 : Int32).toNatClampNeg) = ((-1)) then Prog_isTooDeep_j37 fu sProg (fun v0 v1 => Prog_isTooDeep_L4 fu sProg x1_L4 ke_4 n v0 v1) ke_4 x1_L4 x2_L4 x3_L4 else Prog_isTooDeep_j37 fu sProg (fun v0 v1 => Prog_isTooDeep_L4 fu sProg x1_L4 ke_4 n v0 v1) ke_4 x1_L4 (x2_L4 + 1) x3_L4))
def Prog_isTooDeep_j43 (fu : Nat) (sProg : S_Prog) (x2_j43 : Int32) : Option (Int32) := if x2_j43 < 6 then some 0 else some 1
def Prog_isTooDeep (fu : Nat) (sProg : S_Prog) (a0 : Int32) : Option (Int32) := Prog_isTooDeep_L4 fu sProg a0 (fun y2 => Prog_isTooDeep_j43 fu sProg y2) fu 0 0
abbrev rm_Prog_isTooDeep : Room := { frames := 0, cells := 0, slots := 0, locals := 0 }
set_option maxHeartbeats 4000000 in
set_option maxRecDepth 100000 in
theorem c_Prog_isTooDeep (l : Launch) (D : va_G) (K : Nat → ClassId) (fu : Nat) (hTab : Nat → Nat) (hProg : Nat → Nat) (sProg : S_Prog) (a0 : Int32) (r : Int32) (hf : Prog_isTooDeep fu sProg a0 = some r) : mi l D K y_Prog_isTooDeep ws_Prog_isTooDeep rm_Prog_isTooDeep [.ref (hProg 0), .int a0] (fl [wProg K hProg (hTab 0) sProg]) (fl [wProg K hProg (hTab 0) sProg]) r := by
  refine mi_of (cc := b_Prog_isTooDeep) (maxL := 4) (own := "ObsMessages$Program") (by decide) rfl rfl (Nat.le_of_ble_eq_true rfl) ?_
  intro p e s m below meth c A ls hC hP hD hS hl
  obtain ⟨hx, hb, hml, hown, hts, hr, hlocks, hK, hF, hA⟩ := hC
  have hP : va_P D vwCl (fl [wProg K hProg (hTab 0) sProg]) s.heap := hP
  have hl : lv_has ls 4 [(0, .ref (hProg 0)), (1, .int a0)] := hl
  suffices hW : ∀ (H : Heap) (locs : List Loc), va_P D vwCl (fl [wProg K hProg (hTab 0) sProg]) H → va_S A s.heap H locs → W p l e rm_Prog_isTooDeep s m ([.ref (hProg 0), .int a0] : List Value).toArray below meth c H locs 0 0 (Qi below ([.ref (hProg 0), .int a0] : List Value).toArray s D K A (fl [wProg K hProg (hTab 0) sProg]) r) (F0 m 0 ls []) from hW s.heap [] hP hS
  clear hP hS
  intro H locs hP hS
  have J43 : ∀ (x2_j43 : Int32) (H : Heap) (locs : List Loc) (ls : Array Slot), va_P D vwCl (fl [wProg K hProg (hTab 0) sProg]) H → va_D A (fl [wProg K hProg (hTab 0) sProg]) → va_S A s.heap H locs → lv_has ls 4 [(2, .int x2_j43)] → Prog_isTooDeep_j43 fu sProg x2_j43 = some r → W p l e rm_Prog_isTooDeep s m ([.ref (hProg 0), .int a0] : List Value).toArray below meth c H locs 0 0 (Qi below ([.ref (hProg 0), .int a0] : List Value).toArray s D K A (fl [wProg K hProg (hTab 0) sProg]) r) (F0 m 43 ls []) := by
    intro x2_j43 H locs ls hP hD hS hl hf
    refine lv_iload_n (pc := 43) hx hb d_Prog_isTooDeep_43 rfl (lv_at hl 0 rfl) ?_
    refine lv_bipush (v := 6) (pc := 44) hx hb d_Prog_isTooDeep_44 (by decide) ?_
    refine lv_icmp_lt (tgt := 53) (pc := 46) hx hb d_Prog_isTooDeep_46 (by decide) (fun c6 => ?_) (fun c6 => ?_)
    · replace hf := o_t c6 hf
      refine lv_iconst (v := 0) (pc := 53) hx hb d_Prog_isTooDeep_53 (by decide) ?_
      cases hf
      exact ret_z hx hb hr hlocks hK hP hS rfl d_Prog_isTooDeep_54
    · replace hf := o_f c6 hf
      refine lv_iconst (v := 1) (pc := 49) hx hb d_Prog_isTooDeep_49 (by decide) ?_
      refine lv_goto (tgt := 54) (pc := 50) hx hb d_Prog_isTooDeep_50 (by decide) ?_
      cases hf
      exact ret_z hx hb hr hlocks hK hP hS rfl d_Prog_isTooDeep_54
  refine lv_iconst (v := 0) (pc := 0) hx hb d_Prog_isTooDeep_0 (by decide) ?_
  refine lv_istore_n (lv' := [(2, .int 0), (0, .ref (hProg 0)), (1, .int a0)]) (pc := 1) hx hb d_Prog_isTooDeep_1 rfl hl (by decide) rfl (fun ls hl => ?_)
  refine lv_iconst (v := 0) (pc := 2) hx hb d_Prog_isTooDeep_2 (by decide) ?_
  refine lv_istore_n (lv' := [(3, .int 0), (2, .int 0), (0, .ref (hProg 0)), (1, .int a0)]) (pc := 3) hx hb d_Prog_isTooDeep_3 rfl hl (by decide) rfl (fun ls hl => ?_)
  have L4 : ∀ (x1_L4 : Int32) (n : Nat) (x2_L4 : Int32) (x3_L4 : Int32) (H : Heap) (locs : List Loc) (ls : Array Slot), va_P D vwCl (fl [wProg K hProg (hTab 0) sProg]) H → va_D A (fl [wProg K hProg (hTab 0) sProg]) → va_S A s.heap H locs → lv_has ls 4 [(0, .ref (hProg 0)), (1, .int x1_L4), (2, .int x2_L4), (3, .int x3_L4)] → Prog_isTooDeep_L4 fu sProg x1_L4 (fun y2 => Prog_isTooDeep_j43 fu sProg y2) n x2_L4 x3_L4 = some r → W p l e rm_Prog_isTooDeep s m ([.ref (hProg 0), .int a0] : List Value).toArray below meth c H locs 0 0 (Qi below ([.ref (hProg 0), .int a0] : List Value).toArray s D K A (fl [wProg K hProg (hTab 0) sProg]) r) (F0 m 4 ls []) := by
    intro x1_L4 n
    induction n with
    | zero =>
      intro x2_L4 x3_L4 H locs ls hP hD hS hl hf
      exact absurd hf (fun h => nomatch h)
    | succ n_4 ih_4 =>
      intro x2_L4 x3_L4 H locs ls hP hD hS hl hf
      have J37 : ∀ (x2_j37 : Int32) (x3_j37 : Int32) (H : Heap) (locs : List Loc) (ls : Array Slot), va_P D vwCl (fl [wProg K hProg (hTab 0) sProg]) H → va_D A (fl [wProg K hProg (hTab 0) sProg]) → va_S A s.heap H locs → lv_has ls 4 [(0, .ref (hProg 0)), (1, .int x1_L4), (2, .int x2_j37), (3, .int x3_j37)] → Prog_isTooDeep_j37 fu sProg (fun v0 v1 => Prog_isTooDeep_L4 fu sProg x1_L4 (fun y2 => Prog_isTooDeep_j43 fu sProg y2) n_4 v0 v1) (fun y2 => Prog_isTooDeep_j43 fu sProg y2) x1_L4 x2_j37 x3_j37 = some r → W p l e rm_Prog_isTooDeep s m ([.ref (hProg 0), .int a0] : List Value).toArray below meth c H locs 0 0 (Qi below ([.ref (hProg 0), .int a0] : List Value).toArray s D K A (fl [wProg K hProg (hTab 0) sProg]) r) (F0 m 37 ls []) := by
        intro x2_j37 x3_j37 H locs ls hP hD hS hl hf
        refine lv_iinc (v := x3_j37 + 1) (lv' := [(3, .int (x3_j37 + 1)), (0, .ref (hProg 0)), (1, .int x1_L4), (2, .int x2_j37)]) (pc := 37) hx hb d_Prog_isTooDeep_37 hl (k := 3) rfl rfl (by decide) rfl (fun ls hl => ?_)
        refine lv_goto (tgt := 4) (pc := 40) hx hb d_Prog_isTooDeep_40 (by decide) ?_
        exact ih_4 x2_j37 (x3_j37 + 1) H locs ls hP hD hS (lv_sub hl [1, 2, 3, 0] rfl) hf
      refine lv_iload_n (pc := 4) hx hb d_Prog_isTooDeep_4 rfl (lv_at hl 3 rfl) ?_
      refine lv_aload_n (pc := 5) hx hb d_Prog_isTooDeep_5 rfl (lv_at hl 0 rfl) ?_
      refine va_get (D := D) (ci := 2) (v := .int (Prog_open sProg)) (C := R_Prog) (T := T_Prog) (N := 14) (pc := 6) hx hb hts (fun w h => List.mem_cons_of_mem _ (in_Prog w h)) hown hK hP _ (fl_at 0 0 rfl rfl) rfl 12 (by decide) (hts _ (List.mem_cons_of_mem _ tw_92)) (fun _ h9 => h9) rfl d_Prog_isTooDeep_6 ?_
      refine lv_icmp_ge (tgt := 43) (pc := 9) hx hb d_Prog_isTooDeep_9 (by decide) (fun c5 => ?_) (fun c5 => ?_)
      · replace hf := o_t c5 hf
        exact J43 x2_L4 H locs ls hP hD hS (lv_sub hl [2] rfl) hf
      · replace hf := o_f c5 hf
        refine lv_aload_n (pc := 12) hx hb d_Prog_isTooDeep_12 rfl (lv_at hl 0 rfl) ?_
        refine va_get (D := D) (ci := 2) (v := .ref (hProg 6)) (C := R_Prog) (T := T_Prog) (N := 14) (pc := 13) hx hb hts (fun w h => List.mem_cons_of_mem _ (in_Prog w h)) hown hK hP _ (fl_at 0 0 rfl rfl) rfl 9 (by decide) (hts _ (List.mem_cons_of_mem _ tw_89)) (fun _ h9 => h9) rfl d_Prog_isTooDeep_13 ?_
        refine lv_iload_n (pc := 16) hx hb d_Prog_isTooDeep_16 rfl (lv_at hl 3 rfl) ?_
        obtain ⟨hi1, hf⟩ := o_gi_e hf
        refine va_iald (D := D) (pc := 17) hx hb hK hP _ 0 (fl_at 0 6 rfl rfl) rfl hi1 d_Prog_isTooDeep_17 ?_
        refine lv_iload_n (pc := 18) hx hb d_Prog_isTooDeep_18 rfl (lv_at hl 1 rfl) ?_
        refine lv_icmp_ne (tgt := 24) (pc := 19) hx hb d_Prog_isTooDeep_19 (by decide) (fun c4 => ?_) (fun c4 => ?_)
        · replace hf := o_f c4 hf
          refine lv_aload_n (pc := 24) hx hb d_Prog_isTooDeep_24 rfl (lv_at hl 0 rfl) ?_
          refine va_get (D := D) (ci := 2) (v := .ref (hProg 6)) (C := R_Prog) (T := T_Prog) (N := 14) (pc := 25) hx hb hts (fun w h => List.mem_cons_of_mem _ (in_Prog w h)) hown hK hP _ (fl_at 0 0 rfl rfl) rfl 9 (by decide) (hts _ (List.mem_cons_of_mem _ tw_89)) (fun _ h9 => h9) rfl d_Prog_isTooDeep_25 ?_
          refine lv_iload_n (pc := 28) hx hb d_Prog_isTooDeep_28 rfl (lv_at hl 3 rfl) ?_
          obtain ⟨hi2, hf⟩ := o_gi_e hf
          refine va_iald (D := D) (pc := 29) hx hb hK hP _ 0 (fl_at 0 6 rfl rfl) rfl hi2 d_Prog_isTooDeep_29 ?_
          refine lv_iconst (v := (-1)) (pc := 30) hx hb d_Prog_isTooDeep_30 (by decide) ?_
          refine lv_icmp_eq (tgt := 37) (pc := 31) hx hb d_Prog_isTooDeep_31 (by decide) (fun c3 => ?_) (fun c3 => ?_)
          · replace hf := o_t c3 hf
            exact J37 x2_L4 x3_L4 H locs ls hP hD hS (lv_sub hl [0, 1, 2, 3] rfl) hf
          · replace hf := o_f c3 hf
            refine lv_iinc (v := x2_L4 + 1) (lv' := [(2, .int (x2_L4 + 1)), (0, .ref (hProg 0)), (1, .int x1_L4), (3, .int x3_L4)]) (pc := 34) hx hb d_Prog_isTooDeep_34 hl (k := 2) rfl rfl (by decide) rfl (fun ls hl => ?_)
            exact J37 (x2_L4 + 1) x3_L4 H locs ls hP hD hS (lv_sub hl [1, 2, 0, 3] rfl) hf
        · replace hf := o_t c4 hf
          refine lv_iconst (v := 1) (pc := 22) hx hb d_Prog_isTooDeep_22 (by decide) ?_
          cases hf
          exact ret_z hx hb hr hlocks hK hP hS rfl d_Prog_isTooDeep_23
  exact L4 a0 fu 0 0 H locs ls hP hD hS (lv_sub hl [2, 3, 1, 0] rfl) hf
def Prog_lookAtSequence (fu : Nat) (sTab : S_Tab) (a0 : Int32) (sProg : S_Prog) : Option (S_Prog) := o_gd (o_in a0 17) (if (Tab_sizes sTab (a0 : Int32).toNatClampNeg) = 0 then o_bd (Prog_fail 1 sProg) fun q8 => (some q8) else o_bd (Prog_isTooDeep fu sProg a0) fun q2 => (if q2 = 0 then o_bd (Tab_startOf a0) fun q3 => (o_bd (Tab_endOf sTab a0) fun q4 => (o_bd (Prog_openList q3 q4 a0 ((-1)) sProg) fun q5 => (some q5))) else o_bd (Prog_fail 2 sProg) fun q6 => (some q6)))
abbrev rm_Prog_lookAtSequence : Room := { frames := 2, cells := 0, slots := 0, locals := 72 }
set_option maxHeartbeats 4000000 in
set_option maxRecDepth 100000 in
theorem c_Prog_lookAtSequence (l : Launch) (D : va_G) (K : Nat → ClassId) (fu : Nat) (hTab : Nat → Nat) (hProg : Nat → Nat) (sTab : S_Tab) (sProg : S_Prog) (a0 : Int32) (sProg' : S_Prog) (hf : Prog_lookAtSequence fu sTab a0 sProg = some sProg') : mv l D K y_Prog_lookAtSequence ws_Prog_lookAtSequence rm_Prog_lookAtSequence [.ref (hProg 0), .int a0] (fl [wTab K hTab sTab, wProg K hProg (hTab 0) sProg]) (fl [wTab K hTab sTab, wProg K hProg (hTab 0) sProg']) := by
  refine mv_of (cc := b_Prog_lookAtSequence) (maxL := 2) (own := "ObsMessages$Program") (by decide) rfl rfl (Nat.le_of_ble_eq_true rfl) ?_
  intro p e s m below meth c A ls hC hP hD hS hl
  obtain ⟨hx, hb, hml, hown, hts, hr, hlocks, hK, hF, hA⟩ := hC
  have hP : va_P D vwCl (fl [wTab K hTab sTab, wProg K hProg (hTab 0) sProg]) s.heap := hP
  have hl : lv_has ls 2 [(0, .ref (hProg 0)), (1, .int a0)] := hl
  suffices hW : ∀ (H : Heap) (locs : List Loc), va_P D vwCl (fl [wTab K hTab sTab, wProg K hProg (hTab 0) sProg]) H → va_S A s.heap H locs → W p l e rm_Prog_lookAtSequence s m ([.ref (hProg 0), .int a0] : List Value).toArray below meth c H locs 0 0 (Qv below ([.ref (hProg 0), .int a0] : List Value).toArray s D K A (fl [wTab K hTab sTab, wProg K hProg (hTab 0) sProg'])) (F0 m 0 ls []) from hW s.heap [] hP hS
  clear hP hS
  intro H locs hP hS
  refine lv_aload_n (pc := 0) hx hb d_Prog_lookAtSequence_0 rfl (lv_at hl 0 rfl) ?_
  refine va_get (D := D) (ci := 2) (v := .ref (hTab 0)) (C := R_Prog) (T := T_Prog) (N := 14) (pc := 1) hx hb hts (fun w h => List.mem_cons_of_mem _ (in_Prog w h)) hown hK hP _ (fl_at 1 0 rfl rfl) rfl 5 (by decide) (hts _ (List.mem_cons_of_mem _ tw_85)) (fun _ h9 => h9) rfl d_Prog_lookAtSequence_1 ?_
  refine va_get (D := D) (ci := 1) (v := .ref (hTab 5)) (C := R_Tab) (T := T_Tab) (N := 6) (pc := 4) hx hb hts (fun w h => List.mem_cons_of_mem _ (in_Tab w h)) hown hK hP _ (fl_at 0 0 rfl rfl) rfl 4 (by decide) (hts _ (List.mem_cons_of_mem _ tw_51)) (fun _ h9 => h9) rfl d_Prog_lookAtSequence_4 ?_
  refine lv_iload_n (pc := 7) hx hb d_Prog_lookAtSequence_7 rfl (lv_at hl 1 rfl) ?_
  obtain ⟨hi1, hf⟩ := o_gi_e hf
  refine va_iald (D := D) (pc := 8) hx hb hK hP _ 0 (fl_at 0 5 rfl rfl) rfl hi1 d_Prog_lookAtSequence_8 ?_
  refine lv_if_ne (tgt := 20) (pc := 9) hx hb d_Prog_lookAtSequence_9 (by decide) (fun c9 => ?_) (fun c9 => ?_)
  · replace hf := o_f c9 hf
    refine lv_aload_n (pc := 20) hx hb d_Prog_lookAtSequence_20 rfl (lv_at hl 0 rfl) ?_
    refine lv_iload_n (pc := 21) hx hb d_Prog_lookAtSequence_21 rfl (lv_at hl 1 rfl) ?_
    obtain ⟨q2, hq2, hf⟩ := o_bd_e hf
    refine fi_i (pc := 22) (va_runV (As := [.int a0]) (rest := []) ⟨hx, hb, hml, hown, hts⟩ ((c_Prog_isTooDeep l D K fu hTab hProg sProg a0 q2 hq2) _) (cwV 1 hts (gV tw_510 tw_512 tp_7 tw_3 tw_513) rfl rfl rfl (by decide +kernel) ⟨by decide, by decide⟩) ⟨mPre_blind, va_recv hK hP (ci := 2) rfl (fl_at 1 0 rfl rfl), (mPre_fl hK hF hA hP hD hS [1] rfl rfl)⟩ rfl rfl hl.1 rfl (lv_room (Nat.le_of_ble_eq_true rfl)) d_Prog_lookAtSequence_22 ⟨Nat.zero_le _, Nat.zero_le _⟩) hA hP hD hS [1] rfl rfl (fun H locs hP hD hS => ?_)
    have hP : va_P D vwCl (fl [wTab K hTab sTab, wProg K hProg (hTab 0) sProg]) H := hP
    have hD : va_D A (fl [wTab K hTab sTab, wProg K hProg (hTab 0) sProg]) := hD
    refine lv_if_eq (tgt := 36) (pc := 25) hx hb d_Prog_lookAtSequence_25 (by decide) (fun c7 => ?_) (fun c7 => ?_)
    · replace hf := o_t c7 hf
      refine lv_aload_n (pc := 36) hx hb d_Prog_lookAtSequence_36 rfl (lv_at hl 0 rfl) ?_
      refine lv_iload_n (pc := 37) hx hb d_Prog_lookAtSequence_37 rfl (lv_at hl 1 rfl) ?_
      obtain ⟨q3, hq3, hf⟩ := o_bd_e hf
      refine fi_i (pc := 38) (va_runS (As := [.int a0]) (rest := [.ref (hProg 0)]) ⟨hx, hb, hml, hown, hts⟩ ((c_Tab_startOf l D K a0 q3 hq3) _) (va_cwS 1 hts (gT tw_514 tw_454 tw_2 tw_455) rfl rfl rfl (by decide +kernel) ⟨by decide, by decide⟩) ⟨mPre_blind, (mPre_fl hK hF hA hP hD hS [] rfl rfl)⟩ rfl rfl hl.1 rfl (lv_room (Nat.le_of_ble_eq_true rfl)) d_Prog_lookAtSequence_38 ⟨Nat.zero_le _, Nat.zero_le _⟩) hA hP hD hS [] rfl rfl (fun H locs hP hD hS => ?_)
      have hP : va_P D vwCl (fl [wTab K hTab sTab, wProg K hProg (hTab 0) sProg]) H := hP
      have hD : va_D A (fl [wTab K hTab sTab, wProg K hProg (hTab 0) sProg]) := hD
      refine lv_aload_n (pc := 41) hx hb d_Prog_lookAtSequence_41 rfl (lv_at hl 0 rfl) ?_
      refine va_get (D := D) (ci := 2) (v := .ref (hTab 0)) (C := R_Prog) (T := T_Prog) (N := 14) (pc := 42) hx hb hts (fun w h => List.mem_cons_of_mem _ (in_Prog w h)) hown hK hP _ (fl_at 1 0 rfl rfl) rfl 5 (by decide) (hts _ (List.mem_cons_of_mem _ tw_85)) (fun _ h9 => h9) rfl d_Prog_lookAtSequence_42 ?_
      refine lv_iload_n (pc := 45) hx hb d_Prog_lookAtSequence_45 rfl (lv_at hl 1 rfl) ?_
      obtain ⟨q4, hq4, hf⟩ := o_bd_e hf
      refine fi_i (pc := 46) (va_runV (As := [.int a0]) (rest := [.int q3, .ref (hProg 0)]) ⟨hx, hb, hml, hown, hts⟩ ((c_Tab_endOf l D K hTab sTab a0 q4 hq4) _) (cwV 1 hts (gV tw_449 tw_450 tw_451 tw_2 tw_452) rfl rfl rfl (by decide +kernel) ⟨by decide, by decide⟩) ⟨mPre_blind, va_recv hK hP (ci := 1) rfl (fl_at 0 0 rfl rfl), (mPre_fl hK hF hA hP hD hS [0] rfl rfl)⟩ rfl rfl hl.1 rfl (lv_room (Nat.le_of_ble_eq_true rfl)) d_Prog_lookAtSequence_46 ⟨Nat.zero_le _, Nat.zero_le _⟩) hA hP hD hS [0] rfl rfl (fun H locs hP hD hS => ?_)
      have hP : va_P D vwCl (fl [wTab K hTab sTab, wProg K hProg (hTab 0) sProg]) H := hP
      have hD : va_D A (fl [wTab K hTab sTab, wProg K hProg (hTab 0) sProg]) := hD
      refine lv_iload_n (pc := 49) hx hb d_Prog_lookAtSequence_49 rfl (lv_at hl 1 rfl) ?_
      refine lv_iconst (v := (-1)) (pc := 50) hx hb d_Prog_lookAtSequence_50 (by decide) ?_
      obtain ⟨q5, hq5, hf⟩ := o_bd_e hf
      refine fi_v (pc := 51) (va_runV (As := [.int q3, .int q4, .int a0, .int ((-1))]) (rest := []) ⟨hx, hb, hml, hown, hts⟩ ((c_Prog_openList l D K hTab hProg sProg q3 q4 a0 ((-1)) q5 hq5) _) (cwV 4 hts (gV tw_456 tw_458 tp_1 tw_3 tw_459) rfl rfl rfl (by decide +kernel) ⟨by decide, by decide⟩) ⟨mPre_blind, va_recv hK hP (ci := 2) rfl (fl_at 1 0 rfl rfl), (mPre_fl hK hF hA hP hD hS [1] rfl rfl)⟩ rfl rfl hl.1 rfl (lv_room (Nat.le_of_ble_eq_true rfl)) d_Prog_lookAtSequence_51 ⟨Nat.zero_le _, Nat.zero_le _⟩) hA hP hD hS [1] rfl rfl (fun H locs hP hD hS => ?_)
      have hP : va_P D vwCl (fl [wTab K hTab sTab, wProg K hProg (hTab 0) q5]) H := hP
      have hD : va_D A (fl [wTab K hTab sTab, wProg K hProg (hTab 0) q5]) := hD
      cases hf
      exact ret_v hx hb hr hlocks hK hP hS d_Prog_lookAtSequence_54
    · replace hf := o_f c7 hf
      refine lv_aload_n (pc := 28) hx hb d_Prog_lookAtSequence_28 rfl (lv_at hl 0 rfl) ?_
      refine lv_iconst (v := 2) (pc := 29) hx hb d_Prog_lookAtSequence_29 (by decide) ?_
      obtain ⟨q6, hq6, hf⟩ := o_bd_e hf
      refine fi_v (pc := 30) (va_runV (As := [.int 2]) (rest := []) ⟨hx, hb, hml, hown, hts⟩ ((c_Prog_fail l D K hTab hProg sProg 2 q6 hq6) _) (cwV 1 hts (gV tw_460 tw_462 tp_2 tw_3 tw_463) rfl rfl rfl (by decide +kernel) ⟨by decide, by decide⟩) ⟨mPre_blind, va_recv hK hP (ci := 2) rfl (fl_at 1 0 rfl rfl), (mPre_fl hK hF hA hP hD hS [1] rfl rfl)⟩ rfl rfl hl.1 rfl (lv_room (Nat.le_of_ble_eq_true rfl)) d_Prog_lookAtSequence_30 ⟨Nat.zero_le _, Nat.zero_le _⟩) hA hP hD hS [1] rfl rfl (fun H locs hP hD hS => ?_)
      have hP : va_P D vwCl (fl [wTab K hTab sTab, wProg K hProg (hTab 0) q6]) H := hP
      have hD : va_D A (fl [wTab K hTab sTab, wProg K hProg (hTab 0) q6]) := hD
      refine lv_goto (tgt := 54) (pc := 33) hx hb d_Prog_lookAtSequence_33 (by decide) ?_
      cases hf
      exact ret_v hx hb hr hlocks hK hP hS d_Prog_lookAtSequence_54
  · replace hf := o_t c9 hf
    refine lv_aload_n (pc := 12) hx hb d_Prog_lookAtSequence_12 rfl (lv_at hl 0 rfl) ?_
    refine lv_iconst (v := 1) (pc := 13) hx hb d_Prog_lookAtSequence_13 (by decide) ?_
    obtain ⟨q8, hq8, hf⟩ := o_bd_e hf
    refine fi_v (pc := 14) (va_runV (As := [.int 1]) (rest := []) ⟨hx, hb, hml, hown, hts⟩ ((c_Prog_fail l D K hTab hProg sProg 1 q8 hq8) _) (cwV 1 hts (gV tw_460 tw_462 tp_2 tw_3 tw_463) rfl rfl rfl (by decide +kernel) ⟨by decide, by decide⟩) ⟨mPre_blind, va_recv hK hP (ci := 2) rfl (fl_at 1 0 rfl rfl), (mPre_fl hK hF hA hP hD hS [1] rfl rfl)⟩ rfl rfl hl.1 rfl (lv_room (Nat.le_of_ble_eq_true rfl)) d_Prog_lookAtSequence_14 ⟨Nat.zero_le _, Nat.zero_le _⟩) hA hP hD hS [1] rfl rfl (fun H locs hP hD hS => ?_)
    have hP : va_P D vwCl (fl [wTab K hTab sTab, wProg K hProg (hTab 0) q8]) H := hP
    have hD : va_D A (fl [wTab K hTab sTab, wProg K hProg (hTab 0) q8]) := hD
    refine lv_goto (tgt := 54) (pc := 17) hx hb d_Prog_lookAtSequence_17 (by decide) ?_
    cases hf
    exact ret_v hx hb hr hlocks hK hP hS d_Prog_lookAtSequence_54
def Prog_lookAtRepeat_j139 (fu : Nat) (sTab : S_Tab) (x3_j139 : Int32) (x5_j139 : Int32) (x6_j139 : Int32) (x7_j139 : Int32) (sProg_j139 : S_Prog) : Option (S_Prog) := if (Prog_fault sProg_j139) = 0 then o_gd (o_in x3_j139 64) (o_lt (Prog_put_openAts sProg_j139 (x3_j139 : Int32).toNatClampNeg x6_j139) fun sProg_22 => (o_bd (Prog_openList x5_j139 x6_j139 ((-1)) x7_j139 sProg_22) fun q23 => (some q23))) else some sProg_j139
def Prog_lookAtRepeat_j78 (fu : Nat) (sTab : S_Tab) (x2_j78 : Int32) (x3_j78 : Int32) (x4_j78 : Int32) (x5_j78 : Int32) (x6_j78 : Int32) (sProg_j78 : S_Prog) : Option (S_Prog) := if x4_j78 = 0 then Prog_lookAtRepeat_j139 fu sTab x3_j78 x5_j78 x6_j78 ((Prog_size sProg_j78) - 1) sProg_j78 else o_gd (o_in (x2_j78 + 1) 152) (o_bd (Prog_takeUp (x2_j78 + 1) (Tab_listed sTab (x2_j78 + 1 : Int32).toNatClampNeg) sProg_j78) fun q14 => (if q14.1 = 0 then Prog_lookAtRepeat_j139 fu sTab x3_j78 x5_j78 x6_j78 ((Prog_size sProg_j78) - 1) q14.2 else o_gd (o_in (x2_j78 + 1) 152) (o_bd (Tab_inForce fu sTab (Tab_listed sTab (x2_j78 + 1 : Int32).toNatClampNeg)) fun q16 => (if q16 = ((-1)) then o_bd (Prog_fail 1 q14.2) fun q17 => (Prog_lookAtRepeat_j139 fu sTab x3_j78 x5_j78 x6_j78 ((Prog_size sProg_j78) - 1) q17) else Prog_lookAtRepeat_j139 fu sTab x3_j78 x5_j78 x6_j78 ((Prog_size sProg_j78) - 1) q14.2))))
def Prog_lookAtRepeat_j28 (fu : Nat) (sTab : S_Tab) (x1_j28 : Int32) (x2_j28 : Int32) (x3_j28 : Int32) (x4_j28 : Int32) (t0_j28 : Int32) (sProg_j28 : S_Prog) : Option (S_Prog) := o_bd (Desc_lengthOf x1_j28) fun q4 => (o_gd (o_in x3_j28 64) (if (Prog_openEnds sProg_j28 (x3_j28 : Int32).toNatClampNeg) < (t0_j28 + q4) then o_bd (Prog_fail 3 sProg_j28) fun q6 => (some q6) else if x4_j28 = 0 then Prog_lookAtRepeat_j78 fu sTab x2_j28 x3_j28 x4_j28 t0_j28 (t0_j28 + q4) sProg_j28 else o_gd (o_in (x2_j28 + 1) 152) (o_bd (Desc_isElement (Tab_listed sTab (x2_j28 + 1 : Int32).toNatClampNeg)) fun q8 => (if q8 = 0 then o_bd (Prog_fail 3 sProg_j28) fun q9 => (some q9) else Prog_lookAtRepeat_j78 fu sTab x2_j28 x3_j28 x4_j28 t0_j28 (t0_j28 + q4) sProg_j28))))
def Prog_lookAtRepeat_j12 (fu : Nat) (sTab : S_Tab) (x1_j12 : Int32) (x2_j12 : Int32) (x3_j12 : Int32) (t0_j12 : Int32) (sProg_j12 : S_Prog) : Option (S_Prog) := if t0_j12 = 0 then Prog_lookAtRepeat_j28 fu sTab x1_j12 x2_j12 x3_j12 t0_j12 (x2_j12 + 1) sProg_j12 else Prog_lookAtRepeat_j28 fu sTab x1_j12 x2_j12 x3_j12 t0_j12 (x2_j12 + 2) sProg_j12
def Prog_lookAtRepeat (fu : Nat) (sTab : S_Tab) (a0 : Int32) (a1 : Int32) (a2 : Int32) (sProg : S_Prog) : Option (S_Prog) := o_bd (Desc_timesOf a0) fun q1 => (if q1 = 0 then Prog_lookAtRepeat_j12 fu sTab a0 a1 a2 1 sProg else Prog_lookAtRepeat_j12 fu sTab a0 a1 a2 0 sProg)
abbrev rm_Prog_lookAtRepeat : Room := { frames := 2, cells := 0, slots := 0, locals := 72 }
set_option maxHeartbeats 4000000 in
set_option maxRecDepth 100000 in
theorem c_Prog_lookAtRepeat (l : Launch) (D : va_G) (K : Nat → ClassId) (fu : Nat) (hTab : Nat → Nat) (hProg : Nat → Nat) (sTab : S_Tab) (sProg : S_Prog) (a0 : Int32) (a1 : Int32) (a2 : Int32) (sProg' : S_Prog) (hf : Prog_lookAtRepeat fu sTab a0 a1 a2 sProg = some sProg') : mv l D K y_Prog_lookAtRepeat ws_Prog_lookAtRepeat rm_Prog_lookAtRepeat [.ref (hProg 0), .int a0, .int a1, .int a2] (fl [wTab K hTab sTab, wProg K hProg (hTab 0) sProg]) (fl [wTab K hTab sTab, wProg K hProg (hTab 0) sProg']) := by
  refine mv_of (cc := b_Prog_lookAtRepeat) (maxL := 8) (own := "ObsMessages$Program") (by decide) rfl rfl (Nat.le_of_ble_eq_true rfl) ?_
  intro p e s m below meth c A ls hC hP hD hS hl
  obtain ⟨hx, hb, hml, hown, hts, hr, hlocks, hK, hF, hA⟩ := hC
  have hP : va_P D vwCl (fl [wTab K hTab sTab, wProg K hProg (hTab 0) sProg]) s.heap := hP
  have hl : lv_has ls 8 [(0, .ref (hProg 0)), (1, .int a0), (2, .int a1), (3, .int a2)] := hl
  suffices hW : ∀ (H : Heap) (locs : List Loc), va_P D vwCl (fl [wTab K hTab sTab, wProg K hProg (hTab 0) sProg]) H → va_S A s.heap H locs → W p l e rm_Prog_lookAtRepeat s m ([.ref (hProg 0), .int a0, .int a1, .int a2] : List Value).toArray below meth c H locs 0 0 (Qv below ([.ref (hProg 0), .int a0, .int a1, .int a2] : List Value).toArray s D K A (fl [wTab K hTab sTab, wProg K hProg (hTab 0) sProg'])) (F0 m 0 ls []) from hW s.heap [] hP hS
  clear hP hS
  intro H locs hP hS
  have J139 : ∀ (x3_j139 : Int32) (x5_j139 : Int32) (x6_j139 : Int32) (x7_j139 : Int32) (sProg_j139 : S_Prog) (H : Heap) (locs : List Loc) (ls : Array Slot), va_P D vwCl (fl [wTab K hTab sTab, wProg K hProg (hTab 0) sProg_j139]) H → va_D A (fl [wTab K hTab sTab, wProg K hProg (hTab 0) sProg_j139]) → va_S A s.heap H locs → lv_has ls 8 [(0, .ref (hProg 0)), (3, .int x3_j139), (5, .int x5_j139), (6, .int x6_j139), (7, .int x7_j139)] → Prog_lookAtRepeat_j139 fu sTab x3_j139 x5_j139 x6_j139 x7_j139 sProg_j139 = some sProg' → W p l e rm_Prog_lookAtRepeat s m ([.ref (hProg 0), .int a0, .int a1, .int a2] : List Value).toArray below meth c H locs 0 0 (Qv below ([.ref (hProg 0), .int a0, .int a1, .int a2] : List Value).toArray s D K A (fl [wTab K hTab sTab, wProg K hProg (hTab 0) sProg'])) (F0 m 139 ls []) := by
    intro x3_j139 x5_j139 x6_j139 x7_j139 sProg_j139 H locs ls hP hD hS hl hf
    refine lv_aload_n (pc := 139) hx hb d_Prog_lookAtRepeat_139 rfl (lv_at hl 0 rfl) ?_
    refine va_get (D := D) (ci := 2) (v := .int (Prog_fault sProg_j139)) (C := R_Prog) (T := T_Prog) (N := 14) (pc := 140) hx hb hts (fun w h => List.mem_cons_of_mem _ (in_Prog w h)) hown hK hP _ (fl_at 1 0 rfl rfl) rfl 3 (by decide) (hts _ (List.mem_cons_of_mem _ tw_81)) (fun _ h9 => h9) rfl d_Prog_lookAtRepeat_140 ?_
    refine lv_if_ne (tgt := 165) (pc := 143) hx hb d_Prog_lookAtRepeat_143 (by decide) (fun c24 => ?_) (fun c24 => ?_)
    · replace hf := o_f c24 hf
      cases hf
      exact ret_v hx hb hr hlocks hK hP hS d_Prog_lookAtRepeat_165
    · replace hf := o_t c24 hf
      refine lv_aload_n (pc := 146) hx hb d_Prog_lookAtRepeat_146 rfl (lv_at hl 0 rfl) ?_
      refine va_get (D := D) (ci := 2) (v := .ref (hProg 4)) (C := R_Prog) (T := T_Prog) (N := 14) (pc := 147) hx hb hts (fun w h => List.mem_cons_of_mem _ (in_Prog w h)) hown hK hP _ (fl_at 1 0 rfl rfl) rfl 7 (by decide) (hts _ (List.mem_cons_of_mem _ tw_87)) (fun _ h9 => h9) rfl d_Prog_lookAtRepeat_147 ?_
      refine lv_iload_n (pc := 150) hx hb d_Prog_lookAtRepeat_150 rfl (lv_at hl 1 rfl) ?_
      refine lv_iload (pc := 151) hx hb d_Prog_lookAtRepeat_151 (lv_at hl 3 rfl) ?_
      obtain ⟨hi21, hf⟩ := o_gi_e hf
      refine va_iast (D := D) (pc := 153) hx hb hK hP hD hS _ 0 (fl_at 1 4 rfl rfl) rfl hi21 d_Prog_lookAtRepeat_153 (fun H locs hP hD hS => ?_)
      obtain ⟨sProg_22, esProg_22, hf⟩ := o_lt_e hf
      have hP : va_P D vwCl (fl [wTab K hTab sTab, wProg K hProg (hTab 0) sProg_22]) H := by rw [esProg_22]; exact fl_P 1 4 rfl (Nat.le_of_ble_eq_true rfl) rfl rfl hP
      have hD : va_D A (fl [wTab K hTab sTab, wProg K hProg (hTab 0) sProg_22]) := by rw [esProg_22]; exact fl_D 1 4 rfl (Nat.le_of_ble_eq_true rfl) rfl rfl hD
      refine lv_aload_n (pc := 154) hx hb d_Prog_lookAtRepeat_154 rfl (lv_at hl 0 rfl) ?_
      refine lv_iload (pc := 155) hx hb d_Prog_lookAtRepeat_155 (lv_at hl 2 rfl) ?_
      refine lv_iload (pc := 157) hx hb d_Prog_lookAtRepeat_157 (lv_at hl 3 rfl) ?_
      refine lv_iconst (v := (-1)) (pc := 159) hx hb d_Prog_lookAtRepeat_159 (by decide) ?_
      refine lv_iload (pc := 160) hx hb d_Prog_lookAtRepeat_160 (lv_at hl 4 rfl) ?_
      obtain ⟨q23, hq23, hf⟩ := o_bd_e hf
      refine fi_v (pc := 162) (va_runV (As := [.int x5_j139, .int x6_j139, .int ((-1)), .int x7_j139]) (rest := []) ⟨hx, hb, hml, hown, hts⟩ ((c_Prog_openList l D K hTab hProg sProg_22 x5_j139 x6_j139 ((-1)) x7_j139 q23 hq23) _) (cwV 4 hts (gV tw_456 tw_458 tp_1 tw_3 tw_459) rfl rfl rfl (by decide +kernel) ⟨by decide, by decide⟩) ⟨mPre_blind, va_recv hK hP (ci := 2) rfl (fl_at 1 0 rfl rfl), (mPre_fl hK hF hA hP hD hS [1] rfl rfl)⟩ rfl rfl hl.1 rfl (lv_room (Nat.le_of_ble_eq_true rfl)) d_Prog_lookAtRepeat_162 ⟨Nat.zero_le _, Nat.zero_le _⟩) hA hP hD hS [1] rfl rfl (fun H locs hP hD hS => ?_)
      have hP : va_P D vwCl (fl [wTab K hTab sTab, wProg K hProg (hTab 0) q23]) H := hP
      have hD : va_D A (fl [wTab K hTab sTab, wProg K hProg (hTab 0) q23]) := hD
      cases hf
      exact ret_v hx hb hr hlocks hK hP hS d_Prog_lookAtRepeat_165
  have J78 : ∀ (x2_j78 : Int32) (x3_j78 : Int32) (x4_j78 : Int32) (x5_j78 : Int32) (x6_j78 : Int32) (sProg_j78 : S_Prog) (H : Heap) (locs : List Loc) (ls : Array Slot), va_P D vwCl (fl [wTab K hTab sTab, wProg K hProg (hTab 0) sProg_j78]) H → va_D A (fl [wTab K hTab sTab, wProg K hProg (hTab 0) sProg_j78]) → va_S A s.heap H locs → lv_has ls 8 [(0, .ref (hProg 0)), (2, .int x2_j78), (3, .int x3_j78), (4, .int x4_j78), (5, .int x5_j78), (6, .int x6_j78)] → Prog_lookAtRepeat_j78 fu sTab x2_j78 x3_j78 x4_j78 x5_j78 x6_j78 sProg_j78 = some sProg' → W p l e rm_Prog_lookAtRepeat s m ([.ref (hProg 0), .int a0, .int a1, .int a2] : List Value).toArray below meth c H locs 0 0 (Qv below ([.ref (hProg 0), .int a0, .int a1, .int a2] : List Value).toArray s D K A (fl [wTab K hTab sTab, wProg K hProg (hTab 0) sProg'])) (F0 m 78 ls []) := by
    intro x2_j78 x3_j78 x4_j78 x5_j78 x6_j78 sProg_j78 H locs ls hP hD hS hl hf
    refine lv_aload_n (pc := 78) hx hb d_Prog_lookAtRepeat_78 rfl (lv_at hl 0 rfl) ?_
    refine va_get (D := D) (ci := 2) (v := .int (Prog_size sProg_j78)) (C := R_Prog) (T := T_Prog) (N := 14) (pc := 79) hx hb hts (fun w h => List.mem_cons_of_mem _ (in_Prog w h)) hown hK hP _ (fl_at 1 0 rfl rfl) rfl 2 (by decide) (hts _ (List.mem_cons_of_mem _ tw_78)) (fun _ h9 => h9) rfl d_Prog_lookAtRepeat_79 ?_
    refine lv_iconst (v := 1) (pc := 82) hx hb d_Prog_lookAtRepeat_82 (by decide) ?_
    refine lv_isub (pc := 83) hx hb d_Prog_lookAtRepeat_83 ?_
    refine lv_istore (lv' := [(7, .int ((Prog_size sProg_j78) - 1)), (0, .ref (hProg 0)), (2, .int x2_j78), (3, .int x3_j78), (4, .int x4_j78), (5, .int x5_j78), (6, .int x6_j78)]) (pc := 84) hx hb d_Prog_lookAtRepeat_84 hl (by decide) rfl (fun ls hl => ?_)
    refine lv_iload (pc := 86) hx hb d_Prog_lookAtRepeat_86 (lv_at hl 4 rfl) ?_
    refine lv_if_eq (tgt := 139) (pc := 88) hx hb d_Prog_lookAtRepeat_88 (by decide) (fun c20 => ?_) (fun c20 => ?_)
    · replace hf := o_t c20 hf
      exact J139 x3_j78 x5_j78 x6_j78 ((Prog_size sProg_j78) - 1) sProg_j78 H locs ls hP hD hS (lv_sub hl [1, 3, 5, 6, 0] rfl) hf
    · replace hf := o_f c20 hf
      refine lv_aload_n (pc := 91) hx hb d_Prog_lookAtRepeat_91 rfl (lv_at hl 1 rfl) ?_
      refine lv_iload_n (pc := 92) hx hb d_Prog_lookAtRepeat_92 rfl (lv_at hl 2 rfl) ?_
      refine lv_iconst (v := 1) (pc := 93) hx hb d_Prog_lookAtRepeat_93 (by decide) ?_
      refine lv_iadd (pc := 94) hx hb d_Prog_lookAtRepeat_94 ?_
      refine lv_aload_n (pc := 95) hx hb d_Prog_lookAtRepeat_95 rfl (lv_at hl 1 rfl) ?_
      refine va_get (D := D) (ci := 2) (v := .ref (hTab 0)) (C := R_Prog) (T := T_Prog) (N := 14) (pc := 96) hx hb hts (fun w h => List.mem_cons_of_mem _ (in_Prog w h)) hown hK hP _ (fl_at 1 0 rfl rfl) rfl 5 (by decide) (hts _ (List.mem_cons_of_mem _ tw_85)) (fun _ h9 => h9) rfl d_Prog_lookAtRepeat_96 ?_
      refine va_get (D := D) (ci := 1) (v := .ref (hTab 4)) (C := R_Tab) (T := T_Tab) (N := 6) (pc := 99) hx hb hts (fun w h => List.mem_cons_of_mem _ (in_Tab w h)) hown hK hP _ (fl_at 0 0 rfl rfl) rfl 3 (by decide) (hts _ (List.mem_cons_of_mem _ tw_48)) (fun _ h9 => h9) rfl d_Prog_lookAtRepeat_99 ?_
      refine lv_iload_n (pc := 102) hx hb d_Prog_lookAtRepeat_102 rfl (lv_at hl 2 rfl) ?_
      refine lv_iconst (v := 1) (pc := 103) hx hb d_Prog_lookAtRepeat_103 (by decide) ?_
      refine lv_iadd (pc := 104) hx hb d_Prog_lookAtRepeat_104 ?_
      obtain ⟨hi13, hf⟩ := o_gi_e hf
      refine va_iald (D := D) (pc := 105) hx hb hK hP _ 0 (fl_at 0 4 rfl rfl) rfl hi13 d_Prog_lookAtRepeat_105 ?_
      obtain ⟨q14, hq14, hf⟩ := o_bd_e hf
      refine fi_i (pc := 106) (va_runV (As := [.int (x2_j78 + 1), .int (Tab_listed sTab (x2_j78 + 1 : Int32).toNatClampNeg)]) (rest := []) ⟨hx, hb, hml, hown, hts⟩ ((c_Prog_takeUp l D K hTab hProg sProg_j78 (x2_j78 + 1) (Tab_listed sTab (x2_j78 + 1 : Int32).toNatClampNeg) q14.1 q14.2 hq14) _) (cwV 2 hts (gV tw_471 tw_473 tp_4 tw_3 tw_474) rfl rfl rfl (by decide +kernel) ⟨by decide, by decide⟩) ⟨mPre_blind, va_recv hK hP (ci := 2) rfl (fl_at 1 0 rfl rfl), (mPre_fl hK hF hA hP hD hS [1] rfl rfl)⟩ rfl rfl hl.1 rfl (lv_room (Nat.le_of_ble_eq_true rfl)) d_Prog_lookAtRepeat_106 ⟨Nat.zero_le _, Nat.zero_le _⟩) hA hP hD hS [1] rfl rfl (fun H locs hP hD hS => ?_)
      have hP : va_P D vwCl (fl [wTab K hTab sTab, wProg K hProg (hTab 0) q14.2]) H := hP
      have hD : va_D A (fl [wTab K hTab sTab, wProg K hProg (hTab 0) q14.2]) := hD
      refine lv_if_eq (tgt := 139) (pc := 109) hx hb d_Prog_lookAtRepeat_109 (by decide) (fun c19 => ?_) (fun c19 => ?_)
      · replace hf := o_t c19 hf
        exact J139 x3_j78 x5_j78 x6_j78 ((Prog_size sProg_j78) - 1) q14.2 H locs ls hP hD hS (lv_sub hl [1, 3, 5, 6, 0] rfl) hf
      · replace hf := o_f c19 hf
        refine lv_aload_n (pc := 112) hx hb d_Prog_lookAtRepeat_112 rfl (lv_at hl 1 rfl) ?_
        refine va_get (D := D) (ci := 2) (v := .ref (hTab 0)) (C := R_Prog) (T := T_Prog) (N := 14) (pc := 113) hx hb hts (fun w h => List.mem_cons_of_mem _ (in_Prog w h)) hown hK hP _ (fl_at 1 0 rfl rfl) rfl 5 (by decide) (hts _ (List.mem_cons_of_mem _ tw_85)) (fun _ h9 => h9) rfl d_Prog_lookAtRepeat_113 ?_
        refine lv_aload_n (pc := 116) hx hb d_Prog_lookAtRepeat_116 rfl (lv_at hl 1 rfl) ?_
        refine va_get (D := D) (ci := 2) (v := .ref (hTab 0)) (C := R_Prog) (T := T_Prog) (N := 14) (pc := 117) hx hb hts (fun w h => List.mem_cons_of_mem _ (in_Prog w h)) hown hK hP _ (fl_at 1 0 rfl rfl) rfl 5 (by decide) (hts _ (List.mem_cons_of_mem _ tw_85)) (fun _ h9 => h9) rfl d_Prog_lookAtRepeat_117 ?_
        refine va_get (D := D) (ci := 1) (v := .ref (hTab 4)) (C := R_Tab) (T := T_Tab) (N := 6) (pc := 120) hx hb hts (fun w h => List.mem_cons_of_mem _ (in_Tab w h)) hown hK hP _ (fl_at 0 0 rfl rfl) rfl 3 (by decide) (hts _ (List.mem_cons_of_mem _ tw_48)) (fun _ h9 => h9) rfl d_Prog_lookAtRepeat_120 ?_
        refine lv_iload_n (pc := 123) hx hb d_Prog_lookAtRepeat_123 rfl (lv_at hl 2 rfl) ?_
        refine lv_iconst (v := 1) (pc := 124) hx hb d_Prog_lookAtRepeat_124 (by decide) ?_
        refine lv_iadd (pc := 125) hx hb d_Prog_lookAtRepeat_125 ?_
        obtain ⟨hi15, hf⟩ := o_gi_e hf
        refine va_iald (D := D) (pc := 126) hx hb hK hP _ 0 (fl_at 0 4 rfl rfl) rfl hi15 d_Prog_lookAtRepeat_126 ?_
        obtain ⟨q16, hq16, hf⟩ := o_bd_e hf
        refine fi_i (pc := 127) (va_runV (As := [.int (Tab_listed sTab (x2_j78 + 1 : Int32).toNatClampNeg)]) (rest := []) ⟨hx, hb, hml, hown, hts⟩ ((c_Tab_inForce l D K fu hTab sTab (Tab_listed sTab (x2_j78 + 1 : Int32).toNatClampNeg) q16 hq16) _) (cwV 1 hts (gV tw_487 tw_488 tw_489 tw_2 tw_490) rfl rfl rfl (by decide +kernel) ⟨by decide, by decide⟩) ⟨mPre_blind, va_recv hK hP (ci := 1) rfl (fl_at 0 0 rfl rfl), (mPre_fl hK hF hA hP hD hS [0] rfl rfl)⟩ rfl rfl hl.1 rfl (lv_room (Nat.le_of_ble_eq_true rfl)) d_Prog_lookAtRepeat_127 ⟨Nat.zero_le _, Nat.zero_le _⟩) hA hP hD hS [0] rfl rfl (fun H locs hP hD hS => ?_)
        have hP : va_P D vwCl (fl [wTab K hTab sTab, wProg K hProg (hTab 0) q14.2]) H := hP
        have hD : va_D A (fl [wTab K hTab sTab, wProg K hProg (hTab 0) q14.2]) := hD
        refine lv_iconst (v := (-1)) (pc := 130) hx hb d_Prog_lookAtRepeat_130 (by decide) ?_
        refine lv_icmp_ne (tgt := 139) (pc := 131) hx hb d_Prog_lookAtRepeat_131 (by decide) (fun c18 => ?_) (fun c18 => ?_)
        · replace hf := o_f c18 hf
          exact J139 x3_j78 x5_j78 x6_j78 ((Prog_size sProg_j78) - 1) q14.2 H locs ls hP hD hS (lv_sub hl [1, 3, 5, 6, 0] rfl) hf
        · replace hf := o_t c18 hf
          refine lv_aload_n (pc := 134) hx hb d_Prog_lookAtRepeat_134 rfl (lv_at hl 1 rfl) ?_
          refine lv_iconst (v := 1) (pc := 135) hx hb d_Prog_lookAtRepeat_135 (by decide) ?_
          obtain ⟨q17, hq17, hf⟩ := o_bd_e hf
          refine fi_v (pc := 136) (va_runV (As := [.int 1]) (rest := []) ⟨hx, hb, hml, hown, hts⟩ ((c_Prog_fail l D K hTab hProg q14.2 1 q17 hq17) _) (cwV 1 hts (gV tw_460 tw_462 tp_2 tw_3 tw_463) rfl rfl rfl (by decide +kernel) ⟨by decide, by decide⟩) ⟨mPre_blind, va_recv hK hP (ci := 2) rfl (fl_at 1 0 rfl rfl), (mPre_fl hK hF hA hP hD hS [1] rfl rfl)⟩ rfl rfl hl.1 rfl (lv_room (Nat.le_of_ble_eq_true rfl)) d_Prog_lookAtRepeat_136 ⟨Nat.zero_le _, Nat.zero_le _⟩) hA hP hD hS [1] rfl rfl (fun H locs hP hD hS => ?_)
          have hP : va_P D vwCl (fl [wTab K hTab sTab, wProg K hProg (hTab 0) q17]) H := hP
          have hD : va_D A (fl [wTab K hTab sTab, wProg K hProg (hTab 0) q17]) := hD
          exact J139 x3_j78 x5_j78 x6_j78 ((Prog_size sProg_j78) - 1) q17 H locs ls hP hD hS (lv_sub hl [1, 3, 5, 6, 0] rfl) hf
  have J28 : ∀ (x1_j28 : Int32) (x2_j28 : Int32) (x3_j28 : Int32) (x4_j28 : Int32) (t0_j28 : Int32) (sProg_j28 : S_Prog) (H : Heap) (locs : List Loc) (ls : Array Slot), va_P D vwCl (fl [wTab K hTab sTab, wProg K hProg (hTab 0) sProg_j28]) H → va_D A (fl [wTab K hTab sTab, wProg K hProg (hTab 0) sProg_j28]) → va_S A s.heap H locs → lv_has ls 8 [(0, .ref (hProg 0)), (1, .int x1_j28), (2, .int x2_j28), (3, .int x3_j28), (4, .int x4_j28)] → Prog_lookAtRepeat_j28 fu sTab x1_j28 x2_j28 x3_j28 x4_j28 t0_j28 sProg_j28 = some sProg' → W p l e rm_Prog_lookAtRepeat s m ([.ref (hProg 0), .int a0, .int a1, .int a2] : List Value).toArray below meth c H locs 0 0 (Qv below ([.ref (hProg 0), .int a0, .int a1, .int a2] : List Value).toArray s D K A (fl [wTab K hTab sTab, wProg K hProg (hTab 0) sProg'])) (F0 m 28 ls [.int t0_j28]) := by
    intro x1_j28 x2_j28 x3_j28 x4_j28 t0_j28 sProg_j28 H locs ls hP hD hS hl hf
    refine lv_istore (lv' := [(5, .int t0_j28), (0, .ref (hProg 0)), (1, .int x1_j28), (2, .int x2_j28), (3, .int x3_j28), (4, .int x4_j28)]) (pc := 28) hx hb d_Prog_lookAtRepeat_28 hl (by decide) rfl (fun ls hl => ?_)
    refine lv_iload (pc := 30) hx hb d_Prog_lookAtRepeat_30 (lv_at hl 0 rfl) ?_
    refine lv_iload_n (pc := 32) hx hb d_Prog_lookAtRepeat_32 rfl (lv_at hl 2 rfl) ?_
    obtain ⟨q4, hq4, hf⟩ := o_bd_e hf
    refine fi_i (pc := 33) (va_runS (As := [.int x1_j28]) (rest := [.int t0_j28]) ⟨hx, hb, hml, hown, hts⟩ ((c_Desc_lengthOf l D K x1_j28 q4 hq4) _) (va_cwS 1 hts (gT tw_525 tw_526 tw_13 tw_527) rfl rfl rfl (by decide +kernel) ⟨by decide, by decide⟩) ⟨mPre_blind, (mPre_fl hK hF hA hP hD hS [] rfl rfl)⟩ rfl rfl hl.1 rfl (lv_room (Nat.le_of_ble_eq_true rfl)) d_Prog_lookAtRepeat_33 ⟨Nat.zero_le _, Nat.zero_le _⟩) hA hP hD hS [] rfl rfl (fun H locs hP hD hS => ?_)
    have hP : va_P D vwCl (fl [wTab K hTab sTab, wProg K hProg (hTab 0) sProg_j28]) H := hP
    have hD : va_D A (fl [wTab K hTab sTab, wProg K hProg (hTab 0) sProg_j28]) := hD
    refine lv_iadd (pc := 36) hx hb d_Prog_lookAtRepeat_36 ?_
    refine lv_istore (lv' := [(6, .int (t0_j28 + q4)), (5, .int t0_j28), (0, .ref (hProg 0)), (1, .int x1_j28), (2, .int x2_j28), (3, .int x3_j28), (4, .int x4_j28)]) (pc := 37) hx hb d_Prog_lookAtRepeat_37 hl (by decide) rfl (fun ls hl => ?_)
    refine lv_iload (pc := 39) hx hb d_Prog_lookAtRepeat_39 (lv_at hl 0 rfl) ?_
    refine lv_aload_n (pc := 41) hx hb d_Prog_lookAtRepeat_41 rfl (lv_at hl 2 rfl) ?_
    refine va_get (D := D) (ci := 2) (v := .ref (hProg 5)) (C := R_Prog) (T := T_Prog) (N := 14) (pc := 42) hx hb hts (fun w h => List.mem_cons_of_mem _ (in_Prog w h)) hown hK hP _ (fl_at 1 0 rfl rfl) rfl 8 (by decide) (hts _ (List.mem_cons_of_mem _ tw_88)) (fun _ h9 => h9) rfl d_Prog_lookAtRepeat_42 ?_
    refine lv_iload_n (pc := 45) hx hb d_Prog_lookAtRepeat_45 rfl (lv_at hl 5 rfl) ?_
    obtain ⟨hi5, hf⟩ := o_gi_e hf
    refine va_iald (D := D) (pc := 46) hx hb hK hP _ 0 (fl_at 1 5 rfl rfl) rfl hi5 d_Prog_lookAtRepeat_46 ?_
    refine lv_icmp_gt (tgt := 72) (pc := 47) hx hb d_Prog_lookAtRepeat_47 (by decide) (fun c12 => ?_) (fun c12 => ?_)
    · replace hf := o_t c12 hf
      refine lv_aload_n (pc := 72) hx hb d_Prog_lookAtRepeat_72 rfl (lv_at hl 2 rfl) ?_
      refine lv_iconst (v := 3) (pc := 73) hx hb d_Prog_lookAtRepeat_73 (by decide) ?_
      obtain ⟨q6, hq6, hf⟩ := o_bd_e hf
      refine fi_v (pc := 74) (va_runV (As := [.int 3]) (rest := []) ⟨hx, hb, hml, hown, hts⟩ ((c_Prog_fail l D K hTab hProg sProg_j28 3 q6 hq6) _) (cwV 1 hts (gV tw_460 tw_462 tp_2 tw_3 tw_463) rfl rfl rfl (by decide +kernel) ⟨by decide, by decide⟩) ⟨mPre_blind, va_recv hK hP (ci := 2) rfl (fl_at 1 0 rfl rfl), (mPre_fl hK hF hA hP hD hS [1] rfl rfl)⟩ rfl rfl hl.1 rfl (lv_room (Nat.le_of_ble_eq_true rfl)) d_Prog_lookAtRepeat_74 ⟨Nat.zero_le _, Nat.zero_le _⟩) hA hP hD hS [1] rfl rfl (fun H locs hP hD hS => ?_)
      have hP : va_P D vwCl (fl [wTab K hTab sTab, wProg K hProg (hTab 0) q6]) H := hP
      have hD : va_D A (fl [wTab K hTab sTab, wProg K hProg (hTab 0) q6]) := hD
      cases hf
      exact ret_v hx hb hr hlocks hK hP hS d_Prog_lookAtRepeat_77
    · replace hf := o_f c12 hf
      refine lv_iload (pc := 50) hx hb d_Prog_lookAtRepeat_50 (lv_at hl 6 rfl) ?_
      refine lv_if_eq (tgt := 78) (pc := 52) hx hb d_Prog_lookAtRepeat_52 (by decide) (fun c11 => ?_) (fun c11 => ?_)
      · replace hf := o_t c11 hf
        exact J78 x2_j28 x3_j28 x4_j28 t0_j28 (t0_j28 + q4) sProg_j28 H locs ls hP hD hS (lv_sub hl [2, 4, 5, 6, 1, 0] rfl) hf
      · replace hf := o_f c11 hf
        refine lv_aload_n (pc := 55) hx hb d_Prog_lookAtRepeat_55 rfl (lv_at hl 2 rfl) ?_
        refine va_get (D := D) (ci := 2) (v := .ref (hTab 0)) (C := R_Prog) (T := T_Prog) (N := 14) (pc := 56) hx hb hts (fun w h => List.mem_cons_of_mem _ (in_Prog w h)) hown hK hP _ (fl_at 1 0 rfl rfl) rfl 5 (by decide) (hts _ (List.mem_cons_of_mem _ tw_85)) (fun _ h9 => h9) rfl d_Prog_lookAtRepeat_56 ?_
        refine va_get (D := D) (ci := 1) (v := .ref (hTab 4)) (C := R_Tab) (T := T_Tab) (N := 6) (pc := 59) hx hb hts (fun w h => List.mem_cons_of_mem _ (in_Tab w h)) hown hK hP _ (fl_at 0 0 rfl rfl) rfl 3 (by decide) (hts _ (List.mem_cons_of_mem _ tw_48)) (fun _ h9 => h9) rfl d_Prog_lookAtRepeat_59 ?_
        refine lv_iload_n (pc := 62) hx hb d_Prog_lookAtRepeat_62 rfl (lv_at hl 4 rfl) ?_
        refine lv_iconst (v := 1) (pc := 63) hx hb d_Prog_lookAtRepeat_63 (by decide) ?_
        refine lv_iadd (pc := 64) hx hb d_Prog_lookAtRepeat_64 ?_
        obtain ⟨hi7, hf⟩ := o_gi_e hf
        refine va_iald (D := D) (pc := 65) hx hb hK hP _ 0 (fl_at 0 4 rfl rfl) rfl hi7 d_Prog_lookAtRepeat_65 ?_
        obtain ⟨q8, hq8, hf⟩ := o_bd_e hf
        refine fi_i (pc := 66) (va_runS (As := [.int (Tab_listed sTab (x2_j28 + 1 : Int32).toNatClampNeg)]) (rest := []) ⟨hx, hb, hml, hown, hts⟩ ((c_Desc_isElement l D K (Tab_listed sTab (x2_j28 + 1 : Int32).toNatClampNeg) q8 hq8) _) (va_cwS 1 hts (gT tw_482 tw_422 tw_13 tw_423) rfl rfl rfl (by decide +kernel) ⟨by decide, by decide⟩) ⟨mPre_blind, (mPre_fl hK hF hA hP hD hS [] rfl rfl)⟩ rfl rfl hl.1 rfl (lv_room (Nat.le_of_ble_eq_true rfl)) d_Prog_lookAtRepeat_66 ⟨Nat.zero_le _, Nat.zero_le _⟩) hA hP hD hS [] rfl rfl (fun H locs hP hD hS => ?_)
        have hP : va_P D vwCl (fl [wTab K hTab sTab, wProg K hProg (hTab 0) sProg_j28]) H := hP
        have hD : va_D A (fl [wTab K hTab sTab, wProg K hProg (hTab 0) sProg_j28]) := hD
        refine lv_if_ne (tgt := 78) (pc := 69) hx hb d_Prog_lookAtRepeat_69 (by decide) (fun c10 => ?_) (fun c10 => ?_)
        · replace hf := o_f c10 hf
          exact J78 x2_j28 x3_j28 x4_j28 t0_j28 (t0_j28 + q4) sProg_j28 H locs ls hP hD hS (lv_sub hl [2, 4, 5, 6, 1, 0] rfl) hf
        · replace hf := o_t c10 hf
          refine lv_aload_n (pc := 72) hx hb d_Prog_lookAtRepeat_72 rfl (lv_at hl 2 rfl) ?_
          refine lv_iconst (v := 3) (pc := 73) hx hb d_Prog_lookAtRepeat_73 (by decide) ?_
          obtain ⟨q9, hq9, hf⟩ := o_bd_e hf
          refine fi_v (pc := 74) (va_runV (As := [.int 3]) (rest := []) ⟨hx, hb, hml, hown, hts⟩ ((c_Prog_fail l D K hTab hProg sProg_j28 3 q9 hq9) _) (cwV 1 hts (gV tw_460 tw_462 tp_2 tw_3 tw_463) rfl rfl rfl (by decide +kernel) ⟨by decide, by decide⟩) ⟨mPre_blind, va_recv hK hP (ci := 2) rfl (fl_at 1 0 rfl rfl), (mPre_fl hK hF hA hP hD hS [1] rfl rfl)⟩ rfl rfl hl.1 rfl (lv_room (Nat.le_of_ble_eq_true rfl)) d_Prog_lookAtRepeat_74 ⟨Nat.zero_le _, Nat.zero_le _⟩) hA hP hD hS [1] rfl rfl (fun H locs hP hD hS => ?_)
          have hP : va_P D vwCl (fl [wTab K hTab sTab, wProg K hProg (hTab 0) q9]) H := hP
          have hD : va_D A (fl [wTab K hTab sTab, wProg K hProg (hTab 0) q9]) := hD
          cases hf
          exact ret_v hx hb hr hlocks hK hP hS d_Prog_lookAtRepeat_77
  have J12 : ∀ (x1_j12 : Int32) (x2_j12 : Int32) (x3_j12 : Int32) (t0_j12 : Int32) (sProg_j12 : S_Prog) (H : Heap) (locs : List Loc) (ls : Array Slot), va_P D vwCl (fl [wTab K hTab sTab, wProg K hProg (hTab 0) sProg_j12]) H → va_D A (fl [wTab K hTab sTab, wProg K hProg (hTab 0) sProg_j12]) → va_S A s.heap H locs → lv_has ls 8 [(0, .ref (hProg 0)), (1, .int x1_j12), (2, .int x2_j12), (3, .int x3_j12)] → Prog_lookAtRepeat_j12 fu sTab x1_j12 x2_j12 x3_j12 t0_j12 sProg_j12 = some sProg' → W p l e rm_Prog_lookAtRepeat s m ([.ref (hProg 0), .int a0, .int a1, .int a2] : List Value).toArray below meth c H locs 0 0 (Qv below ([.ref (hProg 0), .int a0, .int a1, .int a2] : List Value).toArray s D K A (fl [wTab K hTab sTab, wProg K hProg (hTab 0) sProg'])) (F0 m 12 ls [.int t0_j12]) := by
    intro x1_j12 x2_j12 x3_j12 t0_j12 sProg_j12 H locs ls hP hD hS hl hf
    refine lv_istore (lv' := [(4, .int t0_j12), (0, .ref (hProg 0)), (1, .int x1_j12), (2, .int x2_j12), (3, .int x3_j12)]) (pc := 12) hx hb d_Prog_lookAtRepeat_12 hl (by decide) rfl (fun ls hl => ?_)
    refine lv_iload (pc := 14) hx hb d_Prog_lookAtRepeat_14 (lv_at hl 0 rfl) ?_
    refine lv_if_eq (tgt := 25) (pc := 16) hx hb d_Prog_lookAtRepeat_16 (by decide) (fun c3 => ?_) (fun c3 => ?_)
    · replace hf := o_t c3 hf
      refine lv_iload_n (pc := 25) hx hb d_Prog_lookAtRepeat_25 rfl (lv_at hl 3 rfl) ?_
      refine lv_iconst (v := 1) (pc := 26) hx hb d_Prog_lookAtRepeat_26 (by decide) ?_
      refine lv_iadd (pc := 27) hx hb d_Prog_lookAtRepeat_27 ?_
      exact J28 x1_j12 x2_j12 x3_j12 t0_j12 (x2_j12 + 1) sProg_j12 H locs ls hP hD hS (lv_sub hl [1, 2, 3, 4, 0] rfl) hf
    · replace hf := o_f c3 hf
      refine lv_iload_n (pc := 19) hx hb d_Prog_lookAtRepeat_19 rfl (lv_at hl 3 rfl) ?_
      refine lv_iconst (v := 2) (pc := 20) hx hb d_Prog_lookAtRepeat_20 (by decide) ?_
      refine lv_iadd (pc := 21) hx hb d_Prog_lookAtRepeat_21 ?_
      refine lv_goto (tgt := 28) (pc := 22) hx hb d_Prog_lookAtRepeat_22 (by decide) ?_
      exact J28 x1_j12 x2_j12 x3_j12 t0_j12 (x2_j12 + 2) sProg_j12 H locs ls hP hD hS (lv_sub hl [1, 2, 3, 4, 0] rfl) hf
  refine lv_iload_n (pc := 0) hx hb d_Prog_lookAtRepeat_0 rfl (lv_at hl 1 rfl) ?_
  obtain ⟨q1, hq1, hf⟩ := o_bd_e hf
  refine fi_i (pc := 1) (va_runS (As := [.int a0]) (rest := []) ⟨hx, hb, hml, hown, hts⟩ ((c_Desc_timesOf l D K a0 q1 hq1) _) (va_cwS 1 hts (gT tw_522 tw_523 tw_13 tw_524) rfl rfl rfl (by decide +kernel) ⟨by decide, by decide⟩) ⟨mPre_blind, (mPre_fl hK hF hA hP hD hS [] rfl rfl)⟩ rfl rfl hl.1 rfl (lv_room (Nat.le_of_ble_eq_true rfl)) d_Prog_lookAtRepeat_1 ⟨Nat.zero_le _, Nat.zero_le _⟩) hA hP hD hS [] rfl rfl (fun H locs hP hD hS => ?_)
  have hP : va_P D vwCl (fl [wTab K hTab sTab, wProg K hProg (hTab 0) sProg]) H := hP
  have hD : va_D A (fl [wTab K hTab sTab, wProg K hProg (hTab 0) sProg]) := hD
  refine lv_if_ne (tgt := 11) (pc := 4) hx hb d_Prog_lookAtRepeat_4 (by decide) (fun c2 => ?_) (fun c2 => ?_)
  · replace hf := o_f c2 hf
    refine lv_iconst (v := 0) (pc := 11) hx hb d_Prog_lookAtRepeat_11 (by decide) ?_
    exact J12 a0 a1 a2 0 sProg H locs ls hP hD hS (lv_sub hl [0, 1, 2, 3] rfl) hf
  · replace hf := o_t c2 hf
    refine lv_iconst (v := 1) (pc := 7) hx hb d_Prog_lookAtRepeat_7 (by decide) ?_
    refine lv_goto (tgt := 12) (pc := 8) hx hb d_Prog_lookAtRepeat_8 (by decide) ?_
    exact J12 a0 a1 a2 1 sProg H locs ls hP hD hS (lv_sub hl [0, 1, 2, 3] rfl) hf
def Prog_lookAtOperator_j24 (x1_j24 : Int32) (x2_j24 : Int32) (x3_j24 : Int32) (t0_j24 : Int32) (sProg_j24 : S_Prog) : Option (S_Prog) := if x3_j24 = t0_j24 then o_bd (Prog_fail 4 sProg_j24) fun q6 => (some q6) else o_gd (o_in x1_j24 4) (o_lt (Prog_put_settings sProg_j24 (x1_j24 : Int32).toNatClampNeg x2_j24) fun sProg_5 => (some sProg_5))
def Prog_lookAtOperator_j14 (x1_j14 : Int32) (x2_j14 : Int32) (t0_j14 : Int32) (sProg_j14 : S_Prog) : Option (S_Prog) := if x2_j14 = 0 then Prog_lookAtOperator_j24 x1_j14 x2_j14 t0_j14 0 sProg_j14 else Prog_lookAtOperator_j24 x1_j14 x2_j14 t0_j14 1 sProg_j14
def Prog_lookAtOperator (a0 : Int32) (a1 : Int32) (sProg : S_Prog) : Option (S_Prog) := o_gd (o_in a0 4) (if (Prog_settings sProg (a0 : Int32).toNatClampNeg) = 0 then Prog_lookAtOperator_j14 a0 a1 0 sProg else Prog_lookAtOperator_j14 a0 a1 1 sProg)
abbrev rm_Prog_lookAtOperator : Room := { frames := 1, cells := 0, slots := 0, locals := 21 }
set_option maxHeartbeats 4000000 in
set_option maxRecDepth 100000 in
theorem c_Prog_lookAtOperator (l : Launch) (D : va_G) (K : Nat → ClassId) (hTab : Nat → Nat) (hProg : Nat → Nat) (sProg : S_Prog) (a0 : Int32) (a1 : Int32) (sProg' : S_Prog) (hf : Prog_lookAtOperator a0 a1 sProg = some sProg') : mv l D K y_Prog_lookAtOperator ws_Prog_lookAtOperator rm_Prog_lookAtOperator [.ref (hProg 0), .int a0, .int a1] (fl [wProg K hProg (hTab 0) sProg]) (fl [wProg K hProg (hTab 0) sProg']) := by
  refine mv_of (cc := b_Prog_lookAtOperator) (maxL := 5) (own := "ObsMessages$Program") (by decide) rfl rfl (Nat.le_of_ble_eq_true rfl) ?_
  intro p e s m below meth c A ls hC hP hD hS hl
  obtain ⟨hx, hb, hml, hown, hts, hr, hlocks, hK, hF, hA⟩ := hC
  have hP : va_P D vwCl (fl [wProg K hProg (hTab 0) sProg]) s.heap := hP
  have hl : lv_has ls 5 [(0, .ref (hProg 0)), (1, .int a0), (2, .int a1)] := hl
  suffices hW : ∀ (H : Heap) (locs : List Loc), va_P D vwCl (fl [wProg K hProg (hTab 0) sProg]) H → va_S A s.heap H locs → W p l e rm_Prog_lookAtOperator s m ([.ref (hProg 0), .int a0, .int a1] : List Value).toArray below meth c H locs 0 0 (Qv below ([.ref (hProg 0), .int a0, .int a1] : List Value).toArray s D K A (fl [wProg K hProg (hTab 0) sProg'])) (F0 m 0 ls []) from hW s.heap [] hP hS
  clear hP hS
  intro H locs hP hS
  have J24 : ∀ (x1_j24 : Int32) (x2_j24 : Int32) (x3_j24 : Int32) (t0_j24 : Int32) (sProg_j24 : S_Prog) (H : Heap) (locs : List Loc) (ls : Array Slot), va_P D vwCl (fl [wProg K hProg (hTab 0) sProg_j24]) H → va_D A (fl [wProg K hProg (hTab 0) sProg_j24]) → va_S A s.heap H locs → lv_has ls 5 [(0, .ref (hProg 0)), (1, .int x1_j24), (2, .int x2_j24), (3, .int x3_j24)] → Prog_lookAtOperator_j24 x1_j24 x2_j24 x3_j24 t0_j24 sProg_j24 = some sProg' → W p l e rm_Prog_lookAtOperator s m ([.ref (hProg 0), .int a0, .int a1] : List Value).toArray below meth c H locs 0 0 (Qv below ([.ref (hProg 0), .int a0, .int a1] : List Value).toArray s D K A (fl [wProg K hProg (hTab 0) sProg'])) (F0 m 24 ls [.int t0_j24]) := by
    intro x1_j24 x2_j24 x3_j24 t0_j24 sProg_j24 H locs ls hP hD hS hl hf
    refine lv_istore (lv' := [(4, .int t0_j24), (0, .ref (hProg 0)), (1, .int x1_j24), (2, .int x2_j24), (3, .int x3_j24)]) (pc := 24) hx hb d_Prog_lookAtOperator_24 hl (by decide) rfl (fun ls hl => ?_)
    refine lv_iload_n (pc := 26) hx hb d_Prog_lookAtOperator_26 rfl (lv_at hl 4 rfl) ?_
    refine lv_iload (pc := 27) hx hb d_Prog_lookAtOperator_27 (lv_at hl 0 rfl) ?_
    refine lv_icmp_ne (tgt := 38) (pc := 29) hx hb d_Prog_lookAtOperator_29 (by decide) (fun c7 => ?_) (fun c7 => ?_)
    · replace hf := o_f c7 hf
      refine lv_aload_n (pc := 38) hx hb d_Prog_lookAtOperator_38 rfl (lv_at hl 1 rfl) ?_
      refine va_get (D := D) (ci := 2) (v := .ref (hProg 3)) (C := R_Prog) (T := T_Prog) (N := 14) (pc := 39) hx hb hts (fun w h => List.mem_cons_of_mem _ (in_Prog w h)) hown hK hP _ (fl_at 0 0 rfl rfl) rfl 6 (by decide) (hts _ (List.mem_cons_of_mem _ tw_86)) (fun _ h9 => h9) rfl d_Prog_lookAtOperator_39 ?_
      refine lv_iload_n (pc := 42) hx hb d_Prog_lookAtOperator_42 rfl (lv_at hl 2 rfl) ?_
      refine lv_iload_n (pc := 43) hx hb d_Prog_lookAtOperator_43 rfl (lv_at hl 3 rfl) ?_
      obtain ⟨hi4, hf⟩ := o_gi_e hf
      refine va_iast (D := D) (pc := 44) hx hb hK hP hD hS _ 0 (fl_at 0 3 rfl rfl) rfl hi4 d_Prog_lookAtOperator_44 (fun H locs hP hD hS => ?_)
      obtain ⟨sProg_5, esProg_5, hf⟩ := o_lt_e hf
      have hP : va_P D vwCl (fl [wProg K hProg (hTab 0) sProg_5]) H := by rw [esProg_5]; exact fl_P 0 3 rfl (Nat.le_of_ble_eq_true rfl) rfl rfl hP
      have hD : va_D A (fl [wProg K hProg (hTab 0) sProg_5]) := by rw [esProg_5]; exact fl_D 0 3 rfl (Nat.le_of_ble_eq_true rfl) rfl rfl hD
      cases hf
      exact ret_v hx hb hr hlocks hK hP hS d_Prog_lookAtOperator_45
    · replace hf := o_t c7 hf
      refine lv_aload_n (pc := 32) hx hb d_Prog_lookAtOperator_32 rfl (lv_at hl 1 rfl) ?_
      refine lv_iconst (v := 4) (pc := 33) hx hb d_Prog_lookAtOperator_33 (by decide) ?_
      obtain ⟨q6, hq6, hf⟩ := o_bd_e hf
      refine fi_v (pc := 34) (va_runV (As := [.int 4]) (rest := []) ⟨hx, hb, hml, hown, hts⟩ ((c_Prog_fail l D K hTab hProg sProg_j24 4 q6 hq6) _) (cwV 1 hts (gV tw_460 tw_462 tp_2 tw_3 tw_463) rfl rfl rfl (by decide +kernel) ⟨by decide, by decide⟩) ⟨mPre_blind, va_recv hK hP (ci := 2) rfl (fl_at 0 0 rfl rfl), (mPre_fl hK hF hA hP hD hS [0] rfl rfl)⟩ rfl rfl hl.1 rfl (lv_room (Nat.le_of_ble_eq_true rfl)) d_Prog_lookAtOperator_34 ⟨Nat.zero_le _, Nat.zero_le _⟩) hA hP hD hS [0] rfl rfl (fun H locs hP hD hS => ?_)
      have hP : va_P D vwCl (fl [wProg K hProg (hTab 0) q6]) H := hP
      have hD : va_D A (fl [wProg K hProg (hTab 0) q6]) := hD
      cases hf
      exact ret_v hx hb hr hlocks hK hP hS d_Prog_lookAtOperator_37
  have J14 : ∀ (x1_j14 : Int32) (x2_j14 : Int32) (t0_j14 : Int32) (sProg_j14 : S_Prog) (H : Heap) (locs : List Loc) (ls : Array Slot), va_P D vwCl (fl [wProg K hProg (hTab 0) sProg_j14]) H → va_D A (fl [wProg K hProg (hTab 0) sProg_j14]) → va_S A s.heap H locs → lv_has ls 5 [(0, .ref (hProg 0)), (1, .int x1_j14), (2, .int x2_j14)] → Prog_lookAtOperator_j14 x1_j14 x2_j14 t0_j14 sProg_j14 = some sProg' → W p l e rm_Prog_lookAtOperator s m ([.ref (hProg 0), .int a0, .int a1] : List Value).toArray below meth c H locs 0 0 (Qv below ([.ref (hProg 0), .int a0, .int a1] : List Value).toArray s D K A (fl [wProg K hProg (hTab 0) sProg'])) (F0 m 14 ls [.int t0_j14]) := by
    intro x1_j14 x2_j14 t0_j14 sProg_j14 H locs ls hP hD hS hl hf
    refine lv_istore_n (lv' := [(3, .int t0_j14), (0, .ref (hProg 0)), (1, .int x1_j14), (2, .int x2_j14)]) (pc := 14) hx hb d_Prog_lookAtOperator_14 rfl hl (by decide) rfl (fun ls hl => ?_)
    refine lv_iload_n (pc := 15) hx hb d_Prog_lookAtOperator_15 rfl (lv_at hl 3 rfl) ?_
    refine lv_if_eq (tgt := 23) (pc := 16) hx hb d_Prog_lookAtOperator_16 (by decide) (fun c3 => ?_) (fun c3 => ?_)
    · replace hf := o_t c3 hf
      refine lv_iconst (v := 0) (pc := 23) hx hb d_Prog_lookAtOperator_23 (by decide) ?_
      exact J24 x1_j14 x2_j14 t0_j14 0 sProg_j14 H locs ls hP hD hS (lv_sub hl [1, 2, 3, 0] rfl) hf
    · replace hf := o_f c3 hf
      refine lv_iconst (v := 1) (pc := 19) hx hb d_Prog_lookAtOperator_19 (by decide) ?_
      refine lv_goto (tgt := 24) (pc := 20) hx hb d_Prog_lookAtOperator_20 (by decide) ?_
      exact J24 x1_j14 x2_j14 t0_j14 1 sProg_j14 H locs ls hP hD hS (lv_sub hl [1, 2, 3, 0] rfl) hf
  refine lv_aload_n (pc := 0) hx hb d_Prog_lookAtOperator_0 rfl (lv_at hl 0 rfl) ?_
  refine va_get (D := D) (ci := 2) (v := .ref (hProg 3)) (C := R_Prog) (T := T_Prog) (N := 14) (pc := 1) hx hb hts (fun w h => List.mem_cons_of_mem _ (in_Prog w h)) hown hK hP _ (fl_at 0 0 rfl rfl) rfl 6 (by decide) (hts _ (List.mem_cons_of_mem _ tw_86)) (fun _ h9 => h9) rfl d_Prog_lookAtOperator_1 ?_
  refine lv_iload_n (pc := 4) hx hb d_Prog_lookAtOperator_4 rfl (lv_at hl 1 rfl) ?_
  obtain ⟨hi1, hf⟩ := o_gi_e hf
  refine va_iald (D := D) (pc := 5) hx hb hK hP _ 0 (fl_at 0 3 rfl rfl) rfl hi1 d_Prog_lookAtOperator_5 ?_
  refine lv_if_eq (tgt := 13) (pc := 6) hx hb d_Prog_lookAtOperator_6 (by decide) (fun c2 => ?_) (fun c2 => ?_)
  · replace hf := o_t c2 hf
    refine lv_iconst (v := 0) (pc := 13) hx hb d_Prog_lookAtOperator_13 (by decide) ?_
    exact J14 a0 a1 0 sProg H locs ls hP hD hS (lv_sub hl [0, 1, 2] rfl) hf
  · replace hf := o_f c2 hf
    refine lv_iconst (v := 1) (pc := 9) hx hb d_Prog_lookAtOperator_9 (by decide) ?_
    refine lv_goto (tgt := 14) (pc := 10) hx hb d_Prog_lookAtOperator_10 (by decide) ?_
    exact J14 a0 a1 1 sProg H locs ls hP hD hS (lv_sub hl [0, 1, 2] rfl) hf
def Prog_lookAtNext (fu : Nat) (sTab : S_Tab) (sProg : S_Prog) : Option (S_Prog) := o_gd (o_in ((Prog_open sProg) - 1) 64) (o_lt (Prog_openAts sProg ((Prog_open sProg) - 1 : Int32).toNatClampNeg) fun u2 => (o_gd (o_in ((Prog_open sProg) - 1) 64) (o_lt (Prog_put_openAts sProg ((Prog_open sProg) - 1 : Int32).toNatClampNeg (u2 + 1)) fun sProg_4 => (o_gd (o_in u2 152) (o_bd (Prog_takeUp u2 (Tab_listed sTab (u2 : Int32).toNatClampNeg) sProg_4) fun q6 => (if q6.1 = 0 then some q6.2 else o_bd (Desc_operatorOf fu (Tab_listed sTab (u2 : Int32).toNatClampNeg)) fun q7 => (o_bd (Desc_isElement (Tab_listed sTab (u2 : Int32).toNatClampNeg)) fun q8 => (if q8 = 0 then o_bd (Desc_sequenceOf (Tab_listed sTab (u2 : Int32).toNatClampNeg)) fun q9 => (if q9 = ((-1)) then o_bd (Desc_isRepeat (Tab_listed sTab (u2 : Int32).toNatClampNeg)) fun q10 => (if q10 = 0 then if q7 = ((-1)) then some q6.2 else o_bd (Desc_settingOf (Tab_listed sTab (u2 : Int32).toNatClampNeg) q7) fun q11 => (o_bd (Prog_lookAtOperator q7 q11 q6.2) fun q12 => (some q12)) else o_bd (Prog_lookAtRepeat fu sTab (Tab_listed sTab (u2 : Int32).toNatClampNeg) u2 ((Prog_open sProg) - 1) q6.2) fun q14 => (some q14)) else o_bd (Desc_sequenceOf (Tab_listed sTab (u2 : Int32).toNatClampNeg)) fun q16 => (o_bd (Prog_lookAtSequence fu sTab q16 q6.2) fun q17 => (some q17))) else o_bd (Prog_lookAtElement fu sTab (Tab_listed sTab (u2 : Int32).toNatClampNeg) q6.2) fun q19 => (some q19)))))))))
abbrev rm_Prog_lookAtNext : Room := { frames := 3, cells := 0, slots := 0, locals := 99 }
set_option maxHeartbeats 4000000 in
set_option maxRecDepth 100000 in
theorem c_Prog_lookAtNext (l : Launch) (D : va_G) (K : Nat → ClassId) (fu : Nat) (hTab : Nat → Nat) (hProg : Nat → Nat) (sTab : S_Tab) (sProg : S_Prog) (sProg' : S_Prog) (hf : Prog_lookAtNext fu sTab sProg = some sProg') : mv l D K y_Prog_lookAtNext ws_Prog_lookAtNext rm_Prog_lookAtNext [.ref (hProg 0)] (fl [wTab K hTab sTab, wProg K hProg (hTab 0) sProg]) (fl [wTab K hTab sTab, wProg K hProg (hTab 0) sProg']) := by
  refine mv_of (cc := b_Prog_lookAtNext) (maxL := 5) (own := "ObsMessages$Program") (by decide) rfl rfl (Nat.le_of_ble_eq_true rfl) ?_
  intro p e s m below meth c A ls hC hP hD hS hl
  obtain ⟨hx, hb, hml, hown, hts, hr, hlocks, hK, hF, hA⟩ := hC
  have hP : va_P D vwCl (fl [wTab K hTab sTab, wProg K hProg (hTab 0) sProg]) s.heap := hP
  have hl : lv_has ls 5 [(0, .ref (hProg 0))] := hl
  suffices hW : ∀ (H : Heap) (locs : List Loc), va_P D vwCl (fl [wTab K hTab sTab, wProg K hProg (hTab 0) sProg]) H → va_S A s.heap H locs → W p l e rm_Prog_lookAtNext s m ([.ref (hProg 0)] : List Value).toArray below meth c H locs 0 0 (Qv below ([.ref (hProg 0)] : List Value).toArray s D K A (fl [wTab K hTab sTab, wProg K hProg (hTab 0) sProg'])) (F0 m 0 ls []) from hW s.heap [] hP hS
  clear hP hS
  intro H locs hP hS
  refine lv_aload_n (pc := 0) hx hb d_Prog_lookAtNext_0 rfl (lv_at hl 0 rfl) ?_
  refine va_get (D := D) (ci := 2) (v := .int (Prog_open sProg)) (C := R_Prog) (T := T_Prog) (N := 14) (pc := 1) hx hb hts (fun w h => List.mem_cons_of_mem _ (in_Prog w h)) hown hK hP _ (fl_at 1 0 rfl rfl) rfl 12 (by decide) (hts _ (List.mem_cons_of_mem _ tw_92)) (fun _ h9 => h9) rfl d_Prog_lookAtNext_1 ?_
  refine lv_iconst (v := 1) (pc := 4) hx hb d_Prog_lookAtNext_4 (by decide) ?_
  refine lv_isub (pc := 5) hx hb d_Prog_lookAtNext_5 ?_
  refine lv_istore_n (lv' := [(1, .int ((Prog_open sProg) - 1)), (0, .ref (hProg 0))]) (pc := 6) hx hb d_Prog_lookAtNext_6 rfl hl (by decide) rfl (fun ls hl => ?_)
  refine lv_aload_n (pc := 7) hx hb d_Prog_lookAtNext_7 rfl (lv_at hl 1 rfl) ?_
  refine va_get (D := D) (ci := 2) (v := .ref (hProg 4)) (C := R_Prog) (T := T_Prog) (N := 14) (pc := 8) hx hb hts (fun w h => List.mem_cons_of_mem _ (in_Prog w h)) hown hK hP _ (fl_at 1 0 rfl rfl) rfl 7 (by decide) (hts _ (List.mem_cons_of_mem _ tw_87)) (fun _ h9 => h9) rfl d_Prog_lookAtNext_8 ?_
  refine lv_iload_n (pc := 11) hx hb d_Prog_lookAtNext_11 rfl (lv_at hl 0 rfl) ?_
  obtain ⟨hi1, hf⟩ := o_gi_e hf
  refine va_iald (D := D) (pc := 12) hx hb hK hP _ 0 (fl_at 1 4 rfl rfl) rfl hi1 d_Prog_lookAtNext_12 ?_
  refine lv_topi (fun u2 eu2 => ?_)
  replace hf := o_lt_a eu2 hf
  refine lv_istore_n (lv' := [(2, .int u2), (1, .int ((Prog_open sProg) - 1)), (0, .ref (hProg 0))]) (pc := 13) hx hb d_Prog_lookAtNext_13 rfl hl (by decide) rfl (fun ls hl => ?_)
  refine lv_aload_n (pc := 14) hx hb d_Prog_lookAtNext_14 rfl (lv_at hl 2 rfl) ?_
  refine va_get (D := D) (ci := 2) (v := .ref (hProg 4)) (C := R_Prog) (T := T_Prog) (N := 14) (pc := 15) hx hb hts (fun w h => List.mem_cons_of_mem _ (in_Prog w h)) hown hK hP _ (fl_at 1 0 rfl rfl) rfl 7 (by decide) (hts _ (List.mem_cons_of_mem _ tw_87)) (fun _ h9 => h9) rfl d_Prog_lookAtNext_15 ?_
  refine lv_iload_n (pc := 18) hx hb d_Prog_lookAtNext_18 rfl (lv_at hl 1 rfl) ?_
  refine lv_iload_n (pc := 19) hx hb d_Prog_lookAtNext_19 rfl (lv_at hl 0 rfl) ?_
  refine lv_iconst (v := 1) (pc := 20) hx hb d_Prog_lookAtNext_20 (by decide) ?_
  refine lv_iadd (pc := 21) hx hb d_Prog_lookAtNext_21 ?_
  obtain ⟨hi3, hf⟩ := o_gi_e hf
  refine va_iast (D := D) (pc := 22) hx hb hK hP hD hS _ 0 (fl_at 1 4 rfl rfl) rfl hi3 d_Prog_lookAtNext_22 (fun H locs hP hD hS => ?_)
  obtain ⟨sProg_4, esProg_4, hf⟩ := o_lt_e hf
  have hP : va_P D vwCl (fl [wTab K hTab sTab, wProg K hProg (hTab 0) sProg_4]) H := by rw [esProg_4]; exact fl_P 1 4 rfl (Nat.le_of_ble_eq_true rfl) rfl rfl hP
  have hD : va_D A (fl [wTab K hTab sTab, wProg K hProg (hTab 0) sProg_4]) := by rw [esProg_4]; exact fl_D 1 4 rfl (Nat.le_of_ble_eq_true rfl) rfl rfl hD
  refine lv_aload_n (pc := 23) hx hb d_Prog_lookAtNext_23 rfl (lv_at hl 2 rfl) ?_
  refine va_get (D := D) (ci := 2) (v := .ref (hTab 0)) (C := R_Prog) (T := T_Prog) (N := 14) (pc := 24) hx hb hts (fun w h => List.mem_cons_of_mem _ (in_Prog w h)) hown hK hP _ (fl_at 1 0 rfl rfl) rfl 5 (by decide) (hts _ (List.mem_cons_of_mem _ tw_85)) (fun _ h9 => h9) rfl d_Prog_lookAtNext_24 ?_
  refine va_get (D := D) (ci := 1) (v := .ref (hTab 4)) (C := R_Tab) (T := T_Tab) (N := 6) (pc := 27) hx hb hts (fun w h => List.mem_cons_of_mem _ (in_Tab w h)) hown hK hP _ (fl_at 0 0 rfl rfl) rfl 3 (by decide) (hts _ (List.mem_cons_of_mem _ tw_48)) (fun _ h9 => h9) rfl d_Prog_lookAtNext_27 ?_
  refine lv_iload_n (pc := 30) hx hb d_Prog_lookAtNext_30 rfl (lv_at hl 0 rfl) ?_
  obtain ⟨hi5, hf⟩ := o_gi_e hf
  refine va_iald (D := D) (pc := 31) hx hb hK hP _ 0 (fl_at 0 4 rfl rfl) rfl hi5 d_Prog_lookAtNext_31 ?_
  refine lv_istore_n (lv' := [(3, .int (Tab_listed sTab (u2 : Int32).toNatClampNeg)), (2, .int u2), (1, .int ((Prog_open sProg) - 1)), (0, .ref (hProg 0))]) (pc := 32) hx hb d_Prog_lookAtNext_32 rfl hl (by decide) rfl (fun ls hl => ?_)
  refine lv_aload_n (pc := 33) hx hb d_Prog_lookAtNext_33 rfl (lv_at hl 3 rfl) ?_
  refine lv_iload_n (pc := 34) hx hb d_Prog_lookAtNext_34 rfl (lv_at hl 1 rfl) ?_
  refine lv_iload_n (pc := 35) hx hb d_Prog_lookAtNext_35 rfl (lv_at hl 0 rfl) ?_
  obtain ⟨q6, hq6, hf⟩ := o_bd_e hf
  refine fi_i (pc := 36) (va_runV (As := [.int u2, .int (Tab_listed sTab (u2 : Int32).toNatClampNeg)]) (rest := []) ⟨hx, hb, hml, hown, hts⟩ ((c_Prog_takeUp l D K hTab hProg sProg_4 u2 (Tab_listed sTab (u2 : Int32).toNatClampNeg) q6.1 q6.2 hq6) _) (cwV 2 hts (gV tw_471 tw_473 tp_4 tw_3 tw_474) rfl rfl rfl (by decide +kernel) ⟨by decide, by decide⟩) ⟨mPre_blind, va_recv hK hP (ci := 2) rfl (fl_at 1 0 rfl rfl), (mPre_fl hK hF hA hP hD hS [1] rfl rfl)⟩ rfl rfl hl.1 rfl (lv_room (Nat.le_of_ble_eq_true rfl)) d_Prog_lookAtNext_36 ⟨Nat.zero_le _, Nat.zero_le _⟩) hA hP hD hS [1] rfl rfl (fun H locs hP hD hS => ?_)
  have hP : va_P D vwCl (fl [wTab K hTab sTab, wProg K hProg (hTab 0) q6.2]) H := hP
  have hD : va_D A (fl [wTab K hTab sTab, wProg K hProg (hTab 0) q6.2]) := hD
  refine lv_if_ne (tgt := 43) (pc := 39) hx hb d_Prog_lookAtNext_39 (by decide) (fun c21 => ?_) (fun c21 => ?_)
  · replace hf := o_f c21 hf
    refine lv_iload_n (pc := 43) hx hb d_Prog_lookAtNext_43 rfl (lv_at hl 0 rfl) ?_
    obtain ⟨q7, hq7, hf⟩ := o_bd_e hf
    refine fi_i (pc := 44) (va_runS (As := [.int (Tab_listed sTab (u2 : Int32).toNatClampNeg)]) (rest := []) ⟨hx, hb, hml, hown, hts⟩ ((c_Desc_operatorOf l D K fu (Tab_listed sTab (u2 : Int32).toNatClampNeg) q7 hq7) _) (va_cwS 1 hts (gT tw_475 tw_476 tw_13 tw_477) rfl rfl rfl (by decide +kernel) ⟨by decide, by decide⟩) ⟨mPre_blind, (mPre_fl hK hF hA hP hD hS [] rfl rfl)⟩ rfl rfl hl.1 rfl (lv_room (Nat.le_of_ble_eq_true rfl)) d_Prog_lookAtNext_44 ⟨Nat.zero_le _, Nat.zero_le _⟩) hA hP hD hS [] rfl rfl (fun H locs hP hD hS => ?_)
    have hP : va_P D vwCl (fl [wTab K hTab sTab, wProg K hProg (hTab 0) q6.2]) H := hP
    have hD : va_D A (fl [wTab K hTab sTab, wProg K hProg (hTab 0) q6.2]) := hD
    refine lv_istore (lv' := [(4, .int q7), (3, .int (Tab_listed sTab (u2 : Int32).toNatClampNeg)), (2, .int u2), (1, .int ((Prog_open sProg) - 1)), (0, .ref (hProg 0))]) (pc := 47) hx hb d_Prog_lookAtNext_47 hl (by decide) rfl (fun ls hl => ?_)
    refine lv_iload_n (pc := 49) hx hb d_Prog_lookAtNext_49 rfl (lv_at hl 1 rfl) ?_
    obtain ⟨q8, hq8, hf⟩ := o_bd_e hf
    refine fi_i (pc := 50) (va_runS (As := [.int (Tab_listed sTab (u2 : Int32).toNatClampNeg)]) (rest := []) ⟨hx, hb, hml, hown, hts⟩ ((c_Desc_isElement l D K (Tab_listed sTab (u2 : Int32).toNatClampNeg) q8 hq8) _) (va_cwS 1 hts (gT tw_482 tw_422 tw_13 tw_423) rfl rfl rfl (by decide +kernel) ⟨by decide, by decide⟩) ⟨mPre_blind, (mPre_fl hK hF hA hP hD hS [] rfl rfl)⟩ rfl rfl hl.1 rfl (lv_room (Nat.le_of_ble_eq_true rfl)) d_Prog_lookAtNext_50 ⟨Nat.zero_le _, Nat.zero_le _⟩) hA hP hD hS [] rfl rfl (fun H locs hP hD hS => ?_)
    have hP : va_P D vwCl (fl [wTab K hTab sTab, wProg K hProg (hTab 0) q6.2]) H := hP
    have hD : va_D A (fl [wTab K hTab sTab, wProg K hProg (hTab 0) q6.2]) := hD
    refine lv_if_eq (tgt := 64) (pc := 53) hx hb d_Prog_lookAtNext_53 (by decide) (fun c20 => ?_) (fun c20 => ?_)
    · replace hf := o_t c20 hf
      refine lv_iload_n (pc := 64) hx hb d_Prog_lookAtNext_64 rfl (lv_at hl 1 rfl) ?_
      obtain ⟨q9, hq9, hf⟩ := o_bd_e hf
      refine fi_i (pc := 65) (va_runS (As := [.int (Tab_listed sTab (u2 : Int32).toNatClampNeg)]) (rest := []) ⟨hx, hb, hml, hown, hts⟩ ((c_Desc_sequenceOf l D K (Tab_listed sTab (u2 : Int32).toNatClampNeg) q9 hq9) _) (va_cwS 1 hts (gT tw_503 tw_504 tw_13 tw_505) rfl rfl rfl (by decide +kernel) ⟨by decide, by decide⟩) ⟨mPre_blind, (mPre_fl hK hF hA hP hD hS [] rfl rfl)⟩ rfl rfl hl.1 rfl (lv_room (Nat.le_of_ble_eq_true rfl)) d_Prog_lookAtNext_65 ⟨Nat.zero_le _, Nat.zero_le _⟩) hA hP hD hS [] rfl rfl (fun H locs hP hD hS => ?_)
      have hP : va_P D vwCl (fl [wTab K hTab sTab, wProg K hProg (hTab 0) q6.2]) H := hP
      have hD : va_D A (fl [wTab K hTab sTab, wProg K hProg (hTab 0) q6.2]) := hD
      refine lv_iconst (v := (-1)) (pc := 68) hx hb d_Prog_lookAtNext_68 (by decide) ?_
      refine lv_icmp_eq (tgt := 83) (pc := 69) hx hb d_Prog_lookAtNext_69 (by decide) (fun c18 => ?_) (fun c18 => ?_)
      · replace hf := o_t c18 hf
        refine lv_iload_n (pc := 83) hx hb d_Prog_lookAtNext_83 rfl (lv_at hl 1 rfl) ?_
        obtain ⟨q10, hq10, hf⟩ := o_bd_e hf
        refine fi_i (pc := 84) (va_runS (As := [.int (Tab_listed sTab (u2 : Int32).toNatClampNeg)]) (rest := []) ⟨hx, hb, hml, hown, hts⟩ ((c_Desc_isRepeat l D K (Tab_listed sTab (u2 : Int32).toNatClampNeg) q10 hq10) _) (va_cwS 1 hts (gT tw_515 tw_516 tw_13 tw_517) rfl rfl rfl (by decide +kernel) ⟨by decide, by decide⟩) ⟨mPre_blind, (mPre_fl hK hF hA hP hD hS [] rfl rfl)⟩ rfl rfl hl.1 rfl (lv_room (Nat.le_of_ble_eq_true rfl)) d_Prog_lookAtNext_84 ⟨Nat.zero_le _, Nat.zero_le _⟩) hA hP hD hS [] rfl rfl (fun H locs hP hD hS => ?_)
        have hP : va_P D vwCl (fl [wTab K hTab sTab, wProg K hProg (hTab 0) q6.2]) H := hP
        have hD : va_D A (fl [wTab K hTab sTab, wProg K hProg (hTab 0) q6.2]) := hD
        refine lv_if_eq (tgt := 100) (pc := 87) hx hb d_Prog_lookAtNext_87 (by decide) (fun c15 => ?_) (fun c15 => ?_)
        · replace hf := o_t c15 hf
          refine lv_iload (pc := 100) hx hb d_Prog_lookAtNext_100 (lv_at hl 0 rfl) ?_
          refine lv_iconst (v := (-1)) (pc := 102) hx hb d_Prog_lookAtNext_102 (by decide) ?_
          refine lv_icmp_eq (tgt := 118) (pc := 103) hx hb d_Prog_lookAtNext_103 (by decide) (fun c13 => ?_) (fun c13 => ?_)
          · replace hf := o_t c13 hf
            cases hf
            exact ret_v hx hb hr hlocks hK hP hS d_Prog_lookAtNext_118
          · replace hf := o_f c13 hf
            refine lv_aload_n (pc := 106) hx hb d_Prog_lookAtNext_106 rfl (lv_at hl 4 rfl) ?_
            refine lv_iload (pc := 107) hx hb d_Prog_lookAtNext_107 (lv_at hl 0 rfl) ?_
            refine lv_iload_n (pc := 109) hx hb d_Prog_lookAtNext_109 rfl (lv_at hl 1 rfl) ?_
            refine lv_iload (pc := 110) hx hb d_Prog_lookAtNext_110 (lv_at hl 0 rfl) ?_
            obtain ⟨q11, hq11, hf⟩ := o_bd_e hf
            refine fi_i (pc := 112) (va_runS (As := [.int (Tab_listed sTab (u2 : Int32).toNatClampNeg), .int q7]) (rest := [.int q7, .ref (hProg 0)]) ⟨hx, hb, hml, hown, hts⟩ ((c_Desc_settingOf l D K (Tab_listed sTab (u2 : Int32).toNatClampNeg) q7 q11 hq11) _) (va_cwS 2 hts (gT tw_528 tw_529 tw_13 tw_530) rfl rfl rfl (by decide +kernel) ⟨by decide, by decide⟩) ⟨mPre_blind, (mPre_fl hK hF hA hP hD hS [] rfl rfl)⟩ rfl rfl hl.1 rfl (lv_room (Nat.le_of_ble_eq_true rfl)) d_Prog_lookAtNext_112 ⟨Nat.zero_le _, Nat.zero_le _⟩) hA hP hD hS [] rfl rfl (fun H locs hP hD hS => ?_)
            have hP : va_P D vwCl (fl [wTab K hTab sTab, wProg K hProg (hTab 0) q6.2]) H := hP
            have hD : va_D A (fl [wTab K hTab sTab, wProg K hProg (hTab 0) q6.2]) := hD
            obtain ⟨q12, hq12, hf⟩ := o_bd_e hf
            refine fi_v (pc := 115) (va_runV (As := [.int q7, .int q11]) (rest := []) ⟨hx, hb, hml, hown, hts⟩ ((c_Prog_lookAtOperator l D K hTab hProg q6.2 q7 q11 q12 hq12) _) (cwV 2 hts (gV tw_531 tw_533 tp_9 tw_3 tw_534) rfl rfl rfl (by decide +kernel) ⟨by decide, by decide⟩) ⟨mPre_blind, va_recv hK hP (ci := 2) rfl (fl_at 1 0 rfl rfl), (mPre_fl hK hF hA hP hD hS [1] rfl rfl)⟩ rfl rfl hl.1 rfl (lv_room (Nat.le_of_ble_eq_true rfl)) d_Prog_lookAtNext_115 ⟨Nat.zero_le _, Nat.zero_le _⟩) hA hP hD hS [1] rfl rfl (fun H locs hP hD hS => ?_)
            have hP : va_P D vwCl (fl [wTab K hTab sTab, wProg K hProg (hTab 0) q12]) H := hP
            have hD : va_D A (fl [wTab K hTab sTab, wProg K hProg (hTab 0) q12]) := hD
            cases hf
            exact ret_v hx hb hr hlocks hK hP hS d_Prog_lookAtNext_118
        · replace hf := o_f c15 hf
          refine lv_aload_n (pc := 90) hx hb d_Prog_lookAtNext_90 rfl (lv_at hl 4 rfl) ?_
          refine lv_iload_n (pc := 91) hx hb d_Prog_lookAtNext_91 rfl (lv_at hl 1 rfl) ?_
          refine lv_iload_n (pc := 92) hx hb d_Prog_lookAtNext_92 rfl (lv_at hl 2 rfl) ?_
          refine lv_iload_n (pc := 93) hx hb d_Prog_lookAtNext_93 rfl (lv_at hl 3 rfl) ?_
          obtain ⟨q14, hq14, hf⟩ := o_bd_e hf
          refine fi_v (pc := 94) (va_runV (As := [.int (Tab_listed sTab (u2 : Int32).toNatClampNeg), .int u2, .int ((Prog_open sProg) - 1)]) (rest := []) ⟨hx, hb, hml, hown, hts⟩ ((c_Prog_lookAtRepeat l D K fu hTab hProg sTab q6.2 (Tab_listed sTab (u2 : Int32).toNatClampNeg) u2 ((Prog_open sProg) - 1) q14 hq14) _) (cwV 3 hts (gV tw_518 tw_520 tp_8 tw_3 tw_521) rfl rfl rfl (by decide +kernel) ⟨by decide, by decide⟩) ⟨mPre_blind, va_recv hK hP (ci := 2) rfl (fl_at 1 0 rfl rfl), (mPre_fl hK hF hA hP hD hS [0, 1] rfl rfl)⟩ rfl rfl hl.1 rfl (lv_room (Nat.le_of_ble_eq_true rfl)) d_Prog_lookAtNext_94 ⟨Nat.zero_le _, Nat.zero_le _⟩) hA hP hD hS [0, 1] rfl rfl (fun H locs hP hD hS => ?_)
          have hP : va_P D vwCl (fl [wTab K hTab sTab, wProg K hProg (hTab 0) q14]) H := hP
          have hD : va_D A (fl [wTab K hTab sTab, wProg K hProg (hTab 0) q14]) := hD
          refine lv_goto (tgt := 118) (pc := 97) hx hb d_Prog_lookAtNext_97 (by decide) ?_
          cases hf
          exact ret_v hx hb hr hlocks hK hP hS d_Prog_lookAtNext_118
      · replace hf := o_f c18 hf
        refine lv_aload_n (pc := 72) hx hb d_Prog_lookAtNext_72 rfl (lv_at hl 4 rfl) ?_
        refine lv_iload_n (pc := 73) hx hb d_Prog_lookAtNext_73 rfl (lv_at hl 1 rfl) ?_
        obtain ⟨q16, hq16, hf⟩ := o_bd_e hf
        refine fi_i (pc := 74) (va_runS (As := [.int (Tab_listed sTab (u2 : Int32).toNatClampNeg)]) (rest := [.ref (hProg 0)]) ⟨hx, hb, hml, hown, hts⟩ ((c_Desc_sequenceOf l D K (Tab_listed sTab (u2 : Int32).toNatClampNeg) q16 hq16) _) (va_cwS 1 hts (gT tw_503 tw_504 tw_13 tw_505) rfl rfl rfl (by decide +kernel) ⟨by decide, by decide⟩) ⟨mPre_blind, (mPre_fl hK hF hA hP hD hS [] rfl rfl)⟩ rfl rfl hl.1 rfl (lv_room (Nat.le_of_ble_eq_true rfl)) d_Prog_lookAtNext_74 ⟨Nat.zero_le _, Nat.zero_le _⟩) hA hP hD hS [] rfl rfl (fun H locs hP hD hS => ?_)
        have hP : va_P D vwCl (fl [wTab K hTab sTab, wProg K hProg (hTab 0) q6.2]) H := hP
        have hD : va_D A (fl [wTab K hTab sTab, wProg K hProg (hTab 0) q6.2]) := hD
        obtain ⟨q17, hq17, hf⟩ := o_bd_e hf
        refine fi_v (pc := 77) (va_runV (As := [.int q16]) (rest := []) ⟨hx, hb, hml, hown, hts⟩ ((c_Prog_lookAtSequence l D K fu hTab hProg sTab q6.2 q16 q17 hq17) _) (cwV 1 hts (gV tw_506 tw_508 tp_6 tw_3 tw_509) rfl rfl rfl (by decide +kernel) ⟨by decide, by decide⟩) ⟨mPre_blind, va_recv hK hP (ci := 2) rfl (fl_at 1 0 rfl rfl), (mPre_fl hK hF hA hP hD hS [0, 1] rfl rfl)⟩ rfl rfl hl.1 rfl (lv_room (Nat.le_of_ble_eq_true rfl)) d_Prog_lookAtNext_77 ⟨Nat.zero_le _, Nat.zero_le _⟩) hA hP hD hS [0, 1] rfl rfl (fun H locs hP hD hS => ?_)
        have hP : va_P D vwCl (fl [wTab K hTab sTab, wProg K hProg (hTab 0) q17]) H := hP
        have hD : va_D A (fl [wTab K hTab sTab, wProg K hProg (hTab 0) q17]) := hD
        refine lv_goto (tgt := 118) (pc := 80) hx hb d_Prog_lookAtNext_80 (by decide) ?_
        cases hf
        exact ret_v hx hb hr hlocks hK hP hS d_Prog_lookAtNext_118
    · replace hf := o_f c20 hf
      refine lv_aload_n (pc := 56) hx hb d_Prog_lookAtNext_56 rfl (lv_at hl 4 rfl) ?_
      refine lv_iload_n (pc := 57) hx hb d_Prog_lookAtNext_57 rfl (lv_at hl 1 rfl) ?_
      obtain ⟨q19, hq19, hf⟩ := o_bd_e hf
      refine fi_v (pc := 58) (va_runV (As := [.int (Tab_listed sTab (u2 : Int32).toNatClampNeg)]) (rest := []) ⟨hx, hb, hml, hown, hts⟩ ((c_Prog_lookAtElement l D K fu hTab hProg sTab q6.2 (Tab_listed sTab (u2 : Int32).toNatClampNeg) q19 hq19) _) (cwV 1 hts (gV tw_483 tw_485 tp_5 tw_3 tw_486) rfl rfl rfl (by decide +kernel) ⟨by decide, by decide⟩) ⟨mPre_blind, va_recv hK hP (ci := 2) rfl (fl_at 1 0 rfl rfl), (mPre_fl hK hF hA hP hD hS [0, 1] rfl rfl)⟩ rfl rfl hl.1 rfl (lv_room (Nat.le_of_ble_eq_true rfl)) d_Prog_lookAtNext_58 ⟨Nat.zero_le _, Nat.zero_le _⟩) hA hP hD hS [0, 1] rfl rfl (fun H locs hP hD hS => ?_)
      have hP : va_P D vwCl (fl [wTab K hTab sTab, wProg K hProg (hTab 0) q19]) H := hP
      have hD : va_D A (fl [wTab K hTab sTab, wProg K hProg (hTab 0) q19]) := hD
      refine lv_goto (tgt := 118) (pc := 61) hx hb d_Prog_lookAtNext_61 (by decide) ?_
      cases hf
      exact ret_v hx hb hr hlocks hK hP hS d_Prog_lookAtNext_118
  · replace hf := o_t c21 hf
    cases hf
    exact ret_v hx hb hr hlocks hK hP hS d_Prog_lookAtNext_42
def Prog_build_j110 (fu : Nat) (sTab : S_Tab) (kc_53 : Int32 → S_Prog → Option (S_Prog)) (x1_j110 : Int32) (sProg_j110 : S_Prog) : Option (S_Prog) := kc_53 (x1_j110 + 1) sProg_j110
def Prog_build_L53 (fu : Nat) (sTab : S_Tab) : Nat → Int32 → S_Prog → Option (S_Prog)
  | 0, _, _ => none
  | n + 1, x1_L53, sProg_L53 => if 10000 ≤ x1_L53 then some sProg_L53 else if (Prog_open sProg_L53) ≤ 0 then some sProg_L53 else if (Prog_fault sProg_L53) = 0 then o_gd (o_in ((Prog_open sProg_L53) - 1) 64) (o_gd (o_in ((Prog_open sProg_L53) - 1) 64) (if (Prog_openEnds sProg_L53 ((Prog_open sProg_L53) - 1 : Int32).toNatClampNeg) ≤ (Prog_openAts sProg_L53 ((Prog_open sProg_L53) - 1 : Int32).toNatClampNeg) then o_bd (Prog_closeList fu sProg_L53) fun q11 => (Prog_build_j110 fu sTab (fun v0 v1 => Prog_build_L53 fu sTab n v0 v1) x1_L53 q11) else o_bd (Prog_lookAtNext fu sTab sProg_L53) fun q12 => (Prog_build_j110 fu sTab (fun v0 v1 => Prog_build_L53 fu sTab n v0 v1) x1_L53 q12))) else some sProg_L53
def Prog_build (fu : Nat) (sTab : S_Tab) (sProg : S_Prog) : Option (S_Prog) := o_lt (Prog_set_size sProg 0) fun sProg_1 => (o_lt (Prog_set_fault sProg_1 0) fun sProg_2 => (o_lt (Prog_set_place sProg_2 ((-1))) fun sProg_3 => (o_lt (Prog_set_open sProg_3 0) fun sProg_4 => (o_lt (Prog_set_templatePlace sProg_4 0) fun sProg_5 => (o_bd (Arr_fill_aII fu 4 0 (Prog_settings sProg_5)) fun q6 => (o_bd (Tab_endOf sTab 16) fun q7 => (o_bd (Prog_openList 128 q7 ((-1)) ((-1)) (Prog_set_settings sProg_5 q6)) fun q8 => (Prog_build_L53 fu sTab fu 0 q8))))))))
abbrev rm_Prog_build : Room := { frames := 4, cells := 0, slots := 0, locals := 123 }
set_option maxHeartbeats 4000000 in
set_option maxRecDepth 100000 in
theorem c_Prog_build (l : Launch) (D : va_G) (K : Nat → ClassId) (fu : Nat) (hTab : Nat → Nat) (hProg : Nat → Nat) (sTab : S_Tab) (sProg : S_Prog) (sProg' : S_Prog) (hf : Prog_build fu sTab sProg = some sProg') : mv l D K y_Prog_build ws_Prog_build rm_Prog_build [.ref (hProg 0)] (fl [wTab K hTab sTab, wProg K hProg (hTab 0) sProg]) (fl [wTab K hTab sTab, wProg K hProg (hTab 0) sProg']) := by
  refine mv_of (cc := b_Prog_build) (maxL := 2) (own := "ObsMessages$Program") (by decide) rfl rfl (Nat.le_of_ble_eq_true rfl) ?_
  intro p e s m below meth c A ls hC hP hD hS hl
  obtain ⟨hx, hb, hml, hown, hts, hr, hlocks, hK, hF, hA⟩ := hC
  have hP : va_P D vwCl (fl [wTab K hTab sTab, wProg K hProg (hTab 0) sProg]) s.heap := hP
  have hl : lv_has ls 2 [(0, .ref (hProg 0))] := hl
  suffices hW : ∀ (H : Heap) (locs : List Loc), va_P D vwCl (fl [wTab K hTab sTab, wProg K hProg (hTab 0) sProg]) H → va_S A s.heap H locs → W p l e rm_Prog_build s m ([.ref (hProg 0)] : List Value).toArray below meth c H locs 0 0 (Qv below ([.ref (hProg 0)] : List Value).toArray s D K A (fl [wTab K hTab sTab, wProg K hProg (hTab 0) sProg'])) (F0 m 0 ls []) from hW s.heap [] hP hS
  clear hP hS
  intro H locs hP hS
  refine lv_aload_n (pc := 0) hx hb d_Prog_build_0 rfl (lv_at hl 0 rfl) ?_
  refine lv_iconst (v := 0) (pc := 1) hx hb d_Prog_build_1 (by decide) ?_
  refine va_put (D := D) (ci := 2) (v := .int 0) (ty := .int) (C := R_Prog) (T := T_Prog) (N := 14) (pc := 2) hx hb hts (fun w h => List.mem_cons_of_mem _ (in_Prog w h)) ty_Prog ty_Prog_ok nm_Prog hown hK hP hD hS _ (fl_at 1 0 rfl rfl) rfl 2 (by decide) (hts _ (List.mem_cons_of_mem _ tw_78)) (fun _ h9 => h9) rfl (by decide +kernel) rfl rfl (Nat.le_of_ble_eq_true rfl) d_Prog_build_2 (fun H locs hP hD hS => ?_)
  obtain ⟨sProg_1, esProg_1, hf⟩ := o_lt_e hf
  have hP : va_P D vwCl (fl [wTab K hTab sTab, wProg K hProg (hTab 0) sProg_1]) H := by rw [esProg_1]; exact fl_P 1 0 rfl (Nat.le_of_ble_eq_true rfl) rfl rfl hP
  have hD : va_D A (fl [wTab K hTab sTab, wProg K hProg (hTab 0) sProg_1]) := by rw [esProg_1]; exact fl_D 1 0 rfl (Nat.le_of_ble_eq_true rfl) rfl rfl hD
  refine lv_aload_n (pc := 5) hx hb d_Prog_build_5 rfl (lv_at hl 0 rfl) ?_
  refine lv_iconst (v := 0) (pc := 6) hx hb d_Prog_build_6 (by decide) ?_
  refine va_put (D := D) (ci := 2) (v := .int 0) (ty := .int) (C := R_Prog) (T := T_Prog) (N := 14) (pc := 7) hx hb hts (fun w h => List.mem_cons_of_mem _ (in_Prog w h)) ty_Prog ty_Prog_ok nm_Prog hown hK hP hD hS _ (fl_at 1 0 rfl rfl) rfl 3 (by decide) (hts _ (List.mem_cons_of_mem _ tw_81)) (fun _ h9 => h9) rfl (by decide +kernel) rfl rfl (Nat.le_of_ble_eq_true rfl) d_Prog_build_7 (fun H locs hP hD hS => ?_)
  obtain ⟨sProg_2, esProg_2, hf⟩ := o_lt_e hf
  have hP : va_P D vwCl (fl [wTab K hTab sTab, wProg K hProg (hTab 0) sProg_2]) H := by rw [esProg_2]; exact fl_P 1 0 rfl (Nat.le_of_ble_eq_true rfl) rfl rfl hP
  have hD : va_D A (fl [wTab K hTab sTab, wProg K hProg (hTab 0) sProg_2]) := by rw [esProg_2]; exact fl_D 1 0 rfl (Nat.le_of_ble_eq_true rfl) rfl rfl hD
  refine lv_aload_n (pc := 10) hx hb d_Prog_build_10 rfl (lv_at hl 0 rfl) ?_
  refine lv_iconst (v := (-1)) (pc := 11) hx hb d_Prog_build_11 (by decide) ?_
  refine va_put (D := D) (ci := 2) (v := .int ((-1))) (ty := .int) (C := R_Prog) (T := T_Prog) (N := 14) (pc := 12) hx hb hts (fun w h => List.mem_cons_of_mem _ (in_Prog w h)) ty_Prog ty_Prog_ok nm_Prog hown hK hP hD hS _ (fl_at 1 0 rfl rfl) rfl 4 (by decide) (hts _ (List.mem_cons_of_mem _ tw_83)) (fun _ h9 => h9) rfl (by decide +kernel) rfl rfl (Nat.le_of_ble_eq_true rfl) d_Prog_build_12 (fun H locs hP hD hS => ?_)
  obtain ⟨sProg_3, esProg_3, hf⟩ := o_lt_e hf
  have hP : va_P D vwCl (fl [wTab K hTab sTab, wProg K hProg (hTab 0) sProg_3]) H := by rw [esProg_3]; exact fl_P 1 0 rfl (Nat.le_of_ble_eq_true rfl) rfl rfl hP
  have hD : va_D A (fl [wTab K hTab sTab, wProg K hProg (hTab 0) sProg_3]) := by rw [esProg_3]; exact fl_D 1 0 rfl (Nat.le_of_ble_eq_true rfl) rfl rfl hD
  refine lv_aload_n (pc := 15) hx hb d_Prog_build_15 rfl (lv_at hl 0 rfl) ?_
  refine lv_iconst (v := 0) (pc := 16) hx hb d_Prog_build_16 (by decide) ?_
  refine va_put (D := D) (ci := 2) (v := .int 0) (ty := .int) (C := R_Prog) (T := T_Prog) (N := 14) (pc := 17) hx hb hts (fun w h => List.mem_cons_of_mem _ (in_Prog w h)) ty_Prog ty_Prog_ok nm_Prog hown hK hP hD hS _ (fl_at 1 0 rfl rfl) rfl 12 (by decide) (hts _ (List.mem_cons_of_mem _ tw_92)) (fun _ h9 => h9) rfl (by decide +kernel) rfl rfl (Nat.le_of_ble_eq_true rfl) d_Prog_build_17 (fun H locs hP hD hS => ?_)
  obtain ⟨sProg_4, esProg_4, hf⟩ := o_lt_e hf
  have hP : va_P D vwCl (fl [wTab K hTab sTab, wProg K hProg (hTab 0) sProg_4]) H := by rw [esProg_4]; exact fl_P 1 0 rfl (Nat.le_of_ble_eq_true rfl) rfl rfl hP
  have hD : va_D A (fl [wTab K hTab sTab, wProg K hProg (hTab 0) sProg_4]) := by rw [esProg_4]; exact fl_D 1 0 rfl (Nat.le_of_ble_eq_true rfl) rfl rfl hD
  refine lv_aload_n (pc := 20) hx hb d_Prog_build_20 rfl (lv_at hl 0 rfl) ?_
  refine lv_iconst (v := 0) (pc := 21) hx hb d_Prog_build_21 (by decide) ?_
  refine va_put (D := D) (ci := 2) (v := .int 0) (ty := .int) (C := R_Prog) (T := T_Prog) (N := 14) (pc := 22) hx hb hts (fun w h => List.mem_cons_of_mem _ (in_Prog w h)) ty_Prog ty_Prog_ok nm_Prog hown hK hP hD hS _ (fl_at 1 0 rfl rfl) rfl 13 (by decide) (hts _ (List.mem_cons_of_mem _ tw_93)) (fun _ h9 => h9) rfl (by decide +kernel) rfl rfl (Nat.le_of_ble_eq_true rfl) d_Prog_build_22 (fun H locs hP hD hS => ?_)
  obtain ⟨sProg_5, esProg_5, hf⟩ := o_lt_e hf
  have hP : va_P D vwCl (fl [wTab K hTab sTab, wProg K hProg (hTab 0) sProg_5]) H := by rw [esProg_5]; exact fl_P 1 0 rfl (Nat.le_of_ble_eq_true rfl) rfl rfl hP
  have hD : va_D A (fl [wTab K hTab sTab, wProg K hProg (hTab 0) sProg_5]) := by rw [esProg_5]; exact fl_D 1 0 rfl (Nat.le_of_ble_eq_true rfl) rfl rfl hD
  refine lv_aload_n (pc := 25) hx hb d_Prog_build_25 rfl (lv_at hl 0 rfl) ?_
  refine va_get (D := D) (ci := 2) (v := .ref (hProg 3)) (C := R_Prog) (T := T_Prog) (N := 14) (pc := 26) hx hb hts (fun w h => List.mem_cons_of_mem _ (in_Prog w h)) hown hK hP _ (fl_at 1 0 rfl rfl) rfl 6 (by decide) (hts _ (List.mem_cons_of_mem _ tw_86)) (fun _ h9 => h9) rfl d_Prog_build_26 ?_
  refine lv_iconst (v := 0) (pc := 29) hx hb d_Prog_build_29 (by decide) ?_
  obtain ⟨q6, hq6, hf⟩ := o_bd_e hf
  refine go_v (pc := 30) (va_runS (As := [.ref (hProg 3), .int 0]) (rest := []) ⟨hx, hb, hml, hown, hts⟩ ((c_Arr_fill_aII l D K fu (fun _ => hProg 3) 4 (Prog_settings sProg_5) 0 q6 hq6) _) (va_cwS 2 hts (gT tw_446 tw_447 tw_11 tw_448) rfl rfl rfl (by decide +kernel) ⟨by decide, by decide⟩) ⟨mPre_blind, (mPre_at hK hF hA hP hD hS [_] (congrArg (fun x => [x]) (fl_at 1 3 rfl rfl)) rfl)⟩ rfl rfl hl.1 rfl (lv_room (Nat.le_of_ble_eq_true rfl)) d_Prog_build_30 ⟨Nat.zero_le _, Nat.zero_le _⟩) hA hP hD hS [_] (congrArg (fun x => [x]) (fl_at 1 3 rfl rfl)) rfl (fun H locs hP hD hS => ?_)
  have hP : va_P D vwCl (fl [wTab K hTab sTab, wProg K hProg (hTab 0) (Prog_set_settings sProg_5 q6)]) H := fl_P 1 3 rfl (Nat.le_of_ble_eq_true rfl) rfl rfl hP
  have hD : va_D A (fl [wTab K hTab sTab, wProg K hProg (hTab 0) (Prog_set_settings sProg_5 q6)]) := fl_D 1 3 rfl (Nat.le_of_ble_eq_true rfl) rfl rfl hD
  refine lv_aload_n (pc := 33) hx hb d_Prog_build_33 rfl (lv_at hl 0 rfl) ?_
  refine lv_sipush (v := 128) (pc := 34) hx hb d_Prog_build_34 (by decide) ?_
  refine lv_aload_n (pc := 37) hx hb d_Prog_build_37 rfl (lv_at hl 0 rfl) ?_
  refine va_get (D := D) (ci := 2) (v := .ref (hTab 0)) (C := R_Prog) (T := T_Prog) (N := 14) (pc := 38) hx hb hts (fun w h => List.mem_cons_of_mem _ (in_Prog w h)) hown hK hP _ (fl_at 1 0 rfl rfl) rfl 5 (by decide) (hts _ (List.mem_cons_of_mem _ tw_85)) (fun _ h9 => h9) rfl d_Prog_build_38 ?_
  refine lv_bipush (v := 16) (pc := 41) hx hb d_Prog_build_41 (by decide) ?_
  obtain ⟨q7, hq7, hf⟩ := o_bd_e hf
  refine fi_i (pc := 43) (va_runV (As := [.int 16]) (rest := [.int 128, .ref (hProg 0)]) ⟨hx, hb, hml, hown, hts⟩ ((c_Tab_endOf l D K hTab sTab 16 q7 hq7) _) (cwV 1 hts (gV tw_449 tw_450 tw_451 tw_2 tw_452) rfl rfl rfl (by decide +kernel) ⟨by decide, by decide⟩) ⟨mPre_blind, va_recv hK hP (ci := 1) rfl (fl_at 0 0 rfl rfl), (mPre_fl hK hF hA hP hD hS [0] rfl rfl)⟩ rfl rfl hl.1 rfl (lv_room (Nat.le_of_ble_eq_true rfl)) d_Prog_build_43 ⟨Nat.zero_le _, Nat.zero_le _⟩) hA hP hD hS [0] rfl rfl (fun H locs hP hD hS => ?_)
  have hP : va_P D vwCl (fl [wTab K hTab sTab, wProg K hProg (hTab 0) (Prog_set_settings sProg_5 q6)]) H := hP
  have hD : va_D A (fl [wTab K hTab sTab, wProg K hProg (hTab 0) (Prog_set_settings sProg_5 q6)]) := hD
  refine lv_iconst (v := (-1)) (pc := 46) hx hb d_Prog_build_46 (by decide) ?_
  refine lv_iconst (v := (-1)) (pc := 47) hx hb d_Prog_build_47 (by decide) ?_
  obtain ⟨q8, hq8, hf⟩ := o_bd_e hf
  refine fi_v (pc := 48) (va_runV (As := [.int 128, .int q7, .int ((-1)), .int ((-1))]) (rest := []) ⟨hx, hb, hml, hown, hts⟩ ((c_Prog_openList l D K hTab hProg (Prog_set_settings sProg_5 q6) 128 q7 ((-1)) ((-1)) q8 hq8) _) (cwV 4 hts (gV tw_456 tw_458 tp_1 tw_3 tw_459) rfl rfl rfl (by decide +kernel) ⟨by decide, by decide⟩) ⟨mPre_blind, va_recv hK hP (ci := 2) rfl (fl_at 1 0 rfl rfl), (mPre_fl hK hF hA hP hD hS [1] rfl rfl)⟩ rfl rfl hl.1 rfl (lv_room (Nat.le_of_ble_eq_true rfl)) d_Prog_build_48 ⟨Nat.zero_le _, Nat.zero_le _⟩) hA hP hD hS [1] rfl rfl (fun H locs hP hD hS => ?_)
  have hP : va_P D vwCl (fl [wTab K hTab sTab, wProg K hProg (hTab 0) q8]) H := hP
  have hD : va_D A (fl [wTab K hTab sTab, wProg K hProg (hTab 0) q8]) := hD
  refine lv_iconst (v := 0) (pc := 51) hx hb d_Prog_build_51 (by decide) ?_
  refine lv_istore_n (lv' := [(1, .int 0), (0, .ref (hProg 0))]) (pc := 52) hx hb d_Prog_build_52 rfl hl (by decide) rfl (fun ls hl => ?_)
  have L53 : ∀  (n : Nat) (x1_L53 : Int32) (sProg_L53 : S_Prog) (H : Heap) (locs : List Loc) (ls : Array Slot), va_P D vwCl (fl [wTab K hTab sTab, wProg K hProg (hTab 0) sProg_L53]) H → va_D A (fl [wTab K hTab sTab, wProg K hProg (hTab 0) sProg_L53]) → va_S A s.heap H locs → lv_has ls 2 [(0, .ref (hProg 0)), (1, .int x1_L53)] → Prog_build_L53 fu sTab n x1_L53 sProg_L53 = some sProg' → W p l e rm_Prog_build s m ([.ref (hProg 0)] : List Value).toArray below meth c H locs 0 0 (Qv below ([.ref (hProg 0)] : List Value).toArray s D K A (fl [wTab K hTab sTab, wProg K hProg (hTab 0) sProg'])) (F0 m 53 ls []) := by
    intro n
    induction n with
    | zero =>
      intro x1_L53 sProg_L53 H locs ls hP hD hS hl hf
      exact absurd hf (fun h => nomatch h)
    | succ n_53 ih_53 =>
      intro x1_L53 sProg_L53 H locs ls hP hD hS hl hf
      have J110 : ∀ (x1_j110 : Int32) (sProg_j110 : S_Prog) (H : Heap) (locs : List Loc) (ls : Array Slot), va_P D vwCl (fl [wTab K hTab sTab, wProg K hProg (hTab 0) sProg_j110]) H → va_D A (fl [wTab K hTab sTab, wProg K hProg (hTab 0) sProg_j110]) → va_S A s.heap H locs → lv_has ls 2 [(0, .ref (hProg 0)), (1, .int x1_j110)] → Prog_build_j110 fu sTab (fun v0 v1 => Prog_build_L53 fu sTab n_53 v0 v1) x1_j110 sProg_j110 = some sProg' → W p l e rm_Prog_build s m ([.ref (hProg 0)] : List Value).toArray below meth c H locs 0 0 (Qv below ([.ref (hProg 0)] : List Value).toArray s D K A (fl [wTab K hTab sTab, wProg K hProg (hTab 0) sProg'])) (F0 m 110 ls []) := by
        intro x1_j110 sProg_j110 H locs ls hP hD hS hl hf
        refine lv_iinc (v := x1_j110 + 1) (lv' := [(1, .int (x1_j110 + 1)), (0, .ref (hProg 0))]) (pc := 110) hx hb d_Prog_build_110 hl (k := 1) rfl rfl (by decide) rfl (fun ls hl => ?_)
        refine lv_goto (tgt := 53) (pc := 113) hx hb d_Prog_build_113 (by decide) ?_
        exact ih_53 (x1_j110 + 1) sProg_j110 H locs ls hP hD hS (lv_sub hl [1, 0] rfl) hf
      refine lv_iload_n (pc := 53) hx hb d_Prog_build_53 rfl (lv_at hl 1 rfl) ?_
      refine lv_sipush (v := 10000) (pc := 54) hx hb d_Prog_build_54 (by decide) ?_
      refine lv_icmp_ge (tgt := 116) (pc := 57) hx hb d_Prog_build_57 (by decide) (fun c16 => ?_) (fun c16 => ?_)
      · replace hf := o_t c16 hf
        cases hf
        exact ret_v hx hb hr hlocks hK hP hS d_Prog_build_116
      · replace hf := o_f c16 hf
        refine lv_aload_n (pc := 60) hx hb d_Prog_build_60 rfl (lv_at hl 0 rfl) ?_
        refine va_get (D := D) (ci := 2) (v := .int (Prog_open sProg_L53)) (C := R_Prog) (T := T_Prog) (N := 14) (pc := 61) hx hb hts (fun w h => List.mem_cons_of_mem _ (in_Prog w h)) hown hK hP _ (fl_at 1 0 rfl rfl) rfl 12 (by decide) (hts _ (List.mem_cons_of_mem _ tw_92)) (fun _ h9 => h9) rfl d_Prog_build_61 ?_
        refine lv_if_le (tgt := 116) (pc := 64) hx hb d_Prog_build_64 (by decide) (fun c15 => ?_) (fun c15 => ?_)
        · replace hf := o_t c15 hf
          cases hf
          exact ret_v hx hb hr hlocks hK hP hS d_Prog_build_116
        · replace hf := o_f c15 hf
          refine lv_aload_n (pc := 67) hx hb d_Prog_build_67 rfl (lv_at hl 0 rfl) ?_
          refine va_get (D := D) (ci := 2) (v := .int (Prog_fault sProg_L53)) (C := R_Prog) (T := T_Prog) (N := 14) (pc := 68) hx hb hts (fun w h => List.mem_cons_of_mem _ (in_Prog w h)) hown hK hP _ (fl_at 1 0 rfl rfl) rfl 3 (by decide) (hts _ (List.mem_cons_of_mem _ tw_81)) (fun _ h9 => h9) rfl d_Prog_build_68 ?_
          refine lv_if_ne (tgt := 116) (pc := 71) hx hb d_Prog_build_71 (by decide) (fun c14 => ?_) (fun c14 => ?_)
          · replace hf := o_f c14 hf
            cases hf
            exact ret_v hx hb hr hlocks hK hP hS d_Prog_build_116
          · replace hf := o_t c14 hf
            refine lv_aload_n (pc := 74) hx hb d_Prog_build_74 rfl (lv_at hl 0 rfl) ?_
            refine va_get (D := D) (ci := 2) (v := .ref (hProg 4)) (C := R_Prog) (T := T_Prog) (N := 14) (pc := 75) hx hb hts (fun w h => List.mem_cons_of_mem _ (in_Prog w h)) hown hK hP _ (fl_at 1 0 rfl rfl) rfl 7 (by decide) (hts _ (List.mem_cons_of_mem _ tw_87)) (fun _ h9 => h9) rfl d_Prog_build_75 ?_
            refine lv_aload_n (pc := 78) hx hb d_Prog_build_78 rfl (lv_at hl 0 rfl) ?_
            refine va_get (D := D) (ci := 2) (v := .int (Prog_open sProg_L53)) (C := R_Prog) (T := T_Prog) (N := 14) (pc := 79) hx hb hts (fun w h => List.mem_cons_of_mem _ (in_Prog w h)) hown hK hP _ (fl_at 1 0 rfl rfl) rfl 12 (by decide) (hts _ (List.mem_cons_of_mem _ tw_92)) (fun _ h9 => h9) rfl d_Prog_build_79 ?_
            refine lv_iconst (v := 1) (pc := 82) hx hb d_Prog_build_82 (by decide) ?_
            refine lv_isub (pc := 83) hx hb d_Prog_build_83 ?_
            obtain ⟨hi9, hf⟩ := o_gi_e hf
            refine va_iald (D := D) (pc := 84) hx hb hK hP _ 0 (fl_at 1 4 rfl rfl) rfl hi9 d_Prog_build_84 ?_
            refine lv_aload_n (pc := 85) hx hb d_Prog_build_85 rfl (lv_at hl 0 rfl) ?_
            refine va_get (D := D) (ci := 2) (v := .ref (hProg 5)) (C := R_Prog) (T := T_Prog) (N := 14) (pc := 86) hx hb hts (fun w h => List.mem_cons_of_mem _ (in_Prog w h)) hown hK hP _ (fl_at 1 0 rfl rfl) rfl 8 (by decide) (hts _ (List.mem_cons_of_mem _ tw_88)) (fun _ h9 => h9) rfl d_Prog_build_86 ?_
            refine lv_aload_n (pc := 89) hx hb d_Prog_build_89 rfl (lv_at hl 0 rfl) ?_
            refine va_get (D := D) (ci := 2) (v := .int (Prog_open sProg_L53)) (C := R_Prog) (T := T_Prog) (N := 14) (pc := 90) hx hb hts (fun w h => List.mem_cons_of_mem _ (in_Prog w h)) hown hK hP _ (fl_at 1 0 rfl rfl) rfl 12 (by decide) (hts _ (List.mem_cons_of_mem _ tw_92)) (fun _ h9 => h9) rfl d_Prog_build_90 ?_
            refine lv_iconst (v := 1) (pc := 93) hx hb d_Prog_build_93 (by decide) ?_
            refine lv_isub (pc := 94) hx hb d_Prog_build_94 ?_
            obtain ⟨hi10, hf⟩ := o_gi_e hf
            refine va_iald (D := D) (pc := 95) hx hb hK hP _ 0 (fl_at 1 5 rfl rfl) rfl hi10 d_Prog_build_95 ?_
            refine lv_icmp_ge (tgt := 106) (pc := 96) hx hb d_Prog_build_96 (by decide) (fun c13 => ?_) (fun c13 => ?_)
            · replace hf := o_t c13 hf
              refine lv_aload_n (pc := 106) hx hb d_Prog_build_106 rfl (lv_at hl 0 rfl) ?_
              obtain ⟨q11, hq11, hf⟩ := o_bd_e hf
              refine fi_v (pc := 107) (va_runV (As := []) (rest := []) ⟨hx, hb, hml, hown, hts⟩ ((c_Prog_closeList l D K fu hTab hProg sProg_L53 q11 hq11) _) (cwV 0 hts (gV tw_535 tw_537 tp_10 tw_3 tw_538) rfl rfl rfl (by decide +kernel) ⟨by decide, by decide⟩) ⟨mPre_blind, va_recv hK hP (ci := 2) rfl (fl_at 1 0 rfl rfl), (mPre_fl hK hF hA hP hD hS [1] rfl rfl)⟩ rfl rfl hl.1 rfl (lv_room (Nat.le_of_ble_eq_true rfl)) d_Prog_build_107 ⟨Nat.zero_le _, Nat.zero_le _⟩) hA hP hD hS [1] rfl rfl (fun H locs hP hD hS => ?_)
              have hP : va_P D vwCl (fl [wTab K hTab sTab, wProg K hProg (hTab 0) q11]) H := hP
              have hD : va_D A (fl [wTab K hTab sTab, wProg K hProg (hTab 0) q11]) := hD
              exact J110 x1_L53 q11 H locs ls hP hD hS (lv_sub hl [0, 1] rfl) hf
            · replace hf := o_f c13 hf
              refine lv_aload_n (pc := 99) hx hb d_Prog_build_99 rfl (lv_at hl 0 rfl) ?_
              obtain ⟨q12, hq12, hf⟩ := o_bd_e hf
              refine fi_v (pc := 100) (va_runV (As := []) (rest := []) ⟨hx, hb, hml, hown, hts⟩ ((c_Prog_lookAtNext l D K fu hTab hProg sTab sProg_L53 q12 hq12) _) (cwV 0 hts (gV tw_467 tw_469 tp_3 tw_3 tw_470) rfl rfl rfl (by decide +kernel) ⟨by decide, by decide⟩) ⟨mPre_blind, va_recv hK hP (ci := 2) rfl (fl_at 1 0 rfl rfl), (mPre_fl hK hF hA hP hD hS [0, 1] rfl rfl)⟩ rfl rfl hl.1 rfl (lv_room (Nat.le_of_ble_eq_true rfl)) d_Prog_build_100 ⟨Nat.zero_le _, Nat.zero_le _⟩) hA hP hD hS [0, 1] rfl rfl (fun H locs hP hD hS => ?_)
              have hP : va_P D vwCl (fl [wTab K hTab sTab, wProg K hProg (hTab 0) q12]) H := hP
              have hD : va_D A (fl [wTab K hTab sTab, wProg K hProg (hTab 0) q12]) := hD
              refine lv_goto (tgt := 110) (pc := 103) hx hb d_Prog_build_103 (by decide) ?_
              exact J110 x1_L53 q12 H locs ls hP hD hS (lv_sub hl [0, 1] rfl) hf
  exact L53 fu 0 q8 H locs ls hP hD hS (lv_sub hl [1, 0] rfl) hf
