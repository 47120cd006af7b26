def Walk_fail (a0 : Int32) (a1 : Int32) (sWalk : S_Walk) : Option (S_Walk) := o_lt (Walk_set_fault sWalk a0) fun sWalk_1 => (o_lt (Walk_set_place sWalk_1 a1) fun sWalk_2 => (some sWalk_2))
abbrev rm_Walk_fail : Room := { frames := 0, cells := 0, slots := 0, locals := 0 }
set_option maxHeartbeats 4000000 in
set_option maxRecDepth 100000 in
theorem c_Walk_fail (l : Launch) (D : va_G) (K : Nat → ClassId) (hTab : Nat → Nat) (hProg : Nat → Nat) (hWalk : Nat → Nat) (hFld : Nat → Nat) (hLps : Nat → Nat) (sWalk : S_Walk) (a0 : Int32) (a1 : Int32) (sWalk' : S_Walk) (hf : Walk_fail a0 a1 sWalk = some sWalk') : mv l D K y_Walk_fail ws_Walk_fail rm_Walk_fail [.ref (hWalk 0), .int a0, .int a1] (fl [wWalk K hWalk (hFld 0) (hTab 0) (hProg 0) (hLps 0) sWalk]) (fl [wWalk K hWalk (hFld 0) (hTab 0) (hProg 0) (hLps 0) sWalk']) := by
  refine mv_of (cc := b_Walk_fail) (maxL := 3) (own := "ObsMessages$Walk") (by decide) rfl rfl (Nat.le_of_ble_eq_true rfl) ?_
  intro p e s m below meth c A ls hC hP hD hS hl
  obtain ⟨hx, hb, hml, hown, hts, hr, hlocks, hK, hF, hA⟩ := hC
  have hP : va_P D vwCl (fl [wWalk K hWalk (hFld 0) (hTab 0) (hProg 0) (hLps 0) sWalk]) s.heap := hP
  have hl : lv_has ls 3 [(0, .ref (hWalk 0)), (1, .int a0), (2, .int a1)] := hl
  suffices hW : ∀ (H : Heap) (locs : List Loc), va_P D vwCl (fl [wWalk K hWalk (hFld 0) (hTab 0) (hProg 0) (hLps 0) sWalk]) H → va_S A s.heap H locs → W p l e rm_Walk_fail s m ([.ref (hWalk 0), .int a0, .int a1] : List Value).toArray below meth c H locs 0 0 (Qv below ([.ref (hWalk 0), .int a0, .int a1] : List Value).toArray s D K A (fl [wWalk K hWalk (hFld 0) (hTab 0) (hProg 0) (hLps 0) sWalk'])) (F0 m 0 ls []) from hW s.heap [] hP hS
  clear hP hS
  intro H locs hP hS
  refine lv_aload_n (pc := 0) hx hb d_Walk_fail_0 rfl (lv_at hl 0 rfl) ?_
  refine lv_iload_n (pc := 1) hx hb d_Walk_fail_1 rfl (lv_at hl 1 rfl) ?_
  refine va_put (D := D) (ci := 3) (v := .int a0) (ty := .int) (C := R_Walk) (T := T_Walk) (N := 18) (pc := 2) hx hb hts (fun w h => List.mem_cons_of_mem _ (in_Walk w h)) ty_Walk ty_Walk_ok nm_Walk hown hK hP hD hS _ (fl_at 0 0 rfl rfl) rfl 1 (by decide) (hts _ (List.mem_cons_of_mem _ tw_209)) (fun _ h9 => h9) rfl (by decide +kernel) rfl rfl (Nat.le_of_ble_eq_true rfl) d_Walk_fail_2 (fun H locs hP hD hS => ?_)
  obtain ⟨sWalk_1, esWalk_1, hf⟩ := o_lt_e hf
  have hP : va_P D vwCl (fl [wWalk K hWalk (hFld 0) (hTab 0) (hProg 0) (hLps 0) sWalk_1]) H := by rw [esWalk_1]; exact fl_P 0 0 rfl (Nat.le_of_ble_eq_true rfl) rfl rfl hP
  have hD : va_D A (fl [wWalk K hWalk (hFld 0) (hTab 0) (hProg 0) (hLps 0) sWalk_1]) := by rw [esWalk_1]; exact fl_D 0 0 rfl (Nat.le_of_ble_eq_true rfl) rfl rfl hD
  refine lv_aload_n (pc := 5) hx hb d_Walk_fail_5 rfl (lv_at hl 0 rfl) ?_
  refine lv_iload_n (pc := 6) hx hb d_Walk_fail_6 rfl (lv_at hl 2 rfl) ?_
  refine va_put (D := D) (ci := 3) (v := .int a1) (ty := .int) (C := R_Walk) (T := T_Walk) (N := 18) (pc := 7) hx hb hts (fun w h => List.mem_cons_of_mem _ (in_Walk w h)) ty_Walk ty_Walk_ok nm_Walk hown hK hP hD hS _ (fl_at 0 0 rfl rfl) rfl 2 (by decide) (hts _ (List.mem_cons_of_mem _ tw_212)) (fun _ h9 => h9) rfl (by decide +kernel) rfl rfl (Nat.le_of_ble_eq_true rfl) d_Walk_fail_7 (fun H locs hP hD hS => ?_)
  obtain ⟨sWalk_2, esWalk_2, hf⟩ := o_lt_e hf
  have hP : va_P D vwCl (fl [wWalk K hWalk (hFld 0) (hTab 0) (hProg 0) (hLps 0) sWalk_2]) H := by rw [esWalk_2]; exact fl_P 0 0 rfl (Nat.le_of_ble_eq_true rfl) rfl rfl hP
  have hD : va_D A (fl [wWalk K hWalk (hFld 0) (hTab 0) (hProg 0) (hLps 0) sWalk_2]) := by rw [esWalk_2]; exact fl_D 0 0 rfl (Nat.le_of_ble_eq_true rfl) rfl rfl hD
  cases hf
  exact ret_v hx hb hr hlocks hK hP hS d_Walk_fail_10
def Walk_begin (fu : Nat) (sWalk : S_Walk) (sFld : S_Fld) (sLps : S_Lps) : Option (S_Walk × S_Fld × S_Lps) := o_lt (Fld_set_count sFld 0) fun sFld_1 => (o_lt (Walk_set_fault sWalk 0) fun sWalk_2 => (o_lt (Walk_set_place sWalk_2 ((-1))) fun sWalk_3 => (o_bd (Lps_leaveAll sLps) fun q4 => (o_bd (Arr_fill_aII fu 4 0 (Walk_settings sWalk_3)) fun q5 => (o_lt (Walk_set_elementCount (Walk_set_settings sWalk_3 q5) 0) fun sWalk_6 => (o_lt (Walk_set_pointedCount sWalk_6 0) fun sWalk_7 => (o_lt (Walk_set_nextPointed sWalk_7 0) fun sWalk_8 => (o_lt (Walk_set_at sWalk_8 0) fun sWalk_9 => (o_lt (Walk_set_come sWalk_9 0) fun sWalk_10 => (o_lt (Walk_set_dueKind sWalk_10 ((-1))) fun sWalk_11 => (o_lt (Walk_set_dueCode sWalk_11 ((-1))) fun sWalk_12 => (o_lt (Walk_set_dueBits sWalk_12 0) fun sWalk_13 => (o_lt (Walk_set_countedEnd sWalk_13 ((-1))) fun sWalk_14 => (some ((sWalk_14, sFld_1, q4))))))))))))))))
abbrev rm_Walk_begin : Room := { frames := 1, cells := 0, slots := 0, locals := 23 }
set_option maxHeartbeats 4000000 in
set_option maxRecDepth 100000 in
theorem c_Walk_begin (l : Launch) (D : va_G) (K : Nat → ClassId) (fu : Nat) (hTab : Nat → Nat) (hProg : Nat → Nat) (hWalk : Nat → Nat) (hFld : Nat → Nat) (hLps : Nat → Nat) (sWalk : S_Walk) (sFld : S_Fld) (sLps : S_Lps) (sWalk' : S_Walk) (sFld' : S_Fld) (sLps' : S_Lps) (hf : Walk_begin fu sWalk sFld sLps = some ((sWalk', sFld', sLps'))) : mv l D K y_Walk_begin ws_Walk_begin rm_Walk_begin [.ref (hWalk 0)] (fl [wWalk K hWalk (hFld 0) (hTab 0) (hProg 0) (hLps 0) sWalk, wFld K hFld sFld, wLps K hLps sLps]) (fl [wWalk K hWalk (hFld 0) (hTab 0) (hProg 0) (hLps 0) sWalk', wFld K hFld sFld', wLps K hLps sLps']) := by
  refine mv_of (cc := b_Walk_begin) (maxL := 1) (own := "ObsMessages$Walk") (by decide) rfl rfl (Nat.le_of_ble_eq_true rfl) ?_
  intro p e s m below meth c A ls hC hP hD hS hl
  obtain ⟨hx, hb, hml, hown, hts, hr, hlocks, hK, hF, hA⟩ := hC
  have hP : va_P D vwCl (fl [wWalk K hWalk (hFld 0) (hTab 0) (hProg 0) (hLps 0) sWalk, wFld K hFld sFld, wLps K hLps sLps]) s.heap := hP
  have hl : lv_has ls 1 [(0, .ref (hWalk 0))] := hl
  suffices hW : ∀ (H : Heap) (locs : List Loc), va_P D vwCl (fl [wWalk K hWalk (hFld 0) (hTab 0) (hProg 0) (hLps 0) sWalk, wFld K hFld sFld, wLps K hLps sLps]) H → va_S A s.heap H locs → W p l e rm_Walk_begin s m ([.ref (hWalk 0)] : List Value).toArray below meth c H locs 0 0 (Qv below ([.ref (hWalk 0)] : List Value).toArray s D K A (fl [wWalk K hWalk (hFld 0) (hTab 0) (hProg 0) (hLps 0) sWalk', wFld K hFld sFld', wLps K hLps sLps'])) (F0 m 0 ls []) from hW s.heap [] hP hS
  clear hP hS
  intro H locs hP hS
  refine lv_aload_n (pc := 0) hx hb d_Walk_begin_0 rfl (lv_at hl 0 rfl) ?_
  refine va_get (D := D) (ci := 3) (v := .ref (hFld 0)) (C := R_Walk) (T := T_Walk) (N := 18) (pc := 1) hx hb hts (fun w h => List.mem_cons_of_mem _ (in_Walk w h)) hown hK hP _ (fl_at 0 0 rfl rfl) rfl 0 (by decide) (hts _ (List.mem_cons_of_mem _ tw_205)) (fun _ h9 => h9) rfl d_Walk_begin_1 ?_
  refine lv_iconst (v := 0) (pc := 4) hx hb d_Walk_begin_4 (by decide) ?_
  refine va_put (D := D) (ci := 4) (v := .int 0) (ty := .int) (C := R_Fld) (T := T_Fld) (N := 8) (pc := 5) hx hb hts (fun w h => List.mem_cons_of_mem _ (in_Fld w h)) ty_Fld ty_Fld_ok nm_Fld hown hK hP hD hS _ (fl_at 1 0 rfl rfl) rfl 7 (by decide) (hts _ (List.mem_cons_of_mem _ tw_162)) (fun _ h9 => h9) rfl (by decide +kernel) rfl rfl (Nat.le_of_ble_eq_true rfl) d_Walk_begin_5 (fun H locs hP hD hS => ?_)
  obtain ⟨sFld_1, esFld_1, hf⟩ := o_lt_e hf
  have hP : va_P D vwCl (fl [wWalk K hWalk (hFld 0) (hTab 0) (hProg 0) (hLps 0) sWalk, wFld K hFld sFld_1, wLps K hLps sLps]) H := by rw [esFld_1]; exact fl_P 1 0 rfl (Nat.le_of_ble_eq_true rfl) rfl rfl hP
  have hD : va_D A (fl [wWalk K hWalk (hFld 0) (hTab 0) (hProg 0) (hLps 0) sWalk, wFld K hFld sFld_1, wLps K hLps sLps]) := by rw [esFld_1]; exact fl_D 1 0 rfl (Nat.le_of_ble_eq_true rfl) rfl rfl hD
  refine lv_aload_n (pc := 8) hx hb d_Walk_begin_8 rfl (lv_at hl 0 rfl) ?_
  refine lv_iconst (v := 0) (pc := 9) hx hb d_Walk_begin_9 (by decide) ?_
  refine va_put (D := D) (ci := 3) (v := .int 0) (ty := .int) (C := R_Walk) (T := T_Walk) (N := 18) (pc := 10) hx hb hts (fun w h => List.mem_cons_of_mem _ (in_Walk w h)) ty_Walk ty_Walk_ok nm_Walk hown hK hP hD hS _ (fl_at 0 0 rfl rfl) rfl 1 (by decide) (hts _ (List.mem_cons_of_mem _ tw_209)) (fun _ h9 => h9) rfl (by decide +kernel) rfl rfl (Nat.le_of_ble_eq_true rfl) d_Walk_begin_10 (fun H locs hP hD hS => ?_)
  obtain ⟨sWalk_2, esWalk_2, hf⟩ := o_lt_e hf
  have hP : va_P D vwCl (fl [wWalk K hWalk (hFld 0) (hTab 0) (hProg 0) (hLps 0) sWalk_2, wFld K hFld sFld_1, wLps K hLps sLps]) H := by rw [esWalk_2]; exact fl_P 0 0 rfl (Nat.le_of_ble_eq_true rfl) rfl rfl hP
  have hD : va_D A (fl [wWalk K hWalk (hFld 0) (hTab 0) (hProg 0) (hLps 0) sWalk_2, wFld K hFld sFld_1, wLps K hLps sLps]) := by rw [esWalk_2]; exact fl_D 0 0 rfl (Nat.le_of_ble_eq_true rfl) rfl rfl hD
  refine lv_aload_n (pc := 13) hx hb d_Walk_begin_13 rfl (lv_at hl 0 rfl) ?_
  refine lv_iconst (v := (-1)) (pc := 14) hx hb d_Walk_begin_14 (by decide) ?_
  refine va_put (D := D) (ci := 3) (v := .int ((-1))) (ty := .int) (C := R_Walk) (T := T_Walk) (N := 18) (pc := 15) hx hb hts (fun w h => List.mem_cons_of_mem _ (in_Walk w h)) ty_Walk ty_Walk_ok nm_Walk hown hK hP hD hS _ (fl_at 0 0 rfl rfl) rfl 2 (by decide) (hts _ (List.mem_cons_of_mem _ tw_212)) (fun _ h9 => h9) rfl (by decide +kernel) rfl rfl (Nat.le_of_ble_eq_true rfl) d_Walk_begin_15 (fun H locs hP hD hS => ?_)
  obtain ⟨sWalk_3, esWalk_3, hf⟩ := o_lt_e hf
  have hP : va_P D vwCl (fl [wWalk K hWalk (hFld 0) (hTab 0) (hProg 0) (hLps 0) sWalk_3, wFld K hFld sFld_1, wLps K hLps sLps]) H := by rw [esWalk_3]; exact fl_P 0 0 rfl (Nat.le_of_ble_eq_true rfl) rfl rfl hP
  have hD : va_D A (fl [wWalk K hWalk (hFld 0) (hTab 0) (hProg 0) (hLps 0) sWalk_3, wFld K hFld sFld_1, wLps K hLps sLps]) := by rw [esWalk_3]; exact fl_D 0 0 rfl (Nat.le_of_ble_eq_true rfl) rfl rfl hD
  refine lv_aload_n (pc := 18) hx hb d_Walk_begin_18 rfl (lv_at hl 0 rfl) ?_
  refine va_get (D := D) (ci := 3) (v := .ref (hLps 0)) (C := R_Walk) (T := T_Walk) (N := 18) (pc := 19) hx hb hts (fun w h => List.mem_cons_of_mem _ (in_Walk w h)) hown hK hP _ (fl_at 0 0 rfl rfl) rfl 5 (by decide) (hts _ (List.mem_cons_of_mem _ tw_217)) (fun _ h9 => h9) rfl d_Walk_begin_19 ?_
  obtain ⟨q4, hq4, hf⟩ := o_bd_e hf
  refine fi_v (pc := 22) (va_runV (As := []) (rest := []) ⟨hx, hb, hml, hown, hts⟩ ((c_Lps_leaveAll l D K hLps sLps q4 hq4) _) (cwV 0 hts (gV tw_547 tw_548 tw_549 tw_6 tw_550) rfl rfl rfl (by decide +kernel) ⟨by decide, by decide⟩) ⟨mPre_blind, va_recv hK hP (ci := 5) rfl (fl_at 2 0 rfl rfl), (mPre_fl hK hF hA hP hD hS [2] rfl rfl)⟩ rfl rfl hl.1 rfl (lv_room (Nat.le_of_ble_eq_true rfl)) d_Walk_begin_22 ⟨Nat.zero_le _, Nat.zero_le _⟩) hA hP hD hS [2] rfl rfl (fun H locs hP hD hS => ?_)
  have hP : va_P D vwCl (fl [wWalk K hWalk (hFld 0) (hTab 0) (hProg 0) (hLps 0) sWalk_3, wFld K hFld sFld_1, wLps K hLps q4]) H := hP
  have hD : va_D A (fl [wWalk K hWalk (hFld 0) (hTab 0) (hProg 0) (hLps 0) sWalk_3, wFld K hFld sFld_1, wLps K hLps q4]) := hD
  refine lv_aload_n (pc := 25) hx hb d_Walk_begin_25 rfl (lv_at hl 0 rfl) ?_
  refine va_get (D := D) (ci := 3) (v := .ref (hWalk 1)) (C := R_Walk) (T := T_Walk) (N := 18) (pc := 26) hx hb hts (fun w h => List.mem_cons_of_mem _ (in_Walk w h)) hown hK hP _ (fl_at 0 0 rfl rfl) rfl 6 (by decide) (hts _ (List.mem_cons_of_mem _ tw_218)) (fun _ h9 => h9) rfl d_Walk_begin_26 ?_
  refine lv_iconst (v := 0) (pc := 29) hx hb d_Walk_begin_29 (by decide) ?_
  obtain ⟨q5, hq5, hf⟩ := o_bd_e hf
  refine go_v (pc := 30) (va_runS (As := [.ref (hWalk 1), .int 0]) (rest := []) ⟨hx, hb, hml, hown, hts⟩ ((c_Arr_fill_aII l D K fu (fun _ => hWalk 1) 4 (Walk_settings sWalk_3) 0 q5 hq5) _) (va_cwS 2 hts (gT tw_551 tw_447 tw_11 tw_448) rfl rfl rfl (by decide +kernel) ⟨by decide, by decide⟩) ⟨mPre_blind, (mPre_at hK hF hA hP hD hS [_] (congrArg (fun x => [x]) (fl_at 0 1 rfl rfl)) rfl)⟩ rfl rfl hl.1 rfl (lv_room (Nat.le_of_ble_eq_true rfl)) d_Walk_begin_30 ⟨Nat.zero_le _, Nat.zero_le _⟩) hA hP hD hS [_] (congrArg (fun x => [x]) (fl_at 0 1 rfl rfl)) rfl (fun H locs hP hD hS => ?_)
  have hP : va_P D vwCl (fl [wWalk K hWalk (hFld 0) (hTab 0) (hProg 0) (hLps 0) (Walk_set_settings sWalk_3 q5), wFld K hFld sFld_1, wLps K hLps q4]) H := fl_P 0 1 rfl (Nat.le_of_ble_eq_true rfl) rfl rfl hP
  have hD : va_D A (fl [wWalk K hWalk (hFld 0) (hTab 0) (hProg 0) (hLps 0) (Walk_set_settings sWalk_3 q5), wFld K hFld sFld_1, wLps K hLps q4]) := fl_D 0 1 rfl (Nat.le_of_ble_eq_true rfl) rfl rfl hD
  refine lv_aload_n (pc := 33) hx hb d_Walk_begin_33 rfl (lv_at hl 0 rfl) ?_
  refine lv_iconst (v := 0) (pc := 34) hx hb d_Walk_begin_34 (by decide) ?_
  refine va_put (D := D) (ci := 3) (v := .int 0) (ty := .int) (C := R_Walk) (T := T_Walk) (N := 18) (pc := 35) hx hb hts (fun w h => List.mem_cons_of_mem _ (in_Walk w h)) ty_Walk ty_Walk_ok nm_Walk hown hK hP hD hS _ (fl_at 0 0 rfl rfl) rfl 8 (by decide) (hts _ (List.mem_cons_of_mem _ tw_220)) (fun _ h9 => h9) rfl (by decide +kernel) rfl rfl (Nat.le_of_ble_eq_true rfl) d_Walk_begin_35 (fun H locs hP hD hS => ?_)
  obtain ⟨sWalk_6, esWalk_6, hf⟩ := o_lt_e hf
  have hP : va_P D vwCl (fl [wWalk K hWalk (hFld 0) (hTab 0) (hProg 0) (hLps 0) sWalk_6, wFld K hFld sFld_1, wLps K hLps q4]) H := by rw [esWalk_6]; exact fl_P 0 0 rfl (Nat.le_of_ble_eq_true rfl) rfl rfl hP
  have hD : va_D A (fl [wWalk K hWalk (hFld 0) (hTab 0) (hProg 0) (hLps 0) sWalk_6, wFld K hFld sFld_1, wLps K hLps q4]) := by rw [esWalk_6]; exact fl_D 0 0 rfl (Nat.le_of_ble_eq_true rfl) rfl rfl hD
  refine lv_aload_n (pc := 38) hx hb d_Walk_begin_38 rfl (lv_at hl 0 rfl) ?_
  refine lv_iconst (v := 0) (pc := 39) hx hb d_Walk_begin_39 (by decide) ?_
  refine va_put (D := D) (ci := 3) (v := .int 0) (ty := .int) (C := R_Walk) (T := T_Walk) (N := 18) (pc := 40) hx hb hts (fun w h => List.mem_cons_of_mem _ (in_Walk w h)) ty_Walk ty_Walk_ok nm_Walk hown hK hP hD hS _ (fl_at 0 0 rfl rfl) rfl 10 (by decide) (hts _ (List.mem_cons_of_mem _ tw_222)) (fun _ h9 => h9) rfl (by decide +kernel) rfl rfl (Nat.le_of_ble_eq_true rfl) d_Walk_begin_40 (fun H locs hP hD hS => ?_)
  obtain ⟨sWalk_7, esWalk_7, hf⟩ := o_lt_e hf
  have hP : va_P D vwCl (fl [wWalk K hWalk (hFld 0) (hTab 0) (hProg 0) (hLps 0) sWalk_7, wFld K hFld sFld_1, wLps K hLps q4]) H := by rw [esWalk_7]; exact fl_P 0 0 rfl (Nat.le_of_ble_eq_true rfl) rfl rfl hP
  have hD : va_D A (fl [wWalk K hWalk (hFld 0) (hTab 0) (hProg 0) (hLps 0) sWalk_7, wFld K hFld sFld_1, wLps K hLps q4]) := by rw [esWalk_7]; exact fl_D 0 0 rfl (Nat.le_of_ble_eq_true rfl) rfl rfl hD
  refine lv_aload_n (pc := 43) hx hb d_Walk_begin_43 rfl (lv_at hl 0 rfl) ?_
  refine lv_iconst (v := 0) (pc := 44) hx hb d_Walk_begin_44 (by decide) ?_
  refine va_put (D := D) (ci := 3) (v := .int 0) (ty := .int) (C := R_Walk) (T := T_Walk) (N := 18) (pc := 45) hx hb hts (fun w h => List.mem_cons_of_mem _ (in_Walk w h)) ty_Walk ty_Walk_ok nm_Walk hown hK hP hD hS _ (fl_at 0 0 rfl rfl) rfl 11 (by decide) (hts _ (List.mem_cons_of_mem _ tw_223)) (fun _ h9 => h9) rfl (by decide +kernel) rfl rfl (Nat.le_of_ble_eq_true rfl) d_Walk_begin_45 (fun H locs hP hD hS => ?_)
  obtain ⟨sWalk_8, esWalk_8, hf⟩ := o_lt_e hf
  have hP : va_P D vwCl (fl [wWalk K hWalk (hFld 0) (hTab 0) (hProg 0) (hLps 0) sWalk_8, wFld K hFld sFld_1, wLps K hLps q4]) H := by rw [esWalk_8]; exact fl_P 0 0 rfl (Nat.le_of_ble_eq_true rfl) rfl rfl hP
  have hD : va_D A (fl [wWalk K hWalk (hFld 0) (hTab 0) (hProg 0) (hLps 0) sWalk_8, wFld K hFld sFld_1, wLps K hLps q4]) := by rw [esWalk_8]; exact fl_D 0 0 rfl (Nat.le_of_ble_eq_true rfl) rfl rfl hD
  refine lv_aload_n (pc := 48) hx hb d_Walk_begin_48 rfl (lv_at hl 0 rfl) ?_
  refine lv_iconst (v := 0) (pc := 49) hx hb d_Walk_begin_49 (by decide) ?_
  refine va_put (D := D) (ci := 3) (v := .int 0) (ty := .int) (C := R_Walk) (T := T_Walk) (N := 18) (pc := 50) hx hb hts (fun w h => List.mem_cons_of_mem _ (in_Walk w h)) ty_Walk ty_Walk_ok nm_Walk hown hK hP hD hS _ (fl_at 0 0 rfl rfl) rfl 12 (by decide) (hts _ (List.mem_cons_of_mem _ tw_224)) (fun _ h9 => h9) rfl (by decide +kernel) rfl rfl (Nat.le_of_ble_eq_true rfl) d_Walk_begin_50 (fun H locs hP hD hS => ?_)
  obtain ⟨sWalk_9, esWalk_9, hf⟩ := o_lt_e hf
  have hP : va_P D vwCl (fl [wWalk K hWalk (hFld 0) (hTab 0) (hProg 0) (hLps 0) sWalk_9, wFld K hFld sFld_1, wLps K hLps q4]) H := by rw [esWalk_9]; exact fl_P 0 0 rfl (Nat.le_of_ble_eq_true rfl) rfl rfl hP
  have hD : va_D A (fl [wWalk K hWalk (hFld 0) (hTab 0) (hProg 0) (hLps 0) sWalk_9, wFld K hFld sFld_1, wLps K hLps q4]) := by rw [esWalk_9]; exact fl_D 0 0 rfl (Nat.le_of_ble_eq_true rfl) rfl rfl hD
  refine lv_aload_n (pc := 53) hx hb d_Walk_begin_53 rfl (lv_at hl 0 rfl) ?_
  refine lv_iconst (v := 0) (pc := 54) hx hb d_Walk_begin_54 (by decide) ?_
  refine va_put (D := D) (ci := 3) (v := .int 0) (ty := .int) (C := R_Walk) (T := T_Walk) (N := 18) (pc := 55) hx hb hts (fun w h => List.mem_cons_of_mem _ (in_Walk w h)) ty_Walk ty_Walk_ok nm_Walk hown hK hP hD hS _ (fl_at 0 0 rfl rfl) rfl 13 (by decide) (hts _ (List.mem_cons_of_mem _ tw_225)) (fun _ h9 => h9) rfl (by decide +kernel) rfl rfl (Nat.le_of_ble_eq_true rfl) d_Walk_begin_55 (fun H locs hP hD hS => ?_)
  obtain ⟨sWalk_10, esWalk_10, hf⟩ := o_lt_e hf
  have hP : va_P D vwCl (fl [wWalk K hWalk (hFld 0) (hTab 0) (hProg 0) (hLps 0) sWalk_10, wFld K hFld sFld_1, wLps K hLps q4]) H := by rw [esWalk_10]; exact fl_P 0 0 rfl (Nat.le_of_ble_eq_true rfl) rfl rfl hP
  have hD : va_D A (fl [wWalk K hWalk (hFld 0) (hTab 0) (hProg 0) (hLps 0) sWalk_10, wFld K hFld sFld_1, wLps K hLps q4]) := by rw [esWalk_10]; exact fl_D 0 0 rfl (Nat.le_of_ble_eq_true rfl) rfl rfl hD
  refine lv_aload_n (pc := 58) hx hb d_Walk_begin_58 rfl (lv_at hl 0 rfl) ?_
  refine lv_iconst (v := (-1)) (pc := 59) hx hb d_Walk_begin_59 (by decide) ?_
  refine va_put (D := D) (ci := 3) (v := .int ((-1))) (ty := .int) (C := R_Walk) (T := T_Walk) (N := 18) (pc := 60) hx hb hts (fun w h => List.mem_cons_of_mem _ (in_Walk w h)) ty_Walk ty_Walk_ok nm_Walk hown hK hP hD hS _ (fl_at 0 0 rfl rfl) rfl 14 (by decide) (hts _ (List.mem_cons_of_mem _ tw_226)) (fun _ h9 => h9) rfl (by decide +kernel) rfl rfl (Nat.le_of_ble_eq_true rfl) d_Walk_begin_60 (fun H locs hP hD hS => ?_)
  obtain ⟨sWalk_11, esWalk_11, hf⟩ := o_lt_e hf
  have hP : va_P D vwCl (fl [wWalk K hWalk (hFld 0) (hTab 0) (hProg 0) (hLps 0) sWalk_11, wFld K hFld sFld_1, wLps K hLps q4]) H := by rw [esWalk_11]; exact fl_P 0 0 rfl (Nat.le_of_ble_eq_true rfl) rfl rfl hP
  have hD : va_D A (fl [wWalk K hWalk (hFld 0) (hTab 0) (hProg 0) (hLps 0) sWalk_11, wFld K hFld sFld_1, wLps K hLps q4]) := by rw [esWalk_11]; exact fl_D 0 0 rfl (Nat.le_of_ble_eq_true rfl) rfl rfl hD
  refine lv_aload_n (pc := 63) hx hb d_Walk_begin_63 rfl (lv_at hl 0 rfl) ?_
  refine lv_iconst (v := (-1)) (pc := 64) hx hb d_Walk_begin_64 (by decide) ?_
  refine va_put (D := D) (ci := 3) (v := .int ((-1))) (ty := .int) (C := R_Walk) (T := T_Walk) (N := 18) (pc := 65) hx hb hts (fun w h => List.mem_cons_of_mem _ (in_Walk w h)) ty_Walk ty_Walk_ok nm_Walk hown hK hP hD hS _ (fl_at 0 0 rfl rfl) rfl 15 (by decide) (hts _ (List.mem_cons_of_mem _ tw_227)) (fun _ h9 => h9) rfl (by decide +kernel) rfl rfl (Nat.le_of_ble_eq_true rfl) d_Walk_begin_65 (fun H locs hP hD hS => ?_)
  obtain ⟨sWalk_12, esWalk_12, hf⟩ := o_lt_e hf
  have hP : va_P D vwCl (fl [wWalk K hWalk (hFld 0) (hTab 0) (hProg 0) (hLps 0) sWalk_12, wFld K hFld sFld_1, wLps K hLps q4]) H := by rw [esWalk_12]; exact fl_P 0 0 rfl (Nat.le_of_ble_eq_true rfl) rfl rfl hP
  have hD : va_D A (fl [wWalk K hWalk (hFld 0) (hTab 0) (hProg 0) (hLps 0) sWalk_12, wFld K hFld sFld_1, wLps K hLps q4]) := by rw [esWalk_12]; exact fl_D 0 0 rfl (Nat.le_of_ble_eq_true rfl) rfl rfl hD
  refine lv_aload_n (pc := 68) hx hb d_Walk_begin_68 rfl (lv_at hl 0 rfl) ?_
  refine lv_iconst (v := 0) (pc := 69) hx hb d_Walk_begin_69 (by decide) ?_
  refine va_put (D := D) (ci := 3) (v := .int 0) (ty := .int) (C := R_Walk) (T := T_Walk) (N := 18) (pc := 70) hx hb hts (fun w h => List.mem_cons_of_mem _ (in_Walk w h)) ty_Walk ty_Walk_ok nm_Walk hown hK hP hD hS _ (fl_at 0 0 rfl rfl) rfl 16 (by decide) (hts _ (List.mem_cons_of_mem _ tw_228)) (fun _ h9 => h9) rfl (by decide +kernel) rfl rfl (Nat.le_of_ble_eq_true rfl) d_Walk_begin_70 (fun H locs hP hD hS => ?_)
  obtain ⟨sWalk_13, esWalk_13, hf⟩ := o_lt_e hf
  have hP : va_P D vwCl (fl [wWalk K hWalk (hFld 0) (hTab 0) (hProg 0) (hLps 0) sWalk_13, wFld K hFld sFld_1, wLps K hLps q4]) H := by rw [esWalk_13]; exact fl_P 0 0 rfl (Nat.le_of_ble_eq_true rfl) rfl rfl hP
  have hD : va_D A (fl [wWalk K hWalk (hFld 0) (hTab 0) (hProg 0) (hLps 0) sWalk_13, wFld K hFld sFld_1, wLps K hLps q4]) := by rw [esWalk_13]; exact fl_D 0 0 rfl (Nat.le_of_ble_eq_true rfl) rfl rfl hD
  refine lv_aload_n (pc := 73) hx hb d_Walk_begin_73 rfl (lv_at hl 0 rfl) ?_
  refine lv_iconst (v := (-1)) (pc := 74) hx hb d_Walk_begin_74 (by decide) ?_
  refine va_put (D := D) (ci := 3) (v := .int ((-1))) (ty := .int) (C := R_Walk) (T := T_Walk) (N := 18) (pc := 75) hx hb hts (fun w h => List.mem_cons_of_mem _ (in_Walk w h)) ty_Walk ty_Walk_ok nm_Walk hown hK hP hD hS _ (fl_at 0 0 rfl rfl) rfl 17 (by decide) (hts _ (List.mem_cons_of_mem _ tw_229)) (fun _ h9 => h9) rfl (by decide +kernel) rfl rfl (Nat.le_of_ble_eq_true rfl) d_Walk_begin_75 (fun H locs hP hD hS => ?_)
  obtain ⟨sWalk_14, esWalk_14, hf⟩ := o_lt_e hf
  have hP : va_P D vwCl (fl [wWalk K hWalk (hFld 0) (hTab 0) (hProg 0) (hLps 0) sWalk_14, wFld K hFld sFld_1, wLps K hLps q4]) H := by rw [esWalk_14]; exact fl_P 0 0 rfl (Nat.le_of_ble_eq_true rfl) rfl rfl hP
  have hD : va_D A (fl [wWalk K hWalk (hFld 0) (hTab 0) (hProg 0) (hLps 0) sWalk_14, wFld K hFld sFld_1, wLps K hLps q4]) := by rw [esWalk_14]; exact fl_D 0 0 rfl (Nat.le_of_ble_eq_true rfl) rfl rfl hD
  cases hf
  exact ret_v hx hb hr hlocks hK hP hS d_Walk_begin_78
def Walk_give (sLps : S_Lps) (a0 : Int32) (a1 : Int32) (a2 : Int32) (a3 : Int32) (a4 : Int64) (a5 : Int32) (sWalk : S_Walk) (sFld : S_Fld) : Option (S_Walk × S_Fld) := if (Fld_count sFld) < 100 then o_gd (o_in (Fld_count sFld) 100) (o_lt (Fld_put_kinds sFld (Fld_count sFld : Int32).toNatClampNeg a0) fun sFld_2 => (o_gd (o_in (Fld_count sFld) 100) (o_lt (Fld_put_codes sFld_2 (Fld_count sFld : Int32).toNatClampNeg a1) fun sFld_4 => (o_gd (o_in (Fld_count sFld) 100) (o_lt (Fld_put_widths sFld_4 (Fld_count sFld : Int32).toNatClampNeg a2) fun sFld_6 => (o_gd (o_in (Fld_count sFld) 100) (o_lt (Fld_put_scales sFld_6 (Fld_count sFld : Int32).toNatClampNeg a3) fun sFld_8 => (o_gd (o_in (Fld_count sFld) 100) (o_lt (Fld_put_references sFld_8 (Fld_count sFld : Int32).toNatClampNeg a4) fun sFld_10 => (o_gd (o_in (Fld_count sFld) 100) (o_lt (Fld_put_targets sFld_10 (Fld_count sFld : Int32).toNatClampNeg a5) fun sFld_12 => (o_bd (Lps_repetition sLps) fun q13 => (o_gd (o_in (Fld_count sFld) 100) (o_lt (Fld_put_repetitions sFld_12 (Fld_count sFld : Int32).toNatClampNeg q13) fun sFld_15 => (o_lt (Fld_set_count sFld_15 ((Fld_count sFld_15) + 1)) fun sFld_16 => (if a0 = 0 then o_gd (o_in (Walk_elementCount sWalk) 100) (o_lt (Walk_put_elements sWalk (Walk_elementCount sWalk : Int32).toNatClampNeg (Fld_count sFld)) fun sWalk_18 => (o_lt (Walk_set_elementCount sWalk_18 ((Walk_elementCount sWalk_18) + 1)) fun sWalk_19 => (some ((sWalk_19, sFld_16))))) else some ((sWalk, sFld_16)))))))))))))))))) else o_bd (Walk_fail 8 (Fld_count sFld) sWalk) fun q21 => (some ((q21, sFld)))
abbrev rm_Walk_give : Room := { frames := 1, cells := 0, slots := 0, locals := 22 }
set_option maxHeartbeats 4000000 in
set_option maxRecDepth 100000 in
theorem c_Walk_give (l : Launch) (D : va_G) (K : Nat → ClassId) (hTab : Nat → Nat) (hProg : Nat → Nat) (hWalk : Nat → Nat) (hFld : Nat → Nat) (hLps : Nat → Nat) (sWalk : S_Walk) (sFld : S_Fld) (sLps : S_Lps) (a0 : Int32) (a1 : Int32) (a2 : Int32) (a3 : Int32) (a4 : Int64) (a5 : Int32) (sWalk' : S_Walk) (sFld' : S_Fld) (hf : Walk_give sLps a0 a1 a2 a3 a4 a5 sWalk sFld = some ((sWalk', sFld'))) : mv l D K y_Walk_give ws_Walk_give rm_Walk_give [.ref (hWalk 0), .int a0, .int a1, .int a2, .int a3, .long a4, .int a5] (fl [wWalk K hWalk (hFld 0) (hTab 0) (hProg 0) (hLps 0) sWalk, wFld K hFld sFld, wLps K hLps sLps]) (fl [wWalk K hWalk (hFld 0) (hTab 0) (hProg 0) (hLps 0) sWalk', wFld K hFld sFld', wLps K hLps sLps]) := by
  refine mv_of (cc := b_Walk_give) (maxL := 9) (own := "ObsMessages$Walk") (by decide) rfl rfl (Nat.le_of_ble_eq_true rfl) ?_
  intro p e s m below meth c A ls hC hP hD hS hl
  obtain ⟨hx, hb, hml, hown, hts, hr, hlocks, hK, hF, hA⟩ := hC
  have hP : va_P D vwCl (fl [wWalk K hWalk (hFld 0) (hTab 0) (hProg 0) (hLps 0) sWalk, wFld K hFld sFld, wLps K hLps sLps]) s.heap := hP
  have hl : lv_has ls 9 [(0, .ref (hWalk 0)), (1, .int a0), (2, .int a1), (3, .int a2), (4, .int a3), (5, .long a4), (7, .int a5)] := hl
  suffices hW : ∀ (H : Heap) (locs : List Loc), va_P D vwCl (fl [wWalk K hWalk (hFld 0) (hTab 0) (hProg 0) (hLps 0) sWalk, wFld K hFld sFld, wLps K hLps sLps]) H → va_S A s.heap H locs → W p l e rm_Walk_give s m ([.ref (hWalk 0), .int a0, .int a1, .int a2, .int a3, .long a4, .int a5] : List Value).toArray below meth c H locs 0 0 (Qv below ([.ref (hWalk 0), .int a0, .int a1, .int a2, .int a3, .long a4, .int a5] : List Value).toArray s D K A (fl [wWalk K hWalk (hFld 0) (hTab 0) (hProg 0) (hLps 0) sWalk', wFld K hFld sFld', wLps K hLps sLps])) (F0 m 0 ls []) from hW s.heap [] hP hS
  clear hP hS
  intro H locs hP hS
  refine lv_aload_n (pc := 0) hx hb d_Walk_give_0 rfl (lv_at hl 0 rfl) ?_
  refine va_get (D := D) (ci := 3) (v := .ref (hFld 0)) (C := R_Walk) (T := T_Walk) (N := 18) (pc := 1) hx hb hts (fun w h => List.mem_cons_of_mem _ (in_Walk w h)) hown hK hP _ (fl_at 0 0 rfl rfl) rfl 0 (by decide) (hts _ (List.mem_cons_of_mem _ tw_205)) (fun _ h9 => h9) rfl d_Walk_give_1 ?_
  refine va_get (D := D) (ci := 4) (v := .int (Fld_count sFld)) (C := R_Fld) (T := T_Fld) (N := 8) (pc := 4) hx hb hts (fun w h => List.mem_cons_of_mem _ (in_Fld w h)) hown hK hP _ (fl_at 1 0 rfl rfl) rfl 7 (by decide) (hts _ (List.mem_cons_of_mem _ tw_162)) (fun _ h9 => h9) rfl d_Walk_give_4 ?_
  refine lv_istore (lv' := [(8, .int (Fld_count sFld)), (0, .ref (hWalk 0)), (1, .int a0), (2, .int a1), (3, .int a2), (4, .int a3), (5, .long a4), (7, .int a5)]) (pc := 7) hx hb d_Walk_give_7 hl (by decide) rfl (fun ls hl => ?_)
  refine lv_iload (pc := 9) hx hb d_Walk_give_9 (lv_at hl 0 rfl) ?_
  refine lv_bipush (v := 100) (pc := 11) hx hb d_Walk_give_11 (by decide) ?_
  refine lv_icmp_lt (tgt := 25) (pc := 13) hx hb d_Walk_give_13 (by decide) (fun c22 => ?_) (fun c22 => ?_)
  · replace hf := o_t c22 hf
    refine lv_aload_n (pc := 25) hx hb d_Walk_give_25 rfl (lv_at hl 1 rfl) ?_
    refine va_get (D := D) (ci := 3) (v := .ref (hFld 0)) (C := R_Walk) (T := T_Walk) (N := 18) (pc := 26) hx hb hts (fun w h => List.mem_cons_of_mem _ (in_Walk w h)) hown hK hP _ (fl_at 0 0 rfl rfl) rfl 0 (by decide) (hts _ (List.mem_cons_of_mem _ tw_205)) (fun _ h9 => h9) rfl d_Walk_give_26 ?_
    refine va_get (D := D) (ci := 4) (v := .ref (hFld 1)) (C := R_Fld) (T := T_Fld) (N := 8) (pc := 29) hx hb hts (fun w h => List.mem_cons_of_mem _ (in_Fld w h)) hown hK hP _ (fl_at 1 0 rfl rfl) rfl 0 (by decide) (hts _ (List.mem_cons_of_mem _ tw_136)) (fun _ h9 => h9) rfl d_Walk_give_29 ?_
    refine lv_iload (pc := 32) hx hb d_Walk_give_32 (lv_at hl 0 rfl) ?_
    refine lv_iload_n (pc := 34) hx hb d_Walk_give_34 rfl (lv_at hl 2 rfl) ?_
    obtain ⟨hi1, hf⟩ := o_gi_e hf
    refine va_iast (D := D) (pc := 35) hx hb hK hP hD hS _ 0 (fl_at 1 1 rfl rfl) rfl hi1 d_Walk_give_35 (fun H locs hP hD hS => ?_)
    obtain ⟨sFld_2, esFld_2, hf⟩ := o_lt_e hf
    have hP : va_P D vwCl (fl [wWalk K hWalk (hFld 0) (hTab 0) (hProg 0) (hLps 0) sWalk, wFld K hFld sFld_2, wLps K hLps sLps]) H := by rw [esFld_2]; exact fl_P 1 1 rfl (Nat.le_of_ble_eq_true rfl) rfl rfl hP
    have hD : va_D A (fl [wWalk K hWalk (hFld 0) (hTab 0) (hProg 0) (hLps 0) sWalk, wFld K hFld sFld_2, wLps K hLps sLps]) := by rw [esFld_2]; exact fl_D 1 1 rfl (Nat.le_of_ble_eq_true rfl) rfl rfl hD
    refine lv_aload_n (pc := 36) hx hb d_Walk_give_36 rfl (lv_at hl 1 rfl) ?_
    refine va_get (D := D) (ci := 3) (v := .ref (hFld 0)) (C := R_Walk) (T := T_Walk) (N := 18) (pc := 37) hx hb hts (fun w h => List.mem_cons_of_mem _ (in_Walk w h)) hown hK hP _ (fl_at 0 0 rfl rfl) rfl 0 (by decide) (hts _ (List.mem_cons_of_mem _ tw_205)) (fun _ h9 => h9) rfl d_Walk_give_37 ?_
    refine va_get (D := D) (ci := 4) (v := .ref (hFld 2)) (C := R_Fld) (T := T_Fld) (N := 8) (pc := 40) hx hb hts (fun w h => List.mem_cons_of_mem _ (in_Fld w h)) hown hK hP _ (fl_at 1 0 rfl rfl) rfl 1 (by decide) (hts _ (List.mem_cons_of_mem _ tw_141)) (fun _ h9 => h9) rfl d_Walk_give_40 ?_
    refine lv_iload (pc := 43) hx hb d_Walk_give_43 (lv_at hl 0 rfl) ?_
    refine lv_iload_n (pc := 45) hx hb d_Walk_give_45 rfl (lv_at hl 3 rfl) ?_
    obtain ⟨hi3, hf⟩ := o_gi_e hf
    refine va_iast (D := D) (pc := 46) hx hb hK hP hD hS _ 0 (fl_at 1 2 rfl rfl) rfl hi3 d_Walk_give_46 (fun H locs hP hD hS => ?_)
    obtain ⟨sFld_4, esFld_4, hf⟩ := o_lt_e hf
    have hP : va_P D vwCl (fl [wWalk K hWalk (hFld 0) (hTab 0) (hProg 0) (hLps 0) sWalk, wFld K hFld sFld_4, wLps K hLps sLps]) H := by rw [esFld_4]; exact fl_P 1 2 rfl (Nat.le_of_ble_eq_true rfl) rfl rfl hP
    have hD : va_D A (fl [wWalk K hWalk (hFld 0) (hTab 0) (hProg 0) (hLps 0) sWalk, wFld K hFld sFld_4, wLps K hLps sLps]) := by rw [esFld_4]; exact fl_D 1 2 rfl (Nat.le_of_ble_eq_true rfl) rfl rfl hD
    refine lv_aload_n (pc := 47) hx hb d_Walk_give_47 rfl (lv_at hl 1 rfl) ?_
    refine va_get (D := D) (ci := 3) (v := .ref (hFld 0)) (C := R_Walk) (T := T_Walk) (N := 18) (pc := 48) hx hb hts (fun w h => List.mem_cons_of_mem _ (in_Walk w h)) hown hK hP _ (fl_at 0 0 rfl rfl) rfl 0 (by decide) (hts _ (List.mem_cons_of_mem _ tw_205)) (fun _ h9 => h9) rfl d_Walk_give_48 ?_
    refine va_get (D := D) (ci := 4) (v := .ref (hFld 3)) (C := R_Fld) (T := T_Fld) (N := 8) (pc := 51) hx hb hts (fun w h => List.mem_cons_of_mem _ (in_Fld w h)) hown hK hP _ (fl_at 1 0 rfl rfl) rfl 2 (by decide) (hts _ (List.mem_cons_of_mem _ tw_146)) (fun _ h9 => h9) rfl d_Walk_give_51 ?_
    refine lv_iload (pc := 54) hx hb d_Walk_give_54 (lv_at hl 0 rfl) ?_
    refine lv_iload_n (pc := 56) hx hb d_Walk_give_56 rfl (lv_at hl 4 rfl) ?_
    obtain ⟨hi5, hf⟩ := o_gi_e hf
    refine va_iast (D := D) (pc := 57) hx hb hK hP hD hS _ 0 (fl_at 1 3 rfl rfl) rfl hi5 d_Walk_give_57 (fun H locs hP hD hS => ?_)
    obtain ⟨sFld_6, esFld_6, hf⟩ := o_lt_e hf
    have hP : va_P D vwCl (fl [wWalk K hWalk (hFld 0) (hTab 0) (hProg 0) (hLps 0) sWalk, wFld K hFld sFld_6, wLps K hLps sLps]) H := by rw [esFld_6]; exact fl_P 1 3 rfl (Nat.le_of_ble_eq_true rfl) rfl rfl hP
    have hD : va_D A (fl [wWalk K hWalk (hFld 0) (hTab 0) (hProg 0) (hLps 0) sWalk, wFld K hFld sFld_6, wLps K hLps sLps]) := by rw [esFld_6]; exact fl_D 1 3 rfl (Nat.le_of_ble_eq_true rfl) rfl rfl hD
    refine lv_aload_n (pc := 58) hx hb d_Walk_give_58 rfl (lv_at hl 1 rfl) ?_
    refine va_get (D := D) (ci := 3) (v := .ref (hFld 0)) (C := R_Walk) (T := T_Walk) (N := 18) (pc := 59) hx hb hts (fun w h => List.mem_cons_of_mem _ (in_Walk w h)) hown hK hP _ (fl_at 0 0 rfl rfl) rfl 0 (by decide) (hts _ (List.mem_cons_of_mem _ tw_205)) (fun _ h9 => h9) rfl d_Walk_give_59 ?_
    refine va_get (D := D) (ci := 4) (v := .ref (hFld 4)) (C := R_Fld) (T := T_Fld) (N := 8) (pc := 62) hx hb hts (fun w h => List.mem_cons_of_mem _ (in_Fld w h)) hown hK hP _ (fl_at 1 0 rfl rfl) rfl 3 (by decide) (hts _ (List.mem_cons_of_mem _ tw_149)) (fun _ h9 => h9) rfl d_Walk_give_62 ?_
    refine lv_iload (pc := 65) hx hb d_Walk_give_65 (lv_at hl 0 rfl) ?_
    refine lv_iload (pc := 67) hx hb d_Walk_give_67 (lv_at hl 5 rfl) ?_
    obtain ⟨hi7, hf⟩ := o_gi_e hf
    refine va_iast (D := D) (pc := 69) hx hb hK hP hD hS _ 0 (fl_at 1 4 rfl rfl) rfl hi7 d_Walk_give_69 (fun H locs hP hD hS => ?_)
    obtain ⟨sFld_8, esFld_8, hf⟩ := o_lt_e hf
    have hP : va_P D vwCl (fl [wWalk K hWalk (hFld 0) (hTab 0) (hProg 0) (hLps 0) sWalk, wFld K hFld sFld_8, wLps K hLps sLps]) H := by rw [esFld_8]; exact fl_P 1 4 rfl (Nat.le_of_ble_eq_true rfl) rfl rfl hP
    have hD : va_D A (fl [wWalk K hWalk (hFld 0) (hTab 0) (hProg 0) (hLps 0) sWalk, wFld K hFld sFld_8, wLps K hLps sLps]) := by rw [esFld_8]; exact fl_D 1 4 rfl (Nat.le_of_ble_eq_true rfl) rfl rfl hD
    refine lv_aload_n (pc := 70) hx hb d_Walk_give_70 rfl (lv_at hl 1 rfl) ?_
    refine va_get (D := D) (ci := 3) (v := .ref (hFld 0)) (C := R_Walk) (T := T_Walk) (N := 18) (pc := 71) hx hb hts (fun w h => List.mem_cons_of_mem _ (in_Walk w h)) hown hK hP _ (fl_at 0 0 rfl rfl) rfl 0 (by decide) (hts _ (List.mem_cons_of_mem _ tw_205)) (fun _ h9 => h9) rfl d_Walk_give_71 ?_
    refine va_get (D := D) (ci := 4) (v := .ref (hFld 5)) (C := R_Fld) (T := T_Fld) (N := 8) (pc := 74) hx hb hts (fun w h => List.mem_cons_of_mem _ (in_Fld w h)) hown hK hP _ (fl_at 1 0 rfl rfl) rfl 4 (by decide) (hts _ (List.mem_cons_of_mem _ tw_153)) (fun _ h9 => h9) rfl d_Walk_give_74 ?_
    refine lv_iload (pc := 77) hx hb d_Walk_give_77 (lv_at hl 0 rfl) ?_
    refine lv_lload (pc := 79) hx hb d_Walk_give_79 (lv_at hl 6 rfl) ?_
    obtain ⟨hi9, hf⟩ := o_gi_e hf
    refine va_last (D := D) (pc := 81) hx hb hK hP hD hS _ 1 (fl_at 1 5 rfl rfl) rfl hi9 d_Walk_give_81 (fun H locs hP hD hS => ?_)
    obtain ⟨sFld_10, esFld_10, hf⟩ := o_lt_e hf
    have hP : va_P D vwCl (fl [wWalk K hWalk (hFld 0) (hTab 0) (hProg 0) (hLps 0) sWalk, wFld K hFld sFld_10, wLps K hLps sLps]) H := by rw [esFld_10]; exact fl_P 1 5 rfl (Nat.le_of_ble_eq_true rfl) rfl rfl hP
    have hD : va_D A (fl [wWalk K hWalk (hFld 0) (hTab 0) (hProg 0) (hLps 0) sWalk, wFld K hFld sFld_10, wLps K hLps sLps]) := by rw [esFld_10]; exact fl_D 1 5 rfl (Nat.le_of_ble_eq_true rfl) rfl rfl hD
    refine lv_aload_n (pc := 82) hx hb d_Walk_give_82 rfl (lv_at hl 1 rfl) ?_
    refine va_get (D := D) (ci := 3) (v := .ref (hFld 0)) (C := R_Walk) (T := T_Walk) (N := 18) (pc := 83) hx hb hts (fun w h => List.mem_cons_of_mem _ (in_Walk w h)) hown hK hP _ (fl_at 0 0 rfl rfl) rfl 0 (by decide) (hts _ (List.mem_cons_of_mem _ tw_205)) (fun _ h9 => h9) rfl d_Walk_give_83 ?_
    refine va_get (D := D) (ci := 4) (v := .ref (hFld 6)) (C := R_Fld) (T := T_Fld) (N := 8) (pc := 86) hx hb hts (fun w h => List.mem_cons_of_mem _ (in_Fld w h)) hown hK hP _ (fl_at 1 0 rfl rfl) rfl 5 (by decide) (hts _ (List.mem_cons_of_mem _ tw_155)) (fun _ h9 => h9) rfl d_Walk_give_86 ?_
    refine lv_iload (pc := 89) hx hb d_Walk_give_89 (lv_at hl 0 rfl) ?_
    refine lv_iload (pc := 91) hx hb d_Walk_give_91 (lv_at hl 7 rfl) ?_
    obtain ⟨hi11, hf⟩ := o_gi_e hf
    refine va_iast (D := D) (pc := 93) hx hb hK hP hD hS _ 0 (fl_at 1 6 rfl rfl) rfl hi11 d_Walk_give_93 (fun H locs hP hD hS => ?_)
    obtain ⟨sFld_12, esFld_12, hf⟩ := o_lt_e hf
    have hP : va_P D vwCl (fl [wWalk K hWalk (hFld 0) (hTab 0) (hProg 0) (hLps 0) sWalk, wFld K hFld sFld_12, wLps K hLps sLps]) H := by rw [esFld_12]; exact fl_P 1 6 rfl (Nat.le_of_ble_eq_true rfl) rfl rfl hP
    have hD : va_D A (fl [wWalk K hWalk (hFld 0) (hTab 0) (hProg 0) (hLps 0) sWalk, wFld K hFld sFld_12, wLps K hLps sLps]) := by rw [esFld_12]; exact fl_D 1 6 rfl (Nat.le_of_ble_eq_true rfl) rfl rfl hD
    refine lv_aload_n (pc := 94) hx hb d_Walk_give_94 rfl (lv_at hl 1 rfl) ?_
    refine va_get (D := D) (ci := 3) (v := .ref (hFld 0)) (C := R_Walk) (T := T_Walk) (N := 18) (pc := 95) hx hb hts (fun w h => List.mem_cons_of_mem _ (in_Walk w h)) hown hK hP _ (fl_at 0 0 rfl rfl) rfl 0 (by decide) (hts _ (List.mem_cons_of_mem _ tw_205)) (fun _ h9 => h9) rfl d_Walk_give_95 ?_
    refine va_get (D := D) (ci := 4) (v := .ref (hFld 7)) (C := R_Fld) (T := T_Fld) (N := 8) (pc := 98) hx hb hts (fun w h => List.mem_cons_of_mem _ (in_Fld w h)) hown hK hP _ (fl_at 1 0 rfl rfl) rfl 6 (by decide) (hts _ (List.mem_cons_of_mem _ tw_159)) (fun _ h9 => h9) rfl d_Walk_give_98 ?_
    refine lv_iload (pc := 101) hx hb d_Walk_give_101 (lv_at hl 0 rfl) ?_
    refine lv_aload_n (pc := 103) hx hb d_Walk_give_103 rfl (lv_at hl 1 rfl) ?_
    refine va_get (D := D) (ci := 3) (v := .ref (hLps 0)) (C := R_Walk) (T := T_Walk) (N := 18) (pc := 104) hx hb hts (fun w h => List.mem_cons_of_mem _ (in_Walk w h)) hown hK hP _ (fl_at 0 0 rfl rfl) rfl 5 (by decide) (hts _ (List.mem_cons_of_mem _ tw_217)) (fun _ h9 => h9) rfl d_Walk_give_104 ?_
    obtain ⟨q13, hq13, hf⟩ := o_bd_e hf
    refine fi_i (pc := 107) (va_runV (As := []) (rest := [.int (Fld_count sFld), .ref (hFld 7)]) ⟨hx, hb, hml, hown, hts⟩ ((c_Lps_repetition l D K hLps sLps q13 hq13) _) (cwV 0 hts (gV tw_568 tw_569 tw_570 tw_6 tw_571) rfl rfl rfl (by decide +kernel) ⟨by decide, by decide⟩) ⟨mPre_blind, va_recv hK hP (ci := 5) rfl (fl_at 2 0 rfl rfl), (mPre_fl hK hF hA hP hD hS [2] rfl rfl)⟩ rfl rfl hl.1 rfl (lv_room (Nat.le_of_ble_eq_true rfl)) d_Walk_give_107 ⟨Nat.zero_le _, Nat.zero_le _⟩) hA hP hD hS [2] rfl rfl (fun H locs hP hD hS => ?_)
    have hP : va_P D vwCl (fl [wWalk K hWalk (hFld 0) (hTab 0) (hProg 0) (hLps 0) sWalk, wFld K hFld sFld_12, wLps K hLps sLps]) H := hP
    have hD : va_D A (fl [wWalk K hWalk (hFld 0) (hTab 0) (hProg 0) (hLps 0) sWalk, wFld K hFld sFld_12, wLps K hLps sLps]) := hD
    obtain ⟨hi14, hf⟩ := o_gi_e hf
    refine va_iast (D := D) (pc := 110) hx hb hK hP hD hS _ 0 (fl_at 1 7 rfl rfl) rfl hi14 d_Walk_give_110 (fun H locs hP hD hS => ?_)
    obtain ⟨sFld_15, esFld_15, hf⟩ := o_lt_e hf
    have hP : va_P D vwCl (fl [wWalk K hWalk (hFld 0) (hTab 0) (hProg 0) (hLps 0) sWalk, wFld K hFld sFld_15, wLps K hLps sLps]) H := by rw [esFld_15]; exact fl_P 1 7 rfl (Nat.le_of_ble_eq_true rfl) rfl rfl hP
    have hD : va_D A (fl [wWalk K hWalk (hFld 0) (hTab 0) (hProg 0) (hLps 0) sWalk, wFld K hFld sFld_15, wLps K hLps sLps]) := by rw [esFld_15]; exact fl_D 1 7 rfl (Nat.le_of_ble_eq_true rfl) rfl rfl hD
    refine lv_aload_n (pc := 111) hx hb d_Walk_give_111 rfl (lv_at hl 1 rfl) ?_
    refine va_get (D := D) (ci := 3) (v := .ref (hFld 0)) (C := R_Walk) (T := T_Walk) (N := 18) (pc := 112) hx hb hts (fun w h => List.mem_cons_of_mem _ (in_Walk w h)) hown hK hP _ (fl_at 0 0 rfl rfl) rfl 0 (by decide) (hts _ (List.mem_cons_of_mem _ tw_205)) (fun _ h9 => h9) rfl d_Walk_give_112 ?_
    refine lv_dup (pc := 115) hx hb d_Walk_give_115 rfl ?_
    refine va_get (D := D) (ci := 4) (v := .int (Fld_count sFld_15)) (C := R_Fld) (T := T_Fld) (N := 8) (pc := 116) hx hb hts (fun w h => List.mem_cons_of_mem _ (in_Fld w h)) hown hK hP _ (fl_at 1 0 rfl rfl) rfl 7 (by decide) (hts _ (List.mem_cons_of_mem _ tw_162)) (fun _ h9 => h9) rfl d_Walk_give_116 ?_
    refine lv_iconst (v := 1) (pc := 119) hx hb d_Walk_give_119 (by decide) ?_
    refine lv_iadd (pc := 120) hx hb d_Walk_give_120 ?_
    refine va_put (D := D) (ci := 4) (v := .int ((Fld_count sFld_15) + 1)) (ty := .int) (C := R_Fld) (T := T_Fld) (N := 8) (pc := 121) hx hb hts (fun w h => List.mem_cons_of_mem _ (in_Fld w h)) ty_Fld ty_Fld_ok nm_Fld hown hK hP hD hS _ (fl_at 1 0 rfl rfl) rfl 7 (by decide) (hts _ (List.mem_cons_of_mem _ tw_162)) (fun _ h9 => h9) rfl (by decide +kernel) rfl rfl (Nat.le_of_ble_eq_true rfl) d_Walk_give_121 (fun H locs hP hD hS => ?_)
    obtain ⟨sFld_16, esFld_16, hf⟩ := o_lt_e hf
    have hP : va_P D vwCl (fl [wWalk K hWalk (hFld 0) (hTab 0) (hProg 0) (hLps 0) sWalk, wFld K hFld sFld_16, wLps K hLps sLps]) H := by rw [esFld_16]; exact fl_P 1 0 rfl (Nat.le_of_ble_eq_true rfl) rfl rfl hP
    have hD : va_D A (fl [wWalk K hWalk (hFld 0) (hTab 0) (hProg 0) (hLps 0) sWalk, wFld K hFld sFld_16, wLps K hLps sLps]) := by rw [esFld_16]; exact fl_D 1 0 rfl (Nat.le_of_ble_eq_true rfl) rfl rfl hD
    refine lv_iload_n (pc := 124) hx hb d_Walk_give_124 rfl (lv_at hl 2 rfl) ?_
    refine lv_if_ne (tgt := 149) (pc := 125) hx hb d_Walk_give_125 (by decide) (fun c20 => ?_) (fun c20 => ?_)
    · replace hf := o_f c20 hf
      cases hf
      exact ret_v hx hb hr hlocks hK hP hS d_Walk_give_149
    · replace hf := o_t c20 hf
      refine lv_aload_n (pc := 128) hx hb d_Walk_give_128 rfl (lv_at hl 1 rfl) ?_
      refine va_get (D := D) (ci := 3) (v := .ref (hWalk 2)) (C := R_Walk) (T := T_Walk) (N := 18) (pc := 129) hx hb hts (fun w h => List.mem_cons_of_mem _ (in_Walk w h)) hown hK hP _ (fl_at 0 0 rfl rfl) rfl 7 (by decide) (hts _ (List.mem_cons_of_mem _ tw_219)) (fun _ h9 => h9) rfl d_Walk_give_129 ?_
      refine lv_aload_n (pc := 132) hx hb d_Walk_give_132 rfl (lv_at hl 1 rfl) ?_
      refine va_get (D := D) (ci := 3) (v := .int (Walk_elementCount sWalk)) (C := R_Walk) (T := T_Walk) (N := 18) (pc := 133) hx hb hts (fun w h => List.mem_cons_of_mem _ (in_Walk w h)) hown hK hP _ (fl_at 0 0 rfl rfl) rfl 8 (by decide) (hts _ (List.mem_cons_of_mem _ tw_220)) (fun _ h9 => h9) rfl d_Walk_give_133 ?_
      refine lv_iload (pc := 136) hx hb d_Walk_give_136 (lv_at hl 0 rfl) ?_
      obtain ⟨hi17, hf⟩ := o_gi_e hf
      refine va_iast (D := D) (pc := 138) hx hb hK hP hD hS _ 0 (fl_at 0 2 rfl rfl) rfl hi17 d_Walk_give_138 (fun H locs hP hD hS => ?_)
      obtain ⟨sWalk_18, esWalk_18, hf⟩ := o_lt_e hf
      have hP : va_P D vwCl (fl [wWalk K hWalk (hFld 0) (hTab 0) (hProg 0) (hLps 0) sWalk_18, wFld K hFld sFld_16, wLps K hLps sLps]) H := by rw [esWalk_18]; exact fl_P 0 2 rfl (Nat.le_of_ble_eq_true rfl) rfl rfl hP
      have hD : va_D A (fl [wWalk K hWalk (hFld 0) (hTab 0) (hProg 0) (hLps 0) sWalk_18, wFld K hFld sFld_16, wLps K hLps sLps]) := by rw [esWalk_18]; exact fl_D 0 2 rfl (Nat.le_of_ble_eq_true rfl) rfl rfl hD
      refine lv_aload_n (pc := 139) hx hb d_Walk_give_139 rfl (lv_at hl 1 rfl) ?_
      refine lv_dup (pc := 140) hx hb d_Walk_give_140 rfl ?_
      refine va_get (D := D) (ci := 3) (v := .int (Walk_elementCount sWalk_18)) (C := R_Walk) (T := T_Walk) (N := 18) (pc := 141) hx hb hts (fun w h => List.mem_cons_of_mem _ (in_Walk w h)) hown hK hP _ (fl_at 0 0 rfl rfl) rfl 8 (by decide) (hts _ (List.mem_cons_of_mem _ tw_220)) (fun _ h9 => h9) rfl d_Walk_give_141 ?_
      refine lv_iconst (v := 1) (pc := 144) hx hb d_Walk_give_144 (by decide) ?_
      refine lv_iadd (pc := 145) hx hb d_Walk_give_145 ?_
      refine va_put (D := D) (ci := 3) (v := .int ((Walk_elementCount sWalk_18) + 1)) (ty := .int) (C := R_Walk) (T := T_Walk) (N := 18) (pc := 146) hx hb hts (fun w h => List.mem_cons_of_mem _ (in_Walk w h)) ty_Walk ty_Walk_ok nm_Walk hown hK hP hD hS _ (fl_at 0 0 rfl rfl) rfl 8 (by decide) (hts _ (List.mem_cons_of_mem _ tw_220)) (fun _ h9 => h9) rfl (by decide +kernel) rfl rfl (Nat.le_of_ble_eq_true rfl) d_Walk_give_146 (fun H locs hP hD hS => ?_)
      obtain ⟨sWalk_19, esWalk_19, hf⟩ := o_lt_e hf
      have hP : va_P D vwCl (fl [wWalk K hWalk (hFld 0) (hTab 0) (hProg 0) (hLps 0) sWalk_19, wFld K hFld sFld_16, wLps K hLps sLps]) H := by rw [esWalk_19]; exact fl_P 0 0 rfl (Nat.le_of_ble_eq_true rfl) rfl rfl hP
      have hD : va_D A (fl [wWalk K hWalk (hFld 0) (hTab 0) (hProg 0) (hLps 0) sWalk_19, wFld K hFld sFld_16, wLps K hLps sLps]) := by rw [esWalk_19]; exact fl_D 0 0 rfl (Nat.le_of_ble_eq_true rfl) rfl rfl hD
      cases hf
      exact ret_v hx hb hr hlocks hK hP hS d_Walk_give_149
  · replace hf := o_f c22 hf
    refine lv_aload_n (pc := 16) hx hb d_Walk_give_16 rfl (lv_at hl 1 rfl) ?_
    refine lv_bipush (v := 8) (pc := 17) hx hb d_Walk_give_17 (by decide) ?_
    refine lv_iload (pc := 19) hx hb d_Walk_give_19 (lv_at hl 0 rfl) ?_
    obtain ⟨q21, hq21, hf⟩ := o_bd_e hf
    refine fi_v (pc := 21) (va_runV (As := [.int 8, .int (Fld_count sFld)]) (rest := []) ⟨hx, hb, hml, hown, hts⟩ ((c_Walk_fail l D K hTab hProg hWalk hFld hLps sWalk 8 (Fld_count sFld) q21 hq21) _) (cwV 2 hts (gV tw_564 tw_565 tw_566 tw_4 tw_567) rfl rfl rfl (by decide +kernel) ⟨by decide, by decide⟩) ⟨mPre_blind, va_recv hK hP (ci := 3) rfl (fl_at 0 0 rfl rfl), (mPre_fl hK hF hA hP hD hS [0] rfl rfl)⟩ rfl rfl hl.1 rfl (lv_room (Nat.le_of_ble_eq_true rfl)) d_Walk_give_21 ⟨Nat.zero_le _, Nat.zero_le _⟩) hA hP hD hS [0] rfl rfl (fun H locs hP hD hS => ?_)
    have hP : va_P D vwCl (fl [wWalk K hWalk (hFld 0) (hTab 0) (hProg 0) (hLps 0) q21, wFld K hFld sFld, wLps K hLps sLps]) H := hP
    have hD : va_D A (fl [wWalk K hWalk (hFld 0) (hTab 0) (hProg 0) (hLps 0) q21, wFld K hFld sFld, wLps K hLps sLps]) := hD
    cases hf
    exact ret_v hx hb hr hlocks hK hP hS d_Walk_give_24
def Walk_giveMark (sLps : S_Lps) (sWalk : S_Walk) (sFld : S_Fld) : Option (S_Walk × S_Fld) := o_lt (Walk_set_dueKind sWalk ((-1))) fun sWalk_1 => (if (Walk_nextPointed sWalk_1) < (Walk_pointedCount sWalk_1) then o_gd (o_in (Walk_nextPointed sWalk_1) 16) (o_lt (Walk_pointed sWalk_1 (Walk_nextPointed sWalk_1 : Int32).toNatClampNeg) fun u3 => (o_lt (Walk_set_nextPointed sWalk_1 ((Walk_nextPointed sWalk_1) + 1)) fun sWalk_4 => (o_gd (o_in u3 100) (o_gd (o_in u3 100) (o_gd (o_in u3 100) (o_gd (o_in u3 100) (o_bd (Walk_give sLps 4 (Fld_codes sFld (u3 : Int32).toNatClampNeg) (Fld_widths sFld (u3 : Int32).toNatClampNeg) (Fld_scales sFld (u3 : Int32).toNatClampNeg) (Fld_references sFld (u3 : Int32).toNatClampNeg) u3 sWalk_4 sFld) fun q9 => (some ((q9.1, q9.2)))))))))) else o_bd (Walk_fail 7 (Fld_count sFld) sWalk_1) fun q10 => (some ((q10, sFld))))
abbrev rm_Walk_giveMark : Room := { frames := 2, cells := 0, slots := 0, locals := 50 }
set_option maxHeartbeats 4000000 in
set_option maxRecDepth 100000 in
theorem c_Walk_giveMark (l : Launch) (D : va_G) (K : Nat → ClassId) (hTab : Nat → Nat) (hProg : Nat → Nat) (hWalk : Nat → Nat) (hFld : Nat → Nat) (hLps : Nat → Nat) (sWalk : S_Walk) (sFld : S_Fld) (sLps : S_Lps) (sWalk' : S_Walk) (sFld' : S_Fld) (hf : Walk_giveMark sLps sWalk sFld = some ((sWalk', sFld'))) : mv l D K y_Walk_giveMark ws_Walk_giveMark rm_Walk_giveMark [.ref (hWalk 0)] (fl [wWalk K hWalk (hFld 0) (hTab 0) (hProg 0) (hLps 0) sWalk, wFld K hFld sFld, wLps K hLps sLps]) (fl [wWalk K hWalk (hFld 0) (hTab 0) (hProg 0) (hLps 0) sWalk', wFld K hFld sFld', wLps K hLps sLps]) := by
  refine mv_of (cc := b_Walk_giveMark) (maxL := 2) (own := "ObsMessages$Walk") (by decide) rfl rfl (Nat.le_of_ble_eq_true rfl) ?_
  intro p e s m below meth c A ls hC hP hD hS hl
  obtain ⟨hx, hb, hml, hown, hts, hr, hlocks, hK, hF, hA⟩ := hC
  have hP : va_P D vwCl (fl [wWalk K hWalk (hFld 0) (hTab 0) (hProg 0) (hLps 0) sWalk, wFld K hFld sFld, wLps K hLps sLps]) s.heap := hP
  have hl : lv_has ls 2 [(0, .ref (hWalk 0))] := hl
  suffices hW : ∀ (H : Heap) (locs : List Loc), va_P D vwCl (fl [wWalk K hWalk (hFld 0) (hTab 0) (hProg 0) (hLps 0) sWalk, wFld K hFld sFld, wLps K hLps sLps]) H → va_S A s.heap H locs → W p l e rm_Walk_giveMark s m ([.ref (hWalk 0)] : List Value).toArray below meth c H locs 0 0 (Qv below ([.ref (hWalk 0)] : List Value).toArray s D K A (fl [wWalk K hWalk (hFld 0) (hTab 0) (hProg 0) (hLps 0) sWalk', wFld K hFld sFld', wLps K hLps sLps])) (F0 m 0 ls []) from hW s.heap [] hP hS
  clear hP hS
  intro H locs hP hS
  refine lv_aload_n (pc := 0) hx hb d_Walk_giveMark_0 rfl (lv_at hl 0 rfl) ?_
  refine lv_iconst (v := (-1)) (pc := 1) hx hb d_Walk_giveMark_1 (by decide) ?_
  refine va_put (D := D) (ci := 3) (v := .int ((-1))) (ty := .int) (C := R_Walk) (T := T_Walk) (N := 18) (pc := 2) hx hb hts (fun w h => List.mem_cons_of_mem _ (in_Walk w h)) ty_Walk ty_Walk_ok nm_Walk hown hK hP hD hS _ (fl_at 0 0 rfl rfl) rfl 14 (by decide) (hts _ (List.mem_cons_of_mem _ tw_226)) (fun _ h9 => h9) rfl (by decide +kernel) rfl rfl (Nat.le_of_ble_eq_true rfl) d_Walk_giveMark_2 (fun H locs hP hD hS => ?_)
  obtain ⟨sWalk_1, esWalk_1, hf⟩ := o_lt_e hf
  have hP : va_P D vwCl (fl [wWalk K hWalk (hFld 0) (hTab 0) (hProg 0) (hLps 0) sWalk_1, wFld K hFld sFld, wLps K hLps sLps]) H := by rw [esWalk_1]; exact fl_P 0 0 rfl (Nat.le_of_ble_eq_true rfl) rfl rfl hP
  have hD : va_D A (fl [wWalk K hWalk (hFld 0) (hTab 0) (hProg 0) (hLps 0) sWalk_1, wFld K hFld sFld, wLps K hLps sLps]) := by rw [esWalk_1]; exact fl_D 0 0 rfl (Nat.le_of_ble_eq_true rfl) rfl rfl hD
  refine lv_aload_n (pc := 5) hx hb d_Walk_giveMark_5 rfl (lv_at hl 0 rfl) ?_
  refine va_get (D := D) (ci := 3) (v := .int (Walk_nextPointed sWalk_1)) (C := R_Walk) (T := T_Walk) (N := 18) (pc := 6) hx hb hts (fun w h => List.mem_cons_of_mem _ (in_Walk w h)) hown hK hP _ (fl_at 0 0 rfl rfl) rfl 11 (by decide) (hts _ (List.mem_cons_of_mem _ tw_223)) (fun _ h9 => h9) rfl d_Walk_giveMark_6 ?_
  refine lv_aload_n (pc := 9) hx hb d_Walk_giveMark_9 rfl (lv_at hl 0 rfl) ?_
  refine va_get (D := D) (ci := 3) (v := .int (Walk_pointedCount sWalk_1)) (C := R_Walk) (T := T_Walk) (N := 18) (pc := 10) hx hb hts (fun w h => List.mem_cons_of_mem _ (in_Walk w h)) hown hK hP _ (fl_at 0 0 rfl rfl) rfl 10 (by decide) (hts _ (List.mem_cons_of_mem _ tw_222)) (fun _ h9 => h9) rfl d_Walk_giveMark_10 ?_
  refine lv_icmp_lt (tgt := 30) (pc := 13) hx hb d_Walk_giveMark_13 (by decide) (fun c11 => ?_) (fun c11 => ?_)
  · replace hf := o_t c11 hf
    refine lv_aload_n (pc := 30) hx hb d_Walk_giveMark_30 rfl (lv_at hl 0 rfl) ?_
    refine va_get (D := D) (ci := 3) (v := .ref (hWalk 3)) (C := R_Walk) (T := T_Walk) (N := 18) (pc := 31) hx hb hts (fun w h => List.mem_cons_of_mem _ (in_Walk w h)) hown hK hP _ (fl_at 0 0 rfl rfl) rfl 9 (by decide) (hts _ (List.mem_cons_of_mem _ tw_221)) (fun _ h9 => h9) rfl d_Walk_giveMark_31 ?_
    refine lv_aload_n (pc := 34) hx hb d_Walk_giveMark_34 rfl (lv_at hl 0 rfl) ?_
    refine va_get (D := D) (ci := 3) (v := .int (Walk_nextPointed sWalk_1)) (C := R_Walk) (T := T_Walk) (N := 18) (pc := 35) hx hb hts (fun w h => List.mem_cons_of_mem _ (in_Walk w h)) hown hK hP _ (fl_at 0 0 rfl rfl) rfl 11 (by decide) (hts _ (List.mem_cons_of_mem _ tw_223)) (fun _ h9 => h9) rfl d_Walk_giveMark_35 ?_
    obtain ⟨hi2, hf⟩ := o_gi_e hf
    refine va_iald (D := D) (pc := 38) hx hb hK hP _ 0 (fl_at 0 3 rfl rfl) rfl hi2 d_Walk_giveMark_38 ?_
    refine lv_topi (fun u3 eu3 => ?_)
    replace hf := o_lt_a eu3 hf
    refine lv_istore_n (lv' := [(1, .int u3), (0, .ref (hWalk 0))]) (pc := 39) hx hb d_Walk_giveMark_39 rfl hl (by decide) rfl (fun ls hl => ?_)
    refine lv_aload_n (pc := 40) hx hb d_Walk_giveMark_40 rfl (lv_at hl 1 rfl) ?_
    refine lv_dup (pc := 41) hx hb d_Walk_giveMark_41 rfl ?_
    refine va_get (D := D) (ci := 3) (v := .int (Walk_nextPointed sWalk_1)) (C := R_Walk) (T := T_Walk) (N := 18) (pc := 42) hx hb hts (fun w h => List.mem_cons_of_mem _ (in_Walk w h)) hown hK hP _ (fl_at 0 0 rfl rfl) rfl 11 (by decide) (hts _ (List.mem_cons_of_mem _ tw_223)) (fun _ h9 => h9) rfl d_Walk_giveMark_42 ?_
    refine lv_iconst (v := 1) (pc := 45) hx hb d_Walk_giveMark_45 (by decide) ?_
    refine lv_iadd (pc := 46) hx hb d_Walk_giveMark_46 ?_
    refine va_put (D := D) (ci := 3) (v := .int ((Walk_nextPointed sWalk_1) + 1)) (ty := .int) (C := R_Walk) (T := T_Walk) (N := 18) (pc := 47) hx hb hts (fun w h => List.mem_cons_of_mem _ (in_Walk w h)) ty_Walk ty_Walk_ok nm_Walk hown hK hP hD hS _ (fl_at 0 0 rfl rfl) rfl 11 (by decide) (hts _ (List.mem_cons_of_mem _ tw_223)) (fun _ h9 => h9) rfl (by decide +kernel) rfl rfl (Nat.le_of_ble_eq_true rfl) d_Walk_giveMark_47 (fun H locs hP hD hS => ?_)
    obtain ⟨sWalk_4, esWalk_4, hf⟩ := o_lt_e hf
    have hP : va_P D vwCl (fl [wWalk K hWalk (hFld 0) (hTab 0) (hProg 0) (hLps 0) sWalk_4, wFld K hFld sFld, wLps K hLps sLps]) H := by rw [esWalk_4]; exact fl_P 0 0 rfl (Nat.le_of_ble_eq_true rfl) rfl rfl hP
    have hD : va_D A (fl [wWalk K hWalk (hFld 0) (hTab 0) (hProg 0) (hLps 0) sWalk_4, wFld K hFld sFld, wLps K hLps sLps]) := by rw [esWalk_4]; exact fl_D 0 0 rfl (Nat.le_of_ble_eq_true rfl) rfl rfl hD
    refine lv_aload_n (pc := 50) hx hb d_Walk_giveMark_50 rfl (lv_at hl 1 rfl) ?_
    refine lv_iconst (v := 4) (pc := 51) hx hb d_Walk_giveMark_51 (by decide) ?_
    refine lv_aload_n (pc := 52) hx hb d_Walk_giveMark_52 rfl (lv_at hl 1 rfl) ?_
    refine va_get (D := D) (ci := 3) (v := .ref (hFld 0)) (C := R_Walk) (T := T_Walk) (N := 18) (pc := 53) hx hb hts (fun w h => List.mem_cons_of_mem _ (in_Walk w h)) hown hK hP _ (fl_at 0 0 rfl rfl) rfl 0 (by decide) (hts _ (List.mem_cons_of_mem _ tw_205)) (fun _ h9 => h9) rfl d_Walk_giveMark_53 ?_
    refine va_get (D := D) (ci := 4) (v := .ref (hFld 2)) (C := R_Fld) (T := T_Fld) (N := 8) (pc := 56) hx hb hts (fun w h => List.mem_cons_of_mem _ (in_Fld w h)) hown hK hP _ (fl_at 1 0 rfl rfl) rfl 1 (by decide) (hts _ (List.mem_cons_of_mem _ tw_141)) (fun _ h9 => h9) rfl d_Walk_giveMark_56 ?_
    refine lv_iload_n (pc := 59) hx hb d_Walk_giveMark_59 rfl (lv_at hl 0 rfl) ?_
    obtain ⟨hi5, hf⟩ := o_gi_e hf
    refine va_iald (D := D) (pc := 60) hx hb hK hP _ 0 (fl_at 1 2 rfl rfl) rfl hi5 d_Walk_giveMark_60 ?_
    refine lv_aload_n (pc := 61) hx hb d_Walk_giveMark_61 rfl (lv_at hl 1 rfl) ?_
    refine va_get (D := D) (ci := 3) (v := .ref (hFld 0)) (C := R_Walk) (T := T_Walk) (N := 18) (pc := 62) hx hb hts (fun w h => List.mem_cons_of_mem _ (in_Walk w h)) hown hK hP _ (fl_at 0 0 rfl rfl) rfl 0 (by decide) (hts _ (List.mem_cons_of_mem _ tw_205)) (fun _ h9 => h9) rfl d_Walk_giveMark_62 ?_
    refine va_get (D := D) (ci := 4) (v := .ref (hFld 3)) (C := R_Fld) (T := T_Fld) (N := 8) (pc := 65) hx hb hts (fun w h => List.mem_cons_of_mem _ (in_Fld w h)) hown hK hP _ (fl_at 1 0 rfl rfl) rfl 2 (by decide) (hts _ (List.mem_cons_of_mem _ tw_146)) (fun _ h9 => h9) rfl d_Walk_giveMark_65 ?_
    refine lv_iload_n (pc := 68) hx hb d_Walk_giveMark_68 rfl (lv_at hl 0 rfl) ?_
    obtain ⟨hi6, hf⟩ := o_gi_e hf
    refine va_iald (D := D) (pc := 69) hx hb hK hP _ 0 (fl_at 1 3 rfl rfl) rfl hi6 d_Walk_giveMark_69 ?_
    refine lv_aload_n (pc := 70) hx hb d_Walk_giveMark_70 rfl (lv_at hl 1 rfl) ?_
    refine va_get (D := D) (ci := 3) (v := .ref (hFld 0)) (C := R_Walk) (T := T_Walk) (N := 18) (pc := 71) hx hb hts (fun w h => List.mem_cons_of_mem _ (in_Walk w h)) hown hK hP _ (fl_at 0 0 rfl rfl) rfl 0 (by decide) (hts _ (List.mem_cons_of_mem _ tw_205)) (fun _ h9 => h9) rfl d_Walk_giveMark_71 ?_
    refine va_get (D := D) (ci := 4) (v := .ref (hFld 4)) (C := R_Fld) (T := T_Fld) (N := 8) (pc := 74) hx hb hts (fun w h => List.mem_cons_of_mem _ (in_Fld w h)) hown hK hP _ (fl_at 1 0 rfl rfl) rfl 3 (by decide) (hts _ (List.mem_cons_of_mem _ tw_149)) (fun _ h9 => h9) rfl d_Walk_giveMark_74 ?_
    refine lv_iload_n (pc := 77) hx hb d_Walk_giveMark_77 rfl (lv_at hl 0 rfl) ?_
    obtain ⟨hi7, hf⟩ := o_gi_e hf
    refine va_iald (D := D) (pc := 78) hx hb hK hP _ 0 (fl_at 1 4 rfl rfl) rfl hi7 d_Walk_giveMark_78 ?_
    refine lv_aload_n (pc := 79) hx hb d_Walk_giveMark_79 rfl (lv_at hl 1 rfl) ?_
    refine va_get (D := D) (ci := 3) (v := .ref (hFld 0)) (C := R_Walk) (T := T_Walk) (N := 18) (pc := 80) hx hb hts (fun w h => List.mem_cons_of_mem _ (in_Walk w h)) hown hK hP _ (fl_at 0 0 rfl rfl) rfl 0 (by decide) (hts _ (List.mem_cons_of_mem _ tw_205)) (fun _ h9 => h9) rfl d_Walk_giveMark_80 ?_
    refine va_get (D := D) (ci := 4) (v := .ref (hFld 5)) (C := R_Fld) (T := T_Fld) (N := 8) (pc := 83) hx hb hts (fun w h => List.mem_cons_of_mem _ (in_Fld w h)) hown hK hP _ (fl_at 1 0 rfl rfl) rfl 4 (by decide) (hts _ (List.mem_cons_of_mem _ tw_153)) (fun _ h9 => h9) rfl d_Walk_giveMark_83 ?_
    refine lv_iload_n (pc := 86) hx hb d_Walk_giveMark_86 rfl (lv_at hl 0 rfl) ?_
    obtain ⟨hi8, hf⟩ := o_gi_e hf
    refine va_lald (D := D) (pc := 87) hx hb hK hP _ 1 (fl_at 1 5 rfl rfl) rfl hi8 d_Walk_giveMark_87 ?_
    refine lv_iload_n (pc := 88) hx hb d_Walk_giveMark_88 rfl (lv_at hl 0 rfl) ?_
    obtain ⟨q9, hq9, hf⟩ := o_bd_e hf
    refine fi_v (pc := 89) (va_runV (As := [.int 4, .int (Fld_codes sFld (u3 : Int32).toNatClampNeg), .int (Fld_widths sFld (u3 : Int32).toNatClampNeg), .int (Fld_scales sFld (u3 : Int32).toNatClampNeg), .long (Fld_references sFld (u3 : Int32).toNatClampNeg), .int u3]) (rest := []) ⟨hx, hb, hml, hown, hts⟩ ((c_Walk_give l D K hTab hProg hWalk hFld hLps sWalk_4 sFld sLps 4 (Fld_codes sFld (u3 : Int32).toNatClampNeg) (Fld_widths sFld (u3 : Int32).toNatClampNeg) (Fld_scales sFld (u3 : Int32).toNatClampNeg) (Fld_references sFld (u3 : Int32).toNatClampNeg) u3 q9.1 q9.2 hq9) _) (cwV 6 hts (gV tw_560 tw_562 tp_12 tw_4 tw_563) rfl rfl rfl (by decide +kernel) ⟨by decide, by decide⟩) ⟨mPre_blind, va_recv hK hP (ci := 3) rfl (fl_at 0 0 rfl rfl), (mPre_fl hK hF hA hP hD hS [0, 1, 2] rfl rfl)⟩ rfl rfl hl.1 rfl (lv_room (Nat.le_of_ble_eq_true rfl)) d_Walk_giveMark_89 ⟨Nat.zero_le _, Nat.zero_le _⟩) hA hP hD hS [0, 1, 2] rfl rfl (fun H locs hP hD hS => ?_)
    have hP : va_P D vwCl (fl [wWalk K hWalk (hFld 0) (hTab 0) (hProg 0) (hLps 0) q9.1, wFld K hFld q9.2, wLps K hLps sLps]) H := hP
    have hD : va_D A (fl [wWalk K hWalk (hFld 0) (hTab 0) (hProg 0) (hLps 0) q9.1, wFld K hFld q9.2, wLps K hLps sLps]) := hD
    cases hf
    exact ret_v hx hb hr hlocks hK hP hS d_Walk_giveMark_92
  · replace hf := o_f c11 hf
    refine lv_aload_n (pc := 16) hx hb d_Walk_giveMark_16 rfl (lv_at hl 0 rfl) ?_
    refine lv_bipush (v := 7) (pc := 17) hx hb d_Walk_giveMark_17 (by decide) ?_
    refine lv_aload_n (pc := 19) hx hb d_Walk_giveMark_19 rfl (lv_at hl 0 rfl) ?_
    refine va_get (D := D) (ci := 3) (v := .ref (hFld 0)) (C := R_Walk) (T := T_Walk) (N := 18) (pc := 20) hx hb hts (fun w h => List.mem_cons_of_mem _ (in_Walk w h)) hown hK hP _ (fl_at 0 0 rfl rfl) rfl 0 (by decide) (hts _ (List.mem_cons_of_mem _ tw_205)) (fun _ h9 => h9) rfl d_Walk_giveMark_20 ?_
    refine va_get (D := D) (ci := 4) (v := .int (Fld_count sFld)) (C := R_Fld) (T := T_Fld) (N := 8) (pc := 23) hx hb hts (fun w h => List.mem_cons_of_mem _ (in_Fld w h)) hown hK hP _ (fl_at 1 0 rfl rfl) rfl 7 (by decide) (hts _ (List.mem_cons_of_mem _ tw_162)) (fun _ h9 => h9) rfl d_Walk_giveMark_23 ?_
    obtain ⟨q10, hq10, hf⟩ := o_bd_e hf
    refine fi_v (pc := 26) (va_runV (As := [.int 7, .int (Fld_count sFld)]) (rest := []) ⟨hx, hb, hml, hown, hts⟩ ((c_Walk_fail l D K hTab hProg hWalk hFld hLps sWalk_1 7 (Fld_count sFld) q10 hq10) _) (cwV 2 hts (gV tw_564 tw_565 tw_566 tw_4 tw_567) rfl rfl rfl (by decide +kernel) ⟨by decide, by decide⟩) ⟨mPre_blind, va_recv hK hP (ci := 3) rfl (fl_at 0 0 rfl rfl), (mPre_fl hK hF hA hP hD hS [0] rfl rfl)⟩ rfl rfl hl.1 rfl (lv_room (Nat.le_of_ble_eq_true rfl)) d_Walk_giveMark_26 ⟨Nat.zero_le _, Nat.zero_le _⟩) hA hP hD hS [0] rfl rfl (fun H locs hP hD hS => ?_)
    have hP : va_P D vwCl (fl [wWalk K hWalk (hFld 0) (hTab 0) (hProg 0) (hLps 0) q10, wFld K hFld sFld, wLps K hLps sLps]) H := hP
    have hD : va_D A (fl [wWalk K hWalk (hFld 0) (hTab 0) (hProg 0) (hLps 0) q10, wFld K hFld sFld, wLps K hLps sLps]) := hD
    cases hf
    exact ret_v hx hb hr hlocks hK hP hS d_Walk_giveMark_29
def Walk_giveBit_j38 (sLps : S_Lps) (x1_j38 : Int32) (t1_j38 : Int32) (sWalk_j38 : S_Walk) (sFld_j38 : S_Fld) : Option (S_Walk × S_Fld) := o_lt (Walk_set_dueKind sWalk_j38 t1_j38) fun sWalk_5 => (o_bd (Walk_give sLps 3 ((-1)) 1 0 0 x1_j38 sWalk_5 sFld_j38) fun q6 => (some ((q6.1, q6.2))))
def Walk_giveBit (sLps : S_Lps) (sWalk : S_Walk) (sFld : S_Fld) : Option (S_Walk × S_Fld) := o_gd (o_in ((Walk_elementCount sWalk) - (Walk_dueBits sWalk)) 100) (o_lt (Walk_elements sWalk ((Walk_elementCount sWalk) - (Walk_dueBits sWalk) : Int32).toNatClampNeg) fun u2 => (o_lt (Walk_set_dueBits sWalk ((Walk_dueBits sWalk) - 1)) fun sWalk_3 => (if (Walk_dueBits sWalk_3) ≤ 0 then Walk_giveBit_j38 sLps u2 ((-1)) sWalk_3 sFld else Walk_giveBit_j38 sLps u2 3 sWalk_3 sFld)))
abbrev rm_Walk_giveBit : Room := { frames := 2, cells := 0, slots := 0, locals := 50 }
set_option maxHeartbeats 4000000 in
set_option maxRecDepth 100000 in
theorem c_Walk_giveBit (l : Launch) (D : va_G) (K : Nat → ClassId) (hTab : Nat → Nat) (hProg : Nat → Nat) (hWalk : Nat → Nat) (hFld : Nat → Nat) (hLps : Nat → Nat) (sWalk : S_Walk) (sFld : S_Fld) (sLps : S_Lps) (sWalk' : S_Walk) (sFld' : S_Fld) (hf : Walk_giveBit sLps sWalk sFld = some ((sWalk', sFld'))) : mv l D K y_Walk_giveBit ws_Walk_giveBit rm_Walk_giveBit [.ref (hWalk 0)] (fl [wWalk K hWalk (hFld 0) (hTab 0) (hProg 0) (hLps 0) sWalk, wFld K hFld sFld, wLps K hLps sLps]) (fl [wWalk K hWalk (hFld 0) (hTab 0) (hProg 0) (hLps 0) sWalk', wFld K hFld sFld', wLps K hLps sLps]) := by
  refine mv_of (cc := b_Walk_giveBit) (maxL := 2) (own := "ObsMessages$Walk") (by decide) rfl rfl (Nat.le_of_ble_eq_true rfl) ?_
  intro p e s m below meth c A ls hC hP hD hS hl
  obtain ⟨hx, hb, hml, hown, hts, hr, hlocks, hK, hF, hA⟩ := hC
  have hP : va_P D vwCl (fl [wWalk K hWalk (hFld 0) (hTab 0) (hProg 0) (hLps 0) sWalk, wFld K hFld sFld, wLps K hLps sLps]) s.heap := hP
  have hl : lv_has ls 2 [(0, .ref (hWalk 0))] := hl
  suffices hW : ∀ (H : Heap) (locs : List Loc), va_P D vwCl (fl [wWalk K hWalk (hFld 0) (hTab 0) (hProg 0) (hLps 0) sWalk, wFld K hFld sFld, wLps K hLps sLps]) H → va_S A s.heap H locs → W p l e rm_Walk_giveBit s m ([.ref (hWalk 0)] : List Value).toArray below meth c H locs 0 0 (Qv below ([.ref (hWalk 0)] : List Value).toArray s D K A (fl [wWalk K hWalk (hFld 0) (hTab 0) (hProg 0) (hLps 0) sWalk', wFld K hFld sFld', wLps K hLps sLps])) (F0 m 0 ls []) from hW s.heap [] hP hS
  clear hP hS
  intro H locs hP hS
  have J38 : ∀ (x1_j38 : Int32) (t1_j38 : Int32) (sWalk_j38 : S_Walk) (sFld_j38 : S_Fld) (H : Heap) (locs : List Loc) (ls : Array Slot), va_P D vwCl (fl [wWalk K hWalk (hFld 0) (hTab 0) (hProg 0) (hLps 0) sWalk_j38, wFld K hFld sFld_j38, wLps K hLps sLps]) H → va_D A (fl [wWalk K hWalk (hFld 0) (hTab 0) (hProg 0) (hLps 0) sWalk_j38, wFld K hFld sFld_j38, wLps K hLps sLps]) → va_S A s.heap H locs → lv_has ls 2 [(0, .ref (hWalk 0)), (1, .int x1_j38)] → Walk_giveBit_j38 sLps x1_j38 t1_j38 sWalk_j38 sFld_j38 = some ((sWalk', sFld')) → W p l e rm_Walk_giveBit s m ([.ref (hWalk 0)] : List Value).toArray below meth c H locs 0 0 (Qv below ([.ref (hWalk 0)] : List Value).toArray s D K A (fl [wWalk K hWalk (hFld 0) (hTab 0) (hProg 0) (hLps 0) sWalk', wFld K hFld sFld', wLps K hLps sLps])) (F0 m 38 ls [.int t1_j38, .ref (hWalk 0)]) := by
    intro x1_j38 t1_j38 sWalk_j38 sFld_j38 H locs ls hP hD hS hl hf
    refine va_put (D := D) (ci := 3) (v := .int t1_j38) (ty := .int) (C := R_Walk) (T := T_Walk) (N := 18) (pc := 38) hx hb hts (fun w h => List.mem_cons_of_mem _ (in_Walk w h)) ty_Walk ty_Walk_ok nm_Walk hown hK hP hD hS _ (fl_at 0 0 rfl rfl) rfl 14 (by decide) (hts _ (List.mem_cons_of_mem _ tw_226)) (fun _ h9 => h9) rfl (by decide +kernel) rfl rfl (Nat.le_of_ble_eq_true rfl) d_Walk_giveBit_38 (fun H locs hP hD hS => ?_)
    obtain ⟨sWalk_5, esWalk_5, hf⟩ := o_lt_e hf
    have hP : va_P D vwCl (fl [wWalk K hWalk (hFld 0) (hTab 0) (hProg 0) (hLps 0) sWalk_5, wFld K hFld sFld_j38, wLps K hLps sLps]) H := by rw [esWalk_5]; exact fl_P 0 0 rfl (Nat.le_of_ble_eq_true rfl) rfl rfl hP
    have hD : va_D A (fl [wWalk K hWalk (hFld 0) (hTab 0) (hProg 0) (hLps 0) sWalk_5, wFld K hFld sFld_j38, wLps K hLps sLps]) := by rw [esWalk_5]; exact fl_D 0 0 rfl (Nat.le_of_ble_eq_true rfl) rfl rfl hD
    refine lv_aload_n (pc := 41) hx hb d_Walk_giveBit_41 rfl (lv_at hl 0 rfl) ?_
    refine lv_iconst (v := 3) (pc := 42) hx hb d_Walk_giveBit_42 (by decide) ?_
    refine lv_iconst (v := (-1)) (pc := 43) hx hb d_Walk_giveBit_43 (by decide) ?_
    refine lv_iconst (v := 1) (pc := 44) hx hb d_Walk_giveBit_44 (by decide) ?_
    refine lv_iconst (v := 0) (pc := 45) hx hb d_Walk_giveBit_45 (by decide) ?_
    refine lv_lconst (v := 0) (pc := 46) hx hb d_Walk_giveBit_46 (by decide) ?_
    refine lv_iload_n (pc := 47) hx hb d_Walk_giveBit_47 rfl (lv_at hl 1 rfl) ?_
    obtain ⟨q6, hq6, hf⟩ := o_bd_e hf
    refine fi_v (pc := 48) (va_runV (As := [.int 3, .int ((-1)), .int 1, .int 0, .long 0, .int x1_j38]) (rest := []) ⟨hx, hb, hml, hown, hts⟩ ((c_Walk_give l D K hTab hProg hWalk hFld hLps sWalk_5 sFld_j38 sLps 3 ((-1)) 1 0 0 x1_j38 q6.1 q6.2 hq6) _) (cwV 6 hts (gV tw_560 tw_562 tp_12 tw_4 tw_563) rfl rfl rfl (by decide +kernel) ⟨by decide, by decide⟩) ⟨mPre_blind, va_recv hK hP (ci := 3) rfl (fl_at 0 0 rfl rfl), (mPre_fl hK hF hA hP hD hS [0, 1, 2] rfl rfl)⟩ rfl rfl hl.1 rfl (lv_room (Nat.le_of_ble_eq_true rfl)) d_Walk_giveBit_48 ⟨Nat.zero_le _, Nat.zero_le _⟩) hA hP hD hS [0, 1, 2] rfl rfl (fun H locs hP hD hS => ?_)
    have hP : va_P D vwCl (fl [wWalk K hWalk (hFld 0) (hTab 0) (hProg 0) (hLps 0) q6.1, wFld K hFld q6.2, wLps K hLps sLps]) H := hP
    have hD : va_D A (fl [wWalk K hWalk (hFld 0) (hTab 0) (hProg 0) (hLps 0) q6.1, wFld K hFld q6.2, wLps K hLps sLps]) := hD
    cases hf
    exact ret_v hx hb hr hlocks hK hP hS d_Walk_giveBit_51
  refine lv_aload_n (pc := 0) hx hb d_Walk_giveBit_0 rfl (lv_at hl 0 rfl) ?_
  refine va_get (D := D) (ci := 3) (v := .ref (hWalk 2)) (C := R_Walk) (T := T_Walk) (N := 18) (pc := 1) hx hb hts (fun w h => List.mem_cons_of_mem _ (in_Walk w h)) hown hK hP _ (fl_at 0 0 rfl rfl) rfl 7 (by decide) (hts _ (List.mem_cons_of_mem _ tw_219)) (fun _ h9 => h9) rfl d_Walk_giveBit_1 ?_
  refine lv_aload_n (pc := 4) hx hb d_Walk_giveBit_4 rfl (lv_at hl 0 rfl) ?_
  refine va_get (D := D) (ci := 3) (v := .int (Walk_elementCount sWalk)) (C := R_Walk) (T := T_Walk) (N := 18) (pc := 5) hx hb hts (fun w h => List.mem_cons_of_mem _ (in_Walk w h)) hown hK hP _ (fl_at 0 0 rfl rfl) rfl 8 (by decide) (hts _ (List.mem_cons_of_mem _ tw_220)) (fun _ h9 => h9) rfl d_Walk_giveBit_5 ?_
  refine lv_aload_n (pc := 8) hx hb d_Walk_giveBit_8 rfl (lv_at hl 0 rfl) ?_
  refine va_get (D := D) (ci := 3) (v := .int (Walk_dueBits sWalk)) (C := R_Walk) (T := T_Walk) (N := 18) (pc := 9) hx hb hts (fun w h => List.mem_cons_of_mem _ (in_Walk w h)) hown hK hP _ (fl_at 0 0 rfl rfl) rfl 16 (by decide) (hts _ (List.mem_cons_of_mem _ tw_228)) (fun _ h9 => h9) rfl d_Walk_giveBit_9 ?_
  refine lv_isub (pc := 12) hx hb d_Walk_giveBit_12 ?_
  obtain ⟨hi1, hf⟩ := o_gi_e hf
  refine va_iald (D := D) (pc := 13) hx hb hK hP _ 0 (fl_at 0 2 rfl rfl) rfl hi1 d_Walk_giveBit_13 ?_
  refine lv_topi (fun u2 eu2 => ?_)
  replace hf := o_lt_a eu2 hf
  refine lv_istore_n (lv' := [(1, .int u2), (0, .ref (hWalk 0))]) (pc := 14) hx hb d_Walk_giveBit_14 rfl hl (by decide) rfl (fun ls hl => ?_)
  refine lv_aload_n (pc := 15) hx hb d_Walk_giveBit_15 rfl (lv_at hl 1 rfl) ?_
  refine lv_dup (pc := 16) hx hb d_Walk_giveBit_16 rfl ?_
  refine va_get (D := D) (ci := 3) (v := .int (Walk_dueBits sWalk)) (C := R_Walk) (T := T_Walk) (N := 18) (pc := 17) hx hb hts (fun w h => List.mem_cons_of_mem _ (in_Walk w h)) hown hK hP _ (fl_at 0 0 rfl rfl) rfl 16 (by decide) (hts _ (List.mem_cons_of_mem _ tw_228)) (fun _ h9 => h9) rfl d_Walk_giveBit_17 ?_
  refine lv_iconst (v := 1) (pc := 20) hx hb d_Walk_giveBit_20 (by decide) ?_
  refine lv_isub (pc := 21) hx hb d_Walk_giveBit_21 ?_
  refine va_put (D := D) (ci := 3) (v := .int ((Walk_dueBits sWalk) - 1)) (ty := .int) (C := R_Walk) (T := T_Walk) (N := 18) (pc := 22) hx hb hts (fun w h => List.mem_cons_of_mem _ (in_Walk w h)) ty_Walk ty_Walk_ok nm_Walk hown hK hP hD hS _ (fl_at 0 0 rfl rfl) rfl 16 (by decide) (hts _ (List.mem_cons_of_mem _ tw_228)) (fun _ h9 => h9) rfl (by decide +kernel) rfl rfl (Nat.le_of_ble_eq_true rfl) d_Walk_giveBit_22 (fun H locs hP hD hS => ?_)
  obtain ⟨sWalk_3, esWalk_3, hf⟩ := o_lt_e hf
  have hP : va_P D vwCl (fl [wWalk K hWalk (hFld 0) (hTab 0) (hProg 0) (hLps 0) sWalk_3, wFld K hFld sFld, wLps K hLps sLps]) H := by rw [esWalk_3]; exact fl_P 0 0 rfl (Nat.le_of_ble_eq_true rfl) rfl rfl hP
  have hD : va_D A (fl [wWalk K hWalk (hFld 0) (hTab 0) (hProg 0) (hLps 0) sWalk_3, wFld K hFld sFld, wLps K hLps sLps]) := by rw [esWalk_3]; exact fl_D 0 0 rfl (Nat.le_of_ble_eq_true rfl) rfl rfl hD
  refine lv_aload_n (pc := 25) hx hb d_Walk_giveBit_25 rfl (lv_at hl 1 rfl) ?_
  refine lv_aload_n (pc := 26) hx hb d_Walk_giveBit_26 rfl (lv_at hl 1 rfl) ?_
  refine va_get (D := D) (ci := 3) (v := .int (Walk_dueBits sWalk_3)) (C := R_Walk) (T := T_Walk) (N := 18) (pc := 27) hx hb hts (fun w h => List.mem_cons_of_mem _ (in_Walk w h)) hown hK hP _ (fl_at 0 0 rfl rfl) rfl 16 (by decide) (hts _ (List.mem_cons_of_mem _ tw_228)) (fun _ h9 => h9) rfl d_Walk_giveBit_27 ?_
  refine lv_if_le (tgt := 37) (pc := 30) hx hb d_Walk_giveBit_30 (by decide) (fun c4 => ?_) (fun c4 => ?_)
  · replace hf := o_t c4 hf
    refine lv_iconst (v := (-1)) (pc := 37) hx hb d_Walk_giveBit_37 (by decide) ?_
    exact J38 u2 ((-1)) sWalk_3 sFld H locs ls hP hD hS (lv_sub hl [1, 0] rfl) hf
  · replace hf := o_f c4 hf
    refine lv_iconst (v := 3) (pc := 33) hx hb d_Walk_giveBit_33 (by decide) ?_
    refine lv_goto (tgt := 38) (pc := 34) hx hb d_Walk_giveBit_34 (by decide) ?_
    exact J38 u2 3 sWalk_3 sFld H locs ls hP hD hS (lv_sub hl [1, 0] rfl) hf
def Walk_giveFromEntry_j104 (fu : Nat) (sTab : S_Tab) (sLps : S_Lps) (x1_j104 : Int32) (x3_j104 : Int32) (x4_j104 : Int32) (x5_j104 : Int64) (sWalk_j104 : S_Walk) (sFld_j104 : S_Fld) : Option (S_Walk × S_Fld) := o_bd (Walk_give sLps x1_j104 (Walk_dueCode sWalk_j104) x3_j104 x4_j104 x5_j104 ((-1)) sWalk_j104 sFld_j104) fun q17 => (some ((q17.1, q17.2)))
def Walk_giveFromEntry (fu : Nat) (sTab : S_Tab) (sLps : S_Lps) (sWalk : S_Walk) (sFld : S_Fld) : Option (S_Walk × S_Fld) := o_lt (Walk_set_dueKind sWalk ((-1))) fun sWalk_1 => (o_bd (Tab_inForce fu sTab (Walk_dueCode sWalk_1)) fun q2 => (if q2 = ((-1)) then some ((sWalk_1, sFld)) else o_gd (o_in q2 320) (o_gd (o_in q2 320) (o_gd (o_in q2 320) (o_lt ((Tab_references sTab (q2 : Int32).toNatClampNeg : Int32).toInt64) fun u6 => (if (Walk_dueKind sWalk) = 0 then o_gd (o_in 0 4) (o_bd (Desc_addedWidth (Walk_settings sWalk_1 (0 : Int32).toNatClampNeg)) fun q8 => (o_lt ((Tab_widths sTab (q2 : Int32).toNatClampNeg) + q8) fun u9 => (o_gd (o_in 1 4) (o_bd (Desc_addedScale (Walk_settings sWalk_1 (1 : Int32).toNatClampNeg)) fun q11 => (o_lt ((Tab_scales sTab (q2 : Int32).toNatClampNeg) + q11) fun u12 => (o_gd (o_in 3 4) (o_lt (u6 * (1 <<< ((Walk_settings sWalk_1 (3 : Int32).toNatClampNeg : Int32).toInt64 &&& 63))) fun u14 => (Walk_giveFromEntry_j104 fu sTab sLps (Walk_dueKind sWalk) u9 u12 u14 sWalk_1 sFld)))))))) else Walk_giveFromEntry_j104 fu sTab sLps (Walk_dueKind sWalk) (Tab_widths sTab (q2 : Int32).toNatClampNeg) (Tab_scales sTab (q2 : Int32).toNatClampNeg) u6 sWalk_1 sFld))))))
abbrev rm_Walk_giveFromEntry : Room := { frames := 2, cells := 0, slots := 0, locals := 50 }
set_option maxHeartbeats 4000000 in
set_option maxRecDepth 100000 in
theorem c_Walk_giveFromEntry (l : Launch) (D : va_G) (K : Nat → ClassId) (fu : Nat) (hTab : Nat → Nat) (hProg : Nat → Nat) (hWalk : Nat → Nat) (hFld : Nat → Nat) (hLps : Nat → Nat) (sTab : S_Tab) (sWalk : S_Walk) (sFld : S_Fld) (sLps : S_Lps) (sWalk' : S_Walk) (sFld' : S_Fld) (hf : Walk_giveFromEntry fu sTab sLps sWalk sFld = some ((sWalk', sFld'))) : mv l D K y_Walk_giveFromEntry ws_Walk_giveFromEntry rm_Walk_giveFromEntry [.ref (hWalk 0)] (fl [wTab K hTab sTab, wWalk K hWalk (hFld 0) (hTab 0) (hProg 0) (hLps 0) sWalk, wFld K hFld sFld, wLps K hLps sLps]) (fl [wTab K hTab sTab, wWalk K hWalk (hFld 0) (hTab 0) (hProg 0) (hLps 0) sWalk', wFld K hFld sFld', wLps K hLps sLps]) := by
  refine mv_of (cc := b_Walk_giveFromEntry) (maxL := 7) (own := "ObsMessages$Walk") (by decide) rfl rfl (Nat.le_of_ble_eq_true rfl) ?_
  intro p e s m below meth c A ls hC hP hD hS hl
  obtain ⟨hx, hb, hml, hown, hts, hr, hlocks, hK, hF, hA⟩ := hC
  have hP : va_P D vwCl (fl [wTab K hTab sTab, wWalk K hWalk (hFld 0) (hTab 0) (hProg 0) (hLps 0) sWalk, wFld K hFld sFld, wLps K hLps sLps]) s.heap := hP
  have hl : lv_has ls 7 [(0, .ref (hWalk 0))] := hl
  suffices hW : ∀ (H : Heap) (locs : List Loc), va_P D vwCl (fl [wTab K hTab sTab, wWalk K hWalk (hFld 0) (hTab 0) (hProg 0) (hLps 0) sWalk, wFld K hFld sFld, wLps K hLps sLps]) H → va_S A s.heap H locs → W p l e rm_Walk_giveFromEntry s m ([.ref (hWalk 0)] : List Value).toArray below meth c H locs 0 0 (Qv below ([.ref (hWalk 0)] : List Value).toArray s D K A (fl [wTab K hTab sTab, wWalk K hWalk (hFld 0) (hTab 0) (hProg 0) (hLps 0) sWalk', wFld K hFld sFld', wLps K hLps sLps])) (F0 m 0 ls []) from hW s.heap [] hP hS
  clear hP hS
  intro H locs hP hS
  have J104 : ∀ (x1_j104 : Int32) (x3_j104 : Int32) (x4_j104 : Int32) (x5_j104 : Int64) (sWalk_j104 : S_Walk) (sFld_j104 : S_Fld) (H : Heap) (locs : List Loc) (ls : Array Slot), va_P D vwCl (fl [wTab K hTab sTab, wWalk K hWalk (hFld 0) (hTab 0) (hProg 0) (hLps 0) sWalk_j104, wFld K hFld sFld_j104, wLps K hLps sLps]) H → va_D A (fl [wTab K hTab sTab, wWalk K hWalk (hFld 0) (hTab 0) (hProg 0) (hLps 0) sWalk_j104, wFld K hFld sFld_j104, wLps K hLps sLps]) → va_S A s.heap H locs → lv_has ls 7 [(0, .ref (hWalk 0)), (1, .int x1_j104), (3, .int x3_j104), (4, .int x4_j104), (5, .long x5_j104)] → Walk_giveFromEntry_j104 fu sTab sLps x1_j104 x3_j104 x4_j104 x5_j104 sWalk_j104 sFld_j104 = some ((sWalk', sFld')) → W p l e rm_Walk_giveFromEntry s m ([.ref (hWalk 0)] : List Value).toArray below meth c H locs 0 0 (Qv below ([.ref (hWalk 0)] : List Value).toArray s D K A (fl [wTab K hTab sTab, wWalk K hWalk (hFld 0) (hTab 0) (hProg 0) (hLps 0) sWalk', wFld K hFld sFld', wLps K hLps sLps])) (F0 m 104 ls []) := by
    intro x1_j104 x3_j104 x4_j104 x5_j104 sWalk_j104 sFld_j104 H locs ls hP hD hS hl hf
    refine lv_aload_n (pc := 104) hx hb d_Walk_giveFromEntry_104 rfl (lv_at hl 0 rfl) ?_
    refine lv_iload_n (pc := 105) hx hb d_Walk_giveFromEntry_105 rfl (lv_at hl 1 rfl) ?_
    refine lv_aload_n (pc := 106) hx hb d_Walk_giveFromEntry_106 rfl (lv_at hl 0 rfl) ?_
    refine va_get (D := D) (ci := 3) (v := .int (Walk_dueCode sWalk_j104)) (C := R_Walk) (T := T_Walk) (N := 18) (pc := 107) hx hb hts (fun w h => List.mem_cons_of_mem _ (in_Walk w h)) hown hK hP _ (fl_at 1 0 rfl rfl) rfl 15 (by decide) (hts _ (List.mem_cons_of_mem _ tw_227)) (fun _ h9 => h9) rfl d_Walk_giveFromEntry_107 ?_
    refine lv_iload_n (pc := 110) hx hb d_Walk_giveFromEntry_110 rfl (lv_at hl 2 rfl) ?_
    refine lv_iload (pc := 111) hx hb d_Walk_giveFromEntry_111 (lv_at hl 3 rfl) ?_
    refine lv_lload (pc := 113) hx hb d_Walk_giveFromEntry_113 (lv_at hl 4 rfl) ?_
    refine lv_iconst (v := (-1)) (pc := 115) hx hb d_Walk_giveFromEntry_115 (by decide) ?_
    obtain ⟨q17, hq17, hf⟩ := o_bd_e hf
    refine fi_v (pc := 116) (va_runV (As := [.int x1_j104, .int (Walk_dueCode sWalk_j104), .int x3_j104, .int x4_j104, .long x5_j104, .int ((-1))]) (rest := []) ⟨hx, hb, hml, hown, hts⟩ ((c_Walk_give l D K hTab hProg hWalk hFld hLps sWalk_j104 sFld_j104 sLps x1_j104 (Walk_dueCode sWalk_j104) x3_j104 x4_j104 x5_j104 ((-1)) q17.1 q17.2 hq17) _) (cwV 6 hts (gV tw_560 tw_562 tp_12 tw_4 tw_563) rfl rfl rfl (by decide +kernel) ⟨by decide, by decide⟩) ⟨mPre_blind, va_recv hK hP (ci := 3) rfl (fl_at 1 0 rfl rfl), (mPre_fl hK hF hA hP hD hS [1, 2, 3] rfl rfl)⟩ rfl rfl hl.1 rfl (lv_room (Nat.le_of_ble_eq_true rfl)) d_Walk_giveFromEntry_116 ⟨Nat.zero_le _, Nat.zero_le _⟩) hA hP hD hS [1, 2, 3] rfl rfl (fun H locs hP hD hS => ?_)
    have hP : va_P D vwCl (fl [wTab K hTab sTab, wWalk K hWalk (hFld 0) (hTab 0) (hProg 0) (hLps 0) q17.1, wFld K hFld q17.2, wLps K hLps sLps]) H := hP
    have hD : va_D A (fl [wTab K hTab sTab, wWalk K hWalk (hFld 0) (hTab 0) (hProg 0) (hLps 0) q17.1, wFld K hFld q17.2, wLps K hLps sLps]) := hD
    cases hf
    exact ret_v hx hb hr hlocks hK hP hS d_Walk_giveFromEntry_119
  refine lv_aload_n (pc := 0) hx hb d_Walk_giveFromEntry_0 rfl (lv_at hl 0 rfl) ?_
  refine va_get (D := D) (ci := 3) (v := .int (Walk_dueKind sWalk)) (C := R_Walk) (T := T_Walk) (N := 18) (pc := 1) hx hb hts (fun w h => List.mem_cons_of_mem _ (in_Walk w h)) hown hK hP _ (fl_at 1 0 rfl rfl) rfl 14 (by decide) (hts _ (List.mem_cons_of_mem _ tw_226)) (fun _ h9 => h9) rfl d_Walk_giveFromEntry_1 ?_
  refine lv_istore_n (lv' := [(1, .int (Walk_dueKind sWalk)), (0, .ref (hWalk 0))]) (pc := 4) hx hb d_Walk_giveFromEntry_4 rfl hl (by decide) rfl (fun ls hl => ?_)
  refine lv_aload_n (pc := 5) hx hb d_Walk_giveFromEntry_5 rfl (lv_at hl 1 rfl) ?_
  refine lv_iconst (v := (-1)) (pc := 6) hx hb d_Walk_giveFromEntry_6 (by decide) ?_
  refine va_put (D := D) (ci := 3) (v := .int ((-1))) (ty := .int) (C := R_Walk) (T := T_Walk) (N := 18) (pc := 7) hx hb hts (fun w h => List.mem_cons_of_mem _ (in_Walk w h)) ty_Walk ty_Walk_ok nm_Walk hown hK hP hD hS _ (fl_at 1 0 rfl rfl) rfl 14 (by decide) (hts _ (List.mem_cons_of_mem _ tw_226)) (fun _ h9 => h9) rfl (by decide +kernel) rfl rfl (Nat.le_of_ble_eq_true rfl) d_Walk_giveFromEntry_7 (fun H locs hP hD hS => ?_)
  obtain ⟨sWalk_1, esWalk_1, hf⟩ := o_lt_e hf
  have hP : va_P D vwCl (fl [wTab K hTab sTab, wWalk K hWalk (hFld 0) (hTab 0) (hProg 0) (hLps 0) sWalk_1, wFld K hFld sFld, wLps K hLps sLps]) H := by rw [esWalk_1]; exact fl_P 1 0 rfl (Nat.le_of_ble_eq_true rfl) rfl rfl hP
  have hD : va_D A (fl [wTab K hTab sTab, wWalk K hWalk (hFld 0) (hTab 0) (hProg 0) (hLps 0) sWalk_1, wFld K hFld sFld, wLps K hLps sLps]) := by rw [esWalk_1]; exact fl_D 1 0 rfl (Nat.le_of_ble_eq_true rfl) rfl rfl hD
  refine lv_aload_n (pc := 10) hx hb d_Walk_giveFromEntry_10 rfl (lv_at hl 1 rfl) ?_
  refine va_get (D := D) (ci := 3) (v := .ref (hTab 0)) (C := R_Walk) (T := T_Walk) (N := 18) (pc := 11) hx hb hts (fun w h => List.mem_cons_of_mem _ (in_Walk w h)) hown hK hP _ (fl_at 1 0 rfl rfl) rfl 3 (by decide) (hts _ (List.mem_cons_of_mem _ tw_215)) (fun _ h9 => h9) rfl d_Walk_giveFromEntry_11 ?_
  refine lv_aload_n (pc := 14) hx hb d_Walk_giveFromEntry_14 rfl (lv_at hl 1 rfl) ?_
  refine va_get (D := D) (ci := 3) (v := .int (Walk_dueCode sWalk_1)) (C := R_Walk) (T := T_Walk) (N := 18) (pc := 15) hx hb hts (fun w h => List.mem_cons_of_mem _ (in_Walk w h)) hown hK hP _ (fl_at 1 0 rfl rfl) rfl 15 (by decide) (hts _ (List.mem_cons_of_mem _ tw_227)) (fun _ h9 => h9) rfl d_Walk_giveFromEntry_15 ?_
  obtain ⟨q2, hq2, hf⟩ := o_bd_e hf
  refine fi_i (pc := 18) (va_runV (As := [.int (Walk_dueCode sWalk_1)]) (rest := []) ⟨hx, hb, hml, hown, hts⟩ ((c_Tab_inForce l D K fu hTab sTab (Walk_dueCode sWalk_1) q2 hq2) _) (cwV 1 hts (gV tw_576 tw_488 tw_489 tw_2 tw_490) rfl rfl rfl (by decide +kernel) ⟨by decide, by decide⟩) ⟨mPre_blind, va_recv hK hP (ci := 1) rfl (fl_at 0 0 rfl rfl), (mPre_fl hK hF hA hP hD hS [0] rfl rfl)⟩ rfl rfl hl.1 rfl (lv_room (Nat.le_of_ble_eq_true rfl)) d_Walk_giveFromEntry_18 ⟨Nat.zero_le _, Nat.zero_le _⟩) hA hP hD hS [0] rfl rfl (fun H locs hP hD hS => ?_)
  have hP : va_P D vwCl (fl [wTab K hTab sTab, wWalk K hWalk (hFld 0) (hTab 0) (hProg 0) (hLps 0) sWalk_1, wFld K hFld sFld, wLps K hLps sLps]) H := hP
  have hD : va_D A (fl [wTab K hTab sTab, wWalk K hWalk (hFld 0) (hTab 0) (hProg 0) (hLps 0) sWalk_1, wFld K hFld sFld, wLps K hLps sLps]) := hD
  refine lv_istore_n (lv' := [(2, .int q2), (1, .int (Walk_dueKind sWalk)), (0, .ref (hWalk 0))]) (pc := 21) hx hb d_Walk_giveFromEntry_21 rfl hl (by decide) rfl (fun ls hl => ?_)
  refine lv_iload_n (pc := 22) hx hb d_Walk_giveFromEntry_22 rfl (lv_at hl 0 rfl) ?_
  refine lv_iconst (v := (-1)) (pc := 23) hx hb d_Walk_giveFromEntry_23 (by decide) ?_
  refine lv_icmp_ne (tgt := 28) (pc := 24) hx hb d_Walk_giveFromEntry_24 (by decide) (fun c16 => ?_) (fun c16 => ?_)
  · replace hf := o_f c16 hf
    refine lv_aload_n (pc := 28) hx hb d_Walk_giveFromEntry_28 rfl (lv_at hl 2 rfl) ?_
    refine va_get (D := D) (ci := 3) (v := .ref (hTab 0)) (C := R_Walk) (T := T_Walk) (N := 18) (pc := 29) hx hb hts (fun w h => List.mem_cons_of_mem _ (in_Walk w h)) hown hK hP _ (fl_at 1 0 rfl rfl) rfl 3 (by decide) (hts _ (List.mem_cons_of_mem _ tw_215)) (fun _ h9 => h9) rfl d_Walk_giveFromEntry_29 ?_
    refine va_get (D := D) (ci := 1) (v := .ref (hTab 3)) (C := R_Tab) (T := T_Tab) (N := 6) (pc := 32) hx hb hts (fun w h => List.mem_cons_of_mem _ (in_Tab w h)) hown hK hP _ (fl_at 0 0 rfl rfl) rfl 2 (by decide) (hts _ (List.mem_cons_of_mem _ tw_46)) (fun _ h9 => h9) rfl d_Walk_giveFromEntry_32 ?_
    refine lv_iload_n (pc := 35) hx hb d_Walk_giveFromEntry_35 rfl (lv_at hl 0 rfl) ?_
    obtain ⟨hi3, hf⟩ := o_gi_e hf
    refine va_iald (D := D) (pc := 36) hx hb hK hP _ 0 (fl_at 0 3 rfl rfl) rfl hi3 d_Walk_giveFromEntry_36 ?_
    refine lv_istore_n (lv' := [(3, .int (Tab_widths sTab (q2 : Int32).toNatClampNeg)), (2, .int q2), (1, .int (Walk_dueKind sWalk)), (0, .ref (hWalk 0))]) (pc := 37) hx hb d_Walk_giveFromEntry_37 rfl hl (by decide) rfl (fun ls hl => ?_)
    refine lv_aload_n (pc := 38) hx hb d_Walk_giveFromEntry_38 rfl (lv_at hl 3 rfl) ?_
    refine va_get (D := D) (ci := 3) (v := .ref (hTab 0)) (C := R_Walk) (T := T_Walk) (N := 18) (pc := 39) hx hb hts (fun w h => List.mem_cons_of_mem _ (in_Walk w h)) hown hK hP _ (fl_at 1 0 rfl rfl) rfl 3 (by decide) (hts _ (List.mem_cons_of_mem _ tw_215)) (fun _ h9 => h9) rfl d_Walk_giveFromEntry_39 ?_
    refine va_get (D := D) (ci := 1) (v := .ref (hTab 1)) (C := R_Tab) (T := T_Tab) (N := 6) (pc := 42) hx hb hts (fun w h => List.mem_cons_of_mem _ (in_Tab w h)) hown hK hP _ (fl_at 0 0 rfl rfl) rfl 0 (by decide) (hts _ (List.mem_cons_of_mem _ tw_39)) (fun _ h9 => h9) rfl d_Walk_giveFromEntry_42 ?_
    refine lv_iload_n (pc := 45) hx hb d_Walk_giveFromEntry_45 rfl (lv_at hl 1 rfl) ?_
    obtain ⟨hi4, hf⟩ := o_gi_e hf
    refine va_iald (D := D) (pc := 46) hx hb hK hP _ 0 (fl_at 0 1 rfl rfl) rfl hi4 d_Walk_giveFromEntry_46 ?_
    refine lv_istore (lv' := [(4, .int (Tab_scales sTab (q2 : Int32).toNatClampNeg)), (3, .int (Tab_widths sTab (q2 : Int32).toNatClampNeg)), (2, .int q2), (1, .int (Walk_dueKind sWalk)), (0, .ref (hWalk 0))]) (pc := 47) hx hb d_Walk_giveFromEntry_47 hl (by decide) rfl (fun ls hl => ?_)
    refine lv_aload_n (pc := 49) hx hb d_Walk_giveFromEntry_49 rfl (lv_at hl 4 rfl) ?_
    refine va_get (D := D) (ci := 3) (v := .ref (hTab 0)) (C := R_Walk) (T := T_Walk) (N := 18) (pc := 50) hx hb hts (fun w h => List.mem_cons_of_mem _ (in_Walk w h)) hown hK hP _ (fl_at 1 0 rfl rfl) rfl 3 (by decide) (hts _ (List.mem_cons_of_mem _ tw_215)) (fun _ h9 => h9) rfl d_Walk_giveFromEntry_50 ?_
    refine va_get (D := D) (ci := 1) (v := .ref (hTab 2)) (C := R_Tab) (T := T_Tab) (N := 6) (pc := 53) hx hb hts (fun w h => List.mem_cons_of_mem _ (in_Tab w h)) hown hK hP _ (fl_at 0 0 rfl rfl) rfl 1 (by decide) (hts _ (List.mem_cons_of_mem _ tw_42)) (fun _ h9 => h9) rfl d_Walk_giveFromEntry_53 ?_
    refine lv_iload_n (pc := 56) hx hb d_Walk_giveFromEntry_56 rfl (lv_at hl 2 rfl) ?_
    obtain ⟨hi5, hf⟩ := o_gi_e hf
    refine va_iald (D := D) (pc := 57) hx hb hK hP _ 0 (fl_at 0 2 rfl rfl) rfl hi5 d_Walk_giveFromEntry_57 ?_
    refine lv_i2l (pc := 58) hx hb d_Walk_giveFromEntry_58 rfl ?_
    refine lv_topl (fun u6 eu6 => ?_)
    replace hf := o_lt_a eu6 hf
    refine lv_lstore (lv' := [(5, .long u6), (4, .int (Tab_scales sTab (q2 : Int32).toNatClampNeg)), (3, .int (Tab_widths sTab (q2 : Int32).toNatClampNeg)), (2, .int q2), (1, .int (Walk_dueKind sWalk)), (0, .ref (hWalk 0))]) (pc := 59) hx hb d_Walk_giveFromEntry_59 hl (by decide) rfl (fun ls hl => ?_)
    refine lv_iload_n (pc := 61) hx hb d_Walk_giveFromEntry_61 rfl (lv_at hl 4 rfl) ?_
    refine lv_if_ne (tgt := 104) (pc := 62) hx hb d_Walk_giveFromEntry_62 (by decide) (fun c15 => ?_) (fun c15 => ?_)
    · replace hf := o_f c15 hf
      exact J104 (Walk_dueKind sWalk) (Tab_widths sTab (q2 : Int32).toNatClampNeg) (Tab_scales sTab (q2 : Int32).toNatClampNeg) u6 sWalk_1 sFld H locs ls hP hD hS (lv_sub hl [5, 4, 2, 1, 0] rfl) hf
    · replace hf := o_t c15 hf
      refine lv_iload_n (pc := 65) hx hb d_Walk_giveFromEntry_65 rfl (lv_at hl 2 rfl) ?_
      refine lv_aload_n (pc := 66) hx hb d_Walk_giveFromEntry_66 rfl (lv_at hl 5 rfl) ?_
      refine va_get (D := D) (ci := 3) (v := .ref (hWalk 1)) (C := R_Walk) (T := T_Walk) (N := 18) (pc := 67) hx hb hts (fun w h => List.mem_cons_of_mem _ (in_Walk w h)) hown hK hP _ (fl_at 1 0 rfl rfl) rfl 6 (by decide) (hts _ (List.mem_cons_of_mem _ tw_218)) (fun _ h9 => h9) rfl d_Walk_giveFromEntry_67 ?_
      refine lv_iconst (v := 0) (pc := 70) hx hb d_Walk_giveFromEntry_70 (by decide) ?_
      obtain ⟨hi7, hf⟩ := o_gi_e hf
      refine va_iald (D := D) (pc := 71) hx hb hK hP _ 0 (fl_at 1 1 rfl rfl) rfl hi7 d_Walk_giveFromEntry_71 ?_
      obtain ⟨q8, hq8, hf⟩ := o_bd_e hf
      refine fi_i (pc := 72) (va_runS (As := [.int (Walk_settings sWalk_1 (0 : Int32).toNatClampNeg)]) (rest := [.int (Tab_widths sTab (q2 : Int32).toNatClampNeg)]) ⟨hx, hb, hml, hown, hts⟩ ((c_Desc_addedWidth l D K (Walk_settings sWalk_1 (0 : Int32).toNatClampNeg) q8 hq8) _) (va_cwS 1 hts (gT tw_577 tw_492 tw_13 tw_493) rfl rfl rfl (by decide +kernel) ⟨by decide, by decide⟩) ⟨mPre_blind, (mPre_fl hK hF hA hP hD hS [] rfl rfl)⟩ rfl rfl hl.1 rfl (lv_room (Nat.le_of_ble_eq_true rfl)) d_Walk_giveFromEntry_72 ⟨Nat.zero_le _, Nat.zero_le _⟩) hA hP hD hS [] rfl rfl (fun H locs hP hD hS => ?_)
      have hP : va_P D vwCl (fl [wTab K hTab sTab, wWalk K hWalk (hFld 0) (hTab 0) (hProg 0) (hLps 0) sWalk_1, wFld K hFld sFld, wLps K hLps sLps]) H := hP
      have hD : va_D A (fl [wTab K hTab sTab, wWalk K hWalk (hFld 0) (hTab 0) (hProg 0) (hLps 0) sWalk_1, wFld K hFld sFld, wLps K hLps sLps]) := hD
      refine lv_iadd (pc := 75) hx hb d_Walk_giveFromEntry_75 ?_
      refine lv_topi (fun u9 eu9 => ?_)
      replace hf := o_lt_a eu9 hf
      refine lv_istore_n (lv' := [(3, .int u9), (5, .long u6), (4, .int (Tab_scales sTab (q2 : Int32).toNatClampNeg)), (2, .int q2), (1, .int (Walk_dueKind sWalk)), (0, .ref (hWalk 0))]) (pc := 76) hx hb d_Walk_giveFromEntry_76 rfl hl (by decide) rfl (fun ls hl => ?_)
      refine lv_iload (pc := 77) hx hb d_Walk_giveFromEntry_77 (lv_at hl 2 rfl) ?_
      refine lv_aload_n (pc := 79) hx hb d_Walk_giveFromEntry_79 rfl (lv_at hl 5 rfl) ?_
      refine va_get (D := D) (ci := 3) (v := .ref (hWalk 1)) (C := R_Walk) (T := T_Walk) (N := 18) (pc := 80) hx hb hts (fun w h => List.mem_cons_of_mem _ (in_Walk w h)) hown hK hP _ (fl_at 1 0 rfl rfl) rfl 6 (by decide) (hts _ (List.mem_cons_of_mem _ tw_218)) (fun _ h9 => h9) rfl d_Walk_giveFromEntry_80 ?_
      refine lv_iconst (v := 1) (pc := 83) hx hb d_Walk_giveFromEntry_83 (by decide) ?_
      obtain ⟨hi10, hf⟩ := o_gi_e hf
      refine va_iald (D := D) (pc := 84) hx hb hK hP _ 0 (fl_at 1 1 rfl rfl) rfl hi10 d_Walk_giveFromEntry_84 ?_
      obtain ⟨q11, hq11, hf⟩ := o_bd_e hf
      refine fi_i (pc := 85) (va_runS (As := [.int (Walk_settings sWalk_1 (1 : Int32).toNatClampNeg)]) (rest := [.int (Tab_scales sTab (q2 : Int32).toNatClampNeg)]) ⟨hx, hb, hml, hown, hts⟩ ((c_Desc_addedScale l D K (Walk_settings sWalk_1 (1 : Int32).toNatClampNeg) q11 hq11) _) (va_cwS 1 hts (gT tw_578 tw_495 tw_13 tw_496) rfl rfl rfl (by decide +kernel) ⟨by decide, by decide⟩) ⟨mPre_blind, (mPre_fl hK hF hA hP hD hS [] rfl rfl)⟩ rfl rfl hl.1 rfl (lv_room (Nat.le_of_ble_eq_true rfl)) d_Walk_giveFromEntry_85 ⟨Nat.zero_le _, Nat.zero_le _⟩) hA hP hD hS [] rfl rfl (fun H locs hP hD hS => ?_)
      have hP : va_P D vwCl (fl [wTab K hTab sTab, wWalk K hWalk (hFld 0) (hTab 0) (hProg 0) (hLps 0) sWalk_1, wFld K hFld sFld, wLps K hLps sLps]) H := hP
      have hD : va_D A (fl [wTab K hTab sTab, wWalk K hWalk (hFld 0) (hTab 0) (hProg 0) (hLps 0) sWalk_1, wFld K hFld sFld, wLps K hLps sLps]) := hD
      refine lv_iadd (pc := 88) hx hb d_Walk_giveFromEntry_88 ?_
      refine lv_topi (fun u12 eu12 => ?_)
      replace hf := o_lt_a eu12 hf
      refine lv_istore (lv' := [(4, .int u12), (3, .int u9), (5, .long u6), (2, .int q2), (1, .int (Walk_dueKind sWalk)), (0, .ref (hWalk 0))]) (pc := 89) hx hb d_Walk_giveFromEntry_89 hl (by decide) rfl (fun ls hl => ?_)
      refine lv_lload (pc := 91) hx hb d_Walk_giveFromEntry_91 (lv_at hl 2 rfl) ?_
      refine lv_lconst (v := 1) (pc := 93) hx hb d_Walk_giveFromEntry_93 (by decide) ?_
      refine lv_aload_n (pc := 94) hx hb d_Walk_giveFromEntry_94 rfl (lv_at hl 5 rfl) ?_
      refine va_get (D := D) (ci := 3) (v := .ref (hWalk 1)) (C := R_Walk) (T := T_Walk) (N := 18) (pc := 95) hx hb hts (fun w h => List.mem_cons_of_mem _ (in_Walk w h)) hown hK hP _ (fl_at 1 0 rfl rfl) rfl 6 (by decide) (hts _ (List.mem_cons_of_mem _ tw_218)) (fun _ h9 => h9) rfl d_Walk_giveFromEntry_95 ?_
      refine lv_iconst (v := 3) (pc := 98) hx hb d_Walk_giveFromEntry_98 (by decide) ?_
      obtain ⟨hi13, hf⟩ := o_gi_e hf
      refine va_iald (D := D) (pc := 99) hx hb hK hP _ 0 (fl_at 1 1 rfl rfl) rfl hi13 d_Walk_giveFromEntry_99 ?_
      refine lv_lshl (pc := 100) hx hb d_Walk_giveFromEntry_100 rfl ?_
      refine lv_lmul (pc := 101) hx hb d_Walk_giveFromEntry_101 ?_
      refine lv_topl (fun u14 eu14 => ?_)
      replace hf := o_lt_a eu14 hf
      refine lv_lstore (lv' := [(5, .long u14), (4, .int u12), (3, .int u9), (2, .int q2), (1, .int (Walk_dueKind sWalk)), (0, .ref (hWalk 0))]) (pc := 102) hx hb d_Walk_giveFromEntry_102 hl (by decide) rfl (fun ls hl => ?_)
      exact J104 (Walk_dueKind sWalk) u9 u12 u14 sWalk_1 sFld H locs ls hP hD hS (lv_sub hl [5, 4, 2, 1, 0] rfl) hf
  · replace hf := o_t c16 hf
    cases hf
    exact ret_v hx hb hr hlocks hK hP hS d_Walk_giveFromEntry_27
def Walk_giveQuality (sLps : S_Lps) (sWalk : S_Walk) (sFld : S_Fld) : Option (S_Walk × S_Fld) := o_lt (Walk_set_dueKind sWalk 0) fun sWalk_1 => (o_gd (o_in 2 4) (o_bd (Walk_give sLps 1 ((-1)) (Walk_settings sWalk_1 (2 : Int32).toNatClampNeg) 0 0 ((Fld_count sFld) + 1) sWalk_1 sFld) fun q3 => (some ((q3.1, q3.2)))))
abbrev rm_Walk_giveQuality : Room := { frames := 2, cells := 0, slots := 0, locals := 50 }
set_option maxHeartbeats 4000000 in
set_option maxRecDepth 100000 in
theorem c_Walk_giveQuality (l : Launch) (D : va_G) (K : Nat → ClassId) (hTab : Nat → Nat) (hProg : Nat → Nat) (hWalk : Nat → Nat) (hFld : Nat → Nat) (hLps : Nat → Nat) (sWalk : S_Walk) (sFld : S_Fld) (sLps : S_Lps) (sWalk' : S_Walk) (sFld' : S_Fld) (hf : Walk_giveQuality sLps sWalk sFld = some ((sWalk', sFld'))) : mv l D K y_Walk_giveQuality ws_Walk_giveQuality rm_Walk_giveQuality [.ref (hWalk 0)] (fl [wWalk K hWalk (hFld 0) (hTab 0) (hProg 0) (hLps 0) sWalk, wFld K hFld sFld, wLps K hLps sLps]) (fl [wWalk K hWalk (hFld 0) (hTab 0) (hProg 0) (hLps 0) sWalk', wFld K hFld sFld', wLps K hLps sLps]) := by
  refine mv_of (cc := b_Walk_giveQuality) (maxL := 1) (own := "ObsMessages$Walk") (by decide) rfl rfl (Nat.le_of_ble_eq_true rfl) ?_
  intro p e s m below meth c A ls hC hP hD hS hl
  obtain ⟨hx, hb, hml, hown, hts, hr, hlocks, hK, hF, hA⟩ := hC
  have hP : va_P D vwCl (fl [wWalk K hWalk (hFld 0) (hTab 0) (hProg 0) (hLps 0) sWalk, wFld K hFld sFld, wLps K hLps sLps]) s.heap := hP
  have hl : lv_has ls 1 [(0, .ref (hWalk 0))] := hl
  suffices hW : ∀ (H : Heap) (locs : List Loc), va_P D vwCl (fl [wWalk K hWalk (hFld 0) (hTab 0) (hProg 0) (hLps 0) sWalk, wFld K hFld sFld, wLps K hLps sLps]) H → va_S A s.heap H locs → W p l e rm_Walk_giveQuality s m ([.ref (hWalk 0)] : List Value).toArray below meth c H locs 0 0 (Qv below ([.ref (hWalk 0)] : List Value).toArray s D K A (fl [wWalk K hWalk (hFld 0) (hTab 0) (hProg 0) (hLps 0) sWalk', wFld K hFld sFld', wLps K hLps sLps])) (F0 m 0 ls []) from hW s.heap [] hP hS
  clear hP hS
  intro H locs hP hS
  refine lv_aload_n (pc := 0) hx hb d_Walk_giveQuality_0 rfl (lv_at hl 0 rfl) ?_
  refine lv_iconst (v := 0) (pc := 1) hx hb d_Walk_giveQuality_1 (by decide) ?_
  refine va_put (D := D) (ci := 3) (v := .int 0) (ty := .int) (C := R_Walk) (T := T_Walk) (N := 18) (pc := 2) hx hb hts (fun w h => List.mem_cons_of_mem _ (in_Walk w h)) ty_Walk ty_Walk_ok nm_Walk hown hK hP hD hS _ (fl_at 0 0 rfl rfl) rfl 14 (by decide) (hts _ (List.mem_cons_of_mem _ tw_226)) (fun _ h9 => h9) rfl (by decide +kernel) rfl rfl (Nat.le_of_ble_eq_true rfl) d_Walk_giveQuality_2 (fun H locs hP hD hS => ?_)
  obtain ⟨sWalk_1, esWalk_1, hf⟩ := o_lt_e hf
  have hP : va_P D vwCl (fl [wWalk K hWalk (hFld 0) (hTab 0) (hProg 0) (hLps 0) sWalk_1, wFld K hFld sFld, wLps K hLps sLps]) H := by rw [esWalk_1]; exact fl_P 0 0 rfl (Nat.le_of_ble_eq_true rfl) rfl rfl hP
  have hD : va_D A (fl [wWalk K hWalk (hFld 0) (hTab 0) (hProg 0) (hLps 0) sWalk_1, wFld K hFld sFld, wLps K hLps sLps]) := by rw [esWalk_1]; exact fl_D 0 0 rfl (Nat.le_of_ble_eq_true rfl) rfl rfl hD
  refine lv_aload_n (pc := 5) hx hb d_Walk_giveQuality_5 rfl (lv_at hl 0 rfl) ?_
  refine lv_iconst (v := 1) (pc := 6) hx hb d_Walk_giveQuality_6 (by decide) ?_
  refine lv_iconst (v := (-1)) (pc := 7) hx hb d_Walk_giveQuality_7 (by decide) ?_
  refine lv_aload_n (pc := 8) hx hb d_Walk_giveQuality_8 rfl (lv_at hl 0 rfl) ?_
  refine va_get (D := D) (ci := 3) (v := .ref (hWalk 1)) (C := R_Walk) (T := T_Walk) (N := 18) (pc := 9) hx hb hts (fun w h => List.mem_cons_of_mem _ (in_Walk w h)) hown hK hP _ (fl_at 0 0 rfl rfl) rfl 6 (by decide) (hts _ (List.mem_cons_of_mem _ tw_218)) (fun _ h9 => h9) rfl d_Walk_giveQuality_9 ?_
  refine lv_iconst (v := 2) (pc := 12) hx hb d_Walk_giveQuality_12 (by decide) ?_
  obtain ⟨hi2, hf⟩ := o_gi_e hf
  refine va_iald (D := D) (pc := 13) hx hb hK hP _ 0 (fl_at 0 1 rfl rfl) rfl hi2 d_Walk_giveQuality_13 ?_
  refine lv_iconst (v := 0) (pc := 14) hx hb d_Walk_giveQuality_14 (by decide) ?_
  refine lv_lconst (v := 0) (pc := 15) hx hb d_Walk_giveQuality_15 (by decide) ?_
  refine lv_aload_n (pc := 16) hx hb d_Walk_giveQuality_16 rfl (lv_at hl 0 rfl) ?_
  refine va_get (D := D) (ci := 3) (v := .ref (hFld 0)) (C := R_Walk) (T := T_Walk) (N := 18) (pc := 17) hx hb hts (fun w h => List.mem_cons_of_mem _ (in_Walk w h)) hown hK hP _ (fl_at 0 0 rfl rfl) rfl 0 (by decide) (hts _ (List.mem_cons_of_mem _ tw_205)) (fun _ h9 => h9) rfl d_Walk_giveQuality_17 ?_
  refine va_get (D := D) (ci := 4) (v := .int (Fld_count sFld)) (C := R_Fld) (T := T_Fld) (N := 8) (pc := 20) hx hb hts (fun w h => List.mem_cons_of_mem _ (in_Fld w h)) hown hK hP _ (fl_at 1 0 rfl rfl) rfl 7 (by decide) (hts _ (List.mem_cons_of_mem _ tw_162)) (fun _ h9 => h9) rfl d_Walk_giveQuality_20 ?_
  refine lv_iconst (v := 1) (pc := 23) hx hb d_Walk_giveQuality_23 (by decide) ?_
  refine lv_iadd (pc := 24) hx hb d_Walk_giveQuality_24 ?_
  obtain ⟨q3, hq3, hf⟩ := o_bd_e hf
  refine fi_v (pc := 25) (va_runV (As := [.int 1, .int ((-1)), .int (Walk_settings sWalk_1 (2 : Int32).toNatClampNeg), .int 0, .long 0, .int ((Fld_count sFld) + 1)]) (rest := []) ⟨hx, hb, hml, hown, hts⟩ ((c_Walk_give l D K hTab hProg hWalk hFld hLps sWalk_1 sFld sLps 1 ((-1)) (Walk_settings sWalk_1 (2 : Int32).toNatClampNeg) 0 0 ((Fld_count sFld) + 1) q3.1 q3.2 hq3) _) (cwV 6 hts (gV tw_560 tw_562 tp_12 tw_4 tw_563) rfl rfl rfl (by decide +kernel) ⟨by decide, by decide⟩) ⟨mPre_blind, va_recv hK hP (ci := 3) rfl (fl_at 0 0 rfl rfl), (mPre_fl hK hF hA hP hD hS [0, 1, 2] rfl rfl)⟩ rfl rfl hl.1 rfl (lv_room (Nat.le_of_ble_eq_true rfl)) d_Walk_giveQuality_25 ⟨Nat.zero_le _, Nat.zero_le _⟩) hA hP hD hS [0, 1, 2] rfl rfl (fun H locs hP hD hS => ?_)
  have hP : va_P D vwCl (fl [wWalk K hWalk (hFld 0) (hTab 0) (hProg 0) (hLps 0) q3.1, wFld K hFld q3.2, wLps K hLps sLps]) H := hP
  have hD : va_D A (fl [wWalk K hWalk (hFld 0) (hTab 0) (hProg 0) (hLps 0) q3.1, wFld K hFld q3.2, wLps K hLps sLps]) := hD
  cases hf
  exact ret_v hx hb hr hlocks hK hP hS d_Walk_giveQuality_28
def Walk_comeToBits (sFld : S_Fld) (a0 : Int32) (sWalk : S_Walk) : Option (S_Walk) := if a0 ≤ (Walk_elementCount sWalk) then o_lt (Walk_set_pointedCount sWalk 0) fun sWalk_1 => (o_lt (Walk_set_nextPointed sWalk_1 0) fun sWalk_2 => (o_lt (Walk_set_dueKind sWalk_2 3) fun sWalk_3 => (o_lt (Walk_set_dueBits sWalk_3 a0) fun sWalk_4 => (some sWalk_4)))) else o_bd (Walk_fail 7 (Fld_count sFld) sWalk) fun q5 => (some q5)
abbrev rm_Walk_comeToBits : Room := { frames := 1, cells := 0, slots := 0, locals := 22 }
set_option maxHeartbeats 4000000 in
set_option maxRecDepth 100000 in
theorem c_Walk_comeToBits (l : Launch) (D : va_G) (K : Nat → ClassId) (hTab : Nat → Nat) (hProg : Nat → Nat) (hWalk : Nat → Nat) (hFld : Nat → Nat) (hLps : Nat → Nat) (sWalk : S_Walk) (sFld : S_Fld) (a0 : Int32) (sWalk' : S_Walk) (hf : Walk_comeToBits sFld a0 sWalk = some sWalk') : mv l D K y_Walk_comeToBits ws_Walk_comeToBits rm_Walk_comeToBits [.ref (hWalk 0), .int a0] (fl [wWalk K hWalk (hFld 0) (hTab 0) (hProg 0) (hLps 0) sWalk, wFld K hFld sFld]) (fl [wWalk K hWalk (hFld 0) (hTab 0) (hProg 0) (hLps 0) sWalk', wFld K hFld sFld]) := by
  refine mv_of (cc := b_Walk_comeToBits) (maxL := 2) (own := "ObsMessages$Walk") (by decide) rfl rfl (Nat.le_of_ble_eq_true rfl) ?_
  intro p e s m below meth c A ls hC hP hD hS hl
  obtain ⟨hx, hb, hml, hown, hts, hr, hlocks, hK, hF, hA⟩ := hC
  have hP : va_P D vwCl (fl [wWalk K hWalk (hFld 0) (hTab 0) (hProg 0) (hLps 0) sWalk, wFld K hFld sFld]) s.heap := hP
  have hl : lv_has ls 2 [(0, .ref (hWalk 0)), (1, .int a0)] := hl
  suffices hW : ∀ (H : Heap) (locs : List Loc), va_P D vwCl (fl [wWalk K hWalk (hFld 0) (hTab 0) (hProg 0) (hLps 0) sWalk, wFld K hFld sFld]) H → va_S A s.heap H locs → W p l e rm_Walk_comeToBits s m ([.ref (hWalk 0), .int a0] : List Value).toArray below meth c H locs 0 0 (Qv below ([.ref (hWalk 0), .int a0] : List Value).toArray s D K A (fl [wWalk K hWalk (hFld 0) (hTab 0) (hProg 0) (hLps 0) sWalk', wFld K hFld sFld])) (F0 m 0 ls []) from hW s.heap [] hP hS
  clear hP hS
  intro H locs hP hS
  refine lv_aload_n (pc := 0) hx hb d_Walk_comeToBits_0 rfl (lv_at hl 0 rfl) ?_
  refine va_get (D := D) (ci := 3) (v := .int (Walk_elementCount sWalk)) (C := R_Walk) (T := T_Walk) (N := 18) (pc := 1) hx hb hts (fun w h => List.mem_cons_of_mem _ (in_Walk w h)) hown hK hP _ (fl_at 0 0 rfl rfl) rfl 8 (by decide) (hts _ (List.mem_cons_of_mem _ tw_220)) (fun _ h9 => h9) rfl d_Walk_comeToBits_1 ?_
  refine lv_iload_n (pc := 4) hx hb d_Walk_comeToBits_4 rfl (lv_at hl 1 rfl) ?_
  refine lv_icmp_ge (tgt := 22) (pc := 5) hx hb d_Walk_comeToBits_5 (by decide) (fun c6 => ?_) (fun c6 => ?_)
  · replace hf := o_t c6 hf
    refine lv_aload_n (pc := 22) hx hb d_Walk_comeToBits_22 rfl (lv_at hl 0 rfl) ?_
    refine lv_iconst (v := 0) (pc := 23) hx hb d_Walk_comeToBits_23 (by decide) ?_
    refine va_put (D := D) (ci := 3) (v := .int 0) (ty := .int) (C := R_Walk) (T := T_Walk) (N := 18) (pc := 24) hx hb hts (fun w h => List.mem_cons_of_mem _ (in_Walk w h)) ty_Walk ty_Walk_ok nm_Walk hown hK hP hD hS _ (fl_at 0 0 rfl rfl) rfl 10 (by decide) (hts _ (List.mem_cons_of_mem _ tw_222)) (fun _ h9 => h9) rfl (by decide +kernel) rfl rfl (Nat.le_of_ble_eq_true rfl) d_Walk_comeToBits_24 (fun H locs hP hD hS => ?_)
    obtain ⟨sWalk_1, esWalk_1, hf⟩ := o_lt_e hf
    have hP : va_P D vwCl (fl [wWalk K hWalk (hFld 0) (hTab 0) (hProg 0) (hLps 0) sWalk_1, wFld K hFld sFld]) H := by rw [esWalk_1]; exact fl_P 0 0 rfl (Nat.le_of_ble_eq_true rfl) rfl rfl hP
    have hD : va_D A (fl [wWalk K hWalk (hFld 0) (hTab 0) (hProg 0) (hLps 0) sWalk_1, wFld K hFld sFld]) := by rw [esWalk_1]; exact fl_D 0 0 rfl (Nat.le_of_ble_eq_true rfl) rfl rfl hD
    refine lv_aload_n (pc := 27) hx hb d_Walk_comeToBits_27 rfl (lv_at hl 0 rfl) ?_
    refine lv_iconst (v := 0) (pc := 28) hx hb d_Walk_comeToBits_28 (by decide) ?_
    refine va_put (D := D) (ci := 3) (v := .int 0) (ty := .int) (C := R_Walk) (T := T_Walk) (N := 18) (pc := 29) hx hb hts (fun w h => List.mem_cons_of_mem _ (in_Walk w h)) ty_Walk ty_Walk_ok nm_Walk hown hK hP hD hS _ (fl_at 0 0 rfl rfl) rfl 11 (by decide) (hts _ (List.mem_cons_of_mem _ tw_223)) (fun _ h9 => h9) rfl (by decide +kernel) rfl rfl (Nat.le_of_ble_eq_true rfl) d_Walk_comeToBits_29 (fun H locs hP hD hS => ?_)
    obtain ⟨sWalk_2, esWalk_2, hf⟩ := o_lt_e hf
    have hP : va_P D vwCl (fl [wWalk K hWalk (hFld 0) (hTab 0) (hProg 0) (hLps 0) sWalk_2, wFld K hFld sFld]) H := by rw [esWalk_2]; exact fl_P 0 0 rfl (Nat.le_of_ble_eq_true rfl) rfl rfl hP
    have hD : va_D A (fl [wWalk K hWalk (hFld 0) (hTab 0) (hProg 0) (hLps 0) sWalk_2, wFld K hFld sFld]) := by rw [esWalk_2]; exact fl_D 0 0 rfl (Nat.le_of_ble_eq_true rfl) rfl rfl hD
    refine lv_aload_n (pc := 32) hx hb d_Walk_comeToBits_32 rfl (lv_at hl 0 rfl) ?_
    refine lv_iconst (v := 3) (pc := 33) hx hb d_Walk_comeToBits_33 (by decide) ?_
    refine va_put (D := D) (ci := 3) (v := .int 3) (ty := .int) (C := R_Walk) (T := T_Walk) (N := 18) (pc := 34) hx hb hts (fun w h => List.mem_cons_of_mem _ (in_Walk w h)) ty_Walk ty_Walk_ok nm_Walk hown hK hP hD hS _ (fl_at 0 0 rfl rfl) rfl 14 (by decide) (hts _ (List.mem_cons_of_mem _ tw_226)) (fun _ h9 => h9) rfl (by decide +kernel) rfl rfl (Nat.le_of_ble_eq_true rfl) d_Walk_comeToBits_34 (fun H locs hP hD hS => ?_)
    obtain ⟨sWalk_3, esWalk_3, hf⟩ := o_lt_e hf
    have hP : va_P D vwCl (fl [wWalk K hWalk (hFld 0) (hTab 0) (hProg 0) (hLps 0) sWalk_3, wFld K hFld sFld]) H := by rw [esWalk_3]; exact fl_P 0 0 rfl (Nat.le_of_ble_eq_true rfl) rfl rfl hP
    have hD : va_D A (fl [wWalk K hWalk (hFld 0) (hTab 0) (hProg 0) (hLps 0) sWalk_3, wFld K hFld sFld]) := by rw [esWalk_3]; exact fl_D 0 0 rfl (Nat.le_of_ble_eq_true rfl) rfl rfl hD
    refine lv_aload_n (pc := 37) hx hb d_Walk_comeToBits_37 rfl (lv_at hl 0 rfl) ?_
    refine lv_iload_n (pc := 38) hx hb d_Walk_comeToBits_38 rfl (lv_at hl 1 rfl) ?_
    refine va_put (D := D) (ci := 3) (v := .int a0) (ty := .int) (C := R_Walk) (T := T_Walk) (N := 18) (pc := 39) hx hb hts (fun w h => List.mem_cons_of_mem _ (in_Walk w h)) ty_Walk ty_Walk_ok nm_Walk hown hK hP hD hS _ (fl_at 0 0 rfl rfl) rfl 16 (by decide) (hts _ (List.mem_cons_of_mem _ tw_228)) (fun _ h9 => h9) rfl (by decide +kernel) rfl rfl (Nat.le_of_ble_eq_true rfl) d_Walk_comeToBits_39 (fun H locs hP hD hS => ?_)
    obtain ⟨sWalk_4, esWalk_4, hf⟩ := o_lt_e hf
    have hP : va_P D vwCl (fl [wWalk K hWalk (hFld 0) (hTab 0) (hProg 0) (hLps 0) sWalk_4, wFld K hFld sFld]) H := by rw [esWalk_4]; exact fl_P 0 0 rfl (Nat.le_of_ble_eq_true rfl) rfl rfl hP
    have hD : va_D A (fl [wWalk K hWalk (hFld 0) (hTab 0) (hProg 0) (hLps 0) sWalk_4, wFld K hFld sFld]) := by rw [esWalk_4]; exact fl_D 0 0 rfl (Nat.le_of_ble_eq_true rfl) rfl rfl hD
    cases hf
    exact ret_v hx hb hr hlocks hK hP hS d_Walk_comeToBits_42
  · replace hf := o_f c6 hf
    refine lv_aload_n (pc := 8) hx hb d_Walk_comeToBits_8 rfl (lv_at hl 0 rfl) ?_
    refine lv_bipush (v := 7) (pc := 9) hx hb d_Walk_comeToBits_9 (by decide) ?_
    refine lv_aload_n (pc := 11) hx hb d_Walk_comeToBits_11 rfl (lv_at hl 0 rfl) ?_
    refine va_get (D := D) (ci := 3) (v := .ref (hFld 0)) (C := R_Walk) (T := T_Walk) (N := 18) (pc := 12) hx hb hts (fun w h => List.mem_cons_of_mem _ (in_Walk w h)) hown hK hP _ (fl_at 0 0 rfl rfl) rfl 0 (by decide) (hts _ (List.mem_cons_of_mem _ tw_205)) (fun _ h9 => h9) rfl d_Walk_comeToBits_12 ?_
    refine va_get (D := D) (ci := 4) (v := .int (Fld_count sFld)) (C := R_Fld) (T := T_Fld) (N := 8) (pc := 15) hx hb hts (fun w h => List.mem_cons_of_mem _ (in_Fld w h)) hown hK hP _ (fl_at 1 0 rfl rfl) rfl 7 (by decide) (hts _ (List.mem_cons_of_mem _ tw_162)) (fun _ h9 => h9) rfl d_Walk_comeToBits_15 ?_
    obtain ⟨q5, hq5, hf⟩ := o_bd_e hf
    refine fi_v (pc := 18) (va_runV (As := [.int 7, .int (Fld_count sFld)]) (rest := []) ⟨hx, hb, hml, hown, hts⟩ ((c_Walk_fail l D K hTab hProg hWalk hFld hLps sWalk 7 (Fld_count sFld) q5 hq5) _) (cwV 2 hts (gV tw_564 tw_565 tw_566 tw_4 tw_567) rfl rfl rfl (by decide +kernel) ⟨by decide, by decide⟩) ⟨mPre_blind, va_recv hK hP (ci := 3) rfl (fl_at 0 0 rfl rfl), (mPre_fl hK hF hA hP hD hS [0] rfl rfl)⟩ rfl rfl hl.1 rfl (lv_room (Nat.le_of_ble_eq_true rfl)) d_Walk_comeToBits_18 ⟨Nat.zero_le _, Nat.zero_le _⟩) hA hP hD hS [0] rfl rfl (fun H locs hP hD hS => ?_)
    have hP : va_P D vwCl (fl [wWalk K hWalk (hFld 0) (hTab 0) (hProg 0) (hLps 0) q5, wFld K hFld sFld]) H := hP
    have hD : va_D A (fl [wWalk K hWalk (hFld 0) (hTab 0) (hProg 0) (hLps 0) q5, wFld K hFld sFld]) := hD
    cases hf
    exact ret_v hx hb hr hlocks hK hP hS d_Walk_comeToBits_21
def Walk_comeToRepeat (a0 : Int32) (a1 : Int32) (sWalk : S_Walk) (sLps : S_Lps) : Option (S_Walk × S_Lps) := if a0 ≤ 0 then o_lt (Walk_set_countedEnd sWalk a1) fun sWalk_1 => (some ((sWalk_1, sLps))) else o_bd (Lps_enter (Walk_at sWalk) a1 a0 sLps) fun q2 => (some ((sWalk, q2)))
abbrev rm_Walk_comeToRepeat : Room := { frames := 1, cells := 0, slots := 0, locals := 23 }
set_option maxHeartbeats 4000000 in
set_option maxRecDepth 100000 in
theorem c_Walk_comeToRepeat (l : Launch) (D : va_G) (K : Nat → ClassId) (hTab : Nat → Nat) (hProg : Nat → Nat) (hWalk : Nat → Nat) (hFld : Nat → Nat) (hLps : Nat → Nat) (sWalk : S_Walk) (sLps : S_Lps) (a0 : Int32) (a1 : Int32) (sWalk' : S_Walk) (sLps' : S_Lps) (hf : Walk_comeToRepeat a0 a1 sWalk sLps = some ((sWalk', sLps'))) : mv l D K y_Walk_comeToRepeat ws_Walk_comeToRepeat rm_Walk_comeToRepeat [.ref (hWalk 0), .int a0, .int a1] (fl [wWalk K hWalk (hFld 0) (hTab 0) (hProg 0) (hLps 0) sWalk, wLps K hLps sLps]) (fl [wWalk K hWalk (hFld 0) (hTab 0) (hProg 0) (hLps 0) sWalk', wLps K hLps sLps']) := by
  refine mv_of (cc := b_Walk_comeToRepeat) (maxL := 3) (own := "ObsMessages$Walk") (by decide) rfl rfl (Nat.le_of_ble_eq_true rfl) ?_
  intro p e s m below meth c A ls hC hP hD hS hl
  obtain ⟨hx, hb, hml, hown, hts, hr, hlocks, hK, hF, hA⟩ := hC
  have hP : va_P D vwCl (fl [wWalk K hWalk (hFld 0) (hTab 0) (hProg 0) (hLps 0) sWalk, wLps K hLps sLps]) s.heap := hP
  have hl : lv_has ls 3 [(0, .ref (hWalk 0)), (1, .int a0), (2, .int a1)] := hl
  suffices hW : ∀ (H : Heap) (locs : List Loc), va_P D vwCl (fl [wWalk K hWalk (hFld 0) (hTab 0) (hProg 0) (hLps 0) sWalk, wLps K hLps sLps]) H → va_S A s.heap H locs → W p l e rm_Walk_comeToRepeat s m ([.ref (hWalk 0), .int a0, .int a1] : List Value).toArray below meth c H locs 0 0 (Qv below ([.ref (hWalk 0), .int a0, .int a1] : List Value).toArray s D K A (fl [wWalk K hWalk (hFld 0) (hTab 0) (hProg 0) (hLps 0) sWalk', wLps K hLps sLps'])) (F0 m 0 ls []) from hW s.heap [] hP hS
  clear hP hS
  intro H locs hP hS
  refine lv_iload_n (pc := 0) hx hb d_Walk_comeToRepeat_0 rfl (lv_at hl 1 rfl) ?_
  refine lv_if_le (tgt := 20) (pc := 1) hx hb d_Walk_comeToRepeat_1 (by decide) (fun c3 => ?_) (fun c3 => ?_)
  · replace hf := o_t c3 hf
    refine lv_aload_n (pc := 20) hx hb d_Walk_comeToRepeat_20 rfl (lv_at hl 0 rfl) ?_
    refine lv_iload_n (pc := 21) hx hb d_Walk_comeToRepeat_21 rfl (lv_at hl 2 rfl) ?_
    refine va_put (D := D) (ci := 3) (v := .int a1) (ty := .int) (C := R_Walk) (T := T_Walk) (N := 18) (pc := 22) hx hb hts (fun w h => List.mem_cons_of_mem _ (in_Walk w h)) ty_Walk ty_Walk_ok nm_Walk hown hK hP hD hS _ (fl_at 0 0 rfl rfl) rfl 17 (by decide) (hts _ (List.mem_cons_of_mem _ tw_229)) (fun _ h9 => h9) rfl (by decide +kernel) rfl rfl (Nat.le_of_ble_eq_true rfl) d_Walk_comeToRepeat_22 (fun H locs hP hD hS => ?_)
    obtain ⟨sWalk_1, esWalk_1, hf⟩ := o_lt_e hf
    have hP : va_P D vwCl (fl [wWalk K hWalk (hFld 0) (hTab 0) (hProg 0) (hLps 0) sWalk_1, wLps K hLps sLps]) H := by rw [esWalk_1]; exact fl_P 0 0 rfl (Nat.le_of_ble_eq_true rfl) rfl rfl hP
    have hD : va_D A (fl [wWalk K hWalk (hFld 0) (hTab 0) (hProg 0) (hLps 0) sWalk_1, wLps K hLps sLps]) := by rw [esWalk_1]; exact fl_D 0 0 rfl (Nat.le_of_ble_eq_true rfl) rfl rfl hD
    cases hf
    exact ret_v hx hb hr hlocks hK hP hS d_Walk_comeToRepeat_25
  · replace hf := o_f c3 hf
    refine lv_aload_n (pc := 4) hx hb d_Walk_comeToRepeat_4 rfl (lv_at hl 0 rfl) ?_
    refine va_get (D := D) (ci := 3) (v := .ref (hLps 0)) (C := R_Walk) (T := T_Walk) (N := 18) (pc := 5) hx hb hts (fun w h => List.mem_cons_of_mem _ (in_Walk w h)) hown hK hP _ (fl_at 0 0 rfl rfl) rfl 5 (by decide) (hts _ (List.mem_cons_of_mem _ tw_217)) (fun _ h9 => h9) rfl d_Walk_comeToRepeat_5 ?_
    refine lv_aload_n (pc := 8) hx hb d_Walk_comeToRepeat_8 rfl (lv_at hl 0 rfl) ?_
    refine va_get (D := D) (ci := 3) (v := .int (Walk_at sWalk)) (C := R_Walk) (T := T_Walk) (N := 18) (pc := 9) hx hb hts (fun w h => List.mem_cons_of_mem _ (in_Walk w h)) hown hK hP _ (fl_at 0 0 rfl rfl) rfl 12 (by decide) (hts _ (List.mem_cons_of_mem _ tw_224)) (fun _ h9 => h9) rfl d_Walk_comeToRepeat_9 ?_
    refine lv_iload_n (pc := 12) hx hb d_Walk_comeToRepeat_12 rfl (lv_at hl 2 rfl) ?_
    refine lv_iload_n (pc := 13) hx hb d_Walk_comeToRepeat_13 rfl (lv_at hl 1 rfl) ?_
    obtain ⟨q2, hq2, hf⟩ := o_bd_e hf
    refine fi_v (pc := 14) (va_runV (As := [.int (Walk_at sWalk), .int a1, .int a0]) (rest := []) ⟨hx, hb, hml, hown, hts⟩ ((c_Lps_enter l D K hLps sLps (Walk_at sWalk) a1 a0 q2 hq2) _) (cwV 3 hts (gV tw_607 tw_608 tw_609 tw_6 tw_610) rfl rfl rfl (by decide +kernel) ⟨by decide, by decide⟩) ⟨mPre_blind, va_recv hK hP (ci := 5) rfl (fl_at 1 0 rfl rfl), (mPre_fl hK hF hA hP hD hS [1] rfl rfl)⟩ rfl rfl hl.1 rfl (lv_room (Nat.le_of_ble_eq_true rfl)) d_Walk_comeToRepeat_14 ⟨Nat.zero_le _, Nat.zero_le _⟩) hA hP hD hS [1] rfl rfl (fun H locs hP hD hS => ?_)
    have hP : va_P D vwCl (fl [wWalk K hWalk (hFld 0) (hTab 0) (hProg 0) (hLps 0) sWalk, wLps K hLps q2]) H := hP
    have hD : va_D A (fl [wWalk K hWalk (hFld 0) (hTab 0) (hProg 0) (hLps 0) sWalk, wLps K hLps q2]) := hD
    refine lv_goto (tgt := 25) (pc := 17) hx hb d_Walk_comeToRepeat_17 (by decide) ?_
    cases hf
    exact ret_v hx hb hr hlocks hK hP hS d_Walk_comeToRepeat_25
def Walk_comeToElement (a0 : Int32) (sWalk : S_Walk) : Option (S_Walk) := o_lt (Walk_set_dueCode sWalk a0) fun sWalk_1 => (if (Walk_countedEnd sWalk_1) = ((-1)) then o_gd (o_in 2 4) (if (Walk_settings sWalk_1 (2 : Int32).toNatClampNeg) ≤ 0 then o_lt (Walk_set_dueKind sWalk_1 0) fun sWalk_3 => (some sWalk_3) else o_lt (Walk_set_dueKind sWalk_1 1) fun sWalk_4 => (some sWalk_4)) else o_lt (Walk_set_dueKind sWalk_1 2) fun sWalk_6 => (some sWalk_6))
abbrev rm_Walk_comeToElement : Room := { frames := 0, cells := 0, slots := 0, locals := 0 }
set_option maxHeartbeats 4000000 in
set_option maxRecDepth 100000 in
theorem c_Walk_comeToElement (l : Launch) (D : va_G) (K : Nat → ClassId) (hTab : Nat → Nat) (hProg : Nat → Nat) (hWalk : Nat → Nat) (hFld : Nat → Nat) (hLps : Nat → Nat) (sWalk : S_Walk) (a0 : Int32) (sWalk' : S_Walk) (hf : Walk_comeToElement a0 sWalk = some sWalk') : mv l D K y_Walk_comeToElement ws_Walk_comeToElement rm_Walk_comeToElement [.ref (hWalk 0), .int a0] (fl [wWalk K hWalk (hFld 0) (hTab 0) (hProg 0) (hLps 0) sWalk]) (fl [wWalk K hWalk (hFld 0) (hTab 0) (hProg 0) (hLps 0) sWalk']) := by
  refine mv_of (cc := b_Walk_comeToElement) (maxL := 2) (own := "ObsMessages$Walk") (by decide) rfl rfl (Nat.le_of_ble_eq_true rfl) ?_
  intro p e s m below meth c A ls hC hP hD hS hl
  obtain ⟨hx, hb, hml, hown, hts, hr, hlocks, hK, hF, hA⟩ := hC
  have hP : va_P D vwCl (fl [wWalk K hWalk (hFld 0) (hTab 0) (hProg 0) (hLps 0) sWalk]) s.heap := hP
  have hl : lv_has ls 2 [(0, .ref (hWalk 0)), (1, .int a0)] := hl
  suffices hW : ∀ (H : Heap) (locs : List Loc), va_P D vwCl (fl [wWalk K hWalk (hFld 0) (hTab 0) (hProg 0) (hLps 0) sWalk]) H → va_S A s.heap H locs → W p l e rm_Walk_comeToElement s m ([.ref (hWalk 0), .int a0] : List Value).toArray below meth c H locs 0 0 (Qv below ([.ref (hWalk 0), .int a0] : List Value).toArray s D K A (fl [wWalk K hWalk (hFld 0) (hTab 0) (hProg 0) (hLps 0) sWalk'])) (F0 m 0 ls []) from hW s.heap [] hP hS
  clear hP hS
  intro H locs hP hS
  refine lv_aload_n (pc := 0) hx hb d_Walk_comeToElement_0 rfl (lv_at hl 0 rfl) ?_
  refine lv_iload_n (pc := 1) hx hb d_Walk_comeToElement_1 rfl (lv_at hl 1 rfl) ?_
  refine va_put (D := D) (ci := 3) (v := .int a0) (ty := .int) (C := R_Walk) (T := T_Walk) (N := 18) (pc := 2) hx hb hts (fun w h => List.mem_cons_of_mem _ (in_Walk w h)) ty_Walk ty_Walk_ok nm_Walk hown hK hP hD hS _ (fl_at 0 0 rfl rfl) rfl 15 (by decide) (hts _ (List.mem_cons_of_mem _ tw_227)) (fun _ h9 => h9) rfl (by decide +kernel) rfl rfl (Nat.le_of_ble_eq_true rfl) d_Walk_comeToElement_2 (fun H locs hP hD hS => ?_)
  obtain ⟨sWalk_1, esWalk_1, hf⟩ := o_lt_e hf
  have hP : va_P D vwCl (fl [wWalk K hWalk (hFld 0) (hTab 0) (hProg 0) (hLps 0) sWalk_1]) H := by rw [esWalk_1]; exact fl_P 0 0 rfl (Nat.le_of_ble_eq_true rfl) rfl rfl hP
  have hD : va_D A (fl [wWalk K hWalk (hFld 0) (hTab 0) (hProg 0) (hLps 0) sWalk_1]) := by rw [esWalk_1]; exact fl_D 0 0 rfl (Nat.le_of_ble_eq_true rfl) rfl rfl hD
  refine lv_aload_n (pc := 5) hx hb d_Walk_comeToElement_5 rfl (lv_at hl 0 rfl) ?_
  refine va_get (D := D) (ci := 3) (v := .int (Walk_countedEnd sWalk_1)) (C := R_Walk) (T := T_Walk) (N := 18) (pc := 6) hx hb hts (fun w h => List.mem_cons_of_mem _ (in_Walk w h)) hown hK hP _ (fl_at 0 0 rfl rfl) rfl 17 (by decide) (hts _ (List.mem_cons_of_mem _ tw_229)) (fun _ h9 => h9) rfl d_Walk_comeToElement_6 ?_
  refine lv_iconst (v := (-1)) (pc := 9) hx hb d_Walk_comeToElement_9 (by decide) ?_
  refine lv_icmp_eq (tgt := 21) (pc := 10) hx hb d_Walk_comeToElement_10 (by decide) (fun c7 => ?_) (fun c7 => ?_)
  · replace hf := o_t c7 hf
    refine lv_aload_n (pc := 21) hx hb d_Walk_comeToElement_21 rfl (lv_at hl 0 rfl) ?_
    refine lv_aload_n (pc := 22) hx hb d_Walk_comeToElement_22 rfl (lv_at hl 0 rfl) ?_
    refine va_get (D := D) (ci := 3) (v := .ref (hWalk 1)) (C := R_Walk) (T := T_Walk) (N := 18) (pc := 23) hx hb hts (fun w h => List.mem_cons_of_mem _ (in_Walk w h)) hown hK hP _ (fl_at 0 0 rfl rfl) rfl 6 (by decide) (hts _ (List.mem_cons_of_mem _ tw_218)) (fun _ h9 => h9) rfl d_Walk_comeToElement_23 ?_
    refine lv_iconst (v := 2) (pc := 26) hx hb d_Walk_comeToElement_26 (by decide) ?_
    obtain ⟨hi2, hf⟩ := o_gi_e hf
    refine va_iald (D := D) (pc := 27) hx hb hK hP _ 0 (fl_at 0 1 rfl rfl) rfl hi2 d_Walk_comeToElement_27 ?_
    refine lv_if_le (tgt := 35) (pc := 28) hx hb d_Walk_comeToElement_28 (by decide) (fun c5 => ?_) (fun c5 => ?_)
    · replace hf := o_t c5 hf
      refine lv_iconst (v := 0) (pc := 35) hx hb d_Walk_comeToElement_35 (by decide) ?_
      refine va_put (D := D) (ci := 3) (v := .int 0) (ty := .int) (C := R_Walk) (T := T_Walk) (N := 18) (pc := 36) hx hb hts (fun w h => List.mem_cons_of_mem _ (in_Walk w h)) ty_Walk ty_Walk_ok nm_Walk hown hK hP hD hS _ (fl_at 0 0 rfl rfl) rfl 14 (by decide) (hts _ (List.mem_cons_of_mem _ tw_226)) (fun _ h9 => h9) rfl (by decide +kernel) rfl rfl (Nat.le_of_ble_eq_true rfl) d_Walk_comeToElement_36 (fun H locs hP hD hS => ?_)
      obtain ⟨sWalk_3, esWalk_3, hf⟩ := o_lt_e hf
      have hP : va_P D vwCl (fl [wWalk K hWalk (hFld 0) (hTab 0) (hProg 0) (hLps 0) sWalk_3]) H := by rw [esWalk_3]; exact fl_P 0 0 rfl (Nat.le_of_ble_eq_true rfl) rfl rfl hP
      have hD : va_D A (fl [wWalk K hWalk (hFld 0) (hTab 0) (hProg 0) (hLps 0) sWalk_3]) := by rw [esWalk_3]; exact fl_D 0 0 rfl (Nat.le_of_ble_eq_true rfl) rfl rfl hD
      cases hf
      exact ret_v hx hb hr hlocks hK hP hS d_Walk_comeToElement_39
    · replace hf := o_f c5 hf
      refine lv_iconst (v := 1) (pc := 31) hx hb d_Walk_comeToElement_31 (by decide) ?_
      refine lv_goto (tgt := 36) (pc := 32) hx hb d_Walk_comeToElement_32 (by decide) ?_
      refine va_put (D := D) (ci := 3) (v := .int 1) (ty := .int) (C := R_Walk) (T := T_Walk) (N := 18) (pc := 36) hx hb hts (fun w h => List.mem_cons_of_mem _ (in_Walk w h)) ty_Walk ty_Walk_ok nm_Walk hown hK hP hD hS _ (fl_at 0 0 rfl rfl) rfl 14 (by decide) (hts _ (List.mem_cons_of_mem _ tw_226)) (fun _ h9 => h9) rfl (by decide +kernel) rfl rfl (Nat.le_of_ble_eq_true rfl) d_Walk_comeToElement_36 (fun H locs hP hD hS => ?_)
      obtain ⟨sWalk_4, esWalk_4, hf⟩ := o_lt_e hf
      have hP : va_P D vwCl (fl [wWalk K hWalk (hFld 0) (hTab 0) (hProg 0) (hLps 0) sWalk_4]) H := by rw [esWalk_4]; exact fl_P 0 0 rfl (Nat.le_of_ble_eq_true rfl) rfl rfl hP
      have hD : va_D A (fl [wWalk K hWalk (hFld 0) (hTab 0) (hProg 0) (hLps 0) sWalk_4]) := by rw [esWalk_4]; exact fl_D 0 0 rfl (Nat.le_of_ble_eq_true rfl) rfl rfl hD
      cases hf
      exact ret_v hx hb hr hlocks hK hP hS d_Walk_comeToElement_39
  · replace hf := o_f c7 hf
    refine lv_aload_n (pc := 13) hx hb d_Walk_comeToElement_13 rfl (lv_at hl 0 rfl) ?_
    refine lv_iconst (v := 2) (pc := 14) hx hb d_Walk_comeToElement_14 (by decide) ?_
    refine va_put (D := D) (ci := 3) (v := .int 2) (ty := .int) (C := R_Walk) (T := T_Walk) (N := 18) (pc := 15) hx hb hts (fun w h => List.mem_cons_of_mem _ (in_Walk w h)) ty_Walk ty_Walk_ok nm_Walk hown hK hP hD hS _ (fl_at 0 0 rfl rfl) rfl 14 (by decide) (hts _ (List.mem_cons_of_mem _ tw_226)) (fun _ h9 => h9) rfl (by decide +kernel) rfl rfl (Nat.le_of_ble_eq_true rfl) d_Walk_comeToElement_15 (fun H locs hP hD hS => ?_)
    obtain ⟨sWalk_6, esWalk_6, hf⟩ := o_lt_e hf
    have hP : va_P D vwCl (fl [wWalk K hWalk (hFld 0) (hTab 0) (hProg 0) (hLps 0) sWalk_6]) H := by rw [esWalk_6]; exact fl_P 0 0 rfl (Nat.le_of_ble_eq_true rfl) rfl rfl hP
    have hD : va_D A (fl [wWalk K hWalk (hFld 0) (hTab 0) (hProg 0) (hLps 0) sWalk_6]) := by rw [esWalk_6]; exact fl_D 0 0 rfl (Nat.le_of_ble_eq_true rfl) rfl rfl hD
    refine lv_goto (tgt := 39) (pc := 18) hx hb d_Walk_comeToElement_18 (by decide) ?_
    cases hf
    exact ret_v hx hb hr hlocks hK hP hS d_Walk_comeToElement_39
def Walk_comeToNext (fu : Nat) (sProg : S_Prog) (sFld : S_Fld) (sWalk : S_Walk) (sLps : S_Lps) : Option (S_Walk × S_Lps) := o_lt (Walk_set_come sWalk ((Walk_come sWalk) + 1)) fun sWalk_1 => (if (Walk_come sWalk_1) ≤ 2000 then o_gd (o_in (Walk_at sWalk_1) 1000) (o_lt (Prog_descriptors sProg (Walk_at sWalk_1 : Int32).toNatClampNeg) fun u3 => (o_lt (Walk_set_at sWalk_1 ((Walk_at sWalk_1) + 1)) fun sWalk_4 => (o_bd (Desc_operatorOf fu u3) fun q5 => (o_bd (Desc_isElement u3) fun q6 => (if q6 = 0 then o_bd (Desc_isRepeat u3) fun q7 => (if q7 = 0 then if q5 = ((-1)) then o_bd (Desc_bitsOf u3) fun q8 => (if q8 = ((-1)) then o_bd (Desc_isMark u3) fun q9 => (if q9 = 0 then some ((sWalk_4, sLps)) else o_lt (Walk_set_dueKind sWalk_4 4) fun sWalk_10 => (some ((sWalk_10, sLps)))) else o_bd (Desc_bitsOf u3) fun q12 => (o_bd (Walk_comeToBits sFld q12 sWalk_4) fun q13 => (some ((q13, sLps))))) else o_bd (Desc_settingOf u3 q5) fun q15 => (o_gd (o_in q5 4) (o_lt (Walk_put_settings sWalk_4 (q5 : Int32).toNatClampNeg q15) fun sWalk_17 => (some ((sWalk_17, sLps))))) else o_bd (Desc_timesOf u3) fun q19 => (o_gd (o_in ((Walk_at sWalk_4) - 1) 1000) (o_bd (Walk_comeToRepeat q19 (Prog_bodyEnds sProg ((Walk_at sWalk_4) - 1 : Int32).toNatClampNeg) sWalk_4 sLps) fun q21 => (some ((q21.1, q21.2)))))) else o_bd (Walk_comeToElement u3 sWalk_4) fun q23 => (some ((q23, sLps)))))))) else o_bd (Walk_fail 8 (Fld_count sFld) sWalk_1) fun q25 => (some ((q25, sLps))))
abbrev rm_Walk_comeToNext : Room := { frames := 2, cells := 0, slots := 0, locals := 45 }
set_option maxHeartbeats 4000000 in
set_option maxRecDepth 100000 in
theorem c_Walk_comeToNext (l : Launch) (D : va_G) (K : Nat → ClassId) (fu : Nat) (hTab : Nat → Nat) (hProg : Nat → Nat) (hWalk : Nat → Nat) (hFld : Nat → Nat) (hLps : Nat → Nat) (sProg : S_Prog) (sWalk : S_Walk) (sFld : S_Fld) (sLps : S_Lps) (sWalk' : S_Walk) (sLps' : S_Lps) (hf : Walk_comeToNext fu sProg sFld sWalk sLps = some ((sWalk', sLps'))) : mv l D K y_Walk_comeToNext ws_Walk_comeToNext rm_Walk_comeToNext [.ref (hWalk 0)] (fl [wProg K hProg (hTab 0) sProg, wWalk K hWalk (hFld 0) (hTab 0) (hProg 0) (hLps 0) sWalk, wFld K hFld sFld, wLps K hLps sLps]) (fl [wProg K hProg (hTab 0) sProg, wWalk K hWalk (hFld 0) (hTab 0) (hProg 0) (hLps 0) sWalk', wFld K hFld sFld, wLps K hLps sLps']) := by
  refine mv_of (cc := b_Walk_comeToNext) (maxL := 3) (own := "ObsMessages$Walk") (by decide) rfl rfl (Nat.le_of_ble_eq_true rfl) ?_
  intro p e s m below meth c A ls hC hP hD hS hl
  obtain ⟨hx, hb, hml, hown, hts, hr, hlocks, hK, hF, hA⟩ := hC
  have hP : va_P D vwCl (fl [wProg K hProg (hTab 0) sProg, wWalk K hWalk (hFld 0) (hTab 0) (hProg 0) (hLps 0) sWalk, wFld K hFld sFld, wLps K hLps sLps]) s.heap := hP
  have hl : lv_has ls 3 [(0, .ref (hWalk 0))] := hl
  suffices hW : ∀ (H : Heap) (locs : List Loc), va_P D vwCl (fl [wProg K hProg (hTab 0) sProg, wWalk K hWalk (hFld 0) (hTab 0) (hProg 0) (hLps 0) sWalk, wFld K hFld sFld, wLps K hLps sLps]) H → va_S A s.heap H locs → W p l e rm_Walk_comeToNext s m ([.ref (hWalk 0)] : List Value).toArray below meth c H locs 0 0 (Qv below ([.ref (hWalk 0)] : List Value).toArray s D K A (fl [wProg K hProg (hTab 0) sProg, wWalk K hWalk (hFld 0) (hTab 0) (hProg 0) (hLps 0) sWalk', wFld K hFld sFld, wLps K hLps sLps'])) (F0 m 0 ls []) from hW s.heap [] hP hS
  clear hP hS
  intro H locs hP hS
  refine lv_aload_n (pc := 0) hx hb d_Walk_comeToNext_0 rfl (lv_at hl 0 rfl) ?_
  refine lv_dup (pc := 1) hx hb d_Walk_comeToNext_1 rfl ?_
  refine va_get (D := D) (ci := 3) (v := .int (Walk_come sWalk)) (C := R_Walk) (T := T_Walk) (N := 18) (pc := 2) hx hb hts (fun w h => List.mem_cons_of_mem _ (in_Walk w h)) hown hK hP _ (fl_at 1 0 rfl rfl) rfl 13 (by decide) (hts _ (List.mem_cons_of_mem _ tw_225)) (fun _ h9 => h9) rfl d_Walk_comeToNext_2 ?_
  refine lv_iconst (v := 1) (pc := 5) hx hb d_Walk_comeToNext_5 (by decide) ?_
  refine lv_iadd (pc := 6) hx hb d_Walk_comeToNext_6 ?_
  refine va_put (D := D) (ci := 3) (v := .int ((Walk_come sWalk) + 1)) (ty := .int) (C := R_Walk) (T := T_Walk) (N := 18) (pc := 7) hx hb hts (fun w h => List.mem_cons_of_mem _ (in_Walk w h)) ty_Walk ty_Walk_ok nm_Walk hown hK hP hD hS _ (fl_at 1 0 rfl rfl) rfl 13 (by decide) (hts _ (List.mem_cons_of_mem _ tw_225)) (fun _ h9 => h9) rfl (by decide +kernel) rfl rfl (Nat.le_of_ble_eq_true rfl) d_Walk_comeToNext_7 (fun H locs hP hD hS => ?_)
  obtain ⟨sWalk_1, esWalk_1, hf⟩ := o_lt_e hf
  have hP : va_P D vwCl (fl [wProg K hProg (hTab 0) sProg, wWalk K hWalk (hFld 0) (hTab 0) (hProg 0) (hLps 0) sWalk_1, wFld K hFld sFld, wLps K hLps sLps]) H := by rw [esWalk_1]; exact fl_P 1 0 rfl (Nat.le_of_ble_eq_true rfl) rfl rfl hP
  have hD : va_D A (fl [wProg K hProg (hTab 0) sProg, wWalk K hWalk (hFld 0) (hTab 0) (hProg 0) (hLps 0) sWalk_1, wFld K hFld sFld, wLps K hLps sLps]) := by rw [esWalk_1]; exact fl_D 1 0 rfl (Nat.le_of_ble_eq_true rfl) rfl rfl hD
  refine lv_aload_n (pc := 10) hx hb d_Walk_comeToNext_10 rfl (lv_at hl 0 rfl) ?_
  refine va_get (D := D) (ci := 3) (v := .int (Walk_come sWalk_1)) (C := R_Walk) (T := T_Walk) (N := 18) (pc := 11) hx hb hts (fun w h => List.mem_cons_of_mem _ (in_Walk w h)) hown hK hP _ (fl_at 1 0 rfl rfl) rfl 13 (by decide) (hts _ (List.mem_cons_of_mem _ tw_225)) (fun _ h9 => h9) rfl d_Walk_comeToNext_11 ?_
  refine lv_sipush (v := 2000) (pc := 14) hx hb d_Walk_comeToNext_14 (by decide) ?_
  refine lv_icmp_le (tgt := 34) (pc := 17) hx hb d_Walk_comeToNext_17 (by decide) (fun c26 => ?_) (fun c26 => ?_)
  · replace hf := o_t c26 hf
    refine lv_aload_n (pc := 34) hx hb d_Walk_comeToNext_34 rfl (lv_at hl 0 rfl) ?_
    refine va_get (D := D) (ci := 3) (v := .ref (hProg 0)) (C := R_Walk) (T := T_Walk) (N := 18) (pc := 35) hx hb hts (fun w h => List.mem_cons_of_mem _ (in_Walk w h)) hown hK hP _ (fl_at 1 0 rfl rfl) rfl 4 (by decide) (hts _ (List.mem_cons_of_mem _ tw_216)) (fun _ h9 => h9) rfl d_Walk_comeToNext_35 ?_
    refine va_get (D := D) (ci := 2) (v := .ref (hProg 1)) (C := R_Prog) (T := T_Prog) (N := 14) (pc := 38) hx hb hts (fun w h => List.mem_cons_of_mem _ (in_Prog w h)) hown hK hP _ (fl_at 0 0 rfl rfl) rfl 0 (by decide) (hts _ (List.mem_cons_of_mem _ tw_75)) (fun _ h9 => h9) rfl d_Walk_comeToNext_38 ?_
    refine lv_aload_n (pc := 41) hx hb d_Walk_comeToNext_41 rfl (lv_at hl 0 rfl) ?_
    refine va_get (D := D) (ci := 3) (v := .int (Walk_at sWalk_1)) (C := R_Walk) (T := T_Walk) (N := 18) (pc := 42) hx hb hts (fun w h => List.mem_cons_of_mem _ (in_Walk w h)) hown hK hP _ (fl_at 1 0 rfl rfl) rfl 12 (by decide) (hts _ (List.mem_cons_of_mem _ tw_224)) (fun _ h9 => h9) rfl d_Walk_comeToNext_42 ?_
    obtain ⟨hi2, hf⟩ := o_gi_e hf
    refine va_iald (D := D) (pc := 45) hx hb hK hP _ 0 (fl_at 0 1 rfl rfl) rfl hi2 d_Walk_comeToNext_45 ?_
    refine lv_topi (fun u3 eu3 => ?_)
    replace hf := o_lt_a eu3 hf
    refine lv_istore_n (lv' := [(1, .int u3), (0, .ref (hWalk 0))]) (pc := 46) hx hb d_Walk_comeToNext_46 rfl hl (by decide) rfl (fun ls hl => ?_)
    refine lv_aload_n (pc := 47) hx hb d_Walk_comeToNext_47 rfl (lv_at hl 1 rfl) ?_
    refine lv_dup (pc := 48) hx hb d_Walk_comeToNext_48 rfl ?_
    refine va_get (D := D) (ci := 3) (v := .int (Walk_at sWalk_1)) (C := R_Walk) (T := T_Walk) (N := 18) (pc := 49) hx hb hts (fun w h => List.mem_cons_of_mem _ (in_Walk w h)) hown hK hP _ (fl_at 1 0 rfl rfl) rfl 12 (by decide) (hts _ (List.mem_cons_of_mem _ tw_224)) (fun _ h9 => h9) rfl d_Walk_comeToNext_49 ?_
    refine lv_iconst (v := 1) (pc := 52) hx hb d_Walk_comeToNext_52 (by decide) ?_
    refine lv_iadd (pc := 53) hx hb d_Walk_comeToNext_53 ?_
    refine va_put (D := D) (ci := 3) (v := .int ((Walk_at sWalk_1) + 1)) (ty := .int) (C := R_Walk) (T := T_Walk) (N := 18) (pc := 54) hx hb hts (fun w h => List.mem_cons_of_mem _ (in_Walk w h)) ty_Walk ty_Walk_ok nm_Walk hown hK hP hD hS _ (fl_at 1 0 rfl rfl) rfl 12 (by decide) (hts _ (List.mem_cons_of_mem _ tw_224)) (fun _ h9 => h9) rfl (by decide +kernel) rfl rfl (Nat.le_of_ble_eq_true rfl) d_Walk_comeToNext_54 (fun H locs hP hD hS => ?_)
    obtain ⟨sWalk_4, esWalk_4, hf⟩ := o_lt_e hf
    have hP : va_P D vwCl (fl [wProg K hProg (hTab 0) sProg, wWalk K hWalk (hFld 0) (hTab 0) (hProg 0) (hLps 0) sWalk_4, wFld K hFld sFld, wLps K hLps sLps]) H := by rw [esWalk_4]; exact fl_P 1 0 rfl (Nat.le_of_ble_eq_true rfl) rfl rfl hP
    have hD : va_D A (fl [wProg K hProg (hTab 0) sProg, wWalk K hWalk (hFld 0) (hTab 0) (hProg 0) (hLps 0) sWalk_4, wFld K hFld sFld, wLps K hLps sLps]) := by rw [esWalk_4]; exact fl_D 1 0 rfl (Nat.le_of_ble_eq_true rfl) rfl rfl hD
    refine lv_iload_n (pc := 57) hx hb d_Walk_comeToNext_57 rfl (lv_at hl 0 rfl) ?_
    obtain ⟨q5, hq5, hf⟩ := o_bd_e hf
    refine fi_i (pc := 58) (va_runS (As := [.int u3]) (rest := []) ⟨hx, hb, hml, hown, hts⟩ ((c_Desc_operatorOf l D K fu u3 q5 hq5) _) (va_cwS 1 hts (gT tw_595 tw_476 tw_13 tw_477) rfl rfl rfl (by decide +kernel) ⟨by decide, by decide⟩) ⟨mPre_blind, (mPre_fl hK hF hA hP hD hS [] rfl rfl)⟩ rfl rfl hl.1 rfl (lv_room (Nat.le_of_ble_eq_true rfl)) d_Walk_comeToNext_58 ⟨Nat.zero_le _, Nat.zero_le _⟩) hA hP hD hS [] rfl rfl (fun H locs hP hD hS => ?_)
    have hP : va_P D vwCl (fl [wProg K hProg (hTab 0) sProg, wWalk K hWalk (hFld 0) (hTab 0) (hProg 0) (hLps 0) sWalk_4, wFld K hFld sFld, wLps K hLps sLps]) H := hP
    have hD : va_D A (fl [wProg K hProg (hTab 0) sProg, wWalk K hWalk (hFld 0) (hTab 0) (hProg 0) (hLps 0) sWalk_4, wFld K hFld sFld, wLps K hLps sLps]) := hD
    refine lv_istore_n (lv' := [(2, .int q5), (1, .int u3), (0, .ref (hWalk 0))]) (pc := 61) hx hb d_Walk_comeToNext_61 rfl hl (by decide) rfl (fun ls hl => ?_)
    refine lv_iload_n (pc := 62) hx hb d_Walk_comeToNext_62 rfl (lv_at hl 1 rfl) ?_
    obtain ⟨q6, hq6, hf⟩ := o_bd_e hf
    refine fi_i (pc := 63) (va_runS (As := [.int u3]) (rest := []) ⟨hx, hb, hml, hown, hts⟩ ((c_Desc_isElement l D K u3 q6 hq6) _) (va_cwS 1 hts (gT tw_596 tw_422 tw_13 tw_423) rfl rfl rfl (by decide +kernel) ⟨by decide, by decide⟩) ⟨mPre_blind, (mPre_fl hK hF hA hP hD hS [] rfl rfl)⟩ rfl rfl hl.1 rfl (lv_room (Nat.le_of_ble_eq_true rfl)) d_Walk_comeToNext_63 ⟨Nat.zero_le _, Nat.zero_le _⟩) hA hP hD hS [] rfl rfl (fun H locs hP hD hS => ?_)
    have hP : va_P D vwCl (fl [wProg K hProg (hTab 0) sProg, wWalk K hWalk (hFld 0) (hTab 0) (hProg 0) (hLps 0) sWalk_4, wFld K hFld sFld, wLps K hLps sLps]) H := hP
    have hD : va_D A (fl [wProg K hProg (hTab 0) sProg, wWalk K hWalk (hFld 0) (hTab 0) (hProg 0) (hLps 0) sWalk_4, wFld K hFld sFld, wLps K hLps sLps]) := hD
    refine lv_if_eq (tgt := 77) (pc := 66) hx hb d_Walk_comeToNext_66 (by decide) (fun c24 => ?_) (fun c24 => ?_)
    · replace hf := o_t c24 hf
      refine lv_iload_n (pc := 77) hx hb d_Walk_comeToNext_77 rfl (lv_at hl 1 rfl) ?_
      obtain ⟨q7, hq7, hf⟩ := o_bd_e hf
      refine fi_i (pc := 78) (va_runS (As := [.int u3]) (rest := []) ⟨hx, hb, hml, hown, hts⟩ ((c_Desc_isRepeat l D K u3 q7 hq7) _) (va_cwS 1 hts (gT tw_601 tw_516 tw_13 tw_517) rfl rfl rfl (by decide +kernel) ⟨by decide, by decide⟩) ⟨mPre_blind, (mPre_fl hK hF hA hP hD hS [] rfl rfl)⟩ rfl rfl hl.1 rfl (lv_room (Nat.le_of_ble_eq_true rfl)) d_Walk_comeToNext_78 ⟨Nat.zero_le _, Nat.zero_le _⟩) hA hP hD hS [] rfl rfl (fun H locs hP hD hS => ?_)
      have hP : va_P D vwCl (fl [wProg K hProg (hTab 0) sProg, wWalk K hWalk (hFld 0) (hTab 0) (hProg 0) (hLps 0) sWalk_4, wFld K hFld sFld, wLps K hLps sLps]) H := hP
      have hD : va_D A (fl [wProg K hProg (hTab 0) sProg, wWalk K hWalk (hFld 0) (hTab 0) (hProg 0) (hLps 0) sWalk_4, wFld K hFld sFld, wLps K hLps sLps]) := hD
      refine lv_if_eq (tgt := 109) (pc := 81) hx hb d_Walk_comeToNext_81 (by decide) (fun c22 => ?_) (fun c22 => ?_)
      · replace hf := o_t c22 hf
        refine lv_iload_n (pc := 109) hx hb d_Walk_comeToNext_109 rfl (lv_at hl 0 rfl) ?_
        refine lv_iconst (v := (-1)) (pc := 110) hx hb d_Walk_comeToNext_110 (by decide) ?_
        refine lv_icmp_eq (tgt := 128) (pc := 111) hx hb d_Walk_comeToNext_111 (by decide) (fun c18 => ?_) (fun c18 => ?_)
        · replace hf := o_t c18 hf
          refine lv_iload_n (pc := 128) hx hb d_Walk_comeToNext_128 rfl (lv_at hl 1 rfl) ?_
          obtain ⟨q8, hq8, hf⟩ := o_bd_e hf
          refine fi_i (pc := 129) (va_runS (As := [.int u3]) (rest := []) ⟨hx, hb, hml, hown, hts⟩ ((c_Desc_bitsOf l D K u3 q8 hq8) _) (va_cwS 1 hts (gT tw_612 tw_613 tw_13 tw_614) rfl rfl rfl (by decide +kernel) ⟨by decide, by decide⟩) ⟨mPre_blind, (mPre_fl hK hF hA hP hD hS [] rfl rfl)⟩ rfl rfl hl.1 rfl (lv_room (Nat.le_of_ble_eq_true rfl)) d_Walk_comeToNext_129 ⟨Nat.zero_le _, Nat.zero_le _⟩) hA hP hD hS [] rfl rfl (fun H locs hP hD hS => ?_)
          have hP : va_P D vwCl (fl [wProg K hProg (hTab 0) sProg, wWalk K hWalk (hFld 0) (hTab 0) (hProg 0) (hLps 0) sWalk_4, wFld K hFld sFld, wLps K hLps sLps]) H := hP
          have hD : va_D A (fl [wProg K hProg (hTab 0) sProg, wWalk K hWalk (hFld 0) (hTab 0) (hProg 0) (hLps 0) sWalk_4, wFld K hFld sFld, wLps K hLps sLps]) := hD
          refine lv_iconst (v := (-1)) (pc := 132) hx hb d_Walk_comeToNext_132 (by decide) ?_
          refine lv_icmp_eq (tgt := 147) (pc := 133) hx hb d_Walk_comeToNext_133 (by decide) (fun c14 => ?_) (fun c14 => ?_)
          · replace hf := o_t c14 hf
            refine lv_iload_n (pc := 147) hx hb d_Walk_comeToNext_147 rfl (lv_at hl 1 rfl) ?_
            obtain ⟨q9, hq9, hf⟩ := o_bd_e hf
            refine fi_i (pc := 148) (va_runS (As := [.int u3]) (rest := []) ⟨hx, hb, hml, hown, hts⟩ ((c_Desc_isMark l D K u3 q9 hq9) _) (va_cwS 1 hts (gT tw_619 tw_620 tw_13 tw_621) rfl rfl rfl (by decide +kernel) ⟨by decide, by decide⟩) ⟨mPre_blind, (mPre_fl hK hF hA hP hD hS [] rfl rfl)⟩ rfl rfl hl.1 rfl (lv_room (Nat.le_of_ble_eq_true rfl)) d_Walk_comeToNext_148 ⟨Nat.zero_le _, Nat.zero_le _⟩) hA hP hD hS [] rfl rfl (fun H locs hP hD hS => ?_)
            have hP : va_P D vwCl (fl [wProg K hProg (hTab 0) sProg, wWalk K hWalk (hFld 0) (hTab 0) (hProg 0) (hLps 0) sWalk_4, wFld K hFld sFld, wLps K hLps sLps]) H := hP
            have hD : va_D A (fl [wProg K hProg (hTab 0) sProg, wWalk K hWalk (hFld 0) (hTab 0) (hProg 0) (hLps 0) sWalk_4, wFld K hFld sFld, wLps K hLps sLps]) := hD
            refine lv_if_eq (tgt := 159) (pc := 151) hx hb d_Walk_comeToNext_151 (by decide) (fun c11 => ?_) (fun c11 => ?_)
            · replace hf := o_t c11 hf
              cases hf
              exact ret_v hx hb hr hlocks hK hP hS d_Walk_comeToNext_159
            · replace hf := o_f c11 hf
              refine lv_aload_n (pc := 154) hx hb d_Walk_comeToNext_154 rfl (lv_at hl 2 rfl) ?_
              refine lv_iconst (v := 4) (pc := 155) hx hb d_Walk_comeToNext_155 (by decide) ?_
              refine va_put (D := D) (ci := 3) (v := .int 4) (ty := .int) (C := R_Walk) (T := T_Walk) (N := 18) (pc := 156) hx hb hts (fun w h => List.mem_cons_of_mem _ (in_Walk w h)) ty_Walk ty_Walk_ok nm_Walk hown hK hP hD hS _ (fl_at 1 0 rfl rfl) rfl 14 (by decide) (hts _ (List.mem_cons_of_mem _ tw_226)) (fun _ h9 => h9) rfl (by decide +kernel) rfl rfl (Nat.le_of_ble_eq_true rfl) d_Walk_comeToNext_156 (fun H locs hP hD hS => ?_)
              obtain ⟨sWalk_10, esWalk_10, hf⟩ := o_lt_e hf
              have hP : va_P D vwCl (fl [wProg K hProg (hTab 0) sProg, wWalk K hWalk (hFld 0) (hTab 0) (hProg 0) (hLps 0) sWalk_10, wFld K hFld sFld, wLps K hLps sLps]) H := by rw [esWalk_10]; exact fl_P 1 0 rfl (Nat.le_of_ble_eq_true rfl) rfl rfl hP
              have hD : va_D A (fl [wProg K hProg (hTab 0) sProg, wWalk K hWalk (hFld 0) (hTab 0) (hProg 0) (hLps 0) sWalk_10, wFld K hFld sFld, wLps K hLps sLps]) := by rw [esWalk_10]; exact fl_D 1 0 rfl (Nat.le_of_ble_eq_true rfl) rfl rfl hD
              cases hf
              exact ret_v hx hb hr hlocks hK hP hS d_Walk_comeToNext_159
          · replace hf := o_f c14 hf
            refine lv_aload_n (pc := 136) hx hb d_Walk_comeToNext_136 rfl (lv_at hl 2 rfl) ?_
            refine lv_iload_n (pc := 137) hx hb d_Walk_comeToNext_137 rfl (lv_at hl 1 rfl) ?_
            obtain ⟨q12, hq12, hf⟩ := o_bd_e hf
            refine fi_i (pc := 138) (va_runS (As := [.int u3]) (rest := [.ref (hWalk 0)]) ⟨hx, hb, hml, hown, hts⟩ ((c_Desc_bitsOf l D K u3 q12 hq12) _) (va_cwS 1 hts (gT tw_612 tw_613 tw_13 tw_614) rfl rfl rfl (by decide +kernel) ⟨by decide, by decide⟩) ⟨mPre_blind, (mPre_fl hK hF hA hP hD hS [] rfl rfl)⟩ rfl rfl hl.1 rfl (lv_room (Nat.le_of_ble_eq_true rfl)) d_Walk_comeToNext_138 ⟨Nat.zero_le _, Nat.zero_le _⟩) hA hP hD hS [] rfl rfl (fun H locs hP hD hS => ?_)
            have hP : va_P D vwCl (fl [wProg K hProg (hTab 0) sProg, wWalk K hWalk (hFld 0) (hTab 0) (hProg 0) (hLps 0) sWalk_4, wFld K hFld sFld, wLps K hLps sLps]) H := hP
            have hD : va_D A (fl [wProg K hProg (hTab 0) sProg, wWalk K hWalk (hFld 0) (hTab 0) (hProg 0) (hLps 0) sWalk_4, wFld K hFld sFld, wLps K hLps sLps]) := hD
            obtain ⟨q13, hq13, hf⟩ := o_bd_e hf
            refine fi_v (pc := 141) (va_runV (As := [.int q12]) (rest := []) ⟨hx, hb, hml, hown, hts⟩ ((c_Walk_comeToBits l D K hTab hProg hWalk hFld hLps sWalk_4 sFld q12 q13 hq13) _) (cwV 1 hts (gV tw_615 tw_617 tp_19 tw_4 tw_618) rfl rfl rfl (by decide +kernel) ⟨by decide, by decide⟩) ⟨mPre_blind, va_recv hK hP (ci := 3) rfl (fl_at 1 0 rfl rfl), (mPre_fl hK hF hA hP hD hS [1, 2] rfl rfl)⟩ rfl rfl hl.1 rfl (lv_room (Nat.le_of_ble_eq_true rfl)) d_Walk_comeToNext_141 ⟨Nat.zero_le _, Nat.zero_le _⟩) hA hP hD hS [1, 2] rfl rfl (fun H locs hP hD hS => ?_)
            have hP : va_P D vwCl (fl [wProg K hProg (hTab 0) sProg, wWalk K hWalk (hFld 0) (hTab 0) (hProg 0) (hLps 0) q13, wFld K hFld sFld, wLps K hLps sLps]) H := hP
            have hD : va_D A (fl [wProg K hProg (hTab 0) sProg, wWalk K hWalk (hFld 0) (hTab 0) (hProg 0) (hLps 0) q13, wFld K hFld sFld, wLps K hLps sLps]) := hD
            refine lv_goto (tgt := 159) (pc := 144) hx hb d_Walk_comeToNext_144 (by decide) ?_
            cases hf
            exact ret_v hx hb hr hlocks hK hP hS d_Walk_comeToNext_159
        · replace hf := o_f c18 hf
          refine lv_aload_n (pc := 114) hx hb d_Walk_comeToNext_114 rfl (lv_at hl 2 rfl) ?_
          refine va_get (D := D) (ci := 3) (v := .ref (hWalk 1)) (C := R_Walk) (T := T_Walk) (N := 18) (pc := 115) hx hb hts (fun w h => List.mem_cons_of_mem _ (in_Walk w h)) hown hK hP _ (fl_at 1 0 rfl rfl) rfl 6 (by decide) (hts _ (List.mem_cons_of_mem _ tw_218)) (fun _ h9 => h9) rfl d_Walk_comeToNext_115 ?_
          refine lv_iload_n (pc := 118) hx hb d_Walk_comeToNext_118 rfl (lv_at hl 0 rfl) ?_
          refine lv_iload_n (pc := 119) hx hb d_Walk_comeToNext_119 rfl (lv_at hl 1 rfl) ?_
          refine lv_iload_n (pc := 120) hx hb d_Walk_comeToNext_120 rfl (lv_at hl 0 rfl) ?_
          obtain ⟨q15, hq15, hf⟩ := o_bd_e hf
          refine fi_i (pc := 121) (va_runS (As := [.int u3, .int q5]) (rest := [.int q5, .ref (hWalk 1)]) ⟨hx, hb, hml, hown, hts⟩ ((c_Desc_settingOf l D K u3 q5 q15 hq15) _) (va_cwS 2 hts (gT tw_611 tw_529 tw_13 tw_530) rfl rfl rfl (by decide +kernel) ⟨by decide, by decide⟩) ⟨mPre_blind, (mPre_fl hK hF hA hP hD hS [] rfl rfl)⟩ rfl rfl hl.1 rfl (lv_room (Nat.le_of_ble_eq_true rfl)) d_Walk_comeToNext_121 ⟨Nat.zero_le _, Nat.zero_le _⟩) hA hP hD hS [] rfl rfl (fun H locs hP hD hS => ?_)
          have hP : va_P D vwCl (fl [wProg K hProg (hTab 0) sProg, wWalk K hWalk (hFld 0) (hTab 0) (hProg 0) (hLps 0) sWalk_4, wFld K hFld sFld, wLps K hLps sLps]) H := hP
          have hD : va_D A (fl [wProg K hProg (hTab 0) sProg, wWalk K hWalk (hFld 0) (hTab 0) (hProg 0) (hLps 0) sWalk_4, wFld K hFld sFld, wLps K hLps sLps]) := hD
          obtain ⟨hi16, hf⟩ := o_gi_e hf
          refine va_iast (D := D) (pc := 124) hx hb hK hP hD hS _ 0 (fl_at 1 1 rfl rfl) rfl hi16 d_Walk_comeToNext_124 (fun H locs hP hD hS => ?_)
          obtain ⟨sWalk_17, esWalk_17, hf⟩ := o_lt_e hf
          have hP : va_P D vwCl (fl [wProg K hProg (hTab 0) sProg, wWalk K hWalk (hFld 0) (hTab 0) (hProg 0) (hLps 0) sWalk_17, wFld K hFld sFld, wLps K hLps sLps]) H := by rw [esWalk_17]; exact fl_P 1 1 rfl (Nat.le_of_ble_eq_true rfl) rfl rfl hP
          have hD : va_D A (fl [wProg K hProg (hTab 0) sProg, wWalk K hWalk (hFld 0) (hTab 0) (hProg 0) (hLps 0) sWalk_17, wFld K hFld sFld, wLps K hLps sLps]) := by rw [esWalk_17]; exact fl_D 1 1 rfl (Nat.le_of_ble_eq_true rfl) rfl rfl hD
          refine lv_goto (tgt := 159) (pc := 125) hx hb d_Walk_comeToNext_125 (by decide) ?_
          cases hf
          exact ret_v hx hb hr hlocks hK hP hS d_Walk_comeToNext_159
      · replace hf := o_f c22 hf
        refine lv_aload_n (pc := 84) hx hb d_Walk_comeToNext_84 rfl (lv_at hl 2 rfl) ?_
        refine lv_iload_n (pc := 85) hx hb d_Walk_comeToNext_85 rfl (lv_at hl 1 rfl) ?_
        obtain ⟨q19, hq19, hf⟩ := o_bd_e hf
        refine fi_i (pc := 86) (va_runS (As := [.int u3]) (rest := [.ref (hWalk 0)]) ⟨hx, hb, hml, hown, hts⟩ ((c_Desc_timesOf l D K u3 q19 hq19) _) (va_cwS 1 hts (gT tw_602 tw_523 tw_13 tw_524) rfl rfl rfl (by decide +kernel) ⟨by decide, by decide⟩) ⟨mPre_blind, (mPre_fl hK hF hA hP hD hS [] rfl rfl)⟩ rfl rfl hl.1 rfl (lv_room (Nat.le_of_ble_eq_true rfl)) d_Walk_comeToNext_86 ⟨Nat.zero_le _, Nat.zero_le _⟩) hA hP hD hS [] rfl rfl (fun H locs hP hD hS => ?_)
        have hP : va_P D vwCl (fl [wProg K hProg (hTab 0) sProg, wWalk K hWalk (hFld 0) (hTab 0) (hProg 0) (hLps 0) sWalk_4, wFld K hFld sFld, wLps K hLps sLps]) H := hP
        have hD : va_D A (fl [wProg K hProg (hTab 0) sProg, wWalk K hWalk (hFld 0) (hTab 0) (hProg 0) (hLps 0) sWalk_4, wFld K hFld sFld, wLps K hLps sLps]) := hD
        refine lv_aload_n (pc := 89) hx hb d_Walk_comeToNext_89 rfl (lv_at hl 2 rfl) ?_
        refine va_get (D := D) (ci := 3) (v := .ref (hProg 0)) (C := R_Walk) (T := T_Walk) (N := 18) (pc := 90) hx hb hts (fun w h => List.mem_cons_of_mem _ (in_Walk w h)) hown hK hP _ (fl_at 1 0 rfl rfl) rfl 4 (by decide) (hts _ (List.mem_cons_of_mem _ tw_216)) (fun _ h9 => h9) rfl d_Walk_comeToNext_90 ?_
        refine va_get (D := D) (ci := 2) (v := .ref (hProg 2)) (C := R_Prog) (T := T_Prog) (N := 14) (pc := 93) hx hb hts (fun w h => List.mem_cons_of_mem _ (in_Prog w h)) hown hK hP _ (fl_at 0 0 rfl rfl) rfl 1 (by decide) (hts _ (List.mem_cons_of_mem _ tw_77)) (fun _ h9 => h9) rfl d_Walk_comeToNext_93 ?_
        refine lv_aload_n (pc := 96) hx hb d_Walk_comeToNext_96 rfl (lv_at hl 2 rfl) ?_
        refine va_get (D := D) (ci := 3) (v := .int (Walk_at sWalk_4)) (C := R_Walk) (T := T_Walk) (N := 18) (pc := 97) hx hb hts (fun w h => List.mem_cons_of_mem _ (in_Walk w h)) hown hK hP _ (fl_at 1 0 rfl rfl) rfl 12 (by decide) (hts _ (List.mem_cons_of_mem _ tw_224)) (fun _ h9 => h9) rfl d_Walk_comeToNext_97 ?_
        refine lv_iconst (v := 1) (pc := 100) hx hb d_Walk_comeToNext_100 (by decide) ?_
        refine lv_isub (pc := 101) hx hb d_Walk_comeToNext_101 ?_
        obtain ⟨hi20, hf⟩ := o_gi_e hf
        refine va_iald (D := D) (pc := 102) hx hb hK hP _ 0 (fl_at 0 2 rfl rfl) rfl hi20 d_Walk_comeToNext_102 ?_
        obtain ⟨q21, hq21, hf⟩ := o_bd_e hf
        refine fi_v (pc := 103) (va_runV (As := [.int q19, .int (Prog_bodyEnds sProg ((Walk_at sWalk_4) - 1 : Int32).toNatClampNeg)]) (rest := []) ⟨hx, hb, hml, hown, hts⟩ ((c_Walk_comeToRepeat l D K hTab hProg hWalk hFld hLps sWalk_4 sLps q19 (Prog_bodyEnds sProg ((Walk_at sWalk_4) - 1 : Int32).toNatClampNeg) q21.1 q21.2 hq21) _) (cwV 2 hts (gV tw_603 tw_605 tp_18 tw_4 tw_606) rfl rfl rfl (by decide +kernel) ⟨by decide, by decide⟩) ⟨mPre_blind, va_recv hK hP (ci := 3) rfl (fl_at 1 0 rfl rfl), (mPre_fl hK hF hA hP hD hS [1, 3] rfl rfl)⟩ rfl rfl hl.1 rfl (lv_room (Nat.le_of_ble_eq_true rfl)) d_Walk_comeToNext_103 ⟨Nat.zero_le _, Nat.zero_le _⟩) hA hP hD hS [1, 3] rfl rfl (fun H locs hP hD hS => ?_)
        have hP : va_P D vwCl (fl [wProg K hProg (hTab 0) sProg, wWalk K hWalk (hFld 0) (hTab 0) (hProg 0) (hLps 0) q21.1, wFld K hFld sFld, wLps K hLps q21.2]) H := hP
        have hD : va_D A (fl [wProg K hProg (hTab 0) sProg, wWalk K hWalk (hFld 0) (hTab 0) (hProg 0) (hLps 0) q21.1, wFld K hFld sFld, wLps K hLps q21.2]) := hD
        refine lv_goto (tgt := 159) (pc := 106) hx hb d_Walk_comeToNext_106 (by decide) ?_
        cases hf
        exact ret_v hx hb hr hlocks hK hP hS d_Walk_comeToNext_159
    · replace hf := o_f c24 hf
      refine lv_aload_n (pc := 69) hx hb d_Walk_comeToNext_69 rfl (lv_at hl 2 rfl) ?_
      refine lv_iload_n (pc := 70) hx hb d_Walk_comeToNext_70 rfl (lv_at hl 1 rfl) ?_
      obtain ⟨q23, hq23, hf⟩ := o_bd_e hf
      refine fi_v (pc := 71) (va_runV (As := [.int u3]) (rest := []) ⟨hx, hb, hml, hown, hts⟩ ((c_Walk_comeToElement l D K hTab hProg hWalk hFld hLps sWalk_4 u3 q23 hq23) _) (cwV 1 hts (gV tw_597 tw_599 tp_17 tw_4 tw_600) rfl rfl rfl (by decide +kernel) ⟨by decide, by decide⟩) ⟨mPre_blind, va_recv hK hP (ci := 3) rfl (fl_at 1 0 rfl rfl), (mPre_fl hK hF hA hP hD hS [1] rfl rfl)⟩ rfl rfl hl.1 rfl (lv_room (Nat.le_of_ble_eq_true rfl)) d_Walk_comeToNext_71 ⟨Nat.zero_le _, Nat.zero_le _⟩) hA hP hD hS [1] rfl rfl (fun H locs hP hD hS => ?_)
      have hP : va_P D vwCl (fl [wProg K hProg (hTab 0) sProg, wWalk K hWalk (hFld 0) (hTab 0) (hProg 0) (hLps 0) q23, wFld K hFld sFld, wLps K hLps sLps]) H := hP
      have hD : va_D A (fl [wProg K hProg (hTab 0) sProg, wWalk K hWalk (hFld 0) (hTab 0) (hProg 0) (hLps 0) q23, wFld K hFld sFld, wLps K hLps sLps]) := hD
      refine lv_goto (tgt := 159) (pc := 74) hx hb d_Walk_comeToNext_74 (by decide) ?_
      cases hf
      exact ret_v hx hb hr hlocks hK hP hS d_Walk_comeToNext_159
  · replace hf := o_f c26 hf
    refine lv_aload_n (pc := 20) hx hb d_Walk_comeToNext_20 rfl (lv_at hl 0 rfl) ?_
    refine lv_bipush (v := 8) (pc := 21) hx hb d_Walk_comeToNext_21 (by decide) ?_
    refine lv_aload_n (pc := 23) hx hb d_Walk_comeToNext_23 rfl (lv_at hl 0 rfl) ?_
    refine va_get (D := D) (ci := 3) (v := .ref (hFld 0)) (C := R_Walk) (T := T_Walk) (N := 18) (pc := 24) hx hb hts (fun w h => List.mem_cons_of_mem _ (in_Walk w h)) hown hK hP _ (fl_at 1 0 rfl rfl) rfl 0 (by decide) (hts _ (List.mem_cons_of_mem _ tw_205)) (fun _ h9 => h9) rfl d_Walk_comeToNext_24 ?_
    refine va_get (D := D) (ci := 4) (v := .int (Fld_count sFld)) (C := R_Fld) (T := T_Fld) (N := 8) (pc := 27) hx hb hts (fun w h => List.mem_cons_of_mem _ (in_Fld w h)) hown hK hP _ (fl_at 2 0 rfl rfl) rfl 7 (by decide) (hts _ (List.mem_cons_of_mem _ tw_162)) (fun _ h9 => h9) rfl d_Walk_comeToNext_27 ?_
    obtain ⟨q25, hq25, hf⟩ := o_bd_e hf
    refine fi_v (pc := 30) (va_runV (As := [.int 8, .int (Fld_count sFld)]) (rest := []) ⟨hx, hb, hml, hown, hts⟩ ((c_Walk_fail l D K hTab hProg hWalk hFld hLps sWalk_1 8 (Fld_count sFld) q25 hq25) _) (cwV 2 hts (gV tw_564 tw_565 tw_566 tw_4 tw_567) rfl rfl rfl (by decide +kernel) ⟨by decide, by decide⟩) ⟨mPre_blind, va_recv hK hP (ci := 3) rfl (fl_at 1 0 rfl rfl), (mPre_fl hK hF hA hP hD hS [1] rfl rfl)⟩ rfl rfl hl.1 rfl (lv_room (Nat.le_of_ble_eq_true rfl)) d_Walk_comeToNext_30 ⟨Nat.zero_le _, Nat.zero_le _⟩) hA hP hD hS [1] rfl rfl (fun H locs hP hD hS => ?_)
    have hP : va_P D vwCl (fl [wProg K hProg (hTab 0) sProg, wWalk K hWalk (hFld 0) (hTab 0) (hProg 0) (hLps 0) q25, wFld K hFld sFld, wLps K hLps sLps]) H := hP
    have hD : va_D A (fl [wProg K hProg (hTab 0) sProg, wWalk K hWalk (hFld 0) (hTab 0) (hProg 0) (hLps 0) q25, wFld K hFld sFld, wLps K hLps sLps]) := hD
    cases hf
    exact ret_v hx hb hr hlocks hK hP hS d_Walk_comeToNext_33
def Walk_settle_j70 (sFld : S_Fld) (x1_j70 : Int64) (x3_j70 : Int32) (x4_j70 : Int32) (x5_j70 : Int64) (t0_j70 : Int64) (sWalk_j70 : S_Walk) (sLps_j70 : S_Lps) : Option (S_Walk × S_Lps) := if x1_j70 < x5_j70 then o_bd (Walk_fail 6 x3_j70 sWalk_j70) fun q8 => (some ((q8, sLps_j70))) else if x1_j70 ≤ t0_j70 then if x4_j70 = 0 then if x1_j70 = 1 then if (Int32.ofNat 16) ≤ (Walk_pointedCount sWalk_j70) then some ((sWalk_j70, sLps_j70)) else o_gd (o_in x3_j70 100) (o_gd (o_in (Walk_pointedCount sWalk_j70) 16) (o_lt (Walk_put_pointed sWalk_j70 (Walk_pointedCount sWalk_j70 : Int32).toNatClampNeg (Fld_targets sFld (x3_j70 : Int32).toNatClampNeg)) fun sWalk_11 => (o_lt (Walk_set_pointedCount sWalk_11 ((Walk_pointedCount sWalk_11) + 1)) fun sWalk_12 => (some ((sWalk_12, sLps_j70)))))) else some ((sWalk_j70, sLps_j70)) else o_bd (Lps_enter (Walk_at sWalk_j70) (Walk_countedEnd sWalk_j70) ((x1_j70 : Int64).toInt32) sLps_j70) fun q15 => (o_lt (Walk_set_countedEnd sWalk_j70 ((-1))) fun sWalk_16 => (some ((sWalk_16, q15)))) else o_bd (Walk_fail 6 x3_j70 sWalk_j70) fun q18 => (some ((q18, sLps_j70)))
def Walk_settle_j56 (sFld : S_Fld) (x1_j56 : Int64) (x3_j56 : Int32) (x4_j56 : Int32) (t0_j56 : Int64) (sWalk_j56 : S_Walk) (sLps_j56 : S_Lps) : Option (S_Walk × S_Lps) := if x4_j56 = 0 then Walk_settle_j70 sFld x1_j56 x3_j56 x4_j56 t0_j56 1 sWalk_j56 sLps_j56 else Walk_settle_j70 sFld x1_j56 x3_j56 x4_j56 t0_j56 30 sWalk_j56 sLps_j56
def Walk_settle_j44 (sFld : S_Fld) (x1_j44 : Int64) (x3_j44 : Int32) (t0_j44 : Int32) (sWalk_j44 : S_Walk) (sLps_j44 : S_Lps) : Option (S_Walk × S_Lps) := if t0_j44 = 0 then Walk_settle_j56 sFld x1_j44 x3_j44 t0_j44 0 sWalk_j44 sLps_j44 else Walk_settle_j56 sFld x1_j44 x3_j44 t0_j44 1 sWalk_j44 sLps_j44
def Walk_settle (sFld : S_Fld) (a0 : Int64) (sWalk : S_Walk) (sLps : S_Lps) : Option (S_Walk × S_Lps) := if ((Fld_count sFld) - 1) < 0 then some ((sWalk, sLps)) else o_bd (Fld_isCountOrBit sFld ((Fld_count sFld) - 1)) fun q1 => (if q1 = 0 then some ((sWalk, sLps)) else o_gd (o_in ((Fld_count sFld) - 1) 100) (if (Fld_kinds sFld ((Fld_count sFld) - 1 : Int32).toNatClampNeg) = 2 then Walk_settle_j44 sFld a0 ((Fld_count sFld) - 1) 1 sWalk sLps else Walk_settle_j44 sFld a0 ((Fld_count sFld) - 1) 0 sWalk sLps))
abbrev rm_Walk_settle : Room := { frames := 1, cells := 0, slots := 0, locals := 23 }
set_option maxHeartbeats 4000000 in
set_option maxRecDepth 100000 in
theorem c_Walk_settle (l : Launch) (D : va_G) (K : Nat → ClassId) (hTab : Nat → Nat) (hProg : Nat → Nat) (hWalk : Nat → Nat) (hFld : Nat → Nat) (hLps : Nat → Nat) (sWalk : S_Walk) (sFld : S_Fld) (sLps : S_Lps) (a0 : Int64) (sWalk' : S_Walk) (sLps' : S_Lps) (hf : Walk_settle sFld a0 sWalk sLps = some ((sWalk', sLps'))) : mv l D K y_Walk_settle ws_Walk_settle rm_Walk_settle [.ref (hWalk 0), .long a0] (fl [wWalk K hWalk (hFld 0) (hTab 0) (hProg 0) (hLps 0) sWalk, wFld K hFld sFld, wLps K hLps sLps]) (fl [wWalk K hWalk (hFld 0) (hTab 0) (hProg 0) (hLps 0) sWalk', wFld K hFld sFld, wLps K hLps sLps']) := by
  refine mv_of (cc := b_Walk_settle) (maxL := 9) (own := "ObsMessages$Walk") (by decide) rfl rfl (Nat.le_of_ble_eq_true rfl) ?_
  intro p e s m below meth c A ls hC hP hD hS hl
  obtain ⟨hx, hb, hml, hown, hts, hr, hlocks, hK, hF, hA⟩ := hC
  have hP : va_P D vwCl (fl [wWalk K hWalk (hFld 0) (hTab 0) (hProg 0) (hLps 0) sWalk, wFld K hFld sFld, wLps K hLps sLps]) s.heap := hP
  have hl : lv_has ls 9 [(0, .ref (hWalk 0)), (1, .long a0)] := hl
  suffices hW : ∀ (H : Heap) (locs : List Loc), va_P D vwCl (fl [wWalk K hWalk (hFld 0) (hTab 0) (hProg 0) (hLps 0) sWalk, wFld K hFld sFld, wLps K hLps sLps]) H → va_S A s.heap H locs → W p l e rm_Walk_settle s m ([.ref (hWalk 0), .long a0] : List Value).toArray below meth c H locs 0 0 (Qv below ([.ref (hWalk 0), .long a0] : List Value).toArray s D K A (fl [wWalk K hWalk (hFld 0) (hTab 0) (hProg 0) (hLps 0) sWalk', wFld K hFld sFld, wLps K hLps sLps'])) (F0 m 0 ls []) from hW s.heap [] hP hS
  clear hP hS
  intro H locs hP hS
  have J70 : ∀ (x1_j70 : Int64) (x3_j70 : Int32) (x4_j70 : Int32) (x5_j70 : Int64) (t0_j70 : Int64) (sWalk_j70 : S_Walk) (sLps_j70 : S_Lps) (H : Heap) (locs : List Loc) (ls : Array Slot), va_P D vwCl (fl [wWalk K hWalk (hFld 0) (hTab 0) (hProg 0) (hLps 0) sWalk_j70, wFld K hFld sFld, wLps K hLps sLps_j70]) H → va_D A (fl [wWalk K hWalk (hFld 0) (hTab 0) (hProg 0) (hLps 0) sWalk_j70, wFld K hFld sFld, wLps K hLps sLps_j70]) → va_S A s.heap H locs → lv_has ls 9 [(0, .ref (hWalk 0)), (1, .long x1_j70), (3, .int x3_j70), (4, .int x4_j70), (5, .long x5_j70)] → Walk_settle_j70 sFld x1_j70 x3_j70 x4_j70 x5_j70 t0_j70 sWalk_j70 sLps_j70 = some ((sWalk', sLps')) → W p l e rm_Walk_settle s m ([.ref (hWalk 0), .long a0] : List Value).toArray below meth c H locs 0 0 (Qv below ([.ref (hWalk 0), .long a0] : List Value).toArray s D K A (fl [wWalk K hWalk (hFld 0) (hTab 0) (hProg 0) (hLps 0) sWalk', wFld K hFld sFld, wLps K hLps sLps'])) (F0 m 70 ls [.long t0_j70]) := by
    intro x1_j70 x3_j70 x4_j70 x5_j70 t0_j70 sWalk_j70 sLps_j70 H locs ls hP hD hS hl hf
    refine lv_lstore (lv' := [(7, .long t0_j70), (0, .ref (hWalk 0)), (1, .long x1_j70), (3, .int x3_j70), (4, .int x4_j70), (5, .long x5_j70)]) (pc := 70) hx hb d_Walk_settle_70 hl (by decide) rfl (fun ls hl => ?_)
    refine lv_lload_n (pc := 72) hx hb d_Walk_settle_72 rfl (lv_at hl 2 rfl) ?_
    refine lv_lload (pc := 73) hx hb d_Walk_settle_73 (lv_at hl 5 rfl) ?_
    refine lc_lt (tgt := 86) (pc := 75) hx hb d_Walk_settle_75 d_Walk_settle_76 (by decide) (fun c20 => ?_) (fun c20 => ?_)
    · replace hf := o_t c20 hf
      refine lv_aload_n (pc := 86) hx hb d_Walk_settle_86 rfl (lv_at hl 1 rfl) ?_
      refine lv_bipush (v := 6) (pc := 87) hx hb d_Walk_settle_87 (by decide) ?_
      refine lv_iload_n (pc := 89) hx hb d_Walk_settle_89 rfl (lv_at hl 3 rfl) ?_
      obtain ⟨q8, hq8, hf⟩ := o_bd_e hf
      refine fi_v (pc := 90) (va_runV (As := [.int 6, .int x3_j70]) (rest := []) ⟨hx, hb, hml, hown, hts⟩ ((c_Walk_fail l D K hTab hProg hWalk hFld hLps sWalk_j70 6 x3_j70 q8 hq8) _) (cwV 2 hts (gV tw_564 tw_565 tw_566 tw_4 tw_567) rfl rfl rfl (by decide +kernel) ⟨by decide, by decide⟩) ⟨mPre_blind, va_recv hK hP (ci := 3) rfl (fl_at 0 0 rfl rfl), (mPre_fl hK hF hA hP hD hS [0] rfl rfl)⟩ rfl rfl hl.1 rfl (lv_room (Nat.le_of_ble_eq_true rfl)) d_Walk_settle_90 ⟨Nat.zero_le _, Nat.zero_le _⟩) hA hP hD hS [0] rfl rfl (fun H locs hP hD hS => ?_)
      have hP : va_P D vwCl (fl [wWalk K hWalk (hFld 0) (hTab 0) (hProg 0) (hLps 0) q8, wFld K hFld sFld, wLps K hLps sLps_j70]) H := hP
      have hD : va_D A (fl [wWalk K hWalk (hFld 0) (hTab 0) (hProg 0) (hLps 0) q8, wFld K hFld sFld, wLps K hLps sLps_j70]) := hD
      refine lv_goto (tgt := 172) (pc := 93) hx hb d_Walk_settle_93 (by decide) ?_
      cases hf
      exact ret_v hx hb hr hlocks hK hP hS d_Walk_settle_172
    · replace hf := o_f c20 hf
      refine lv_lload_n (pc := 79) hx hb d_Walk_settle_79 rfl (lv_at hl 2 rfl) ?_
      refine lv_lload (pc := 80) hx hb d_Walk_settle_80 (lv_at hl 0 rfl) ?_
      refine lc_le (tgt := 96) (pc := 82) hx hb d_Walk_settle_82 d_Walk_settle_83 (by decide) (fun c19 => ?_) (fun c19 => ?_)
      · replace hf := o_t c19 hf
        refine lv_iload (pc := 96) hx hb d_Walk_settle_96 (lv_at hl 4 rfl) ?_
        refine lv_if_eq (tgt := 126) (pc := 98) hx hb d_Walk_settle_98 (by decide) (fun c17 => ?_) (fun c17 => ?_)
        · replace hf := o_t c17 hf
          refine lv_lload_n (pc := 126) hx hb d_Walk_settle_126 rfl (lv_at hl 2 rfl) ?_
          refine lv_lconst (v := 1) (pc := 127) hx hb d_Walk_settle_127 (by decide) ?_
          refine lc_ne (tgt := 172) (pc := 128) hx hb d_Walk_settle_128 d_Walk_settle_129 (by decide) (fun c14 => ?_) (fun c14 => ?_)
          · replace hf := o_f c14 hf
            cases hf
            exact ret_v hx hb hr hlocks hK hP hS d_Walk_settle_172
          · replace hf := o_t c14 hf
            refine lv_aload_n (pc := 132) hx hb d_Walk_settle_132 rfl (lv_at hl 1 rfl) ?_
            refine va_get (D := D) (ci := 3) (v := .int (Walk_pointedCount sWalk_j70)) (C := R_Walk) (T := T_Walk) (N := 18) (pc := 133) hx hb hts (fun w h => List.mem_cons_of_mem _ (in_Walk w h)) hown hK hP _ (fl_at 0 0 rfl rfl) rfl 10 (by decide) (hts _ (List.mem_cons_of_mem _ tw_222)) (fun _ h9 => h9) rfl d_Walk_settle_133 ?_
            refine lv_aload_n (pc := 136) hx hb d_Walk_settle_136 rfl (lv_at hl 1 rfl) ?_
            refine va_get (D := D) (ci := 3) (v := .ref (hWalk 3)) (C := R_Walk) (T := T_Walk) (N := 18) (pc := 137) hx hb hts (fun w h => List.mem_cons_of_mem _ (in_Walk w h)) hown hK hP _ (fl_at 0 0 rfl rfl) rfl 9 (by decide) (hts _ (List.mem_cons_of_mem _ tw_221)) (fun _ h9 => h9) rfl d_Walk_settle_137 ?_
            refine va_alen (D := D) (pc := 140) hx hb hK hP _ 0 (fl_at 0 3 rfl rfl) rfl rfl d_Walk_settle_140 ?_
            refine lv_icmp_ge (tgt := 172) (pc := 141) hx hb d_Walk_settle_141 (by decide) (fun c13 => ?_) (fun c13 => ?_)
            · replace hf := o_t c13 hf
              cases hf
              exact ret_v hx hb hr hlocks hK hP hS d_Walk_settle_172
            · replace hf := o_f c13 hf
              refine lv_aload_n (pc := 144) hx hb d_Walk_settle_144 rfl (lv_at hl 1 rfl) ?_
              refine va_get (D := D) (ci := 3) (v := .ref (hWalk 3)) (C := R_Walk) (T := T_Walk) (N := 18) (pc := 145) hx hb hts (fun w h => List.mem_cons_of_mem _ (in_Walk w h)) hown hK hP _ (fl_at 0 0 rfl rfl) rfl 9 (by decide) (hts _ (List.mem_cons_of_mem _ tw_221)) (fun _ h9 => h9) rfl d_Walk_settle_145 ?_
              refine lv_aload_n (pc := 148) hx hb d_Walk_settle_148 rfl (lv_at hl 1 rfl) ?_
              refine va_get (D := D) (ci := 3) (v := .int (Walk_pointedCount sWalk_j70)) (C := R_Walk) (T := T_Walk) (N := 18) (pc := 149) hx hb hts (fun w h => List.mem_cons_of_mem _ (in_Walk w h)) hown hK hP _ (fl_at 0 0 rfl rfl) rfl 10 (by decide) (hts _ (List.mem_cons_of_mem _ tw_222)) (fun _ h9 => h9) rfl d_Walk_settle_149 ?_
              refine lv_aload_n (pc := 152) hx hb d_Walk_settle_152 rfl (lv_at hl 1 rfl) ?_
              refine va_get (D := D) (ci := 3) (v := .ref (hFld 0)) (C := R_Walk) (T := T_Walk) (N := 18) (pc := 153) hx hb hts (fun w h => List.mem_cons_of_mem _ (in_Walk w h)) hown hK hP _ (fl_at 0 0 rfl rfl) rfl 0 (by decide) (hts _ (List.mem_cons_of_mem _ tw_205)) (fun _ h9 => h9) rfl d_Walk_settle_153 ?_
              refine va_get (D := D) (ci := 4) (v := .ref (hFld 6)) (C := R_Fld) (T := T_Fld) (N := 8) (pc := 156) hx hb hts (fun w h => List.mem_cons_of_mem _ (in_Fld w h)) hown hK hP _ (fl_at 1 0 rfl rfl) rfl 5 (by decide) (hts _ (List.mem_cons_of_mem _ tw_155)) (fun _ h9 => h9) rfl d_Walk_settle_156 ?_
              refine lv_iload_n (pc := 159) hx hb d_Walk_settle_159 rfl (lv_at hl 3 rfl) ?_
              obtain ⟨hi9, hf⟩ := o_gi_e hf
              refine va_iald (D := D) (pc := 160) hx hb hK hP _ 0 (fl_at 1 6 rfl rfl) rfl hi9 d_Walk_settle_160 ?_
              obtain ⟨hi10, hf⟩ := o_gi_e hf
              refine va_iast (D := D) (pc := 161) hx hb hK hP hD hS _ 0 (fl_at 0 3 rfl rfl) rfl hi10 d_Walk_settle_161 (fun H locs hP hD hS => ?_)
              obtain ⟨sWalk_11, esWalk_11, hf⟩ := o_lt_e hf
              have hP : va_P D vwCl (fl [wWalk K hWalk (hFld 0) (hTab 0) (hProg 0) (hLps 0) sWalk_11, wFld K hFld sFld, wLps K hLps sLps_j70]) H := by rw [esWalk_11]; exact fl_P 0 3 rfl (Nat.le_of_ble_eq_true rfl) rfl rfl hP
              have hD : va_D A (fl [wWalk K hWalk (hFld 0) (hTab 0) (hProg 0) (hLps 0) sWalk_11, wFld K hFld sFld, wLps K hLps sLps_j70]) := by rw [esWalk_11]; exact fl_D 0 3 rfl (Nat.le_of_ble_eq_true rfl) rfl rfl hD
              refine lv_aload_n (pc := 162) hx hb d_Walk_settle_162 rfl (lv_at hl 1 rfl) ?_
              refine lv_dup (pc := 163) hx hb d_Walk_settle_163 rfl ?_
              refine va_get (D := D) (ci := 3) (v := .int (Walk_pointedCount sWalk_11)) (C := R_Walk) (T := T_Walk) (N := 18) (pc := 164) hx hb hts (fun w h => List.mem_cons_of_mem _ (in_Walk w h)) hown hK hP _ (fl_at 0 0 rfl rfl) rfl 10 (by decide) (hts _ (List.mem_cons_of_mem _ tw_222)) (fun _ h9 => h9) rfl d_Walk_settle_164 ?_
              refine lv_iconst (v := 1) (pc := 167) hx hb d_Walk_settle_167 (by decide) ?_
              refine lv_iadd (pc := 168) hx hb d_Walk_settle_168 ?_
              refine va_put (D := D) (ci := 3) (v := .int ((Walk_pointedCount sWalk_11) + 1)) (ty := .int) (C := R_Walk) (T := T_Walk) (N := 18) (pc := 169) hx hb hts (fun w h => List.mem_cons_of_mem _ (in_Walk w h)) ty_Walk ty_Walk_ok nm_Walk hown hK hP hD hS _ (fl_at 0 0 rfl rfl) rfl 10 (by decide) (hts _ (List.mem_cons_of_mem _ tw_222)) (fun _ h9 => h9) rfl (by decide +kernel) rfl rfl (Nat.le_of_ble_eq_true rfl) d_Walk_settle_169 (fun H locs hP hD hS => ?_)
              obtain ⟨sWalk_12, esWalk_12, hf⟩ := o_lt_e hf
              have hP : va_P D vwCl (fl [wWalk K hWalk (hFld 0) (hTab 0) (hProg 0) (hLps 0) sWalk_12, wFld K hFld sFld, wLps K hLps sLps_j70]) H := by rw [esWalk_12]; exact fl_P 0 0 rfl (Nat.le_of_ble_eq_true rfl) rfl rfl hP
              have hD : va_D A (fl [wWalk K hWalk (hFld 0) (hTab 0) (hProg 0) (hLps 0) sWalk_12, wFld K hFld sFld, wLps K hLps sLps_j70]) := by rw [esWalk_12]; exact fl_D 0 0 rfl (Nat.le_of_ble_eq_true rfl) rfl rfl hD
              cases hf
              exact ret_v hx hb hr hlocks hK hP hS d_Walk_settle_172
        · replace hf := o_f c17 hf
          refine lv_aload_n (pc := 101) hx hb d_Walk_settle_101 rfl (lv_at hl 1 rfl) ?_
          refine va_get (D := D) (ci := 3) (v := .ref (hLps 0)) (C := R_Walk) (T := T_Walk) (N := 18) (pc := 102) hx hb hts (fun w h => List.mem_cons_of_mem _ (in_Walk w h)) hown hK hP _ (fl_at 0 0 rfl rfl) rfl 5 (by decide) (hts _ (List.mem_cons_of_mem _ tw_217)) (fun _ h9 => h9) rfl d_Walk_settle_102 ?_
          refine lv_aload_n (pc := 105) hx hb d_Walk_settle_105 rfl (lv_at hl 1 rfl) ?_
          refine va_get (D := D) (ci := 3) (v := .int (Walk_at sWalk_j70)) (C := R_Walk) (T := T_Walk) (N := 18) (pc := 106) hx hb hts (fun w h => List.mem_cons_of_mem _ (in_Walk w h)) hown hK hP _ (fl_at 0 0 rfl rfl) rfl 12 (by decide) (hts _ (List.mem_cons_of_mem _ tw_224)) (fun _ h9 => h9) rfl d_Walk_settle_106 ?_
          refine lv_aload_n (pc := 109) hx hb d_Walk_settle_109 rfl (lv_at hl 1 rfl) ?_
          refine va_get (D := D) (ci := 3) (v := .int (Walk_countedEnd sWalk_j70)) (C := R_Walk) (T := T_Walk) (N := 18) (pc := 110) hx hb hts (fun w h => List.mem_cons_of_mem _ (in_Walk w h)) hown hK hP _ (fl_at 0 0 rfl rfl) rfl 17 (by decide) (hts _ (List.mem_cons_of_mem _ tw_229)) (fun _ h9 => h9) rfl d_Walk_settle_110 ?_
          refine lv_lload_n (pc := 113) hx hb d_Walk_settle_113 rfl (lv_at hl 2 rfl) ?_
          refine lv_l2i (pc := 114) hx hb d_Walk_settle_114 rfl ?_
          obtain ⟨q15, hq15, hf⟩ := o_bd_e hf
          refine fi_v (pc := 115) (va_runV (As := [.int (Walk_at sWalk_j70), .int (Walk_countedEnd sWalk_j70), .int ((x1_j70 : Int64).toInt32)]) (rest := []) ⟨hx, hb, hml, hown, hts⟩ ((c_Lps_enter l D K hLps sLps_j70 (Walk_at sWalk_j70) (Walk_countedEnd sWalk_j70) ((x1_j70 : Int64).toInt32) q15 hq15) _) (cwV 3 hts (gV tw_607 tw_608 tw_609 tw_6 tw_610) rfl rfl rfl (by decide +kernel) ⟨by decide, by decide⟩) ⟨mPre_blind, va_recv hK hP (ci := 5) rfl (fl_at 2 0 rfl rfl), (mPre_fl hK hF hA hP hD hS [2] rfl rfl)⟩ rfl rfl hl.1 rfl (lv_room (Nat.le_of_ble_eq_true rfl)) d_Walk_settle_115 ⟨Nat.zero_le _, Nat.zero_le _⟩) hA hP hD hS [2] rfl rfl (fun H locs hP hD hS => ?_)
          have hP : va_P D vwCl (fl [wWalk K hWalk (hFld 0) (hTab 0) (hProg 0) (hLps 0) sWalk_j70, wFld K hFld sFld, wLps K hLps q15]) H := hP
          have hD : va_D A (fl [wWalk K hWalk (hFld 0) (hTab 0) (hProg 0) (hLps 0) sWalk_j70, wFld K hFld sFld, wLps K hLps q15]) := hD
          refine lv_aload_n (pc := 118) hx hb d_Walk_settle_118 rfl (lv_at hl 1 rfl) ?_
          refine lv_iconst (v := (-1)) (pc := 119) hx hb d_Walk_settle_119 (by decide) ?_
          refine va_put (D := D) (ci := 3) (v := .int ((-1))) (ty := .int) (C := R_Walk) (T := T_Walk) (N := 18) (pc := 120) hx hb hts (fun w h => List.mem_cons_of_mem _ (in_Walk w h)) ty_Walk ty_Walk_ok nm_Walk hown hK hP hD hS _ (fl_at 0 0 rfl rfl) rfl 17 (by decide) (hts _ (List.mem_cons_of_mem _ tw_229)) (fun _ h9 => h9) rfl (by decide +kernel) rfl rfl (Nat.le_of_ble_eq_true rfl) d_Walk_settle_120 (fun H locs hP hD hS => ?_)
          obtain ⟨sWalk_16, esWalk_16, hf⟩ := o_lt_e hf
          have hP : va_P D vwCl (fl [wWalk K hWalk (hFld 0) (hTab 0) (hProg 0) (hLps 0) sWalk_16, wFld K hFld sFld, wLps K hLps q15]) H := by rw [esWalk_16]; exact fl_P 0 0 rfl (Nat.le_of_ble_eq_true rfl) rfl rfl hP
          have hD : va_D A (fl [wWalk K hWalk (hFld 0) (hTab 0) (hProg 0) (hLps 0) sWalk_16, wFld K hFld sFld, wLps K hLps q15]) := by rw [esWalk_16]; exact fl_D 0 0 rfl (Nat.le_of_ble_eq_true rfl) rfl rfl hD
          refine lv_goto (tgt := 172) (pc := 123) hx hb d_Walk_settle_123 (by decide) ?_
          cases hf
          exact ret_v hx hb hr hlocks hK hP hS d_Walk_settle_172
      · replace hf := o_f c19 hf
        refine lv_aload_n (pc := 86) hx hb d_Walk_settle_86 rfl (lv_at hl 1 rfl) ?_
        refine lv_bipush (v := 6) (pc := 87) hx hb d_Walk_settle_87 (by decide) ?_
        refine lv_iload_n (pc := 89) hx hb d_Walk_settle_89 rfl (lv_at hl 3 rfl) ?_
        obtain ⟨q18, hq18, hf⟩ := o_bd_e hf
        refine fi_v (pc := 90) (va_runV (As := [.int 6, .int x3_j70]) (rest := []) ⟨hx, hb, hml, hown, hts⟩ ((c_Walk_fail l D K hTab hProg hWalk hFld hLps sWalk_j70 6 x3_j70 q18 hq18) _) (cwV 2 hts (gV tw_564 tw_565 tw_566 tw_4 tw_567) rfl rfl rfl (by decide +kernel) ⟨by decide, by decide⟩) ⟨mPre_blind, va_recv hK hP (ci := 3) rfl (fl_at 0 0 rfl rfl), (mPre_fl hK hF hA hP hD hS [0] rfl rfl)⟩ rfl rfl hl.1 rfl (lv_room (Nat.le_of_ble_eq_true rfl)) d_Walk_settle_90 ⟨Nat.zero_le _, Nat.zero_le _⟩) hA hP hD hS [0] rfl rfl (fun H locs hP hD hS => ?_)
        have hP : va_P D vwCl (fl [wWalk K hWalk (hFld 0) (hTab 0) (hProg 0) (hLps 0) q18, wFld K hFld sFld, wLps K hLps sLps_j70]) H := hP
        have hD : va_D A (fl [wWalk K hWalk (hFld 0) (hTab 0) (hProg 0) (hLps 0) q18, wFld K hFld sFld, wLps K hLps sLps_j70]) := hD
        refine lv_goto (tgt := 172) (pc := 93) hx hb d_Walk_settle_93 (by decide) ?_
        cases hf
        exact ret_v hx hb hr hlocks hK hP hS d_Walk_settle_172
  have J56 : ∀ (x1_j56 : Int64) (x3_j56 : Int32) (x4_j56 : Int32) (t0_j56 : Int64) (sWalk_j56 : S_Walk) (sLps_j56 : S_Lps) (H : Heap) (locs : List Loc) (ls : Array Slot), va_P D vwCl (fl [wWalk K hWalk (hFld 0) (hTab 0) (hProg 0) (hLps 0) sWalk_j56, wFld K hFld sFld, wLps K hLps sLps_j56]) H → va_D A (fl [wWalk K hWalk (hFld 0) (hTab 0) (hProg 0) (hLps 0) sWalk_j56, wFld K hFld sFld, wLps K hLps sLps_j56]) → va_S A s.heap H locs → lv_has ls 9 [(0, .ref (hWalk 0)), (1, .long x1_j56), (3, .int x3_j56), (4, .int x4_j56)] → Walk_settle_j56 sFld x1_j56 x3_j56 x4_j56 t0_j56 sWalk_j56 sLps_j56 = some ((sWalk', sLps')) → W p l e rm_Walk_settle s m ([.ref (hWalk 0), .long a0] : List Value).toArray below meth c H locs 0 0 (Qv below ([.ref (hWalk 0), .long a0] : List Value).toArray s D K A (fl [wWalk K hWalk (hFld 0) (hTab 0) (hProg 0) (hLps 0) sWalk', wFld K hFld sFld, wLps K hLps sLps'])) (F0 m 56 ls [.long t0_j56]) := by
    intro x1_j56 x3_j56 x4_j56 t0_j56 sWalk_j56 sLps_j56 H locs ls hP hD hS hl hf
    refine lv_lstore (lv' := [(5, .long t0_j56), (0, .ref (hWalk 0)), (1, .long x1_j56), (3, .int x3_j56), (4, .int x4_j56)]) (pc := 56) hx hb d_Walk_settle_56 hl (by decide) rfl (fun ls hl => ?_)
    refine lv_iload (pc := 58) hx hb d_Walk_settle_58 (lv_at hl 4 rfl) ?_
    refine lv_if_eq (tgt := 69) (pc := 60) hx hb d_Walk_settle_60 (by decide) (fun c7 => ?_) (fun c7 => ?_)
    · replace hf := o_t c7 hf
      refine lv_lconst (v := 1) (pc := 69) hx hb d_Walk_settle_69 (by decide) ?_
      exact J70 x1_j56 x3_j56 x4_j56 t0_j56 1 sWalk_j56 sLps_j56 H locs ls hP hD hS (lv_sub hl [1, 2, 3, 4, 0] rfl) hf
    · replace hf := o_f c7 hf
      refine lv_ldc2 (pc := 63) hx hb hown (hts _ (List.mem_cons_of_mem _ tw_630)) d_Walk_settle_63 ?_
      refine lv_goto (tgt := 70) (pc := 66) hx hb d_Walk_settle_66 (by decide) ?_
      exact J70 x1_j56 x3_j56 x4_j56 t0_j56 30 sWalk_j56 sLps_j56 H locs ls hP hD hS (lv_sub hl [1, 2, 3, 4, 0] rfl) hf
  have J44 : ∀ (x1_j44 : Int64) (x3_j44 : Int32) (t0_j44 : Int32) (sWalk_j44 : S_Walk) (sLps_j44 : S_Lps) (H : Heap) (locs : List Loc) (ls : Array Slot), va_P D vwCl (fl [wWalk K hWalk (hFld 0) (hTab 0) (hProg 0) (hLps 0) sWalk_j44, wFld K hFld sFld, wLps K hLps sLps_j44]) H → va_D A (fl [wWalk K hWalk (hFld 0) (hTab 0) (hProg 0) (hLps 0) sWalk_j44, wFld K hFld sFld, wLps K hLps sLps_j44]) → va_S A s.heap H locs → lv_has ls 9 [(0, .ref (hWalk 0)), (1, .long x1_j44), (3, .int x3_j44)] → Walk_settle_j44 sFld x1_j44 x3_j44 t0_j44 sWalk_j44 sLps_j44 = some ((sWalk', sLps')) → W p l e rm_Walk_settle s m ([.ref (hWalk 0), .long a0] : List Value).toArray below meth c H locs 0 0 (Qv below ([.ref (hWalk 0), .long a0] : List Value).toArray s D K A (fl [wWalk K hWalk (hFld 0) (hTab 0) (hProg 0) (hLps 0) sWalk', wFld K hFld sFld, wLps K hLps sLps'])) (F0 m 44 ls [.int t0_j44]) := by
    intro x1_j44 x3_j44 t0_j44 sWalk_j44 sLps_j44 H locs ls hP hD hS hl hf
    refine lv_istore (lv' := [(4, .int t0_j44), (0, .ref (hWalk 0)), (1, .long x1_j44), (3, .int x3_j44)]) (pc := 44) hx hb d_Walk_settle_44 hl (by decide) rfl (fun ls hl => ?_)
    refine lv_iload (pc := 46) hx hb d_Walk_settle_46 (lv_at hl 0 rfl) ?_
    refine lv_if_eq (tgt := 55) (pc := 48) hx hb d_Walk_settle_48 (by decide) (fun c6 => ?_) (fun c6 => ?_)
    · replace hf := o_t c6 hf
      refine lv_lconst (v := 0) (pc := 55) hx hb d_Walk_settle_55 (by decide) ?_
      exact J56 x1_j44 x3_j44 t0_j44 0 sWalk_j44 sLps_j44 H locs ls hP hD hS (lv_sub hl [1, 2, 3, 0] rfl) hf
    · replace hf := o_f c6 hf
      refine lv_lconst (v := 1) (pc := 51) hx hb d_Walk_settle_51 (by decide) ?_
      refine lv_goto (tgt := 56) (pc := 52) hx hb d_Walk_settle_52 (by decide) ?_
      exact J56 x1_j44 x3_j44 t0_j44 1 sWalk_j44 sLps_j44 H locs ls hP hD hS (lv_sub hl [1, 2, 3, 0] rfl) hf
  refine lv_aload_n (pc := 0) hx hb d_Walk_settle_0 rfl (lv_at hl 0 rfl) ?_
  refine va_get (D := D) (ci := 3) (v := .ref (hFld 0)) (C := R_Walk) (T := T_Walk) (N := 18) (pc := 1) hx hb hts (fun w h => List.mem_cons_of_mem _ (in_Walk w h)) hown hK hP _ (fl_at 0 0 rfl rfl) rfl 0 (by decide) (hts _ (List.mem_cons_of_mem _ tw_205)) (fun _ h9 => h9) rfl d_Walk_settle_1 ?_
  refine va_get (D := D) (ci := 4) (v := .int (Fld_count sFld)) (C := R_Fld) (T := T_Fld) (N := 8) (pc := 4) hx hb hts (fun w h => List.mem_cons_of_mem _ (in_Fld w h)) hown hK hP _ (fl_at 1 0 rfl rfl) rfl 7 (by decide) (hts _ (List.mem_cons_of_mem _ tw_162)) (fun _ h9 => h9) rfl d_Walk_settle_4 ?_
  refine lv_iconst (v := 1) (pc := 7) hx hb d_Walk_settle_7 (by decide) ?_
  refine lv_isub (pc := 8) hx hb d_Walk_settle_8 ?_
  refine lv_istore_n (lv' := [(3, .int ((Fld_count sFld) - 1)), (0, .ref (hWalk 0)), (1, .long a0)]) (pc := 9) hx hb d_Walk_settle_9 rfl hl (by decide) rfl (fun ls hl => ?_)
  refine lv_iload_n (pc := 10) hx hb d_Walk_settle_10 rfl (lv_at hl 0 rfl) ?_
  refine lv_if_lt (tgt := 25) (pc := 11) hx hb d_Walk_settle_11 (by decide) (fun c5 => ?_) (fun c5 => ?_)
  · replace hf := o_t c5 hf
    cases hf
    exact ret_v hx hb hr hlocks hK hP hS d_Walk_settle_25
  · replace hf := o_f c5 hf
    refine lv_aload_n (pc := 14) hx hb d_Walk_settle_14 rfl (lv_at hl 1 rfl) ?_
    refine va_get (D := D) (ci := 3) (v := .ref (hFld 0)) (C := R_Walk) (T := T_Walk) (N := 18) (pc := 15) hx hb hts (fun w h => List.mem_cons_of_mem _ (in_Walk w h)) hown hK hP _ (fl_at 0 0 rfl rfl) rfl 0 (by decide) (hts _ (List.mem_cons_of_mem _ tw_205)) (fun _ h9 => h9) rfl d_Walk_settle_15 ?_
    refine lv_iload_n (pc := 18) hx hb d_Walk_settle_18 rfl (lv_at hl 0 rfl) ?_
    obtain ⟨q1, hq1, hf⟩ := o_bd_e hf
    refine fi_i (pc := 19) (va_runV (As := [.int ((Fld_count sFld) - 1)]) (rest := []) ⟨hx, hb, hml, hown, hts⟩ ((c_Fld_isCountOrBit l D K hFld sFld ((Fld_count sFld) - 1) q1 hq1) _) (cwV 1 hts (gV tw_626 tw_627 tw_628 tw_5 tw_629) rfl rfl rfl (by decide +kernel) ⟨by decide, by decide⟩) ⟨mPre_blind, va_recv hK hP (ci := 4) rfl (fl_at 1 0 rfl rfl), (mPre_fl hK hF hA hP hD hS [1] rfl rfl)⟩ rfl rfl hl.1 rfl (lv_room (Nat.le_of_ble_eq_true rfl)) d_Walk_settle_19 ⟨Nat.zero_le _, Nat.zero_le _⟩) hA hP hD hS [1] rfl rfl (fun H locs hP hD hS => ?_)
    have hP : va_P D vwCl (fl [wWalk K hWalk (hFld 0) (hTab 0) (hProg 0) (hLps 0) sWalk, wFld K hFld sFld, wLps K hLps sLps]) H := hP
    have hD : va_D A (fl [wWalk K hWalk (hFld 0) (hTab 0) (hProg 0) (hLps 0) sWalk, wFld K hFld sFld, wLps K hLps sLps]) := hD
    refine lv_if_ne (tgt := 26) (pc := 22) hx hb d_Walk_settle_22 (by decide) (fun c4 => ?_) (fun c4 => ?_)
    · replace hf := o_f c4 hf
      refine lv_aload_n (pc := 26) hx hb d_Walk_settle_26 rfl (lv_at hl 1 rfl) ?_
      refine va_get (D := D) (ci := 3) (v := .ref (hFld 0)) (C := R_Walk) (T := T_Walk) (N := 18) (pc := 27) hx hb hts (fun w h => List.mem_cons_of_mem _ (in_Walk w h)) hown hK hP _ (fl_at 0 0 rfl rfl) rfl 0 (by decide) (hts _ (List.mem_cons_of_mem _ tw_205)) (fun _ h9 => h9) rfl d_Walk_settle_27 ?_
      refine va_get (D := D) (ci := 4) (v := .ref (hFld 1)) (C := R_Fld) (T := T_Fld) (N := 8) (pc := 30) hx hb hts (fun w h => List.mem_cons_of_mem _ (in_Fld w h)) hown hK hP _ (fl_at 1 0 rfl rfl) rfl 0 (by decide) (hts _ (List.mem_cons_of_mem _ tw_136)) (fun _ h9 => h9) rfl d_Walk_settle_30 ?_
      refine lv_iload_n (pc := 33) hx hb d_Walk_settle_33 rfl (lv_at hl 0 rfl) ?_
      obtain ⟨hi2, hf⟩ := o_gi_e hf
      refine va_iald (D := D) (pc := 34) hx hb hK hP _ 0 (fl_at 1 1 rfl rfl) rfl hi2 d_Walk_settle_34 ?_
      refine lv_iconst (v := 2) (pc := 35) hx hb d_Walk_settle_35 (by decide) ?_
      refine lv_icmp_ne (tgt := 43) (pc := 36) hx hb d_Walk_settle_36 (by decide) (fun c3 => ?_) (fun c3 => ?_)
      · replace hf := o_f c3 hf
        refine lv_iconst (v := 0) (pc := 43) hx hb d_Walk_settle_43 (by decide) ?_
        exact J44 a0 ((Fld_count sFld) - 1) 0 sWalk sLps H locs ls hP hD hS (lv_sub hl [1, 2, 0] rfl) hf
      · replace hf := o_t c3 hf
        refine lv_iconst (v := 1) (pc := 39) hx hb d_Walk_settle_39 (by decide) ?_
        refine lv_goto (tgt := 44) (pc := 40) hx hb d_Walk_settle_40 (by decide) ?_
        exact J44 a0 ((Fld_count sFld) - 1) 1 sWalk sLps H locs ls hP hD hS (lv_sub hl [1, 2, 0] rfl) hf
    · replace hf := o_t c4 hf
      cases hf
      exact ret_v hx hb hr hlocks hK hP hS d_Walk_settle_25
def Walk_advance_j135 (fu : Nat) (sTab : S_Tab) (sProg : S_Prog) (kc_10 : Int32 → S_Walk → S_Fld → S_Lps → Option (Int32 × S_Walk × S_Fld × S_Lps)) (ke_10 : S_Walk → S_Fld → S_Lps → Option (Int32 × S_Walk × S_Fld × S_Lps)) (x1_L10 : Int32) (x2_j135 : Int32) (sWalk_j135 : S_Walk) (sFld_j135 : S_Fld) (sLps_j135 : S_Lps) : Option (Int32 × S_Walk × S_Fld × S_Lps) := kc_10 (x2_j135 + 1) sWalk_j135 sFld_j135 sLps_j135
def Walk_advance_L10 (fu : Nat) (sTab : S_Tab) (sProg : S_Prog) (x1_L10 : Int32) (ke_10 : S_Walk → S_Fld → S_Lps → Option (Int32 × S_Walk × S_Fld × S_Lps)) : Nat → Int32 → S_Walk → S_Fld → S_Lps → Option (Int32 × S_Walk × S_Fld × S_Lps)
  | 0, _, _, _, _ => none
  | n + 1, x2_L10, sWalk_L10, sFld_L10, sLps_L10 => if 2000 < x2_L10 then ke_10 sWalk_L10 sFld_L10 sLps_L10 else if (Walk_fault sWalk_L10) = 0 then if (Fld_count sFld_L10) = x1_L10 then if (Walk_dueKind sWalk_L10) = 0 then (o_bd (Walk_giveFromEntry fu sTab sLps_L10 sWalk_L10 sFld_L10) fun q2 => (Walk_advance_j135 fu sTab sProg (fun v0 v1 v2 v3 => Walk_advance_L10 fu sTab sProg x1_L10 ke_10 n v0 v1 v2 v3) ke_10 x1_L10 x2_L10 q2.1 q2.2 sLps_L10)) else if (Walk_dueKind sWalk_L10) = 1 then (o_bd (Walk_giveQuality sLps_L10 sWalk_L10 sFld_L10) fun q4 => (Walk_advance_j135 fu sTab sProg (fun v0 v1 v2 v3 => Walk_advance_L10 fu sTab sProg x1_L10 ke_10 n v0 v1 v2 v3) ke_10 x1_L10 x2_L10 q4.1 q4.2 sLps_L10)) else if (Walk_dueKind sWalk_L10) = 2 then (o_bd (Walk_giveFromEntry fu sTab sLps_L10 sWalk_L10 sFld_L10) fun q6 => (Walk_advance_j135 fu sTab sProg (fun v0 v1 v2 v3 => Walk_advance_L10 fu sTab sProg x1_L10 ke_10 n v0 v1 v2 v3) ke_10 x1_L10 x2_L10 q6.1 q6.2 sLps_L10)) else if (Walk_dueKind sWalk_L10) = 3 then (o_bd (Walk_giveBit sLps_L10 sWalk_L10 sFld_L10) fun q8 => (Walk_advance_j135 fu sTab sProg (fun v0 v1 v2 v3 => Walk_advance_L10 fu sTab sProg x1_L10 ke_10 n v0 v1 v2 v3) ke_10 x1_L10 x2_L10 q8.1 q8.2 sLps_L10)) else if (Walk_dueKind sWalk_L10) = 4 then (o_bd (Walk_giveMark sLps_L10 sWalk_L10 sFld_L10) fun q10 => (Walk_advance_j135 fu sTab sProg (fun v0 v1 v2 v3 => Walk_advance_L10 fu sTab sProg x1_L10 ke_10 n v0 v1 v2 v3) ke_10 x1_L10 x2_L10 q10.1 q10.2 sLps_L10)) else o_bd (Lps_onFrom fu (Walk_at sWalk_L10) sLps_L10) fun q11 => (o_lt (Walk_set_at sWalk_L10 q11.1) fun sWalk_12 => (if (Walk_at sWalk_12) < (Prog_size sProg) then o_bd (Walk_comeToNext fu sProg sFld_L10 sWalk_12 q11.2) fun q13 => (Walk_advance_j135 fu sTab sProg (fun v0 v1 v2 v3 => Walk_advance_L10 fu sTab sProg x1_L10 ke_10 n v0 v1 v2 v3) ke_10 x1_L10 x2_L10 q13.1 sFld_L10 q13.2) else some ((0, sWalk_12, sFld_L10, q11.2)))) else ke_10 sWalk_L10 sFld_L10 sLps_L10 else ke_10 sWalk_L10 sFld_L10 sLps_L10
def Walk_advance_j141 (fu : Nat) (sTab : S_Tab) (sProg : S_Prog) (x1_j141 : Int32) (sWalk_j141 : S_Walk) (sFld_j141 : S_Fld) (sLps_j141 : S_Lps) : Option (Int32 × S_Walk × S_Fld × S_Lps) := if (Walk_fault sWalk_j141) = 0 then if (Fld_count sFld_j141) ≤ x1_j141 then some ((0, sWalk_j141, sFld_j141, sLps_j141)) else some ((1, sWalk_j141, sFld_j141, sLps_j141)) else some ((0, sWalk_j141, sFld_j141, sLps_j141))
def Walk_advance (fu : Nat) (sTab : S_Tab) (sProg : S_Prog) (sWalk : S_Walk) (sFld : S_Fld) (sLps : S_Lps) : Option (Int32 × S_Walk × S_Fld × S_Lps) := Walk_advance_L10 fu sTab sProg (Fld_count sFld) (fun zWalk zFld zLps => Walk_advance_j141 fu sTab sProg (Fld_count sFld) zWalk zFld zLps) fu 0 sWalk sFld sLps
abbrev rm_Walk_advance : Room := { frames := 3, cells := 0, slots := 0, locals := 76 }
set_option maxHeartbeats 4000000 in
set_option maxRecDepth 100000 in
theorem c_Walk_advance (l : Launch) (D : va_G) (K : Nat → ClassId) (fu : Nat) (hTab : Nat → Nat) (hProg : Nat → Nat) (hWalk : Nat → Nat) (hFld : Nat → Nat) (hLps : Nat → Nat) (sTab : S_Tab) (sProg : S_Prog) (sWalk : S_Walk) (sFld : S_Fld) (sLps : S_Lps) (r : Int32) (sWalk' : S_Walk) (sFld' : S_Fld) (sLps' : S_Lps) (hf : Walk_advance fu sTab sProg sWalk sFld sLps = some ((r, sWalk', sFld', sLps'))) : mi l D K y_Walk_advance ws_Walk_advance rm_Walk_advance [.ref (hWalk 0)] (fl [wTab K hTab sTab, wProg K hProg (hTab 0) sProg, wWalk K hWalk (hFld 0) (hTab 0) (hProg 0) (hLps 0) sWalk, wFld K hFld sFld, wLps K hLps sLps]) (fl [wTab K hTab sTab, wProg K hProg (hTab 0) sProg, wWalk K hWalk (hFld 0) (hTab 0) (hProg 0) (hLps 0) sWalk', wFld K hFld sFld', wLps K hLps sLps']) r := by
  refine mi_of (cc := b_Walk_advance) (maxL := 3) (own := "ObsMessages$Walk") (by decide) rfl rfl (Nat.le_of_ble_eq_true rfl) ?_
  intro p e s m below meth c A ls hC hP hD hS hl
  obtain ⟨hx, hb, hml, hown, hts, hr, hlocks, hK, hF, hA⟩ := hC
  have hP : va_P D vwCl (fl [wTab K hTab sTab, wProg K hProg (hTab 0) sProg, wWalk K hWalk (hFld 0) (hTab 0) (hProg 0) (hLps 0) sWalk, wFld K hFld sFld, wLps K hLps sLps]) s.heap := hP
  have hl : lv_has ls 3 [(0, .ref (hWalk 0))] := hl
  suffices hW : ∀ (H : Heap) (locs : List Loc), va_P D vwCl (fl [wTab K hTab sTab, wProg K hProg (hTab 0) sProg, wWalk K hWalk (hFld 0) (hTab 0) (hProg 0) (hLps 0) sWalk, wFld K hFld sFld, wLps K hLps sLps]) H → va_S A s.heap H locs → W p l e rm_Walk_advance s m ([.ref (hWalk 0)] : List Value).toArray below meth c H locs 0 0 (Qi below ([.ref (hWalk 0)] : List Value).toArray s D K A (fl [wTab K hTab sTab, wProg K hProg (hTab 0) sProg, wWalk K hWalk (hFld 0) (hTab 0) (hProg 0) (hLps 0) sWalk', wFld K hFld sFld', wLps K hLps sLps']) r) (F0 m 0 ls []) from hW s.heap [] hP hS
  clear hP hS
  intro H locs hP hS
  have J141 : ∀ (x1_j141 : Int32) (sWalk_j141 : S_Walk) (sFld_j141 : S_Fld) (sLps_j141 : S_Lps) (H : Heap) (locs : List Loc) (ls : Array Slot), va_P D vwCl (fl [wTab K hTab sTab, wProg K hProg (hTab 0) sProg, wWalk K hWalk (hFld 0) (hTab 0) (hProg 0) (hLps 0) sWalk_j141, wFld K hFld sFld_j141, wLps K hLps sLps_j141]) H → va_D A (fl [wTab K hTab sTab, wProg K hProg (hTab 0) sProg, wWalk K hWalk (hFld 0) (hTab 0) (hProg 0) (hLps 0) sWalk_j141, wFld K hFld sFld_j141, wLps K hLps sLps_j141]) → va_S A s.heap H locs → lv_has ls 3 [(0, .ref (hWalk 0)), (1, .int x1_j141)] → Walk_advance_j141 fu sTab sProg x1_j141 sWalk_j141 sFld_j141 sLps_j141 = some ((r, sWalk', sFld', sLps')) → W p l e rm_Walk_advance s m ([.ref (hWalk 0)] : List Value).toArray below meth c H locs 0 0 (Qi below ([.ref (hWalk 0)] : List Value).toArray s D K A (fl [wTab K hTab sTab, wProg K hProg (hTab 0) sProg, wWalk K hWalk (hFld 0) (hTab 0) (hProg 0) (hLps 0) sWalk', wFld K hFld sFld', wLps K hLps sLps']) r) (F0 m 141 ls []) := by
    intro x1_j141 sWalk_j141 sFld_j141 sLps_j141 H locs ls hP hD hS hl hf
    refine lv_aload_n (pc := 141) hx hb d_Walk_advance_141 rfl (lv_at hl 0 rfl) ?_
    refine va_get (D := D) (ci := 3) (v := .int (Walk_fault sWalk_j141)) (C := R_Walk) (T := T_Walk) (N := 18) (pc := 142) hx hb hts (fun w h => List.mem_cons_of_mem _ (in_Walk w h)) hown hK hP _ (fl_at 2 0 rfl rfl) rfl 1 (by decide) (hts _ (List.mem_cons_of_mem _ tw_209)) (fun _ h9 => h9) rfl d_Walk_advance_142 ?_
    refine lv_if_ne (tgt := 163) (pc := 145) hx hb d_Walk_advance_145 (by decide) (fun c19 => ?_) (fun c19 => ?_)
    · replace hf := o_f c19 hf
      refine lv_iconst (v := 0) (pc := 163) hx hb d_Walk_advance_163 (by decide) ?_
      cases hf
      exact ret_z hx hb hr hlocks hK hP hS rfl d_Walk_advance_164
    · replace hf := o_t c19 hf
      refine lv_aload_n (pc := 148) hx hb d_Walk_advance_148 rfl (lv_at hl 0 rfl) ?_
      refine va_get (D := D) (ci := 3) (v := .ref (hFld 0)) (C := R_Walk) (T := T_Walk) (N := 18) (pc := 149) hx hb hts (fun w h => List.mem_cons_of_mem _ (in_Walk w h)) hown hK hP _ (fl_at 2 0 rfl rfl) rfl 0 (by decide) (hts _ (List.mem_cons_of_mem _ tw_205)) (fun _ h9 => h9) rfl d_Walk_advance_149 ?_
      refine va_get (D := D) (ci := 4) (v := .int (Fld_count sFld_j141)) (C := R_Fld) (T := T_Fld) (N := 8) (pc := 152) hx hb hts (fun w h => List.mem_cons_of_mem _ (in_Fld w h)) hown hK hP _ (fl_at 3 0 rfl rfl) rfl 7 (by decide) (hts _ (List.mem_cons_of_mem _ tw_162)) (fun _ h9 => h9) rfl d_Walk_advance_152 ?_
      refine lv_iload_n (pc := 155) hx hb d_Walk_advance_155 rfl (lv_at hl 1 rfl) ?_
      refine lv_icmp_le (tgt := 163) (pc := 156) hx hb d_Walk_advance_156 (by decide) (fun c18 => ?_) (fun c18 => ?_)
      · replace hf := o_t c18 hf
        refine lv_iconst (v := 0) (pc := 163) hx hb d_Walk_advance_163 (by decide) ?_
        cases hf
        exact ret_z hx hb hr hlocks hK hP hS rfl d_Walk_advance_164
      · replace hf := o_f c18 hf
        refine lv_iconst (v := 1) (pc := 159) hx hb d_Walk_advance_159 (by decide) ?_
        refine lv_goto (tgt := 164) (pc := 160) hx hb d_Walk_advance_160 (by decide) ?_
        cases hf
        exact ret_z hx hb hr hlocks hK hP hS rfl d_Walk_advance_164
  refine lv_aload_n (pc := 0) hx hb d_Walk_advance_0 rfl (lv_at hl 0 rfl) ?_
  refine va_get (D := D) (ci := 3) (v := .ref (hFld 0)) (C := R_Walk) (T := T_Walk) (N := 18) (pc := 1) hx hb hts (fun w h => List.mem_cons_of_mem _ (in_Walk w h)) hown hK hP _ (fl_at 2 0 rfl rfl) rfl 0 (by decide) (hts _ (List.mem_cons_of_mem _ tw_205)) (fun _ h9 => h9) rfl d_Walk_advance_1 ?_
  refine va_get (D := D) (ci := 4) (v := .int (Fld_count sFld)) (C := R_Fld) (T := T_Fld) (N := 8) (pc := 4) hx hb hts (fun w h => List.mem_cons_of_mem _ (in_Fld w h)) hown hK hP _ (fl_at 3 0 rfl rfl) rfl 7 (by decide) (hts _ (List.mem_cons_of_mem _ tw_162)) (fun _ h9 => h9) rfl d_Walk_advance_4 ?_
  refine lv_istore_n (lv' := [(1, .int (Fld_count sFld)), (0, .ref (hWalk 0))]) (pc := 7) hx hb d_Walk_advance_7 rfl hl (by decide) rfl (fun ls hl => ?_)
  refine lv_iconst (v := 0) (pc := 8) hx hb d_Walk_advance_8 (by decide) ?_
  refine lv_istore_n (lv' := [(2, .int 0), (1, .int (Fld_count sFld)), (0, .ref (hWalk 0))]) (pc := 9) hx hb d_Walk_advance_9 rfl hl (by decide) rfl (fun ls hl => ?_)
  have L10 : ∀ (x1_L10 : Int32) (n : Nat) (x2_L10 : Int32) (sWalk_L10 : S_Walk) (sFld_L10 : S_Fld) (sLps_L10 : S_Lps) (H : Heap) (locs : List Loc) (ls : Array Slot), va_P D vwCl (fl [wTab K hTab sTab, wProg K hProg (hTab 0) sProg, wWalk K hWalk (hFld 0) (hTab 0) (hProg 0) (hLps 0) sWalk_L10, wFld K hFld sFld_L10, wLps K hLps sLps_L10]) H → va_D A (fl [wTab K hTab sTab, wProg K hProg (hTab 0) sProg, wWalk K hWalk (hFld 0) (hTab 0) (hProg 0) (hLps 0) sWalk_L10, wFld K hFld sFld_L10, wLps K hLps sLps_L10]) → va_S A s.heap H locs → lv_has ls 3 [(0, .ref (hWalk 0)), (1, .int x1_L10), (2, .int x2_L10)] → Walk_advance_L10 fu sTab sProg x1_L10 (fun zWalk zFld zLps => Walk_advance_j141 fu sTab sProg x1_L10 zWalk zFld zLps) n x2_L10 sWalk_L10 sFld_L10 sLps_L10 = some ((r, sWalk', sFld', sLps')) → W p l e rm_Walk_advance s m ([.ref (hWalk 0)] : List Value).toArray below meth c H locs 0 0 (Qi below ([.ref (hWalk 0)] : List Value).toArray s D K A (fl [wTab K hTab sTab, wProg K hProg (hTab 0) sProg, wWalk K hWalk (hFld 0) (hTab 0) (hProg 0) (hLps 0) sWalk', wFld K hFld sFld', wLps K hLps sLps']) r) (F0 m 10 ls []) := by
    intro x1_L10 n
    induction n with
    | zero =>
      intro x2_L10 sWalk_L10 sFld_L10 sLps_L10 H locs ls hP hD hS hl hf
      exact absurd hf (fun h => nomatch h)
    | succ n_10 ih_10 =>
      intro x2_L10 sWalk_L10 sFld_L10 sLps_L10 H locs ls hP hD hS hl hf
      have J135 : ∀ (x2_j135 : Int32) (sWalk_j135 : S_Walk) (sFld_j135 : S_Fld) (sLps_j135 : S_Lps) (H : Heap) (locs : List Loc) (ls : Array Slot), va_P D vwCl (fl [wTab K hTab sTab, wProg K hProg (hTab 0) sProg, wWalk K hWalk (hFld 0) (hTab 0) (hProg 0) (hLps 0) sWalk_j135, wFld K hFld sFld_j135, wLps K hLps sLps_j135]) H → va_D A (fl [wTab K hTab sTab, wProg K hProg (hTab 0) sProg, wWalk K hWalk (hFld 0) (hTab 0) (hProg 0) (hLps 0) sWalk_j135, wFld K hFld sFld_j135, wLps K hLps sLps_j135]) → va_S A s.heap H locs → lv_has ls 3 [(0, .ref (hWalk 0)), (1, .int x1_L10), (2, .int x2_j135)] → Walk_advance_j135 fu sTab sProg (fun v0 v1 v2 v3 => Walk_advance_L10 fu sTab sProg x1_L10 (fun zWalk zFld zLps => Walk_advance_j141 fu sTab sProg x1_L10 zWalk zFld zLps) n_10 v0 v1 v2 v3) (fun zWalk zFld zLps => Walk_advance_j141 fu sTab sProg x1_L10 zWalk zFld zLps) x1_L10 x2_j135 sWalk_j135 sFld_j135 sLps_j135 = some ((r, sWalk', sFld', sLps')) → W p l e rm_Walk_advance s m ([.ref (hWalk 0)] : List Value).toArray below meth c H locs 0 0 (Qi below ([.ref (hWalk 0)] : List Value).toArray s D K A (fl [wTab K hTab sTab, wProg K hProg (hTab 0) sProg, wWalk K hWalk (hFld 0) (hTab 0) (hProg 0) (hLps 0) sWalk', wFld K hFld sFld', wLps K hLps sLps']) r) (F0 m 135 ls []) := by
        intro x2_j135 sWalk_j135 sFld_j135 sLps_j135 H locs ls hP hD hS hl hf
        refine lv_iinc (v := x2_j135 + 1) (lv' := [(2, .int (x2_j135 + 1)), (0, .ref (hWalk 0)), (1, .int x1_L10)]) (pc := 135) hx hb d_Walk_advance_135 hl (k := 2) rfl rfl (by decide) rfl (fun ls hl => ?_)
        refine lv_goto (tgt := 10) (pc := 138) hx hb d_Walk_advance_138 (by decide) ?_
        exact ih_10 (x2_j135 + 1) sWalk_j135 sFld_j135 sLps_j135 H locs ls hP hD hS (lv_sub hl [1, 2, 0] rfl) hf
      refine lv_iload_n (pc := 10) hx hb d_Walk_advance_10 rfl (lv_at hl 2 rfl) ?_
      refine lv_sipush (v := 2000) (pc := 11) hx hb d_Walk_advance_11 (by decide) ?_
      refine lv_icmp_gt (tgt := 141) (pc := 14) hx hb d_Walk_advance_14 (by decide) (fun c17 => ?_) (fun c17 => ?_)
      · replace hf := o_t c17 hf
        exact J141 x1_L10 sWalk_L10 sFld_L10 sLps_L10 H locs ls hP hD hS (lv_sub hl [0, 1] rfl) hf
      · replace hf := o_f c17 hf
        refine lv_aload_n (pc := 17) hx hb d_Walk_advance_17 rfl (lv_at hl 0 rfl) ?_
        refine va_get (D := D) (ci := 3) (v := .int (Walk_fault sWalk_L10)) (C := R_Walk) (T := T_Walk) (N := 18) (pc := 18) hx hb hts (fun w h => List.mem_cons_of_mem _ (in_Walk w h)) hown hK hP _ (fl_at 2 0 rfl rfl) rfl 1 (by decide) (hts _ (List.mem_cons_of_mem _ tw_209)) (fun _ h9 => h9) rfl d_Walk_advance_18 ?_
        refine lv_if_ne (tgt := 141) (pc := 21) hx hb d_Walk_advance_21 (by decide) (fun c16 => ?_) (fun c16 => ?_)
        · replace hf := o_f c16 hf
          exact J141 x1_L10 sWalk_L10 sFld_L10 sLps_L10 H locs ls hP hD hS (lv_sub hl [0, 1] rfl) hf
        · replace hf := o_t c16 hf
          refine lv_aload_n (pc := 24) hx hb d_Walk_advance_24 rfl (lv_at hl 0 rfl) ?_
          refine va_get (D := D) (ci := 3) (v := .ref (hFld 0)) (C := R_Walk) (T := T_Walk) (N := 18) (pc := 25) hx hb hts (fun w h => List.mem_cons_of_mem _ (in_Walk w h)) hown hK hP _ (fl_at 2 0 rfl rfl) rfl 0 (by decide) (hts _ (List.mem_cons_of_mem _ tw_205)) (fun _ h9 => h9) rfl d_Walk_advance_25 ?_
          refine va_get (D := D) (ci := 4) (v := .int (Fld_count sFld_L10)) (C := R_Fld) (T := T_Fld) (N := 8) (pc := 28) hx hb hts (fun w h => List.mem_cons_of_mem _ (in_Fld w h)) hown hK hP _ (fl_at 3 0 rfl rfl) rfl 7 (by decide) (hts _ (List.mem_cons_of_mem _ tw_162)) (fun _ h9 => h9) rfl d_Walk_advance_28 ?_
          refine lv_iload_n (pc := 31) hx hb d_Walk_advance_31 rfl (lv_at hl 1 rfl) ?_
          refine lv_icmp_ne (tgt := 141) (pc := 32) hx hb d_Walk_advance_32 (by decide) (fun c15 => ?_) (fun c15 => ?_)
          · replace hf := o_f c15 hf
            exact J141 x1_L10 sWalk_L10 sFld_L10 sLps_L10 H locs ls hP hD hS (lv_sub hl [0, 1] rfl) hf
          · replace hf := o_t c15 hf
            refine lv_aload_n (pc := 35) hx hb d_Walk_advance_35 rfl (lv_at hl 0 rfl) ?_
            refine va_get (D := D) (ci := 3) (v := .int (Walk_dueKind sWalk_L10)) (C := R_Walk) (T := T_Walk) (N := 18) (pc := 36) hx hb hts (fun w h => List.mem_cons_of_mem _ (in_Walk w h)) hown hK hP _ (fl_at 2 0 rfl rfl) rfl 14 (by decide) (hts _ (List.mem_cons_of_mem _ tw_226)) (fun _ h9 => h9) rfl d_Walk_advance_36 ?_
            rcases Classical.em ((Walk_dueKind sWalk_L10) = 0) with c1 | c1
            · replace hf := o_t c1 hf
              refine lv_tableIn (tgt := 79) (pc := 39) hx hb d_Walk_advance_39 (by rw [c1]; decide) (by rw [c1]; decide) (by rw [c1]; rfl) (by decide) ?_
              refine lv_aload_n (pc := 79) hx hb d_Walk_advance_79 rfl (lv_at hl 0 rfl) ?_
              obtain ⟨q2, hq2, hf⟩ := o_bd_e hf
              refine fi_v (pc := 80) (va_runV (As := []) (rest := []) ⟨hx, hb, hml, hown, hts⟩ ((c_Walk_giveFromEntry l D K fu hTab hProg hWalk hFld hLps sTab sWalk_L10 sFld_L10 sLps_L10 q2.1 q2.2 hq2) _) (cwV 0 hts (gV tw_572 tw_574 tp_13 tw_4 tw_575) rfl rfl rfl (by decide +kernel) ⟨by decide, by decide⟩) ⟨mPre_blind, va_recv hK hP (ci := 3) rfl (fl_at 2 0 rfl rfl), (mPre_fl hK hF hA hP hD hS [0, 2, 3, 4] rfl rfl)⟩ rfl rfl hl.1 rfl (lv_room (Nat.le_of_ble_eq_true rfl)) d_Walk_advance_80 ⟨Nat.zero_le _, Nat.zero_le _⟩) hA hP hD hS [0, 2, 3, 4] rfl rfl (fun H locs hP hD hS => ?_)
              have hP : va_P D vwCl (fl [wTab K hTab sTab, wProg K hProg (hTab 0) sProg, wWalk K hWalk (hFld 0) (hTab 0) (hProg 0) (hLps 0) q2.1, wFld K hFld q2.2, wLps K hLps sLps_L10]) H := hP
              have hD : va_D A (fl [wTab K hTab sTab, wProg K hProg (hTab 0) sProg, wWalk K hWalk (hFld 0) (hTab 0) (hProg 0) (hLps 0) q2.1, wFld K hFld q2.2, wLps K hLps sLps_L10]) := hD
              refine lv_goto (tgt := 135) (pc := 83) hx hb d_Walk_advance_83 (by decide) ?_
              exact J135 x2_L10 q2.1 q2.2 sLps_L10 H locs ls hP hD hS (lv_sub hl [0, 1, 2] rfl) hf
            · replace hf := o_f c1 hf
              rcases Classical.em ((Walk_dueKind sWalk_L10) = 1) with c3 | c3
              · replace hf := o_t c3 hf
                refine lv_tableIn (tgt := 72) (pc := 39) hx hb d_Walk_advance_39 (by rw [c3]; decide) (by rw [c3]; decide) (by rw [c3]; rfl) (by decide) ?_
                refine lv_aload_n (pc := 72) hx hb d_Walk_advance_72 rfl (lv_at hl 0 rfl) ?_
                obtain ⟨q4, hq4, hf⟩ := o_bd_e hf
                refine fi_v (pc := 73) (va_runV (As := []) (rest := []) ⟨hx, hb, hml, hown, hts⟩ ((c_Walk_giveQuality l D K hTab hProg hWalk hFld hLps sWalk_L10 sFld_L10 sLps_L10 q4.1 q4.2 hq4) _) (cwV 0 hts (gV tw_556 tw_558 tp_11 tw_4 tw_559) rfl rfl rfl (by decide +kernel) ⟨by decide, by decide⟩) ⟨mPre_blind, va_recv hK hP (ci := 3) rfl (fl_at 2 0 rfl rfl), (mPre_fl hK hF hA hP hD hS [2, 3, 4] rfl rfl)⟩ rfl rfl hl.1 rfl (lv_room (Nat.le_of_ble_eq_true rfl)) d_Walk_advance_73 ⟨Nat.zero_le _, Nat.zero_le _⟩) hA hP hD hS [2, 3, 4] rfl rfl (fun H locs hP hD hS => ?_)
                have hP : va_P D vwCl (fl [wTab K hTab sTab, wProg K hProg (hTab 0) sProg, wWalk K hWalk (hFld 0) (hTab 0) (hProg 0) (hLps 0) q4.1, wFld K hFld q4.2, wLps K hLps sLps_L10]) H := hP
                have hD : va_D A (fl [wTab K hTab sTab, wProg K hProg (hTab 0) sProg, wWalk K hWalk (hFld 0) (hTab 0) (hProg 0) (hLps 0) q4.1, wFld K hFld q4.2, wLps K hLps sLps_L10]) := hD
                refine lv_goto (tgt := 135) (pc := 76) hx hb d_Walk_advance_76 (by decide) ?_
                exact J135 x2_L10 q4.1 q4.2 sLps_L10 H locs ls hP hD hS (lv_sub hl [0, 1, 2] rfl) hf
              · replace hf := o_f c3 hf
                rcases Classical.em ((Walk_dueKind sWalk_L10) = 2) with c5 | c5
                · replace hf := o_t c5 hf
                  refine lv_tableIn (tgt := 79) (pc := 39) hx hb d_Walk_advance_39 (by rw [c5]; decide) (by rw [c5]; decide) (by rw [c5]; rfl) (by decide) ?_
                  refine lv_aload_n (pc := 79) hx hb d_Walk_advance_79 rfl (lv_at hl 0 rfl) ?_
                  obtain ⟨q6, hq6, hf⟩ := o_bd_e hf
                  refine fi_v (pc := 80) (va_runV (As := []) (rest := []) ⟨hx, hb, hml, hown, hts⟩ ((c_Walk_giveFromEntry l D K fu hTab hProg hWalk hFld hLps sTab sWalk_L10 sFld_L10 sLps_L10 q6.1 q6.2 hq6) _) (cwV 0 hts (gV tw_572 tw_574 tp_13 tw_4 tw_575) rfl rfl rfl (by decide +kernel) ⟨by decide, by decide⟩) ⟨mPre_blind, va_recv hK hP (ci := 3) rfl (fl_at 2 0 rfl rfl), (mPre_fl hK hF hA hP hD hS [0, 2, 3, 4] rfl rfl)⟩ rfl rfl hl.1 rfl (lv_room (Nat.le_of_ble_eq_true rfl)) d_Walk_advance_80 ⟨Nat.zero_le _, Nat.zero_le _⟩) hA hP hD hS [0, 2, 3, 4] rfl rfl (fun H locs hP hD hS => ?_)
                  have hP : va_P D vwCl (fl [wTab K hTab sTab, wProg K hProg (hTab 0) sProg, wWalk K hWalk (hFld 0) (hTab 0) (hProg 0) (hLps 0) q6.1, wFld K hFld q6.2, wLps K hLps sLps_L10]) H := hP
                  have hD : va_D A (fl [wTab K hTab sTab, wProg K hProg (hTab 0) sProg, wWalk K hWalk (hFld 0) (hTab 0) (hProg 0) (hLps 0) q6.1, wFld K hFld q6.2, wLps K hLps sLps_L10]) := hD
                  refine lv_goto (tgt := 135) (pc := 83) hx hb d_Walk_advance_83 (by decide) ?_
                  exact J135 x2_L10 q6.1 q6.2 sLps_L10 H locs ls hP hD hS (lv_sub hl [0, 1, 2] rfl) hf
                · replace hf := o_f c5 hf
                  rcases Classical.em ((Walk_dueKind sWalk_L10) = 3) with c7 | c7
                  · replace hf := o_t c7 hf
                    refine lv_tableIn (tgt := 86) (pc := 39) hx hb d_Walk_advance_39 (by rw [c7]; decide) (by rw [c7]; decide) (by rw [c7]; rfl) (by decide) ?_
                    refine lv_aload_n (pc := 86) hx hb d_Walk_advance_86 rfl (lv_at hl 0 rfl) ?_
                    obtain ⟨q8, hq8, hf⟩ := o_bd_e hf
                    refine fi_v (pc := 87) (va_runV (As := []) (rest := []) ⟨hx, hb, hml, hown, hts⟩ ((c_Walk_giveBit l D K hTab hProg hWalk hFld hLps sWalk_L10 sFld_L10 sLps_L10 q8.1 q8.2 hq8) _) (cwV 0 hts (gV tw_579 tw_581 tp_14 tw_4 tw_582) rfl rfl rfl (by decide +kernel) ⟨by decide, by decide⟩) ⟨mPre_blind, va_recv hK hP (ci := 3) rfl (fl_at 2 0 rfl rfl), (mPre_fl hK hF hA hP hD hS [2, 3, 4] rfl rfl)⟩ rfl rfl hl.1 rfl (lv_room (Nat.le_of_ble_eq_true rfl)) d_Walk_advance_87 ⟨Nat.zero_le _, Nat.zero_le _⟩) hA hP hD hS [2, 3, 4] rfl rfl (fun H locs hP hD hS => ?_)
                    have hP : va_P D vwCl (fl [wTab K hTab sTab, wProg K hProg (hTab 0) sProg, wWalk K hWalk (hFld 0) (hTab 0) (hProg 0) (hLps 0) q8.1, wFld K hFld q8.2, wLps K hLps sLps_L10]) H := hP
                    have hD : va_D A (fl [wTab K hTab sTab, wProg K hProg (hTab 0) sProg, wWalk K hWalk (hFld 0) (hTab 0) (hProg 0) (hLps 0) q8.1, wFld K hFld q8.2, wLps K hLps sLps_L10]) := hD
                    refine lv_goto (tgt := 135) (pc := 90) hx hb d_Walk_advance_90 (by decide) ?_
                    exact J135 x2_L10 q8.1 q8.2 sLps_L10 H locs ls hP hD hS (lv_sub hl [0, 1, 2] rfl) hf
                  · replace hf := o_f c7 hf
                    rcases Classical.em ((Walk_dueKind sWalk_L10) = 4) with c9 | c9
                    · replace hf := o_t c9 hf
                      refine lv_tableIn (tgt := 93) (pc := 39) hx hb d_Walk_advance_39 (by rw [c9]; decide) (by rw [c9]; decide) (by rw [c9]; rfl) (by decide) ?_
                      refine lv_aload_n (pc := 93) hx hb d_Walk_advance_93 rfl (lv_at hl 0 rfl) ?_
                      obtain ⟨q10, hq10, hf⟩ := o_bd_e hf
                      refine fi_v (pc := 94) (va_runV (As := []) (rest := []) ⟨hx, hb, hml, hown, hts⟩ ((c_Walk_giveMark l D K hTab hProg hWalk hFld hLps sWalk_L10 sFld_L10 sLps_L10 q10.1 q10.2 hq10) _) (cwV 0 hts (gV tw_583 tw_585 tp_15 tw_4 tw_586) rfl rfl rfl (by decide +kernel) ⟨by decide, by decide⟩) ⟨mPre_blind, va_recv hK hP (ci := 3) rfl (fl_at 2 0 rfl rfl), (mPre_fl hK hF hA hP hD hS [2, 3, 4] rfl rfl)⟩ rfl rfl hl.1 rfl (lv_room (Nat.le_of_ble_eq_true rfl)) d_Walk_advance_94 ⟨Nat.zero_le _, Nat.zero_le _⟩) hA hP hD hS [2, 3, 4] rfl rfl (fun H locs hP hD hS => ?_)
                      have hP : va_P D vwCl (fl [wTab K hTab sTab, wProg K hProg (hTab 0) sProg, wWalk K hWalk (hFld 0) (hTab 0) (hProg 0) (hLps 0) q10.1, wFld K hFld q10.2, wLps K hLps sLps_L10]) H := hP
                      have hD : va_D A (fl [wTab K hTab sTab, wProg K hProg (hTab 0) sProg, wWalk K hWalk (hFld 0) (hTab 0) (hProg 0) (hLps 0) q10.1, wFld K hFld q10.2, wLps K hLps sLps_L10]) := hD
                      refine lv_goto (tgt := 135) (pc := 97) hx hb d_Walk_advance_97 (by decide) ?_
                      exact J135 x2_L10 q10.1 q10.2 sLps_L10 H locs ls hP hD hS (lv_sub hl [0, 1, 2] rfl) hf
                    · replace hf := o_f c9 hf
                      refine lv_tableOut (tgt := 100) (pc := 39) hx hb d_Walk_advance_39 (by have := lv_neT (a := 0) c1 (by decide); have := lv_neT (a := 1) c3 (by decide); have := lv_neT (a := 2) c5 (by decide); have := lv_neT (a := 3) c7 (by decide); have := lv_neT (a := 4) c9 (by decide); omega) (by decide) ?_
                      refine lv_aload_n (pc := 100) hx hb d_Walk_advance_100 rfl (lv_at hl 0 rfl) ?_
                      refine lv_aload_n (pc := 101) hx hb d_Walk_advance_101 rfl (lv_at hl 0 rfl) ?_
                      refine va_get (D := D) (ci := 3) (v := .ref (hLps 0)) (C := R_Walk) (T := T_Walk) (N := 18) (pc := 102) hx hb hts (fun w h => List.mem_cons_of_mem _ (in_Walk w h)) hown hK hP _ (fl_at 2 0 rfl rfl) rfl 5 (by decide) (hts _ (List.mem_cons_of_mem _ tw_217)) (fun _ h9 => h9) rfl d_Walk_advance_102 ?_
                      refine lv_aload_n (pc := 105) hx hb d_Walk_advance_105 rfl (lv_at hl 0 rfl) ?_
                      refine va_get (D := D) (ci := 3) (v := .int (Walk_at sWalk_L10)) (C := R_Walk) (T := T_Walk) (N := 18) (pc := 106) hx hb hts (fun w h => List.mem_cons_of_mem _ (in_Walk w h)) hown hK hP _ (fl_at 2 0 rfl rfl) rfl 12 (by decide) (hts _ (List.mem_cons_of_mem _ tw_224)) (fun _ h9 => h9) rfl d_Walk_advance_106 ?_
                      obtain ⟨q11, hq11, hf⟩ := o_bd_e hf
                      refine fi_i (pc := 109) (va_runV (As := [.int (Walk_at sWalk_L10)]) (rest := [.ref (hWalk 0)]) ⟨hx, hb, hml, hown, hts⟩ ((c_Lps_onFrom l D K fu hLps sLps_L10 (Walk_at sWalk_L10) q11.1 q11.2 hq11) _) (cwV 1 hts (gV tw_587 tw_588 tw_589 tw_6 tw_590) rfl rfl rfl (by decide +kernel) ⟨by decide, by decide⟩) ⟨mPre_blind, va_recv hK hP (ci := 5) rfl (fl_at 4 0 rfl rfl), (mPre_fl hK hF hA hP hD hS [4] rfl rfl)⟩ rfl rfl hl.1 rfl (lv_room (Nat.le_of_ble_eq_true rfl)) d_Walk_advance_109 ⟨Nat.zero_le _, Nat.zero_le _⟩) hA hP hD hS [4] rfl rfl (fun H locs hP hD hS => ?_)
                      have hP : va_P D vwCl (fl [wTab K hTab sTab, wProg K hProg (hTab 0) sProg, wWalk K hWalk (hFld 0) (hTab 0) (hProg 0) (hLps 0) sWalk_L10, wFld K hFld sFld_L10, wLps K hLps q11.2]) H := hP
                      have hD : va_D A (fl [wTab K hTab sTab, wProg K hProg (hTab 0) sProg, wWalk K hWalk (hFld 0) (hTab 0) (hProg 0) (hLps 0) sWalk_L10, wFld K hFld sFld_L10, wLps K hLps q11.2]) := hD
                      refine va_put (D := D) (ci := 3) (v := .int q11.1) (ty := .int) (C := R_Walk) (T := T_Walk) (N := 18) (pc := 112) hx hb hts (fun w h => List.mem_cons_of_mem _ (in_Walk w h)) ty_Walk ty_Walk_ok nm_Walk hown hK hP hD hS _ (fl_at 2 0 rfl rfl) rfl 12 (by decide) (hts _ (List.mem_cons_of_mem _ tw_224)) (fun _ h9 => h9) rfl (by decide +kernel) rfl rfl (Nat.le_of_ble_eq_true rfl) d_Walk_advance_112 (fun H locs hP hD hS => ?_)
                      obtain ⟨sWalk_12, esWalk_12, hf⟩ := o_lt_e hf
                      have hP : va_P D vwCl (fl [wTab K hTab sTab, wProg K hProg (hTab 0) sProg, wWalk K hWalk (hFld 0) (hTab 0) (hProg 0) (hLps 0) sWalk_12, wFld K hFld sFld_L10, wLps K hLps q11.2]) H := by rw [esWalk_12]; exact fl_P 2 0 rfl (Nat.le_of_ble_eq_true rfl) rfl rfl hP
                      have hD : va_D A (fl [wTab K hTab sTab, wProg K hProg (hTab 0) sProg, wWalk K hWalk (hFld 0) (hTab 0) (hProg 0) (hLps 0) sWalk_12, wFld K hFld sFld_L10, wLps K hLps q11.2]) := by rw [esWalk_12]; exact fl_D 2 0 rfl (Nat.le_of_ble_eq_true rfl) rfl rfl hD
                      refine lv_aload_n (pc := 115) hx hb d_Walk_advance_115 rfl (lv_at hl 0 rfl) ?_
                      refine va_get (D := D) (ci := 3) (v := .int (Walk_at sWalk_12)) (C := R_Walk) (T := T_Walk) (N := 18) (pc := 116) hx hb hts (fun w h => List.mem_cons_of_mem _ (in_Walk w h)) hown hK hP _ (fl_at 2 0 rfl rfl) rfl 12 (by decide) (hts _ (List.mem_cons_of_mem _ tw_224)) (fun _ h9 => h9) rfl d_Walk_advance_116 ?_
                      refine lv_aload_n (pc := 119) hx hb d_Walk_advance_119 rfl (lv_at hl 0 rfl) ?_
                      refine va_get (D := D) (ci := 3) (v := .ref (hProg 0)) (C := R_Walk) (T := T_Walk) (N := 18) (pc := 120) hx hb hts (fun w h => List.mem_cons_of_mem _ (in_Walk w h)) hown hK hP _ (fl_at 2 0 rfl rfl) rfl 4 (by decide) (hts _ (List.mem_cons_of_mem _ tw_216)) (fun _ h9 => h9) rfl d_Walk_advance_120 ?_
                      refine va_get (D := D) (ci := 2) (v := .int (Prog_size sProg)) (C := R_Prog) (T := T_Prog) (N := 14) (pc := 123) hx hb hts (fun w h => List.mem_cons_of_mem _ (in_Prog w h)) hown hK hP _ (fl_at 1 0 rfl rfl) rfl 2 (by decide) (hts _ (List.mem_cons_of_mem _ tw_79)) (fun _ h9 => h9) rfl d_Walk_advance_123 ?_
                      refine lv_icmp_lt (tgt := 131) (pc := 126) hx hb d_Walk_advance_126 (by decide) (fun c14 => ?_) (fun c14 => ?_)
                      · replace hf := o_t c14 hf
                        refine lv_aload_n (pc := 131) hx hb d_Walk_advance_131 rfl (lv_at hl 0 rfl) ?_
                        obtain ⟨q13, hq13, hf⟩ := o_bd_e hf
                        refine fi_v (pc := 132) (va_runV (As := []) (rest := []) ⟨hx, hb, hml, hown, hts⟩ ((c_Walk_comeToNext l D K fu hTab hProg hWalk hFld hLps sProg sWalk_12 sFld_L10 q11.2 q13.1 q13.2 hq13) _) (cwV 0 hts (gV tw_591 tw_593 tp_16 tw_4 tw_594) rfl rfl rfl (by decide +kernel) ⟨by decide, by decide⟩) ⟨mPre_blind, va_recv hK hP (ci := 3) rfl (fl_at 2 0 rfl rfl), (mPre_fl hK hF hA hP hD hS [1, 2, 3, 4] rfl rfl)⟩ rfl rfl hl.1 rfl (lv_room (Nat.le_of_ble_eq_true rfl)) d_Walk_advance_132 ⟨Nat.zero_le _, Nat.zero_le _⟩) hA hP hD hS [1, 2, 3, 4] rfl rfl (fun H locs hP hD hS => ?_)
                        have hP : va_P D vwCl (fl [wTab K hTab sTab, wProg K hProg (hTab 0) sProg, wWalk K hWalk (hFld 0) (hTab 0) (hProg 0) (hLps 0) q13.1, wFld K hFld sFld_L10, wLps K hLps q13.2]) H := hP
                        have hD : va_D A (fl [wTab K hTab sTab, wProg K hProg (hTab 0) sProg, wWalk K hWalk (hFld 0) (hTab 0) (hProg 0) (hLps 0) q13.1, wFld K hFld sFld_L10, wLps K hLps q13.2]) := hD
                        exact J135 x2_L10 q13.1 sFld_L10 q13.2 H locs ls hP hD hS (lv_sub hl [0, 1, 2] rfl) hf
                      · replace hf := o_f c14 hf
                        refine lv_iconst (v := 0) (pc := 129) hx hb d_Walk_advance_129 (by decide) ?_
                        cases hf
                        exact ret_z hx hb hr hlocks hK hP hS rfl d_Walk_advance_130
  exact L10 (Fld_count sFld) fu 0 sWalk sFld sLps H locs ls hP hD hS (lv_sub hl [2, 1, 0] rfl) hf
def Walk_over_L6 (fu : Nat) (nRW : Nat) (sTab : S_Tab) (sProg : S_Prog) (sRW : (Nat → Int64)) : Nat → Int32 → S_Walk → S_Fld → S_Lps → Option (S_Walk × S_Fld × S_Lps)
  | 0, _, _, _, _ => none
  | n + 1, x2_L6, sWalk_L6, sFld_L6, sLps_L6 => o_bd (Walk_advance fu sTab sProg sWalk_L6 sFld_L6 sLps_L6) fun q2 => (if q2.1 = 0 then some ((q2.2.1, q2.2.2.1, q2.2.2.2)) else if 100 ≤ x2_L6 then some ((q2.2.1, q2.2.2.1, q2.2.2.2)) else o_gd (o_in x2_L6 nRW) (o_bd (Walk_settle q2.2.2.1 (sRW (x2_L6 : Int32).toNatClampNeg) q2.2.1 q2.2.2.2) fun q4 => (Walk_over_L6 fu nRW sTab sProg sRW n (x2_L6 + 1) q4.1 q2.2.2.1 q4.2)))
def Walk_over (fu : Nat) (nRW : Nat) (sTab : S_Tab) (sProg : S_Prog) (sRW : (Nat → Int64)) (sWalk : S_Walk) (sFld : S_Fld) (sLps : S_Lps) : Option (S_Walk × S_Fld × S_Lps) := o_bd (Walk_begin fu sWalk sFld sLps) fun q1 => (Walk_over_L6 fu nRW sTab sProg sRW fu 0 q1.1 q1.2.1 q1.2.2)
abbrev rm_Walk_over : Room := { frames := 4, cells := 0, slots := 0, locals := 98 }
set_option maxHeartbeats 4000000 in
set_option maxRecDepth 100000 in
theorem c_Walk_over (l : Launch) (D : va_G) (K : Nat → ClassId) (fu : Nat) (hTab : Nat → Nat) (hProg : Nat → Nat) (hWalk : Nat → Nat) (hFld : Nat → Nat) (hLps : Nat → Nat) (hRW : Nat → Nat) (nRW : Nat) (sTab : S_Tab) (sProg : S_Prog) (sWalk : S_Walk) (sFld : S_Fld) (sLps : S_Lps) (sRW : (Nat → Int64)) (sWalk' : S_Walk) (sFld' : S_Fld) (sLps' : S_Lps) (hf : Walk_over fu nRW sTab sProg sRW sWalk sFld sLps = some ((sWalk', sFld', sLps'))) : mv l D K y_Walk_over ws_Walk_over rm_Walk_over [.ref (hWalk 0), .ref (hRW 0)] (fl [wTab K hTab sTab, wProg K hProg (hTab 0) sProg, wWalk K hWalk (hFld 0) (hTab 0) (hProg 0) (hLps 0) sWalk, wFld K hFld sFld, wLps K hLps sLps, wRow K hRW nRW sRW]) (fl [wTab K hTab sTab, wProg K hProg (hTab 0) sProg, wWalk K hWalk (hFld 0) (hTab 0) (hProg 0) (hLps 0) sWalk', wFld K hFld sFld', wLps K hLps sLps', wRow K hRW nRW sRW]) := by
  refine mv_of (cc := b_Walk_over) (maxL := 3) (own := "ObsMessages$Walk") (by decide) rfl rfl (Nat.le_of_ble_eq_true rfl) ?_
  intro p e s m below meth c A ls hC hP hD hS hl
  obtain ⟨hx, hb, hml, hown, hts, hr, hlocks, hK, hF, hA⟩ := hC
  have hP : va_P D vwCl (fl [wTab K hTab sTab, wProg K hProg (hTab 0) sProg, wWalk K hWalk (hFld 0) (hTab 0) (hProg 0) (hLps 0) sWalk, wFld K hFld sFld, wLps K hLps sLps, wRow K hRW nRW sRW]) s.heap := hP
  have hl : lv_has ls 3 [(0, .ref (hWalk 0)), (1, .ref (hRW 0))] := hl
  suffices hW : ∀ (H : Heap) (locs : List Loc), va_P D vwCl (fl [wTab K hTab sTab, wProg K hProg (hTab 0) sProg, wWalk K hWalk (hFld 0) (hTab 0) (hProg 0) (hLps 0) sWalk, wFld K hFld sFld, wLps K hLps sLps, wRow K hRW nRW sRW]) H → va_S A s.heap H locs → W p l e rm_Walk_over s m ([.ref (hWalk 0), .ref (hRW 0)] : List Value).toArray below meth c H locs 0 0 (Qv below ([.ref (hWalk 0), .ref (hRW 0)] : List Value).toArray s D K A (fl [wTab K hTab sTab, wProg K hProg (hTab 0) sProg, wWalk K hWalk (hFld 0) (hTab 0) (hProg 0) (hLps 0) sWalk', wFld K hFld sFld', wLps K hLps sLps', wRow K hRW nRW sRW])) (F0 m 0 ls []) from hW s.heap [] hP hS
  clear hP hS
  intro H locs hP hS
  refine lv_aload_n (pc := 0) hx hb d_Walk_over_0 rfl (lv_at hl 0 rfl) ?_
  obtain ⟨q1, hq1, hf⟩ := o_bd_e hf
  refine fi_v (pc := 1) (va_runV (As := []) (rest := []) ⟨hx, hb, hml, hown, hts⟩ ((c_Walk_begin l D K fu hTab hProg hWalk hFld hLps sWalk sFld sLps q1.1 q1.2.1 q1.2.2 hq1) _) (cwV 0 hts (gV tw_543 tw_544 tw_545 tw_4 tw_546) rfl rfl rfl (by decide +kernel) ⟨by decide, by decide⟩) ⟨mPre_blind, va_recv hK hP (ci := 3) rfl (fl_at 2 0 rfl rfl), (mPre_fl hK hF hA hP hD hS [2, 3, 4] rfl rfl)⟩ rfl rfl hl.1 rfl (lv_room (Nat.le_of_ble_eq_true rfl)) d_Walk_over_1 ⟨Nat.zero_le _, Nat.zero_le _⟩) hA hP hD hS [2, 3, 4] rfl rfl (fun H locs hP hD hS => ?_)
  have hP : va_P D vwCl (fl [wTab K hTab sTab, wProg K hProg (hTab 0) sProg, wWalk K hWalk (hFld 0) (hTab 0) (hProg 0) (hLps 0) q1.1, wFld K hFld q1.2.1, wLps K hLps q1.2.2, wRow K hRW nRW sRW]) H := hP
  have hD : va_D A (fl [wTab K hTab sTab, wProg K hProg (hTab 0) sProg, wWalk K hWalk (hFld 0) (hTab 0) (hProg 0) (hLps 0) q1.1, wFld K hFld q1.2.1, wLps K hLps q1.2.2, wRow K hRW nRW sRW]) := hD
  refine lv_iconst (v := 0) (pc := 4) hx hb d_Walk_over_4 (by decide) ?_
  refine lv_istore_n (lv' := [(2, .int 0), (0, .ref (hWalk 0)), (1, .ref (hRW 0))]) (pc := 5) hx hb d_Walk_over_5 rfl hl (by decide) rfl (fun ls hl => ?_)
  have L6 : ∀  (n : Nat) (x2_L6 : Int32) (sWalk_L6 : S_Walk) (sFld_L6 : S_Fld) (sLps_L6 : S_Lps) (H : Heap) (locs : List Loc) (ls : Array Slot), va_P D vwCl (fl [wTab K hTab sTab, wProg K hProg (hTab 0) sProg, wWalk K hWalk (hFld 0) (hTab 0) (hProg 0) (hLps 0) sWalk_L6, wFld K hFld sFld_L6, wLps K hLps sLps_L6, wRow K hRW nRW sRW]) H → va_D A (fl [wTab K hTab sTab, wProg K hProg (hTab 0) sProg, wWalk K hWalk (hFld 0) (hTab 0) (hProg 0) (hLps 0) sWalk_L6, wFld K hFld sFld_L6, wLps K hLps sLps_L6, wRow K hRW nRW sRW]) → va_S A s.heap H locs → lv_has ls 3 [(0, .ref (hWalk 0)), (1, .ref (hRW 0)), (2, .int x2_L6)] → Walk_over_L6 fu nRW sTab sProg sRW n x2_L6 sWalk_L6 sFld_L6 sLps_L6 = some ((sWalk', sFld', sLps')) → W p l e rm_Walk_over s m ([.ref (hWalk 0), .ref (hRW 0)] : List Value).toArray below meth c H locs 0 0 (Qv below ([.ref (hWalk 0), .ref (hRW 0)] : List Value).toArray s D K A (fl [wTab K hTab sTab, wProg K hProg (hTab 0) sProg, wWalk K hWalk (hFld 0) (hTab 0) (hProg 0) (hLps 0) sWalk', wFld K hFld sFld', wLps K hLps sLps', wRow K hRW nRW sRW])) (F0 m 6 ls []) := by
    intro n
    induction n with
    | zero =>
      intro x2_L6 sWalk_L6 sFld_L6 sLps_L6 H locs ls hP hD hS hl hf
      exact absurd hf (fun h => nomatch h)
    | succ n_6 ih_6 =>
      intro x2_L6 sWalk_L6 sFld_L6 sLps_L6 H locs ls hP hD hS hl hf
      refine lv_aload_n (pc := 6) hx hb d_Walk_over_6 rfl (lv_at hl 0 rfl) ?_
      obtain ⟨q2, hq2, hf⟩ := o_bd_e hf
      refine fi_i (pc := 7) (va_runV (As := []) (rest := []) ⟨hx, hb, hml, hown, hts⟩ ((c_Walk_advance l D K fu hTab hProg hWalk hFld hLps sTab sProg sWalk_L6 sFld_L6 sLps_L6 q2.1 q2.2.1 q2.2.2.1 q2.2.2.2 hq2) _) (cwV 0 hts (gV tw_552 tw_553 tw_554 tw_4 tw_555) rfl rfl rfl (by decide +kernel) ⟨by decide, by decide⟩) ⟨mPre_blind, va_recv hK hP (ci := 3) rfl (fl_at 2 0 rfl rfl), (mPre_fl hK hF hA hP hD hS [0, 1, 2, 3, 4] rfl rfl)⟩ rfl rfl hl.1 rfl (lv_room (Nat.le_of_ble_eq_true rfl)) d_Walk_over_7 ⟨Nat.zero_le _, Nat.zero_le _⟩) hA hP hD hS [0, 1, 2, 3, 4] rfl rfl (fun H locs hP hD hS => ?_)
      have hP : va_P D vwCl (fl [wTab K hTab sTab, wProg K hProg (hTab 0) sProg, wWalk K hWalk (hFld 0) (hTab 0) (hProg 0) (hLps 0) q2.2.1, wFld K hFld q2.2.2.1, wLps K hLps q2.2.2.2, wRow K hRW nRW sRW]) H := hP
      have hD : va_D A (fl [wTab K hTab sTab, wProg K hProg (hTab 0) sProg, wWalk K hWalk (hFld 0) (hTab 0) (hProg 0) (hLps 0) q2.2.1, wFld K hFld q2.2.2.1, wLps K hLps q2.2.2.2, wRow K hRW nRW sRW]) := hD
      refine lv_if_eq (tgt := 32) (pc := 10) hx hb d_Walk_over_10 (by decide) (fun c6 => ?_) (fun c6 => ?_)
      · replace hf := o_t c6 hf
        cases hf
        exact ret_v hx hb hr hlocks hK hP hS d_Walk_over_32
      · replace hf := o_f c6 hf
        refine lv_iload_n (pc := 13) hx hb d_Walk_over_13 rfl (lv_at hl 2 rfl) ?_
        refine lv_bipush (v := 100) (pc := 14) hx hb d_Walk_over_14 (by decide) ?_
        refine lv_icmp_ge (tgt := 32) (pc := 16) hx hb d_Walk_over_16 (by decide) (fun c5 => ?_) (fun c5 => ?_)
        · replace hf := o_t c5 hf
          cases hf
          exact ret_v hx hb hr hlocks hK hP hS d_Walk_over_32
        · replace hf := o_f c5 hf
          refine lv_aload_n (pc := 19) hx hb d_Walk_over_19 rfl (lv_at hl 0 rfl) ?_
          refine lv_aload_n (pc := 20) hx hb d_Walk_over_20 rfl (lv_at hl 1 rfl) ?_
          refine lv_iload_n (pc := 21) hx hb d_Walk_over_21 rfl (lv_at hl 2 rfl) ?_
          obtain ⟨hi3, hf⟩ := o_gi_e hf
          refine va_lald (D := D) (pc := 22) hx hb hK hP _ 1 (fl_at 5 0 rfl rfl) rfl hi3 d_Walk_over_22 ?_
          obtain ⟨q4, hq4, hf⟩ := o_bd_e hf
          refine fi_v (pc := 23) (va_runV (As := [.long (sRW (x2_L6 : Int32).toNatClampNeg)]) (rest := []) ⟨hx, hb, hml, hown, hts⟩ ((c_Walk_settle l D K hTab hProg hWalk hFld hLps q2.2.1 q2.2.2.1 q2.2.2.2 (sRW (x2_L6 : Int32).toNatClampNeg) q4.1 q4.2 hq4) _) (cwV 1 hts (gV tw_622 tw_623 tw_624 tw_4 tw_625) rfl rfl rfl (by decide +kernel) ⟨by decide, by decide⟩) ⟨mPre_blind, va_recv hK hP (ci := 3) rfl (fl_at 2 0 rfl rfl), (mPre_fl hK hF hA hP hD hS [2, 3, 4] rfl rfl)⟩ rfl rfl hl.1 rfl (lv_room (Nat.le_of_ble_eq_true rfl)) d_Walk_over_23 ⟨Nat.zero_le _, Nat.zero_le _⟩) hA hP hD hS [2, 3, 4] rfl rfl (fun H locs hP hD hS => ?_)
          have hP : va_P D vwCl (fl [wTab K hTab sTab, wProg K hProg (hTab 0) sProg, wWalk K hWalk (hFld 0) (hTab 0) (hProg 0) (hLps 0) q4.1, wFld K hFld q2.2.2.1, wLps K hLps q4.2, wRow K hRW nRW sRW]) H := hP
          have hD : va_D A (fl [wTab K hTab sTab, wProg K hProg (hTab 0) sProg, wWalk K hWalk (hFld 0) (hTab 0) (hProg 0) (hLps 0) q4.1, wFld K hFld q2.2.2.1, wLps K hLps q4.2, wRow K hRW nRW sRW]) := hD
          refine lv_iinc (v := x2_L6 + 1) (lv' := [(2, .int (x2_L6 + 1)), (0, .ref (hWalk 0)), (1, .ref (hRW 0))]) (pc := 26) hx hb d_Walk_over_26 hl (k := 2) rfl rfl (by decide) rfl (fun ls hl => ?_)
          refine lv_goto (tgt := 6) (pc := 29) hx hb d_Walk_over_29 (by decide) ?_
          exact ih_6 (x2_L6 + 1) q4.1 q2.2.2.1 q4.2 H locs ls hP hD hS (lv_sub hl [1, 2, 0] rfl) hf
  exact L6 fu 0 q1.1 q1.2.1 q1.2.2 H locs ls hP hD hS (lv_sub hl [1, 2, 0] rfl) hf
def Walk_overChecked_j54 (fu : Nat) (nRW : Nat) (sTab : S_Tab) (sProg : S_Prog) (sRW : (Nat → Int64)) (kc_6 : Int32 → S_Walk → S_Fld → S_Lps → Option (S_Walk × S_Fld × S_Lps)) (x2_j54 : Int32) (sWalk_j54 : S_Walk) (sFld_j54 : S_Fld) (sLps_j54 : S_Lps) : Option (S_Walk × S_Fld × S_Lps) := kc_6 (x2_j54 + 1) sWalk_j54 sFld_j54 sLps_j54
def Walk_overChecked_L6 (fu : Nat) (nRW : Nat) (sTab : S_Tab) (sProg : S_Prog) (sRW : (Nat → Int64)) : Nat → Int32 → S_Walk → S_Fld → S_Lps → Option (S_Walk × S_Fld × S_Lps)
  | 0, _, _, _, _ => none
  | n + 1, x2_L6, sWalk_L6, sFld_L6, sLps_L6 => o_bd (Walk_advance fu sTab sProg sWalk_L6 sFld_L6 sLps_L6) fun q2 => (if q2.1 = 0 then some ((q2.2.1, q2.2.2.1, q2.2.2.2)) else if 100 ≤ x2_L6 then some ((q2.2.1, q2.2.2.1, q2.2.2.2)) else o_gd (o_in x2_L6 nRW) (o_bd (Walk_settle q2.2.2.1 (sRW (x2_L6 : Int32).toNatClampNeg) q2.2.1 q2.2.2.2) fun q4 => (if (Walk_fault q4.1) = 0 then o_gd (o_in x2_L6 nRW) (o_bd (Fld_hasRaw q2.2.2.1 x2_L6 (sRW (x2_L6 : Int32).toNatClampNeg)) fun q6 => (if q6 = 0 then o_bd (Walk_fail 9 x2_L6 q4.1) fun q7 => (Walk_overChecked_j54 fu nRW sTab sProg sRW (fun v0 v1 v2 v3 => Walk_overChecked_L6 fu nRW sTab sProg sRW n v0 v1 v2 v3) x2_L6 q7 q2.2.2.1 q4.2) else Walk_overChecked_j54 fu nRW sTab sProg sRW (fun v0 v1 v2 v3 => Walk_overChecked_L6 fu nRW sTab sProg sRW n v0 v1 v2 v3) x2_L6 q4.1 q2.2.2.1 q4.2)) else Walk_overChecked_j54 fu nRW sTab sProg sRW (fun v0 v1 v2 v3 => Walk_overChecked_L6 fu nRW sTab sProg sRW n v0 v1 v2 v3) x2_L6 q4.1 q2.2.2.1 q4.2)))
def Walk_overChecked (fu : Nat) (nRW : Nat) (sTab : S_Tab) (sProg : S_Prog) (sRW : (Nat → Int64)) (sWalk : S_Walk) (sFld : S_Fld) (sLps : S_Lps) : Option (S_Walk × S_Fld × S_Lps) := o_bd (Walk_begin fu sWalk sFld sLps) fun q1 => (Walk_overChecked_L6 fu nRW sTab sProg sRW fu 0 q1.1 q1.2.1 q1.2.2)
abbrev rm_Walk_overChecked : Room := { frames := 4, cells := 0, slots := 0, locals := 98 }
set_option maxHeartbeats 4000000 in
set_option maxRecDepth 100000 in
theorem c_Walk_overChecked (l : Launch) (D : va_G) (K : Nat → ClassId) (fu : Nat) (hTab : Nat → Nat) (hProg : Nat → Nat) (hWalk : Nat → Nat) (hFld : Nat → Nat) (hLps : Nat → Nat) (hRW : Nat → Nat) (nRW : Nat) (sTab : S_Tab) (sProg : S_Prog) (sWalk : S_Walk) (sFld : S_Fld) (sLps : S_Lps) (sRW : (Nat → Int64)) (sWalk' : S_Walk) (sFld' : S_Fld) (sLps' : S_Lps) (hf : Walk_overChecked fu nRW sTab sProg sRW sWalk sFld sLps = some ((sWalk', sFld', sLps'))) : mv l D K y_Walk_overChecked ws_Walk_overChecked rm_Walk_overChecked [.ref (hWalk 0), .ref (hRW 0)] (fl [wTab K hTab sTab, wProg K hProg (hTab 0) sProg, wWalk K hWalk (hFld 0) (hTab 0) (hProg 0) (hLps 0) sWalk, wFld K hFld sFld, wLps K hLps sLps, wRow K hRW nRW sRW]) (fl [wTab K hTab sTab, wProg K hProg (hTab 0) sProg, wWalk K hWalk (hFld 0) (hTab 0) (hProg 0) (hLps 0) sWalk', wFld K hFld sFld', wLps K hLps sLps', wRow K hRW nRW sRW]) := by
  refine mv_of (cc := b_Walk_overChecked) (maxL := 3) (own := "ObsMessages$Walk") (by decide) rfl rfl (Nat.le_of_ble_eq_true rfl) ?_
  intro p e s m below meth c A ls hC hP hD hS hl
  obtain ⟨hx, hb, hml, hown, hts, hr, hlocks, hK, hF, hA⟩ := hC
  have hP : va_P D vwCl (fl [wTab K hTab sTab, wProg K hProg (hTab 0) sProg, wWalk K hWalk (hFld 0) (hTab 0) (hProg 0) (hLps 0) sWalk, wFld K hFld sFld, wLps K hLps sLps, wRow K hRW nRW sRW]) s.heap := hP
  have hl : lv_has ls 3 [(0, .ref (hWalk 0)), (1, .ref (hRW 0))] := hl
  suffices hW : ∀ (H : Heap) (locs : List Loc), va_P D vwCl (fl [wTab K hTab sTab, wProg K hProg (hTab 0) sProg, wWalk K hWalk (hFld 0) (hTab 0) (hProg 0) (hLps 0) sWalk, wFld K hFld sFld, wLps K hLps sLps, wRow K hRW nRW sRW]) H → va_S A s.heap H locs → W p l e rm_Walk_overChecked s m ([.ref (hWalk 0), .ref (hRW 0)] : List Value).toArray below meth c H locs 0 0 (Qv below ([.ref (hWalk 0), .ref (hRW 0)] : List Value).toArray s D K A (fl [wTab K hTab sTab, wProg K hProg (hTab 0) sProg, wWalk K hWalk (hFld 0) (hTab 0) (hProg 0) (hLps 0) sWalk', wFld K hFld sFld', wLps K hLps sLps', wRow K hRW nRW sRW])) (F0 m 0 ls []) from hW s.heap [] hP hS
  clear hP hS
  intro H locs hP hS
  refine lv_aload_n (pc := 0) hx hb d_Walk_overChecked_0 rfl (lv_at hl 0 rfl) ?_
  obtain ⟨q1, hq1, hf⟩ := o_bd_e hf
  refine fi_v (pc := 1) (va_runV (As := []) (rest := []) ⟨hx, hb, hml, hown, hts⟩ ((c_Walk_begin l D K fu hTab hProg hWalk hFld hLps sWalk sFld sLps q1.1 q1.2.1 q1.2.2 hq1) _) (cwV 0 hts (gV tw_543 tw_544 tw_545 tw_4 tw_546) rfl rfl rfl (by decide +kernel) ⟨by decide, by decide⟩) ⟨mPre_blind, va_recv hK hP (ci := 3) rfl (fl_at 2 0 rfl rfl), (mPre_fl hK hF hA hP hD hS [2, 3, 4] rfl rfl)⟩ rfl rfl hl.1 rfl (lv_room (Nat.le_of_ble_eq_true rfl)) d_Walk_overChecked_1 ⟨Nat.zero_le _, Nat.zero_le _⟩) hA hP hD hS [2, 3, 4] rfl rfl (fun H locs hP hD hS => ?_)
  have hP : va_P D vwCl (fl [wTab K hTab sTab, wProg K hProg (hTab 0) sProg, wWalk K hWalk (hFld 0) (hTab 0) (hProg 0) (hLps 0) q1.1, wFld K hFld q1.2.1, wLps K hLps q1.2.2, wRow K hRW nRW sRW]) H := hP
  have hD : va_D A (fl [wTab K hTab sTab, wProg K hProg (hTab 0) sProg, wWalk K hWalk (hFld 0) (hTab 0) (hProg 0) (hLps 0) q1.1, wFld K hFld q1.2.1, wLps K hLps q1.2.2, wRow K hRW nRW sRW]) := hD
  refine lv_iconst (v := 0) (pc := 4) hx hb d_Walk_overChecked_4 (by decide) ?_
  refine lv_istore_n (lv' := [(2, .int 0), (0, .ref (hWalk 0)), (1, .ref (hRW 0))]) (pc := 5) hx hb d_Walk_overChecked_5 rfl hl (by decide) rfl (fun ls hl => ?_)
  have L6 : ∀  (n : Nat) (x2_L6 : Int32) (sWalk_L6 : S_Walk) (sFld_L6 : S_Fld) (sLps_L6 : S_Lps) (H : Heap) (locs : List Loc) (ls : Array Slot), va_P D vwCl (fl [wTab K hTab sTab, wProg K hProg (hTab 0) sProg, wWalk K hWalk (hFld 0) (hTab 0) (hProg 0) (hLps 0) sWalk_L6, wFld K hFld sFld_L6, wLps K hLps sLps_L6, wRow K hRW nRW sRW]) H → va_D A (fl [wTab K hTab sTab, wProg K hProg (hTab 0) sProg, wWalk K hWalk (hFld 0) (hTab 0) (hProg 0) (hLps 0) sWalk_L6, wFld K hFld sFld_L6, wLps K hLps sLps_L6, wRow K hRW nRW sRW]) → va_S A s.heap H locs → lv_has ls 3 [(0, .ref (hWalk 0)), (1, .ref (hRW 0)), (2, .int x2_L6)] → Walk_overChecked_L6 fu nRW sTab sProg sRW n x2_L6 sWalk_L6 sFld_L6 sLps_L6 = some ((sWalk', sFld', sLps')) → W p l e rm_Walk_overChecked s m ([.ref (hWalk 0), .ref (hRW 0)] : List Value).toArray below meth c H locs 0 0 (Qv below ([.ref (hWalk 0), .ref (hRW 0)] : List Value).toArray s D K A (fl [wTab K hTab sTab, wProg K hProg (hTab 0) sProg, wWalk K hWalk (hFld 0) (hTab 0) (hProg 0) (hLps 0) sWalk', wFld K hFld sFld', wLps K hLps sLps', wRow K hRW nRW sRW])) (F0 m 6 ls []) := by
    intro n
    induction n with
    | zero =>
      intro x2_L6 sWalk_L6 sFld_L6 sLps_L6 H locs ls hP hD hS hl hf
      exact absurd hf (fun h => nomatch h)
    | succ n_6 ih_6 =>
      intro x2_L6 sWalk_L6 sFld_L6 sLps_L6 H locs ls hP hD hS hl hf
      have J54 : ∀ (x2_j54 : Int32) (sWalk_j54 : S_Walk) (sFld_j54 : S_Fld) (sLps_j54 : S_Lps) (H : Heap) (locs : List Loc) (ls : Array Slot), va_P D vwCl (fl [wTab K hTab sTab, wProg K hProg (hTab 0) sProg, wWalk K hWalk (hFld 0) (hTab 0) (hProg 0) (hLps 0) sWalk_j54, wFld K hFld sFld_j54, wLps K hLps sLps_j54, wRow K hRW nRW sRW]) H → va_D A (fl [wTab K hTab sTab, wProg K hProg (hTab 0) sProg, wWalk K hWalk (hFld 0) (hTab 0) (hProg 0) (hLps 0) sWalk_j54, wFld K hFld sFld_j54, wLps K hLps sLps_j54, wRow K hRW nRW sRW]) → va_S A s.heap H locs → lv_has ls 3 [(0, .ref (hWalk 0)), (1, .ref (hRW 0)), (2, .int x2_j54)] → Walk_overChecked_j54 fu nRW sTab sProg sRW (fun v0 v1 v2 v3 => Walk_overChecked_L6 fu nRW sTab sProg sRW n_6 v0 v1 v2 v3) x2_j54 sWalk_j54 sFld_j54 sLps_j54 = some ((sWalk', sFld', sLps')) → W p l e rm_Walk_overChecked s m ([.ref (hWalk 0), .ref (hRW 0)] : List Value).toArray below meth c H locs 0 0 (Qv below ([.ref (hWalk 0), .ref (hRW 0)] : List Value).toArray s D K A (fl [wTab K hTab sTab, wProg K hProg (hTab 0) sProg, wWalk K hWalk (hFld 0) (hTab 0) (hProg 0) (hLps 0) sWalk', wFld K hFld sFld', wLps K hLps sLps', wRow K hRW nRW sRW])) (F0 m 54 ls []) := by
        intro x2_j54 sWalk_j54 sFld_j54 sLps_j54 H locs ls hP hD hS hl hf
        refine lv_iinc (v := x2_j54 + 1) (lv' := [(2, .int (x2_j54 + 1)), (0, .ref (hWalk 0)), (1, .ref (hRW 0))]) (pc := 54) hx hb d_Walk_overChecked_54 hl (k := 2) rfl rfl (by decide) rfl (fun ls hl => ?_)
        refine lv_goto (tgt := 6) (pc := 57) hx hb d_Walk_overChecked_57 (by decide) ?_
        exact ih_6 (x2_j54 + 1) sWalk_j54 sFld_j54 sLps_j54 H locs ls hP hD hS (lv_sub hl [1, 2, 0] rfl) hf
      refine lv_aload_n (pc := 6) hx hb d_Walk_overChecked_6 rfl (lv_at hl 0 rfl) ?_
      obtain ⟨q2, hq2, hf⟩ := o_bd_e hf
      refine fi_i (pc := 7) (va_runV (As := []) (rest := []) ⟨hx, hb, hml, hown, hts⟩ ((c_Walk_advance l D K fu hTab hProg hWalk hFld hLps sTab sProg sWalk_L6 sFld_L6 sLps_L6 q2.1 q2.2.1 q2.2.2.1 q2.2.2.2 hq2) _) (cwV 0 hts (gV tw_552 tw_553 tw_554 tw_4 tw_555) rfl rfl rfl (by decide +kernel) ⟨by decide, by decide⟩) ⟨mPre_blind, va_recv hK hP (ci := 3) rfl (fl_at 2 0 rfl rfl), (mPre_fl hK hF hA hP hD hS [0, 1, 2, 3, 4] rfl rfl)⟩ rfl rfl hl.1 rfl (lv_room (Nat.le_of_ble_eq_true rfl)) d_Walk_overChecked_7 ⟨Nat.zero_le _, Nat.zero_le _⟩) hA hP hD hS [0, 1, 2, 3, 4] rfl rfl (fun H locs hP hD hS => ?_)
      have hP : va_P D vwCl (fl [wTab K hTab sTab, wProg K hProg (hTab 0) sProg, wWalk K hWalk (hFld 0) (hTab 0) (hProg 0) (hLps 0) q2.2.1, wFld K hFld q2.2.2.1, wLps K hLps q2.2.2.2, wRow K hRW nRW sRW]) H := hP
      have hD : va_D A (fl [wTab K hTab sTab, wProg K hProg (hTab 0) sProg, wWalk K hWalk (hFld 0) (hTab 0) (hProg 0) (hLps 0) q2.2.1, wFld K hFld q2.2.2.1, wLps K hLps q2.2.2.2, wRow K hRW nRW sRW]) := hD
      refine lv_if_eq (tgt := 60) (pc := 10) hx hb d_Walk_overChecked_10 (by decide) (fun c11 => ?_) (fun c11 => ?_)
      · replace hf := o_t c11 hf
        cases hf
        exact ret_v hx hb hr hlocks hK hP hS d_Walk_overChecked_60
      · replace hf := o_f c11 hf
        refine lv_iload_n (pc := 13) hx hb d_Walk_overChecked_13 rfl (lv_at hl 2 rfl) ?_
        refine lv_bipush (v := 100) (pc := 14) hx hb d_Walk_overChecked_14 (by decide) ?_
        refine lv_icmp_ge (tgt := 60) (pc := 16) hx hb d_Walk_overChecked_16 (by decide) (fun c10 => ?_) (fun c10 => ?_)
        · replace hf := o_t c10 hf
          cases hf
          exact ret_v hx hb hr hlocks hK hP hS d_Walk_overChecked_60
        · replace hf := o_f c10 hf
          refine lv_aload_n (pc := 19) hx hb d_Walk_overChecked_19 rfl (lv_at hl 0 rfl) ?_
          refine lv_aload_n (pc := 20) hx hb d_Walk_overChecked_20 rfl (lv_at hl 1 rfl) ?_
          refine lv_iload_n (pc := 21) hx hb d_Walk_overChecked_21 rfl (lv_at hl 2 rfl) ?_
          obtain ⟨hi3, hf⟩ := o_gi_e hf
          refine va_lald (D := D) (pc := 22) hx hb hK hP _ 1 (fl_at 5 0 rfl rfl) rfl hi3 d_Walk_overChecked_22 ?_
          obtain ⟨q4, hq4, hf⟩ := o_bd_e hf
          refine fi_v (pc := 23) (va_runV (As := [.long (sRW (x2_L6 : Int32).toNatClampNeg)]) (rest := []) ⟨hx, hb, hml, hown, hts⟩ ((c_Walk_settle l D K hTab hProg hWalk hFld hLps q2.2.1 q2.2.2.1 q2.2.2.2 (sRW (x2_L6 : Int32).toNatClampNeg) q4.1 q4.2 hq4) _) (cwV 1 hts (gV tw_622 tw_623 tw_624 tw_4 tw_625) rfl rfl rfl (by decide +kernel) ⟨by decide, by decide⟩) ⟨mPre_blind, va_recv hK hP (ci := 3) rfl (fl_at 2 0 rfl rfl), (mPre_fl hK hF hA hP hD hS [2, 3, 4] rfl rfl)⟩ rfl rfl hl.1 rfl (lv_room (Nat.le_of_ble_eq_true rfl)) d_Walk_overChecked_23 ⟨Nat.zero_le _, Nat.zero_le _⟩) hA hP hD hS [2, 3, 4] rfl rfl (fun H locs hP hD hS => ?_)
          have hP : va_P D vwCl (fl [wTab K hTab sTab, wProg K hProg (hTab 0) sProg, wWalk K hWalk (hFld 0) (hTab 0) (hProg 0) (hLps 0) q4.1, wFld K hFld q2.2.2.1, wLps K hLps q4.2, wRow K hRW nRW sRW]) H := hP
          have hD : va_D A (fl [wTab K hTab sTab, wProg K hProg (hTab 0) sProg, wWalk K hWalk (hFld 0) (hTab 0) (hProg 0) (hLps 0) q4.1, wFld K hFld q2.2.2.1, wLps K hLps q4.2, wRow K hRW nRW sRW]) := hD
          refine lv_aload_n (pc := 26) hx hb d_Walk_overChecked_26 rfl (lv_at hl 0 rfl) ?_
          refine va_get (D := D) (ci := 3) (v := .int (Walk_fault q4.1)) (C := R_Walk) (T := T_Walk) (N := 18) (pc := 27) hx hb hts (fun w h => List.mem_cons_of_mem _ (in_Walk w h)) hown hK hP _ (fl_at 2 0 rfl rfl) rfl 1 (by decide) (hts _ (List.mem_cons_of_mem _ tw_209)) (fun _ h9 => h9) rfl d_Walk_overChecked_27 ?_
          refine lv_if_ne (tgt := 54) (pc := 30) hx hb d_Walk_overChecked_30 (by decide) (fun c9 => ?_) (fun c9 => ?_)
          · replace hf := o_f c9 hf
            exact J54 x2_L6 q4.1 q2.2.2.1 q4.2 H locs ls hP hD hS (lv_sub hl [0, 1, 2] rfl) hf
          · replace hf := o_t c9 hf
            refine lv_aload_n (pc := 33) hx hb d_Walk_overChecked_33 rfl (lv_at hl 0 rfl) ?_
            refine va_get (D := D) (ci := 3) (v := .ref (hFld 0)) (C := R_Walk) (T := T_Walk) (N := 18) (pc := 34) hx hb hts (fun w h => List.mem_cons_of_mem _ (in_Walk w h)) hown hK hP _ (fl_at 2 0 rfl rfl) rfl 0 (by decide) (hts _ (List.mem_cons_of_mem _ tw_205)) (fun _ h9 => h9) rfl d_Walk_overChecked_34 ?_
            refine lv_iload_n (pc := 37) hx hb d_Walk_overChecked_37 rfl (lv_at hl 2 rfl) ?_
            refine lv_aload_n (pc := 38) hx hb d_Walk_overChecked_38 rfl (lv_at hl 1 rfl) ?_
            refine lv_iload_n (pc := 39) hx hb d_Walk_overChecked_39 rfl (lv_at hl 2 rfl) ?_
            obtain ⟨hi5, hf⟩ := o_gi_e hf
            refine va_lald (D := D) (pc := 40) hx hb hK hP _ 1 (fl_at 5 0 rfl rfl) rfl hi5 d_Walk_overChecked_40 ?_
            obtain ⟨q6, hq6, hf⟩ := o_bd_e hf
            refine fi_i (pc := 41) (va_runV (As := [.int x2_L6, .long (sRW (x2_L6 : Int32).toNatClampNeg)]) (rest := []) ⟨hx, hb, hml, hown, hts⟩ ((c_Fld_hasRaw l D K hFld q2.2.2.1 x2_L6 (sRW (x2_L6 : Int32).toNatClampNeg) q6 hq6) _) (cwV 2 hts (gV tw_894 tw_895 tw_896 tw_5 tw_897) rfl rfl rfl (by decide +kernel) ⟨by decide, by decide⟩) ⟨mPre_blind, va_recv hK hP (ci := 4) rfl (fl_at 3 0 rfl rfl), (mPre_fl hK hF hA hP hD hS [3] rfl rfl)⟩ rfl rfl hl.1 rfl (lv_room (Nat.le_of_ble_eq_true rfl)) d_Walk_overChecked_41 ⟨Nat.zero_le _, Nat.zero_le _⟩) hA hP hD hS [3] rfl rfl (fun H locs hP hD hS => ?_)
            have hP : va_P D vwCl (fl [wTab K hTab sTab, wProg K hProg (hTab 0) sProg, wWalk K hWalk (hFld 0) (hTab 0) (hProg 0) (hLps 0) q4.1, wFld K hFld q2.2.2.1, wLps K hLps q4.2, wRow K hRW nRW sRW]) H := hP
            have hD : va_D A (fl [wTab K hTab sTab, wProg K hProg (hTab 0) sProg, wWalk K hWalk (hFld 0) (hTab 0) (hProg 0) (hLps 0) q4.1, wFld K hFld q2.2.2.1, wLps K hLps q4.2, wRow K hRW nRW sRW]) := hD
            refine lv_if_ne (tgt := 54) (pc := 44) hx hb d_Walk_overChecked_44 (by decide) (fun c8 => ?_) (fun c8 => ?_)
            · replace hf := o_f c8 hf
              exact J54 x2_L6 q4.1 q2.2.2.1 q4.2 H locs ls hP hD hS (lv_sub hl [0, 1, 2] rfl) hf
            · replace hf := o_t c8 hf
              refine lv_aload_n (pc := 47) hx hb d_Walk_overChecked_47 rfl (lv_at hl 0 rfl) ?_
              refine lv_bipush (v := 9) (pc := 48) hx hb d_Walk_overChecked_48 (by decide) ?_
              refine lv_iload_n (pc := 50) hx hb d_Walk_overChecked_50 rfl (lv_at hl 2 rfl) ?_
              obtain ⟨q7, hq7, hf⟩ := o_bd_e hf
              refine fi_v (pc := 51) (va_runV (As := [.int 9, .int x2_L6]) (rest := []) ⟨hx, hb, hml, hown, hts⟩ ((c_Walk_fail l D K hTab hProg hWalk hFld hLps q4.1 9 x2_L6 q7 hq7) _) (cwV 2 hts (gV tw_564 tw_565 tw_566 tw_4 tw_567) rfl rfl rfl (by decide +kernel) ⟨by decide, by decide⟩) ⟨mPre_blind, va_recv hK hP (ci := 3) rfl (fl_at 2 0 rfl rfl), (mPre_fl hK hF hA hP hD hS [2] rfl rfl)⟩ rfl rfl hl.1 rfl (lv_room (Nat.le_of_ble_eq_true rfl)) d_Walk_overChecked_51 ⟨Nat.zero_le _, Nat.zero_le _⟩) hA hP hD hS [2] rfl rfl (fun H locs hP hD hS => ?_)
              have hP : va_P D vwCl (fl [wTab K hTab sTab, wProg K hProg (hTab 0) sProg, wWalk K hWalk (hFld 0) (hTab 0) (hProg 0) (hLps 0) q7, wFld K hFld q2.2.2.1, wLps K hLps q4.2, wRow K hRW nRW sRW]) H := hP
              have hD : va_D A (fl [wTab K hTab sTab, wProg K hProg (hTab 0) sProg, wWalk K hWalk (hFld 0) (hTab 0) (hProg 0) (hLps 0) q7, wFld K hFld q2.2.2.1, wLps K hLps q4.2, wRow K hRW nRW sRW]) := hD
              exact J54 x2_L6 q7 q2.2.2.1 q4.2 H locs ls hP hD hS (lv_sub hl [0, 1, 2] rfl) hf
  exact L6 fu 0 q1.1 q1.2.1 q1.2.2 H locs ls hP hD hS (lv_sub hl [1, 2, 0] rfl) hf
