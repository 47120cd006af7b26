def X_drop (sX : S_X) (a0 : Int32) (a1 : Int32) (sTab : S_Tab) : Option (Int32 × S_Tab) := o_bd (Tab_entryOf a0 a1) fun q1 => (if q1 = ((-1)) then some ((0, sTab)) else o_gd (o_in q1 320) (if (Tab_widths sTab (q1 : Int32).toNatClampNeg) = 0 then some ((0, sTab)) else o_gd (o_in q1 320) (o_lt (Tab_put_widths sTab (q1 : Int32).toNatClampNeg 0) fun sTab_4 => (some ((1, sTab_4))))))
abbrev rm_X_drop : Room := { frames := 2, cells := 0, slots := 0, locals := 42 }
set_option maxHeartbeats 4000000 in
set_option maxRecDepth 100000 in
theorem c_X_drop (l : Launch) (D : va_G) (K : Nat → ClassId) (hX : Nat → Nat) (hVAL : Nat → Nat) (hTab : Nat → Nat) (hProg : Nat → Nat) (hWalk : Nat → Nat) (hWri : Nat → Nat) (hRea : Nat → Nat) (hTP : Nat → Nat) (hGrd : Nat → Nat) (sX : S_X) (sTab : S_Tab) (a0 : Int32) (a1 : Int32) (r : Int32) (sTab' : S_Tab) (hf : X_drop sX a0 a1 sTab = some ((r, sTab'))) : mi l D K y_X_drop ws_X_drop rm_X_drop [.ref (hX 0), .int a0, .int a1] (fl [wX K hX (hTab 0) (hProg 0) (hWalk 0) (hWri 0) (hRea 0) (hTP 0) (hGrd 0) (hVAL 0) sX, wTab K hTab sTab]) (fl [wX K hX (hTab 0) (hProg 0) (hWalk 0) (hWri 0) (hRea 0) (hTP 0) (hGrd 0) (hVAL 0) sX, wTab K hTab sTab']) r := by
  refine mi_of (cc := b_X_drop) (maxL := 4) (own := "ObsMessages") (by decide) rfl rfl (Nat.le_of_ble_eq_true rfl) ?_
  intro p e s m below meth c A ls hC hP hD hS hl
  obtain ⟨hx, hb, hml, hown, hts, hr, hlocks, hK, hF, hA⟩ := hC
  have hP : va_P D vwCl (fl [wX K hX (hTab 0) (hProg 0) (hWalk 0) (hWri 0) (hRea 0) (hTP 0) (hGrd 0) (hVAL 0) sX, wTab K hTab sTab]) s.heap := hP
  have hl : lv_has ls 4 [(0, .ref (hX 0)), (1, .int a0), (2, .int a1)] := hl
  suffices hW : ∀ (H : Heap) (locs : List Loc), va_P D vwCl (fl [wX K hX (hTab 0) (hProg 0) (hWalk 0) (hWri 0) (hRea 0) (hTP 0) (hGrd 0) (hVAL 0) sX, wTab K hTab sTab]) H → va_S A s.heap H locs → W p l e rm_X_drop s m ([.ref (hX 0), .int a0, .int a1] : List Value).toArray below meth c H locs 0 0 (Qi below ([.ref (hX 0), .int a0, .int a1] : List Value).toArray s D K A (fl [wX K hX (hTab 0) (hProg 0) (hWalk 0) (hWri 0) (hRea 0) (hTP 0) (hGrd 0) (hVAL 0) sX, wTab K hTab sTab']) r) (F0 m 0 ls []) from hW s.heap [] hP hS
  clear hP hS
  intro H locs hP hS
  refine lv_iload_n (pc := 0) hx hb d_X_drop_0 rfl (lv_at hl 1 rfl) ?_
  refine lv_iload_n (pc := 1) hx hb d_X_drop_1 rfl (lv_at hl 2 rfl) ?_
  obtain ⟨q1, hq1, hf⟩ := o_bd_e hf
  refine fi_i (pc := 2) (va_runS (As := [.int a0, .int a1]) (rest := []) ⟨hx, hb, hml, hown, hts⟩ ((c_Tab_entryOf l D K a0 a1 q1 hq1) _) (va_cwS 2 hts (gT tw_418 tw_419 tw_2 tw_420) rfl rfl rfl (by decide +kernel) ⟨by decide, by decide⟩) ⟨mPre_blind, (mPre_fl hK hF hA hP hD hS [] rfl rfl)⟩ rfl rfl hl.1 rfl (lv_room (Nat.le_of_ble_eq_true rfl)) d_X_drop_2 ⟨Nat.zero_le _, Nat.zero_le _⟩) hA hP hD hS [] rfl rfl (fun H locs hP hD hS => ?_)
  have hP : va_P D vwCl (fl [wX K hX (hTab 0) (hProg 0) (hWalk 0) (hWri 0) (hRea 0) (hTP 0) (hGrd 0) (hVAL 0) sX, wTab K hTab sTab]) H := hP
  have hD : va_D A (fl [wX K hX (hTab 0) (hProg 0) (hWalk 0) (hWri 0) (hRea 0) (hTP 0) (hGrd 0) (hVAL 0) sX, wTab K hTab sTab]) := hD
  refine lv_istore_n (lv' := [(3, .int q1), (0, .ref (hX 0)), (1, .int a0), (2, .int a1)]) (pc := 5) hx hb d_X_drop_5 rfl hl (by decide) rfl (fun ls hl => ?_)
  refine lv_iload_n (pc := 6) hx hb d_X_drop_6 rfl (lv_at hl 0 rfl) ?_
  refine lv_iconst (v := (-1)) (pc := 7) hx hb d_X_drop_7 (by decide) ?_
  refine lv_icmp_eq (tgt := 23) (pc := 8) hx hb d_X_drop_8 (by decide) (fun c6 => ?_) (fun c6 => ?_)
  · replace hf := o_t c6 hf
    refine lv_iconst (v := 0) (pc := 23) hx hb d_X_drop_23 (by decide) ?_
    cases hf
    exact ret_z hx hb hr hlocks hK hP hS rfl d_X_drop_24
  · replace hf := o_f c6 hf
    refine lv_aload_n (pc := 11) hx hb d_X_drop_11 rfl (lv_at hl 1 rfl) ?_
    refine va_get (D := D) (ci := 0) (v := .ref (hTab 0)) (C := R_X) (T := T_X) (N := 10) (pc := 12) hx hb hts (fun w h => List.mem_cons_of_mem _ (in_X w h)) hown hK hP _ (fl_at 0 0 rfl rfl) rfl 0 (by decide) (hts _ (List.mem_cons_of_mem _ tw_383)) (fun _ h9 => h9) rfl d_X_drop_12 ?_
    refine va_get (D := D) (ci := 1) (v := .ref (hTab 3)) (C := R_Tab) (T := T_Tab) (N := 6) (pc := 15) hx hb hts (fun w h => List.mem_cons_of_mem _ (in_Tab w h)) hown hK hP _ (fl_at 1 0 rfl rfl) rfl 2 (by decide) (hts _ (List.mem_cons_of_mem _ tw_44)) (fun _ h9 => h9) rfl d_X_drop_15 ?_
    refine lv_iload_n (pc := 18) hx hb d_X_drop_18 rfl (lv_at hl 0 rfl) ?_
    obtain ⟨hi2, hf⟩ := o_gi_e hf
    refine va_iald (D := D) (pc := 19) hx hb hK hP _ 0 (fl_at 1 3 rfl rfl) rfl hi2 d_X_drop_19 ?_
    refine lv_if_ne (tgt := 25) (pc := 20) hx hb d_X_drop_20 (by decide) (fun c5 => ?_) (fun c5 => ?_)
    · replace hf := o_f c5 hf
      refine lv_aload_n (pc := 25) hx hb d_X_drop_25 rfl (lv_at hl 1 rfl) ?_
      refine va_get (D := D) (ci := 0) (v := .ref (hTab 0)) (C := R_X) (T := T_X) (N := 10) (pc := 26) hx hb hts (fun w h => List.mem_cons_of_mem _ (in_X w h)) hown hK hP _ (fl_at 0 0 rfl rfl) rfl 0 (by decide) (hts _ (List.mem_cons_of_mem _ tw_383)) (fun _ h9 => h9) rfl d_X_drop_26 ?_
      refine va_get (D := D) (ci := 1) (v := .ref (hTab 3)) (C := R_Tab) (T := T_Tab) (N := 6) (pc := 29) hx hb hts (fun w h => List.mem_cons_of_mem _ (in_Tab w h)) hown hK hP _ (fl_at 1 0 rfl rfl) rfl 2 (by decide) (hts _ (List.mem_cons_of_mem _ tw_44)) (fun _ h9 => h9) rfl d_X_drop_29 ?_
      refine lv_iload_n (pc := 32) hx hb d_X_drop_32 rfl (lv_at hl 0 rfl) ?_
      refine lv_iconst (v := 0) (pc := 33) hx hb d_X_drop_33 (by decide) ?_
      obtain ⟨hi3, hf⟩ := o_gi_e hf
      refine va_iast (D := D) (pc := 34) hx hb hK hP hD hS _ 0 (fl_at 1 3 rfl rfl) rfl hi3 d_X_drop_34 (fun H locs hP hD hS => ?_)
      obtain ⟨sTab_4, esTab_4, hf⟩ := o_lt_e hf
      have hP : va_P D vwCl (fl [wX K hX (hTab 0) (hProg 0) (hWalk 0) (hWri 0) (hRea 0) (hTP 0) (hGrd 0) (hVAL 0) sX, wTab K hTab sTab_4]) H := by rw [esTab_4]; exact fl_P 1 3 rfl (Nat.le_of_ble_eq_true rfl) rfl rfl hP
      have hD : va_D A (fl [wX K hX (hTab 0) (hProg 0) (hWalk 0) (hWri 0) (hRea 0) (hTP 0) (hGrd 0) (hVAL 0) sX, wTab K hTab sTab_4]) := by rw [esTab_4]; exact fl_D 1 3 rfl (Nat.le_of_ble_eq_true rfl) rfl rfl hD
      refine lv_iconst (v := 1) (pc := 35) hx hb d_X_drop_35 (by decide) ?_
      cases hf
      exact ret_z hx hb hr hlocks hK hP hS rfl d_X_drop_36
    · replace hf := o_t c5 hf
      refine lv_iconst (v := 0) (pc := 23) hx hb d_X_drop_23 (by decide) ?_
      cases hf
      exact ret_z hx hb hr hlocks hK hP hS rfl d_X_drop_24
def X_fault (sX : S_X) (a0 : Int32) : Option (Int32) := if a0 = 0 then some (X_faultNumber sX) else if a0 = 1 then some (X_faultPlace sX) else some ((-1))
abbrev rm_X_fault : Room := { frames := 0, cells := 0, slots := 0, locals := 0 }
set_option maxHeartbeats 4000000 in
set_option maxRecDepth 100000 in
theorem c_X_fault (l : Launch) (D : va_G) (K : Nat → ClassId) (hX : Nat → Nat) (hVAL : Nat → Nat) (hTab : Nat → Nat) (hProg : Nat → Nat) (hWalk : Nat → Nat) (hWri : Nat → Nat) (hRea : Nat → Nat) (hTP : Nat → Nat) (hGrd : Nat → Nat) (sX : S_X) (a0 : Int32) (r : Int32) (hf : X_fault sX a0 = some r) : mi l D K y_X_fault ws_X_fault rm_X_fault [.ref (hX 0), .int a0] (fl [wX K hX (hTab 0) (hProg 0) (hWalk 0) (hWri 0) (hRea 0) (hTP 0) (hGrd 0) (hVAL 0) sX]) (fl [wX K hX (hTab 0) (hProg 0) (hWalk 0) (hWri 0) (hRea 0) (hTP 0) (hGrd 0) (hVAL 0) sX]) r := by
  refine mi_of (cc := b_X_fault) (maxL := 2) (own := "ObsMessages") (by decide) rfl rfl (Nat.le_of_ble_eq_true rfl) ?_
  intro p e s m below meth c A ls hC hP hD hS hl
  obtain ⟨hx, hb, hml, hown, hts, hr, hlocks, hK, hF, hA⟩ := hC
  have hP : va_P D vwCl (fl [wX K hX (hTab 0) (hProg 0) (hWalk 0) (hWri 0) (hRea 0) (hTP 0) (hGrd 0) (hVAL 0) sX]) s.heap := hP
  have hl : lv_has ls 2 [(0, .ref (hX 0)), (1, .int a0)] := hl
  suffices hW : ∀ (H : Heap) (locs : List Loc), va_P D vwCl (fl [wX K hX (hTab 0) (hProg 0) (hWalk 0) (hWri 0) (hRea 0) (hTP 0) (hGrd 0) (hVAL 0) sX]) H → va_S A s.heap H locs → W p l e rm_X_fault s m ([.ref (hX 0), .int a0] : List Value).toArray below meth c H locs 0 0 (Qi below ([.ref (hX 0), .int a0] : List Value).toArray s D K A (fl [wX K hX (hTab 0) (hProg 0) (hWalk 0) (hWri 0) (hRea 0) (hTP 0) (hGrd 0) (hVAL 0) sX]) r) (F0 m 0 ls []) from hW s.heap [] hP hS
  clear hP hS
  intro H locs hP hS
  refine lv_iload_n (pc := 0) hx hb d_X_fault_0 rfl (lv_at hl 1 rfl) ?_
  refine lv_if_ne (tgt := 9) (pc := 1) hx hb d_X_fault_1 (by decide) (fun c2 => ?_) (fun c2 => ?_)
  · replace hf := o_f c2 hf
    refine lv_iload_n (pc := 9) hx hb d_X_fault_9 rfl (lv_at hl 1 rfl) ?_
    refine lv_iconst (v := 1) (pc := 10) hx hb d_X_fault_10 (by decide) ?_
    refine lv_icmp_ne (tgt := 21) (pc := 11) hx hb d_X_fault_11 (by decide) (fun c1 => ?_) (fun c1 => ?_)
    · replace hf := o_f c1 hf
      refine lv_iconst (v := (-1)) (pc := 21) hx hb d_X_fault_21 (by decide) ?_
      cases hf
      exact ret_i hx hb hr hlocks hK hP hS d_X_fault_22
    · replace hf := o_t c1 hf
      refine lv_aload_n (pc := 14) hx hb d_X_fault_14 rfl (lv_at hl 0 rfl) ?_
      refine va_get (D := D) (ci := 0) (v := .int (X_faultPlace sX)) (C := R_X) (T := T_X) (N := 10) (pc := 15) hx hb hts (fun w h => List.mem_cons_of_mem _ (in_X w h)) hown hK hP _ (fl_at 0 0 rfl rfl) rfl 9 (by decide) (hts _ (List.mem_cons_of_mem _ tw_392)) (fun _ h9 => h9) rfl d_X_fault_15 ?_
      refine lv_goto (tgt := 22) (pc := 18) hx hb d_X_fault_18 (by decide) ?_
      cases hf
      exact ret_i hx hb hr hlocks hK hP hS d_X_fault_22
  · replace hf := o_t c2 hf
    refine lv_aload_n (pc := 4) hx hb d_X_fault_4 rfl (lv_at hl 0 rfl) ?_
    refine va_get (D := D) (ci := 0) (v := .int (X_faultNumber sX)) (C := R_X) (T := T_X) (N := 10) (pc := 5) hx hb hts (fun w h => List.mem_cons_of_mem _ (in_X w h)) hown hK hP _ (fl_at 0 0 rfl rfl) rfl 8 (by decide) (hts _ (List.mem_cons_of_mem _ tw_391)) (fun _ h9 => h9) rfl d_X_fault_5 ?_
    cases hf
    exact ret_i hx hb hr hlocks hK hP hS d_X_fault_8
def X_setFault (a0 : Int32) (a1 : Int32) (sX : S_X) : Option (S_X) := o_lt (X_set_faultNumber sX a0) fun sX_1 => (o_lt (X_set_faultPlace sX_1 a1) fun sX_2 => (some sX_2))
abbrev rm_X_setFault : Room := { frames := 0, cells := 0, slots := 0, locals := 0 }
set_option maxHeartbeats 4000000 in
set_option maxRecDepth 100000 in
theorem c_X_setFault (l : Launch) (D : va_G) (K : Nat → ClassId) (hX : Nat → Nat) (hVAL : Nat → Nat) (hTab : Nat → Nat) (hProg : Nat → Nat) (hWalk : Nat → Nat) (hWri : Nat → Nat) (hRea : Nat → Nat) (hTP : Nat → Nat) (hGrd : Nat → Nat) (sX : S_X) (a0 : Int32) (a1 : Int32) (sX' : S_X) (hf : X_setFault a0 a1 sX = some sX') : mv l D K y_X_setFault ws_X_setFault rm_X_setFault [.ref (hX 0), .int a0, .int a1] (fl [wX K hX (hTab 0) (hProg 0) (hWalk 0) (hWri 0) (hRea 0) (hTP 0) (hGrd 0) (hVAL 0) sX]) (fl [wX K hX (hTab 0) (hProg 0) (hWalk 0) (hWri 0) (hRea 0) (hTP 0) (hGrd 0) (hVAL 0) sX']) := by
  refine mv_of (cc := b_X_setFault) (maxL := 3) (own := "ObsMessages") (by decide) rfl rfl (Nat.le_of_ble_eq_true rfl) ?_
  intro p e s m below meth c A ls hC hP hD hS hl
  obtain ⟨hx, hb, hml, hown, hts, hr, hlocks, hK, hF, hA⟩ := hC
  have hP : va_P D vwCl (fl [wX K hX (hTab 0) (hProg 0) (hWalk 0) (hWri 0) (hRea 0) (hTP 0) (hGrd 0) (hVAL 0) sX]) s.heap := hP
  have hl : lv_has ls 3 [(0, .ref (hX 0)), (1, .int a0), (2, .int a1)] := hl
  suffices hW : ∀ (H : Heap) (locs : List Loc), va_P D vwCl (fl [wX K hX (hTab 0) (hProg 0) (hWalk 0) (hWri 0) (hRea 0) (hTP 0) (hGrd 0) (hVAL 0) sX]) H → va_S A s.heap H locs → W p l e rm_X_setFault s m ([.ref (hX 0), .int a0, .int a1] : List Value).toArray below meth c H locs 0 0 (Qv below ([.ref (hX 0), .int a0, .int a1] : List Value).toArray s D K A (fl [wX K hX (hTab 0) (hProg 0) (hWalk 0) (hWri 0) (hRea 0) (hTP 0) (hGrd 0) (hVAL 0) sX'])) (F0 m 0 ls []) from hW s.heap [] hP hS
  clear hP hS
  intro H locs hP hS
  refine lv_aload_n (pc := 0) hx hb d_X_setFault_0 rfl (lv_at hl 0 rfl) ?_
  refine lv_iload_n (pc := 1) hx hb d_X_setFault_1 rfl (lv_at hl 1 rfl) ?_
  refine va_put (D := D) (ci := 0) (v := .int a0) (ty := .int) (C := R_X) (T := T_X) (N := 10) (pc := 2) hx hb hts (fun w h => List.mem_cons_of_mem _ (in_X w h)) ty_X ty_X_ok nm_X hown hK hP hD hS _ (fl_at 0 0 rfl rfl) rfl 8 (by decide) (hts _ (List.mem_cons_of_mem _ tw_391)) (fun _ h9 => h9) rfl (by decide +kernel) rfl rfl (Nat.le_of_ble_eq_true rfl) d_X_setFault_2 (fun H locs hP hD hS => ?_)
  obtain ⟨sX_1, esX_1, hf⟩ := o_lt_e hf
  have hP : va_P D vwCl (fl [wX K hX (hTab 0) (hProg 0) (hWalk 0) (hWri 0) (hRea 0) (hTP 0) (hGrd 0) (hVAL 0) sX_1]) H := by rw [esX_1]; exact fl_P 0 0 rfl (Nat.le_of_ble_eq_true rfl) rfl rfl hP
  have hD : va_D A (fl [wX K hX (hTab 0) (hProg 0) (hWalk 0) (hWri 0) (hRea 0) (hTP 0) (hGrd 0) (hVAL 0) sX_1]) := by rw [esX_1]; exact fl_D 0 0 rfl (Nat.le_of_ble_eq_true rfl) rfl rfl hD
  refine lv_aload_n (pc := 5) hx hb d_X_setFault_5 rfl (lv_at hl 0 rfl) ?_
  refine lv_iload_n (pc := 6) hx hb d_X_setFault_6 rfl (lv_at hl 2 rfl) ?_
  refine va_put (D := D) (ci := 0) (v := .int a1) (ty := .int) (C := R_X) (T := T_X) (N := 10) (pc := 7) hx hb hts (fun w h => List.mem_cons_of_mem _ (in_X w h)) ty_X ty_X_ok nm_X hown hK hP hD hS _ (fl_at 0 0 rfl rfl) rfl 9 (by decide) (hts _ (List.mem_cons_of_mem _ tw_392)) (fun _ h9 => h9) rfl (by decide +kernel) rfl rfl (Nat.le_of_ble_eq_true rfl) d_X_setFault_7 (fun H locs hP hD hS => ?_)
  obtain ⟨sX_2, esX_2, hf⟩ := o_lt_e hf
  have hP : va_P D vwCl (fl [wX K hX (hTab 0) (hProg 0) (hWalk 0) (hWri 0) (hRea 0) (hTP 0) (hGrd 0) (hVAL 0) sX_2]) H := by rw [esX_2]; exact fl_P 0 0 rfl (Nat.le_of_ble_eq_true rfl) rfl rfl hP
  have hD : va_D A (fl [wX K hX (hTab 0) (hProg 0) (hWalk 0) (hWri 0) (hRea 0) (hTP 0) (hGrd 0) (hVAL 0) sX_2]) := by rw [esX_2]; exact fl_D 0 0 rfl (Nat.le_of_ble_eq_true rfl) rfl rfl hD
  cases hf
  exact ret_v hx hb hr hlocks hK hP hS d_X_setFault_10
def X_compileAnew (fu : Nat) (sTab : S_Tab) (sX : S_X) (sProg : S_Prog) : Option (Int32 × S_X × S_Prog) := o_bd (Prog_build fu sTab sProg) fun q1 => (o_bd (X_setFault (Prog_fault q1) (Prog_place q1) sX) fun q2 => (if (Prog_fault q1) = 0 then some ((1, q2, q1)) else some ((0, q2, q1))))
abbrev rm_X_compileAnew : Room := { frames := 5, cells := 0, slots := 0, locals := 144 }
set_option maxHeartbeats 4000000 in
set_option maxRecDepth 100000 in
theorem c_X_compileAnew (l : Launch) (D : va_G) (K : Nat → ClassId) (fu : Nat) (hX : Nat → Nat) (hVAL : Nat → Nat) (hTab : Nat → Nat) (hProg : Nat → Nat) (hWalk : Nat → Nat) (hWri : Nat → Nat) (hRea : Nat → Nat) (hTP : Nat → Nat) (hGrd : Nat → Nat) (sX : S_X) (sTab : S_Tab) (sProg : S_Prog) (r : Int32) (sX' : S_X) (sProg' : S_Prog) (hf : X_compileAnew fu sTab sX sProg = some ((r, sX', sProg'))) : mi l D K y_X_compileAnew ws_X_compileAnew rm_X_compileAnew [.ref (hX 0)] (fl [wX K hX (hTab 0) (hProg 0) (hWalk 0) (hWri 0) (hRea 0) (hTP 0) (hGrd 0) (hVAL 0) sX, wTab K hTab sTab, wProg K hProg (hTab 0) sProg]) (fl [wX K hX (hTab 0) (hProg 0) (hWalk 0) (hWri 0) (hRea 0) (hTP 0) (hGrd 0) (hVAL 0) sX', wTab K hTab sTab, wProg K hProg (hTab 0) sProg']) r := by
  refine mi_of (cc := b_X_compileAnew) (maxL := 1) (own := "ObsMessages") (by decide) rfl rfl (Nat.le_of_ble_eq_true rfl) ?_
  intro p e s m below meth c A ls hC hP hD hS hl
  obtain ⟨hx, hb, hml, hown, hts, hr, hlocks, hK, hF, hA⟩ := hC
  have hP : va_P D vwCl (fl [wX K hX (hTab 0) (hProg 0) (hWalk 0) (hWri 0) (hRea 0) (hTP 0) (hGrd 0) (hVAL 0) sX, wTab K hTab sTab, wProg K hProg (hTab 0) sProg]) s.heap := hP
  have hl : lv_has ls 1 [(0, .ref (hX 0))] := hl
  suffices hW : ∀ (H : Heap) (locs : List Loc), va_P D vwCl (fl [wX K hX (hTab 0) (hProg 0) (hWalk 0) (hWri 0) (hRea 0) (hTP 0) (hGrd 0) (hVAL 0) sX, wTab K hTab sTab, wProg K hProg (hTab 0) sProg]) H → va_S A s.heap H locs → W p l e rm_X_compileAnew s m ([.ref (hX 0)] : List Value).toArray below meth c H locs 0 0 (Qi below ([.ref (hX 0)] : List Value).toArray s D K A (fl [wX K hX (hTab 0) (hProg 0) (hWalk 0) (hWri 0) (hRea 0) (hTP 0) (hGrd 0) (hVAL 0) sX', wTab K hTab sTab, wProg K hProg (hTab 0) sProg']) r) (F0 m 0 ls []) from hW s.heap [] hP hS
  clear hP hS
  intro H locs hP hS
  refine lv_aload_n (pc := 0) hx hb d_X_compileAnew_0 rfl (lv_at hl 0 rfl) ?_
  refine va_get (D := D) (ci := 0) (v := .ref (hProg 0)) (C := R_X) (T := T_X) (N := 10) (pc := 1) hx hb hts (fun w h => List.mem_cons_of_mem _ (in_X w h)) hown hK hP _ (fl_at 0 0 rfl rfl) rfl 1 (by decide) (hts _ (List.mem_cons_of_mem _ tw_384)) (fun _ h9 => h9) rfl d_X_compileAnew_1 ?_
  obtain ⟨q1, hq1, hf⟩ := o_bd_e hf
  refine fi_v (pc := 4) (va_runV (As := []) (rest := []) ⟨hx, hb, hml, hown, hts⟩ ((c_Prog_build l D K fu hTab hProg sTab sProg q1 hq1) _) (cwV 0 hts (gV tw_442 tw_443 tw_444 tw_3 tw_445) rfl rfl rfl (by decide +kernel) ⟨by decide, by decide⟩) ⟨mPre_blind, va_recv hK hP (ci := 2) rfl (fl_at 2 0 rfl rfl), (mPre_fl hK hF hA hP hD hS [1, 2] rfl rfl)⟩ rfl rfl hl.1 rfl (lv_room (Nat.le_of_ble_eq_true rfl)) d_X_compileAnew_4 ⟨Nat.zero_le _, Nat.zero_le _⟩) hA hP hD hS [1, 2] rfl rfl (fun H locs hP hD hS => ?_)
  have hP : va_P D vwCl (fl [wX K hX (hTab 0) (hProg 0) (hWalk 0) (hWri 0) (hRea 0) (hTP 0) (hGrd 0) (hVAL 0) sX, wTab K hTab sTab, wProg K hProg (hTab 0) q1]) H := hP
  have hD : va_D A (fl [wX K hX (hTab 0) (hProg 0) (hWalk 0) (hWri 0) (hRea 0) (hTP 0) (hGrd 0) (hVAL 0) sX, wTab K hTab sTab, wProg K hProg (hTab 0) q1]) := hD
  refine lv_aload_n (pc := 7) hx hb d_X_compileAnew_7 rfl (lv_at hl 0 rfl) ?_
  refine lv_aload_n (pc := 8) hx hb d_X_compileAnew_8 rfl (lv_at hl 0 rfl) ?_
  refine va_get (D := D) (ci := 0) (v := .ref (hProg 0)) (C := R_X) (T := T_X) (N := 10) (pc := 9) hx hb hts (fun w h => List.mem_cons_of_mem _ (in_X w h)) hown hK hP _ (fl_at 0 0 rfl rfl) rfl 1 (by decide) (hts _ (List.mem_cons_of_mem _ tw_384)) (fun _ h9 => h9) rfl d_X_compileAnew_9 ?_
  refine va_get (D := D) (ci := 2) (v := .int (Prog_fault q1)) (C := R_Prog) (T := T_Prog) (N := 14) (pc := 12) hx hb hts (fun w h => List.mem_cons_of_mem _ (in_Prog w h)) hown hK hP _ (fl_at 2 0 rfl rfl) rfl 3 (by decide) (hts _ (List.mem_cons_of_mem _ tw_82)) (fun _ h9 => h9) rfl d_X_compileAnew_12 ?_
  refine lv_aload_n (pc := 15) hx hb d_X_compileAnew_15 rfl (lv_at hl 0 rfl) ?_
  refine va_get (D := D) (ci := 0) (v := .ref (hProg 0)) (C := R_X) (T := T_X) (N := 10) (pc := 16) hx hb hts (fun w h => List.mem_cons_of_mem _ (in_X w h)) hown hK hP _ (fl_at 0 0 rfl rfl) rfl 1 (by decide) (hts _ (List.mem_cons_of_mem _ tw_384)) (fun _ h9 => h9) rfl d_X_compileAnew_16 ?_
  refine va_get (D := D) (ci := 2) (v := .int (Prog_place q1)) (C := R_Prog) (T := T_Prog) (N := 14) (pc := 19) hx hb hts (fun w h => List.mem_cons_of_mem _ (in_Prog w h)) hown hK hP _ (fl_at 2 0 rfl rfl) rfl 4 (by decide) (hts _ (List.mem_cons_of_mem _ tw_84)) (fun _ h9 => h9) rfl d_X_compileAnew_19 ?_
  obtain ⟨q2, hq2, hf⟩ := o_bd_e hf
  refine fi_v (pc := 22) (va_runV (As := [.int (Prog_fault q1), .int (Prog_place q1)]) (rest := []) ⟨hx, hb, hml, hown, hts⟩ ((c_X_setFault l D K hX hVAL hTab hProg hWalk hWri hRea hTP hGrd sX (Prog_fault q1) (Prog_place q1) q2 hq2) _) (cwV 2 hts (gV tw_827 tw_829 tp_22 tw_1 tw_830) rfl rfl rfl (by decide +kernel) ⟨by decide, by decide⟩) ⟨mPre_blind, va_recv hK hP (ci := 0) rfl (fl_at 0 0 rfl rfl), (mPre_fl hK hF hA hP hD hS [0] rfl rfl)⟩ rfl rfl hl.1 rfl (lv_room (Nat.le_of_ble_eq_true rfl)) d_X_compileAnew_22 ⟨Nat.zero_le _, Nat.zero_le _⟩) hA hP hD hS [0] rfl rfl (fun H locs hP hD hS => ?_)
  have hP : va_P D vwCl (fl [wX K hX (hTab 0) (hProg 0) (hWalk 0) (hWri 0) (hRea 0) (hTP 0) (hGrd 0) (hVAL 0) q2, wTab K hTab sTab, wProg K hProg (hTab 0) q1]) H := hP
  have hD : va_D A (fl [wX K hX (hTab 0) (hProg 0) (hWalk 0) (hWri 0) (hRea 0) (hTP 0) (hGrd 0) (hVAL 0) q2, wTab K hTab sTab, wProg K hProg (hTab 0) q1]) := hD
  refine lv_aload_n (pc := 25) hx hb d_X_compileAnew_25 rfl (lv_at hl 0 rfl) ?_
  refine va_get (D := D) (ci := 0) (v := .ref (hProg 0)) (C := R_X) (T := T_X) (N := 10) (pc := 26) hx hb hts (fun w h => List.mem_cons_of_mem _ (in_X w h)) hown hK hP _ (fl_at 0 0 rfl rfl) rfl 1 (by decide) (hts _ (List.mem_cons_of_mem _ tw_384)) (fun _ h9 => h9) rfl d_X_compileAnew_26 ?_
  refine va_get (D := D) (ci := 2) (v := .int (Prog_fault q1)) (C := R_Prog) (T := T_Prog) (N := 14) (pc := 29) hx hb hts (fun w h => List.mem_cons_of_mem _ (in_Prog w h)) hown hK hP _ (fl_at 2 0 rfl rfl) rfl 3 (by decide) (hts _ (List.mem_cons_of_mem _ tw_82)) (fun _ h9 => h9) rfl d_X_compileAnew_29 ?_
  refine lv_if_ne (tgt := 39) (pc := 32) hx hb d_X_compileAnew_32 (by decide) (fun c3 => ?_) (fun c3 => ?_)
  · replace hf := o_f c3 hf
    refine lv_iconst (v := 0) (pc := 39) hx hb d_X_compileAnew_39 (by decide) ?_
    cases hf
    exact ret_z hx hb hr hlocks hK hP hS rfl d_X_compileAnew_40
  · replace hf := o_t c3 hf
    refine lv_iconst (v := 1) (pc := 35) hx hb d_X_compileAnew_35 (by decide) ?_
    refine lv_goto (tgt := 40) (pc := 36) hx hb d_X_compileAnew_36 (by decide) ?_
    cases hf
    exact ret_z hx hb hr hlocks hK hP hS rfl d_X_compileAnew_40
def X_walkOver (fu : Nat) (sX : S_X) (sVAL : (Nat → Nat → Int64)) (sTab : S_Tab) (a0 : Int32) (sProg : S_Prog) (sWalk : S_Walk) (sFld : S_Fld) (sLps : S_Lps) : Option (Int32 × S_Prog × S_Walk × S_Fld × S_Lps) := o_bd (X_isSubset a0) fun q1 => (if q1 = 0 then some ((0, sProg, sWalk, sFld, sLps)) else o_bd (Prog_build fu sTab sProg) fun q2 => (if (Prog_fault q2) = 0 then o_gd (o_in a0 8) (o_bd (Walk_over fu 100 sTab q2 (sVAL ((a0 : Int32).toNatClampNeg)) sWalk sFld sLps) fun q4 => (some ((1, q2, q4.1, q4.2.1, q4.2.2)))) else some ((0, q2, sWalk, sFld, sLps))))
abbrev rm_X_walkOver : Room := { frames := 5, cells := 0, slots := 0, locals := 144 }
set_option maxHeartbeats 4000000 in
set_option maxRecDepth 100000 in
theorem c_X_walkOver (l : Launch) (D : va_G) (K : Nat → ClassId) (fu : Nat) (hX : Nat → Nat) (hVAL : Nat → Nat) (hTab : Nat → Nat) (hProg : Nat → Nat) (hWalk : Nat → Nat) (hFld : Nat → Nat) (hLps : Nat → Nat) (hWri : Nat → Nat) (hRea : Nat → Nat) (hTP : Nat → Nat) (hGrd : Nat → Nat) (sX : S_X) (sVAL : (Nat → Nat → Int64)) (sTab : S_Tab) (sProg : S_Prog) (sWalk : S_Walk) (sFld : S_Fld) (sLps : S_Lps) (a0 : Int32) (r : Int32) (sProg' : S_Prog) (sWalk' : S_Walk) (sFld' : S_Fld) (sLps' : S_Lps) (hf : X_walkOver fu sX sVAL sTab a0 sProg sWalk sFld sLps = some ((r, sProg', sWalk', sFld', sLps'))) : mi l D K y_X_walkOver ws_X_walkOver rm_X_walkOver [.ref (hX 0), .int a0] (fl [wX K hX (hTab 0) (hProg 0) (hWalk 0) (hWri 0) (hRea 0) (hTP 0) (hGrd 0) (hVAL 0) sX, wGO K hVAL, wRow K (fun _ => hVAL 1) 100 (sVAL 0), wRow K (fun _ => hVAL 2) 100 (sVAL 1), wRow K (fun _ => hVAL 3) 100 (sVAL 2), wRow K (fun _ => hVAL 4) 100 (sVAL 3), wRow K (fun _ => hVAL 5) 100 (sVAL 4), wRow K (fun _ => hVAL 6) 100 (sVAL 5), wRow K (fun _ => hVAL 7) 100 (sVAL 6), wRow K (fun _ => hVAL 8) 100 (sVAL 7), wTab K hTab sTab, wProg K hProg (hTab 0) sProg, wWalk K hWalk (hFld 0) (hTab 0) (hProg 0) (hLps 0) sWalk, wFld K hFld sFld, wLps K hLps sLps]) (fl [wX K hX (hTab 0) (hProg 0) (hWalk 0) (hWri 0) (hRea 0) (hTP 0) (hGrd 0) (hVAL 0) sX, wGO K hVAL, wRow K (fun _ => hVAL 1) 100 (sVAL 0), wRow K (fun _ => hVAL 2) 100 (sVAL 1), wRow K (fun _ => hVAL 3) 100 (sVAL 2), wRow K (fun _ => hVAL 4) 100 (sVAL 3), wRow K (fun _ => hVAL 5) 100 (sVAL 4), wRow K (fun _ => hVAL 6) 100 (sVAL 5), wRow K (fun _ => hVAL 7) 100 (sVAL 6), wRow K (fun _ => hVAL 8) 100 (sVAL 7), wTab K hTab sTab, wProg K hProg (hTab 0) sProg', wWalk K hWalk (hFld 0) (hTab 0) (hProg 0) (hLps 0) sWalk', wFld K hFld sFld', wLps K hLps sLps']) r := by
  refine mi_of (cc := b_X_walkOver) (maxL := 2) (own := "ObsMessages") (by decide) rfl rfl (Nat.le_of_ble_eq_true rfl) ?_
  intro p e s m below meth c A ls hC hP hD hS hl
  obtain ⟨hx, hb, hml, hown, hts, hr, hlocks, hK, hF, hA⟩ := hC
  have hP : va_P D vwCl (fl [wX K hX (hTab 0) (hProg 0) (hWalk 0) (hWri 0) (hRea 0) (hTP 0) (hGrd 0) (hVAL 0) sX, wGO K hVAL, wRow K (fun _ => hVAL 1) 100 (sVAL 0), wRow K (fun _ => hVAL 2) 100 (sVAL 1), wRow K (fun _ => hVAL 3) 100 (sVAL 2), wRow K (fun _ => hVAL 4) 100 (sVAL 3), wRow K (fun _ => hVAL 5) 100 (sVAL 4), wRow K (fun _ => hVAL 6) 100 (sVAL 5), wRow K (fun _ => hVAL 7) 100 (sVAL 6), wRow K (fun _ => hVAL 8) 100 (sVAL 7), wTab K hTab sTab, wProg K hProg (hTab 0) sProg, wWalk K hWalk (hFld 0) (hTab 0) (hProg 0) (hLps 0) sWalk, wFld K hFld sFld, wLps K hLps sLps]) s.heap := hP
  have hl : lv_has ls 2 [(0, .ref (hX 0)), (1, .int a0)] := hl
  suffices hW : ∀ (H : Heap) (locs : List Loc), va_P D vwCl (fl [wX K hX (hTab 0) (hProg 0) (hWalk 0) (hWri 0) (hRea 0) (hTP 0) (hGrd 0) (hVAL 0) sX, wGO K hVAL, wRow K (fun _ => hVAL 1) 100 (sVAL 0), wRow K (fun _ => hVAL 2) 100 (sVAL 1), wRow K (fun _ => hVAL 3) 100 (sVAL 2), wRow K (fun _ => hVAL 4) 100 (sVAL 3), wRow K (fun _ => hVAL 5) 100 (sVAL 4), wRow K (fun _ => hVAL 6) 100 (sVAL 5), wRow K (fun _ => hVAL 7) 100 (sVAL 6), wRow K (fun _ => hVAL 8) 100 (sVAL 7), wTab K hTab sTab, wProg K hProg (hTab 0) sProg, wWalk K hWalk (hFld 0) (hTab 0) (hProg 0) (hLps 0) sWalk, wFld K hFld sFld, wLps K hLps sLps]) H → va_S A s.heap H locs → W p l e rm_X_walkOver s m ([.ref (hX 0), .int a0] : List Value).toArray below meth c H locs 0 0 (Qi below ([.ref (hX 0), .int a0] : List Value).toArray s D K A (fl [wX K hX (hTab 0) (hProg 0) (hWalk 0) (hWri 0) (hRea 0) (hTP 0) (hGrd 0) (hVAL 0) sX, wGO K hVAL, wRow K (fun _ => hVAL 1) 100 (sVAL 0), wRow K (fun _ => hVAL 2) 100 (sVAL 1), wRow K (fun _ => hVAL 3) 100 (sVAL 2), wRow K (fun _ => hVAL 4) 100 (sVAL 3), wRow K (fun _ => hVAL 5) 100 (sVAL 4), wRow K (fun _ => hVAL 6) 100 (sVAL 5), wRow K (fun _ => hVAL 7) 100 (sVAL 6), wRow K (fun _ => hVAL 8) 100 (sVAL 7), wTab K hTab sTab, wProg K hProg (hTab 0) sProg', wWalk K hWalk (hFld 0) (hTab 0) (hProg 0) (hLps 0) sWalk', wFld K hFld sFld', wLps K hLps sLps']) r) (F0 m 0 ls []) from hW s.heap [] hP hS
  clear hP hS
  intro H locs hP hS
  refine lv_iload_n (pc := 0) hx hb d_X_walkOver_0 rfl (lv_at hl 1 rfl) ?_
  obtain ⟨q1, hq1, hf⟩ := o_bd_e hf
  refine fi_i (pc := 1) (va_runS (As := [.int a0]) (rest := []) ⟨hx, hb, hml, hown, hts⟩ ((c_X_isSubset l D K a0 q1 hq1) _) (cwS 1 hts (gS tw_439 tw_440 tw_1 tw_441) rfl rfl rfl (by decide +kernel) ⟨by decide, by decide⟩) ⟨mPre_blind, (mPre_fl hK hF hA hP hD hS [] rfl rfl)⟩ rfl rfl hl.1 rfl (lv_room (Nat.le_of_ble_eq_true rfl)) d_X_walkOver_1 ⟨Nat.zero_le _, Nat.zero_le _⟩) hA hP hD hS [] rfl rfl (fun H locs hP hD hS => ?_)
  have hP : va_P D vwCl (fl [wX K hX (hTab 0) (hProg 0) (hWalk 0) (hWri 0) (hRea 0) (hTP 0) (hGrd 0) (hVAL 0) sX, wGO K hVAL, wRow K (fun _ => hVAL 1) 100 (sVAL 0), wRow K (fun _ => hVAL 2) 100 (sVAL 1), wRow K (fun _ => hVAL 3) 100 (sVAL 2), wRow K (fun _ => hVAL 4) 100 (sVAL 3), wRow K (fun _ => hVAL 5) 100 (sVAL 4), wRow K (fun _ => hVAL 6) 100 (sVAL 5), wRow K (fun _ => hVAL 7) 100 (sVAL 6), wRow K (fun _ => hVAL 8) 100 (sVAL 7), wTab K hTab sTab, wProg K hProg (hTab 0) sProg, wWalk K hWalk (hFld 0) (hTab 0) (hProg 0) (hLps 0) sWalk, wFld K hFld sFld, wLps K hLps sLps]) H := hP
  have hD : va_D A (fl [wX K hX (hTab 0) (hProg 0) (hWalk 0) (hWri 0) (hRea 0) (hTP 0) (hGrd 0) (hVAL 0) sX, wGO K hVAL, wRow K (fun _ => hVAL 1) 100 (sVAL 0), wRow K (fun _ => hVAL 2) 100 (sVAL 1), wRow K (fun _ => hVAL 3) 100 (sVAL 2), wRow K (fun _ => hVAL 4) 100 (sVAL 3), wRow K (fun _ => hVAL 5) 100 (sVAL 4), wRow K (fun _ => hVAL 6) 100 (sVAL 5), wRow K (fun _ => hVAL 7) 100 (sVAL 6), wRow K (fun _ => hVAL 8) 100 (sVAL 7), wTab K hTab sTab, wProg K hProg (hTab 0) sProg, wWalk K hWalk (hFld 0) (hTab 0) (hProg 0) (hLps 0) sWalk, wFld K hFld sFld, wLps K hLps sLps]) := hD
  refine lv_if_ne (tgt := 9) (pc := 4) hx hb d_X_walkOver_4 (by decide) (fun c6 => ?_) (fun c6 => ?_)
  · replace hf := o_f c6 hf
    refine lv_aload_n (pc := 9) hx hb d_X_walkOver_9 rfl (lv_at hl 0 rfl) ?_
    refine va_get (D := D) (ci := 0) (v := .ref (hProg 0)) (C := R_X) (T := T_X) (N := 10) (pc := 10) hx hb hts (fun w h => List.mem_cons_of_mem _ (in_X w h)) hown hK hP _ (fl_at 0 0 rfl rfl) rfl 1 (by decide) (hts _ (List.mem_cons_of_mem _ tw_384)) (fun _ h9 => h9) rfl d_X_walkOver_10 ?_
    obtain ⟨q2, hq2, hf⟩ := o_bd_e hf
    refine fi_v (pc := 13) (va_runV (As := []) (rest := []) ⟨hx, hb, hml, hown, hts⟩ ((c_Prog_build l D K fu hTab hProg sTab sProg q2 hq2) _) (cwV 0 hts (gV tw_442 tw_443 tw_444 tw_3 tw_445) rfl rfl rfl (by decide +kernel) ⟨by decide, by decide⟩) ⟨mPre_blind, va_recv hK hP (ci := 2) rfl (fl_at 11 0 rfl rfl), (mPre_fl hK hF hA hP hD hS [10, 11] rfl rfl)⟩ rfl rfl hl.1 rfl (lv_room (Nat.le_of_ble_eq_true rfl)) d_X_walkOver_13 ⟨Nat.zero_le _, Nat.zero_le _⟩) hA hP hD hS [10, 11] rfl rfl (fun H locs hP hD hS => ?_)
    have hP : va_P D vwCl (fl [wX K hX (hTab 0) (hProg 0) (hWalk 0) (hWri 0) (hRea 0) (hTP 0) (hGrd 0) (hVAL 0) sX, wGO K hVAL, wRow K (fun _ => hVAL 1) 100 (sVAL 0), wRow K (fun _ => hVAL 2) 100 (sVAL 1), wRow K (fun _ => hVAL 3) 100 (sVAL 2), wRow K (fun _ => hVAL 4) 100 (sVAL 3), wRow K (fun _ => hVAL 5) 100 (sVAL 4), wRow K (fun _ => hVAL 6) 100 (sVAL 5), wRow K (fun _ => hVAL 7) 100 (sVAL 6), wRow K (fun _ => hVAL 8) 100 (sVAL 7), wTab K hTab sTab, wProg K hProg (hTab 0) q2, wWalk K hWalk (hFld 0) (hTab 0) (hProg 0) (hLps 0) sWalk, wFld K hFld sFld, wLps K hLps sLps]) H := hP
    have hD : va_D A (fl [wX K hX (hTab 0) (hProg 0) (hWalk 0) (hWri 0) (hRea 0) (hTP 0) (hGrd 0) (hVAL 0) sX, wGO K hVAL, wRow K (fun _ => hVAL 1) 100 (sVAL 0), wRow K (fun _ => hVAL 2) 100 (sVAL 1), wRow K (fun _ => hVAL 3) 100 (sVAL 2), wRow K (fun _ => hVAL 4) 100 (sVAL 3), wRow K (fun _ => hVAL 5) 100 (sVAL 4), wRow K (fun _ => hVAL 6) 100 (sVAL 5), wRow K (fun _ => hVAL 7) 100 (sVAL 6), wRow K (fun _ => hVAL 8) 100 (sVAL 7), wTab K hTab sTab, wProg K hProg (hTab 0) q2, wWalk K hWalk (hFld 0) (hTab 0) (hProg 0) (hLps 0) sWalk, wFld K hFld sFld, wLps K hLps sLps]) := hD
    refine lv_aload_n (pc := 16) hx hb d_X_walkOver_16 rfl (lv_at hl 0 rfl) ?_
    refine va_get (D := D) (ci := 0) (v := .ref (hProg 0)) (C := R_X) (T := T_X) (N := 10) (pc := 17) hx hb hts (fun w h => List.mem_cons_of_mem _ (in_X w h)) hown hK hP _ (fl_at 0 0 rfl rfl) rfl 1 (by decide) (hts _ (List.mem_cons_of_mem _ tw_384)) (fun _ h9 => h9) rfl d_X_walkOver_17 ?_
    refine va_get (D := D) (ci := 2) (v := .int (Prog_fault q2)) (C := R_Prog) (T := T_Prog) (N := 14) (pc := 20) hx hb hts (fun w h => List.mem_cons_of_mem _ (in_Prog w h)) hown hK hP _ (fl_at 11 0 rfl rfl) rfl 3 (by decide) (hts _ (List.mem_cons_of_mem _ tw_82)) (fun _ h9 => h9) rfl d_X_walkOver_20 ?_
    refine lv_if_eq (tgt := 28) (pc := 23) hx hb d_X_walkOver_23 (by decide) (fun c5 => ?_) (fun c5 => ?_)
    · replace hf := o_t c5 hf
      refine lv_aload_n (pc := 28) hx hb d_X_walkOver_28 rfl (lv_at hl 0 rfl) ?_
      refine va_get (D := D) (ci := 0) (v := .ref (hWalk 0)) (C := R_X) (T := T_X) (N := 10) (pc := 29) hx hb hts (fun w h => List.mem_cons_of_mem _ (in_X w h)) hown hK hP _ (fl_at 0 0 rfl rfl) rfl 2 (by decide) (hts _ (List.mem_cons_of_mem _ tw_385)) (fun _ h9 => h9) rfl d_X_walkOver_29 ?_
      refine lv_aload_n (pc := 32) hx hb d_X_walkOver_32 rfl (lv_at hl 0 rfl) ?_
      refine va_get (D := D) (ci := 0) (v := .ref (hVAL 0)) (C := R_X) (T := T_X) (N := 10) (pc := 33) hx hb hts (fun w h => List.mem_cons_of_mem _ (in_X w h)) hown hK hP _ (fl_at 0 0 rfl rfl) rfl 7 (by decide) (hts _ (List.mem_cons_of_mem _ tw_390)) (fun _ h9 => h9) rfl d_X_walkOver_33 ?_
      refine lv_iload_n (pc := 36) hx hb d_X_walkOver_36 rfl (lv_at hl 1 rfl) ?_
      obtain ⟨hi3, hf⟩ := o_gi_e hf
      refine va_aldg (D := D) (pc := 37) hx hb hK hP _ 2 (fl_at 1 0 rfl rfl) rfl hi3 d_X_walkOver_37 ?_
      refine W.eq (g2 := F0 m 38 ls [.ref (hVAL ((a0 : Int32).toNatClampNeg + 1)), .ref (hWalk 0)]) rfl ?_
      obtain ⟨q4, hq4, hf⟩ := o_bd_e hf
      refine fi_v (pc := 38) (va_runV (As := [.ref (hVAL ((a0 : Int32).toNatClampNeg + 1))]) (rest := []) ⟨hx, hb, hml, hown, hts⟩ ((c_Walk_over l D K fu hTab hProg hWalk hFld hLps (fun _ => hVAL ((a0 : Int32).toNatClampNeg + 1)) 100 sTab q2 sWalk sFld sLps (sVAL ((a0 : Int32).toNatClampNeg)) q4.1 q4.2.1 q4.2.2 hq4) _) (cwV 1 hts (gV tw_539 tw_540 tw_541 tw_4 tw_542) rfl rfl rfl (by decide +kernel) ⟨by decide, by decide⟩) ⟨mPre_blind, va_recv hK hP (ci := 3) rfl (fl_at 12 0 rfl rfl), (mPre_fl hK hF hA hP hD hS [10, 11, 12, 13, 14, 2 + (a0 : Int32).toNatClampNeg] (gr8 (P := fun k => ([10, 11, 12, 13, 14, 2 + k] : List Nat).map (fun i => ([wX K hX (hTab 0) (hProg 0) (hWalk 0) (hWri 0) (hRea 0) (hTP 0) (hGrd 0) (hVAL 0) sX, wGO K hVAL, wRow K (fun _ => hVAL 1) 100 (sVAL 0), wRow K (fun _ => hVAL 2) 100 (sVAL 1), wRow K (fun _ => hVAL 3) 100 (sVAL 2), wRow K (fun _ => hVAL 4) 100 (sVAL 3), wRow K (fun _ => hVAL 5) 100 (sVAL 4), wRow K (fun _ => hVAL 6) 100 (sVAL 5), wRow K (fun _ => hVAL 7) 100 (sVAL 6), wRow K (fun _ => hVAL 8) 100 (sVAL 7), wTab K hTab sTab, wProg K hProg (hTab 0) q2, wWalk K hWalk (hFld 0) (hTab 0) (hProg 0) (hLps 0) sWalk, wFld K hFld sFld, wLps K hLps sLps] : List va_W)[i]?) = ([wTab K hTab sTab, wProg K hProg (hTab 0) q2, wWalk K hWalk (hFld 0) (hTab 0) (hProg 0) (hLps 0) sWalk, wFld K hFld sFld, wLps K hLps sLps, wRow K (fun _ => hVAL (k + 1)) 100 (sVAL k)] : List va_W).map some) (vp_lt hi3) rfl rfl rfl rfl rfl rfl rfl rfl) (gr8 (P := fun k => va_nd [10, 11, 12, 13, 14, 2 + k] = true) (vp_lt hi3) rfl rfl rfl rfl rfl rfl rfl rfl))⟩ rfl rfl hl.1 rfl (lv_room (Nat.le_of_ble_eq_true rfl)) d_X_walkOver_38 ⟨Nat.zero_le _, Nat.zero_le _⟩) hA hP hD hS [10, 11, 12, 13, 14, 2 + (a0 : Int32).toNatClampNeg] (gr8 (P := fun k => ([10, 11, 12, 13, 14, 2 + k] : List Nat).map (fun i => ([wX K hX (hTab 0) (hProg 0) (hWalk 0) (hWri 0) (hRea 0) (hTP 0) (hGrd 0) (hVAL 0) sX, wGO K hVAL, wRow K (fun _ => hVAL 1) 100 (sVAL 0), wRow K (fun _ => hVAL 2) 100 (sVAL 1), wRow K (fun _ => hVAL 3) 100 (sVAL 2), wRow K (fun _ => hVAL 4) 100 (sVAL 3), wRow K (fun _ => hVAL 5) 100 (sVAL 4), wRow K (fun _ => hVAL 6) 100 (sVAL 5), wRow K (fun _ => hVAL 7) 100 (sVAL 6), wRow K (fun _ => hVAL 8) 100 (sVAL 7), wTab K hTab sTab, wProg K hProg (hTab 0) q2, wWalk K hWalk (hFld 0) (hTab 0) (hProg 0) (hLps 0) sWalk, wFld K hFld sFld, wLps K hLps sLps] : List va_W)[i]?) = ([wTab K hTab sTab, wProg K hProg (hTab 0) q2, wWalk K hWalk (hFld 0) (hTab 0) (hProg 0) (hLps 0) sWalk, wFld K hFld sFld, wLps K hLps sLps, wRow K (fun _ => hVAL (k + 1)) 100 (sVAL k)] : List va_W).map some) (vp_lt hi3) rfl rfl rfl rfl rfl rfl rfl rfl) rfl (fun H locs hP hD hS => ?_)
      have hPB := (gr8 (P := fun k => pl [wX K hX (hTab 0) (hProg 0) (hWalk 0) (hWri 0) (hRea 0) (hTP 0) (hGrd 0) (hVAL 0) sX, wGO K hVAL, wRow K (fun _ => hVAL 1) 100 (sVAL 0), wRow K (fun _ => hVAL 2) 100 (sVAL 1), wRow K (fun _ => hVAL 3) 100 (sVAL 2), wRow K (fun _ => hVAL 4) 100 (sVAL 3), wRow K (fun _ => hVAL 5) 100 (sVAL 4), wRow K (fun _ => hVAL 6) 100 (sVAL 5), wRow K (fun _ => hVAL 7) 100 (sVAL 6), wRow K (fun _ => hVAL 8) 100 (sVAL 7), wTab K hTab sTab, wProg K hProg (hTab 0) q2, wWalk K hWalk (hFld 0) (hTab 0) (hProg 0) (hLps 0) sWalk, wFld K hFld sFld, wLps K hLps sLps] [10, 11, 12, 13, 14, 2 + k] [wTab K hTab sTab, wProg K hProg (hTab 0) q2, wWalk K hWalk (hFld 0) (hTab 0) (hProg 0) (hLps 0) q4.1, wFld K hFld q4.2.1, wLps K hLps q4.2.2, wRow K (fun _ => hVAL (k + 1)) 100 (sVAL k)] = [wX K hX (hTab 0) (hProg 0) (hWalk 0) (hWri 0) (hRea 0) (hTP 0) (hGrd 0) (hVAL 0) sX, wGO K hVAL, wRow K (fun _ => hVAL 1) 100 (sVAL 0), wRow K (fun _ => hVAL 2) 100 (sVAL 1), wRow K (fun _ => hVAL 3) 100 (sVAL 2), wRow K (fun _ => hVAL 4) 100 (sVAL 3), wRow K (fun _ => hVAL 5) 100 (sVAL 4), wRow K (fun _ => hVAL 6) 100 (sVAL 5), wRow K (fun _ => hVAL 7) 100 (sVAL 6), wRow K (fun _ => hVAL 8) 100 (sVAL 7), wTab K hTab sTab, wProg K hProg (hTab 0) q2, wWalk K hWalk (hFld 0) (hTab 0) (hProg 0) (hLps 0) q4.1, wFld K hFld q4.2.1, wLps K hLps q4.2.2]) (vp_lt hi3) rfl rfl rfl rfl rfl rfl rfl rfl)
      have hP : va_P D vwCl (fl [wX K hX (hTab 0) (hProg 0) (hWalk 0) (hWri 0) (hRea 0) (hTP 0) (hGrd 0) (hVAL 0) sX, wGO K hVAL, wRow K (fun _ => hVAL 1) 100 (sVAL 0), wRow K (fun _ => hVAL 2) 100 (sVAL 1), wRow K (fun _ => hVAL 3) 100 (sVAL 2), wRow K (fun _ => hVAL 4) 100 (sVAL 3), wRow K (fun _ => hVAL 5) 100 (sVAL 4), wRow K (fun _ => hVAL 6) 100 (sVAL 5), wRow K (fun _ => hVAL 7) 100 (sVAL 6), wRow K (fun _ => hVAL 8) 100 (sVAL 7), wTab K hTab sTab, wProg K hProg (hTab 0) q2, wWalk K hWalk (hFld 0) (hTab 0) (hProg 0) (hLps 0) q4.1, wFld K hFld q4.2.1, wLps K hLps q4.2.2]) H := Eq.mp (congrArg (fun w => va_P D vwCl (fl w) H) hPB) hP
      have hD : va_D A (fl [wX K hX (hTab 0) (hProg 0) (hWalk 0) (hWri 0) (hRea 0) (hTP 0) (hGrd 0) (hVAL 0) sX, wGO K hVAL, wRow K (fun _ => hVAL 1) 100 (sVAL 0), wRow K (fun _ => hVAL 2) 100 (sVAL 1), wRow K (fun _ => hVAL 3) 100 (sVAL 2), wRow K (fun _ => hVAL 4) 100 (sVAL 3), wRow K (fun _ => hVAL 5) 100 (sVAL 4), wRow K (fun _ => hVAL 6) 100 (sVAL 5), wRow K (fun _ => hVAL 7) 100 (sVAL 6), wRow K (fun _ => hVAL 8) 100 (sVAL 7), wTab K hTab sTab, wProg K hProg (hTab 0) q2, wWalk K hWalk (hFld 0) (hTab 0) (hProg 0) (hLps 0) q4.1, wFld K hFld q4.2.1, wLps K hLps q4.2.2]) := Eq.mp (congrArg (fun w => va_D A (fl w)) hPB) hD
      refine lv_iconst (v := 1) (pc := 41) hx hb d_X_walkOver_41 (by decide) ?_
      cases hf
      exact ret_z hx hb hr hlocks hK hP hS rfl d_X_walkOver_42
    · replace hf := o_f c5 hf
      refine lv_iconst (v := 0) (pc := 26) hx hb d_X_walkOver_26 (by decide) ?_
      cases hf
      exact ret_z hx hb hr hlocks hK hP hS rfl d_X_walkOver_27
  · replace hf := o_t c6 hf
    refine lv_iconst (v := 0) (pc := 7) hx hb d_X_walkOver_7 (by decide) ?_
    cases hf
    exact ret_z hx hb hr hlocks hK hP hS rfl d_X_walkOver_8
def X_checkValues_L2 (fu : Nat) (sVAL : (Nat → Nat → Int64)) (sTab : S_Tab) (sProg : S_Prog) (x1_L2 : Int32) (sX_L2 : S_X) (ke_2 : Int32 → S_Walk → S_Fld → S_Lps → Option (Int32 × S_X × S_Walk × S_Fld × S_Lps)) : Nat → Int32 → S_Walk → S_Fld → S_Lps → Option (Int32 × S_X × S_Walk × S_Fld × S_Lps)
  | 0, _, _, _, _ => none
  | n + 1, x2_L2, sWalk_L2, sFld_L2, sLps_L2 => if x1_L2 ≤ x2_L2 then some ((1, sX_L2, sWalk_L2, sFld_L2, sLps_L2)) else o_gd (o_in x2_L2 8) (o_bd (Walk_overChecked fu 100 sTab sProg (sVAL ((x2_L2 : Int32).toNatClampNeg)) sWalk_L2 sFld_L2 sLps_L2) fun q2 => (if (Walk_fault q2.1) = 0 then X_checkValues_L2 fu sVAL sTab sProg x1_L2 sX_L2 ke_2 n (x2_L2 + 1) q2.1 q2.2.1 q2.2.2 else ke_2 x2_L2 q2.1 q2.2.1 q2.2.2))
def X_checkValues_j30 (fu : Nat) (sVAL : (Nat → Nat → Int64)) (sTab : S_Tab) (sProg : S_Prog) (x2_j30 : Int32) (sX_j30 : S_X) (sWalk_j30 : S_Walk) (sFld_j30 : S_Fld) (sLps_j30 : S_Lps) : Option (Int32 × S_X × S_Walk × S_Fld × S_Lps) := o_bd (X_placeOf x2_j30 (Walk_place sWalk_j30)) fun q5 => (o_bd (X_setFault (Walk_fault sWalk_j30) q5 sX_j30) fun q6 => (some ((0, q6, sWalk_j30, sFld_j30, sLps_j30))))
def X_checkValues (fu : Nat) (sVAL : (Nat → Nat → Int64)) (sTab : S_Tab) (sProg : S_Prog) (a0 : Int32) (sX : S_X) (sWalk : S_Walk) (sFld : S_Fld) (sLps : S_Lps) : Option (Int32 × S_X × S_Walk × S_Fld × S_Lps) := X_checkValues_L2 fu sVAL sTab sProg a0 sX (fun y2 zWalk zFld zLps => X_checkValues_j30 fu sVAL sTab sProg y2 sX zWalk zFld zLps) fu 0 sWalk sFld sLps
abbrev rm_X_checkValues : Room := { frames := 5, cells := 0, slots := 0, locals := 120 }
set_option maxHeartbeats 4000000 in
set_option maxRecDepth 100000 in
theorem c_X_checkValues (l : Launch) (D : va_G) (K : Nat → ClassId) (fu : Nat) (hX : Nat → Nat) (hVAL : Nat → Nat) (hTab : Nat → Nat) (hProg : Nat → Nat) (hWalk : Nat → Nat) (hFld : Nat → Nat) (hLps : Nat → Nat) (hWri : Nat → Nat) (hRea : Nat → Nat) (hTP : Nat → Nat) (hGrd : Nat → Nat) (sX : S_X) (sVAL : (Nat → Nat → Int64)) (sTab : S_Tab) (sProg : S_Prog) (sWalk : S_Walk) (sFld : S_Fld) (sLps : S_Lps) (a0 : Int32) (r : Int32) (sX' : S_X) (sWalk' : S_Walk) (sFld' : S_Fld) (sLps' : S_Lps) (hf : X_checkValues fu sVAL sTab sProg a0 sX sWalk sFld sLps = some ((r, sX', sWalk', sFld', sLps'))) : mi l D K y_X_checkValues ws_X_checkValues rm_X_checkValues [.ref (hX 0), .int a0] (fl [wX K hX (hTab 0) (hProg 0) (hWalk 0) (hWri 0) (hRea 0) (hTP 0) (hGrd 0) (hVAL 0) sX, wGO K hVAL, wRow K (fun _ => hVAL 1) 100 (sVAL 0), wRow K (fun _ => hVAL 2) 100 (sVAL 1), wRow K (fun _ => hVAL 3) 100 (sVAL 2), wRow K (fun _ => hVAL 4) 100 (sVAL 3), wRow K (fun _ => hVAL 5) 100 (sVAL 4), wRow K (fun _ => hVAL 6) 100 (sVAL 5), wRow K (fun _ => hVAL 7) 100 (sVAL 6), wRow K (fun _ => hVAL 8) 100 (sVAL 7), wTab K hTab sTab, wProg K hProg (hTab 0) sProg, wWalk K hWalk (hFld 0) (hTab 0) (hProg 0) (hLps 0) sWalk, wFld K hFld sFld, wLps K hLps sLps]) (fl [wX K hX (hTab 0) (hProg 0) (hWalk 0) (hWri 0) (hRea 0) (hTP 0) (hGrd 0) (hVAL 0) sX', wGO K hVAL, wRow K (fun _ => hVAL 1) 100 (sVAL 0), wRow K (fun _ => hVAL 2) 100 (sVAL 1), wRow K (fun _ => hVAL 3) 100 (sVAL 2), wRow K (fun _ => hVAL 4) 100 (sVAL 3), wRow K (fun _ => hVAL 5) 100 (sVAL 4), wRow K (fun _ => hVAL 6) 100 (sVAL 5), wRow K (fun _ => hVAL 7) 100 (sVAL 6), wRow K (fun _ => hVAL 8) 100 (sVAL 7), wTab K hTab sTab, wProg K hProg (hTab 0) sProg, wWalk K hWalk (hFld 0) (hTab 0) (hProg 0) (hLps 0) sWalk', wFld K hFld sFld', wLps K hLps sLps']) r := by
  refine mi_of (cc := b_X_checkValues) (maxL := 3) (own := "ObsMessages") (by decide) rfl rfl (Nat.le_of_ble_eq_true rfl) ?_
  intro p e s m below meth c A ls hC hP hD hS hl
  obtain ⟨hx, hb, hml, hown, hts, hr, hlocks, hK, hF, hA⟩ := hC
  have hP : va_P D vwCl (fl [wX K hX (hTab 0) (hProg 0) (hWalk 0) (hWri 0) (hRea 0) (hTP 0) (hGrd 0) (hVAL 0) sX, wGO K hVAL, wRow K (fun _ => hVAL 1) 100 (sVAL 0), wRow K (fun _ => hVAL 2) 100 (sVAL 1), wRow K (fun _ => hVAL 3) 100 (sVAL 2), wRow K (fun _ => hVAL 4) 100 (sVAL 3), wRow K (fun _ => hVAL 5) 100 (sVAL 4), wRow K (fun _ => hVAL 6) 100 (sVAL 5), wRow K (fun _ => hVAL 7) 100 (sVAL 6), wRow K (fun _ => hVAL 8) 100 (sVAL 7), wTab K hTab sTab, wProg K hProg (hTab 0) sProg, wWalk K hWalk (hFld 0) (hTab 0) (hProg 0) (hLps 0) sWalk, wFld K hFld sFld, wLps K hLps sLps]) s.heap := hP
  have hl : lv_has ls 3 [(0, .ref (hX 0)), (1, .int a0)] := hl
  suffices hW : ∀ (H : Heap) (locs : List Loc), va_P D vwCl (fl [wX K hX (hTab 0) (hProg 0) (hWalk 0) (hWri 0) (hRea 0) (hTP 0) (hGrd 0) (hVAL 0) sX, wGO K hVAL, wRow K (fun _ => hVAL 1) 100 (sVAL 0), wRow K (fun _ => hVAL 2) 100 (sVAL 1), wRow K (fun _ => hVAL 3) 100 (sVAL 2), wRow K (fun _ => hVAL 4) 100 (sVAL 3), wRow K (fun _ => hVAL 5) 100 (sVAL 4), wRow K (fun _ => hVAL 6) 100 (sVAL 5), wRow K (fun _ => hVAL 7) 100 (sVAL 6), wRow K (fun _ => hVAL 8) 100 (sVAL 7), wTab K hTab sTab, wProg K hProg (hTab 0) sProg, wWalk K hWalk (hFld 0) (hTab 0) (hProg 0) (hLps 0) sWalk, wFld K hFld sFld, wLps K hLps sLps]) H → va_S A s.heap H locs → W p l e rm_X_checkValues s m ([.ref (hX 0), .int a0] : List Value).toArray below meth c H locs 0 0 (Qi below ([.ref (hX 0), .int a0] : List Value).toArray s D K A (fl [wX K hX (hTab 0) (hProg 0) (hWalk 0) (hWri 0) (hRea 0) (hTP 0) (hGrd 0) (hVAL 0) sX', wGO K hVAL, wRow K (fun _ => hVAL 1) 100 (sVAL 0), wRow K (fun _ => hVAL 2) 100 (sVAL 1), wRow K (fun _ => hVAL 3) 100 (sVAL 2), wRow K (fun _ => hVAL 4) 100 (sVAL 3), wRow K (fun _ => hVAL 5) 100 (sVAL 4), wRow K (fun _ => hVAL 6) 100 (sVAL 5), wRow K (fun _ => hVAL 7) 100 (sVAL 6), wRow K (fun _ => hVAL 8) 100 (sVAL 7), wTab K hTab sTab, wProg K hProg (hTab 0) sProg, wWalk K hWalk (hFld 0) (hTab 0) (hProg 0) (hLps 0) sWalk', wFld K hFld sFld', wLps K hLps sLps']) r) (F0 m 0 ls []) from hW s.heap [] hP hS
  clear hP hS
  intro H locs hP hS
  have J30 : ∀ (x2_j30 : Int32) (sX_j30 : S_X) (sWalk_j30 : S_Walk) (sFld_j30 : S_Fld) (sLps_j30 : S_Lps) (H : Heap) (locs : List Loc) (ls : Array Slot), va_P D vwCl (fl [wX K hX (hTab 0) (hProg 0) (hWalk 0) (hWri 0) (hRea 0) (hTP 0) (hGrd 0) (hVAL 0) sX_j30, wGO K hVAL, wRow K (fun _ => hVAL 1) 100 (sVAL 0), wRow K (fun _ => hVAL 2) 100 (sVAL 1), wRow K (fun _ => hVAL 3) 100 (sVAL 2), wRow K (fun _ => hVAL 4) 100 (sVAL 3), wRow K (fun _ => hVAL 5) 100 (sVAL 4), wRow K (fun _ => hVAL 6) 100 (sVAL 5), wRow K (fun _ => hVAL 7) 100 (sVAL 6), wRow K (fun _ => hVAL 8) 100 (sVAL 7), wTab K hTab sTab, wProg K hProg (hTab 0) sProg, wWalk K hWalk (hFld 0) (hTab 0) (hProg 0) (hLps 0) sWalk_j30, wFld K hFld sFld_j30, wLps K hLps sLps_j30]) H → va_D A (fl [wX K hX (hTab 0) (hProg 0) (hWalk 0) (hWri 0) (hRea 0) (hTP 0) (hGrd 0) (hVAL 0) sX_j30, wGO K hVAL, wRow K (fun _ => hVAL 1) 100 (sVAL 0), wRow K (fun _ => hVAL 2) 100 (sVAL 1), wRow K (fun _ => hVAL 3) 100 (sVAL 2), wRow K (fun _ => hVAL 4) 100 (sVAL 3), wRow K (fun _ => hVAL 5) 100 (sVAL 4), wRow K (fun _ => hVAL 6) 100 (sVAL 5), wRow K (fun _ => hVAL 7) 100 (sVAL 6), wRow K (fun _ => hVAL 8) 100 (sVAL 7), wTab K hTab sTab, wProg K hProg (hTab 0) sProg, wWalk K hWalk (hFld 0) (hTab 0) (hProg 0) (hLps 0) sWalk_j30, wFld K hFld sFld_j30, wLps K hLps sLps_j30]) → va_S A s.heap H locs → lv_has ls 3 [(0, .ref (hX 0)), (2, .int x2_j30)] → X_checkValues_j30 fu sVAL sTab sProg x2_j30 sX_j30 sWalk_j30 sFld_j30 sLps_j30 = some ((r, sX', sWalk', sFld', sLps')) → W p l e rm_X_checkValues s m ([.ref (hX 0), .int a0] : List Value).toArray below meth c H locs 0 0 (Qi below ([.ref (hX 0), .int a0] : List Value).toArray s D K A (fl [wX K hX (hTab 0) (hProg 0) (hWalk 0) (hWri 0) (hRea 0) (hTP 0) (hGrd 0) (hVAL 0) sX', wGO K hVAL, wRow K (fun _ => hVAL 1) 100 (sVAL 0), wRow K (fun _ => hVAL 2) 100 (sVAL 1), wRow K (fun _ => hVAL 3) 100 (sVAL 2), wRow K (fun _ => hVAL 4) 100 (sVAL 3), wRow K (fun _ => hVAL 5) 100 (sVAL 4), wRow K (fun _ => hVAL 6) 100 (sVAL 5), wRow K (fun _ => hVAL 7) 100 (sVAL 6), wRow K (fun _ => hVAL 8) 100 (sVAL 7), wTab K hTab sTab, wProg K hProg (hTab 0) sProg, wWalk K hWalk (hFld 0) (hTab 0) (hProg 0) (hLps 0) sWalk', wFld K hFld sFld', wLps K hLps sLps']) r) (F0 m 30 ls []) := by
    intro x2_j30 sX_j30 sWalk_j30 sFld_j30 sLps_j30 H locs ls hP hD hS hl hf
    refine lv_aload_n (pc := 30) hx hb d_X_checkValues_30 rfl (lv_at hl 0 rfl) ?_
    refine lv_aload_n (pc := 31) hx hb d_X_checkValues_31 rfl (lv_at hl 0 rfl) ?_
    refine va_get (D := D) (ci := 0) (v := .ref (hWalk 0)) (C := R_X) (T := T_X) (N := 10) (pc := 32) hx hb hts (fun w h => List.mem_cons_of_mem _ (in_X w h)) hown hK hP _ (fl_at 0 0 rfl rfl) rfl 2 (by decide) (hts _ (List.mem_cons_of_mem _ tw_385)) (fun _ h9 => h9) rfl d_X_checkValues_32 ?_
    refine va_get (D := D) (ci := 3) (v := .int (Walk_fault sWalk_j30)) (C := R_Walk) (T := T_Walk) (N := 18) (pc := 35) hx hb hts (fun w h => List.mem_cons_of_mem _ (in_Walk w h)) hown hK hP _ (fl_at 12 0 rfl rfl) rfl 1 (by decide) (hts _ (List.mem_cons_of_mem _ tw_211)) (fun _ h9 => h9) rfl d_X_checkValues_35 ?_
    refine lv_iload_n (pc := 38) hx hb d_X_checkValues_38 rfl (lv_at hl 1 rfl) ?_
    refine lv_aload_n (pc := 39) hx hb d_X_checkValues_39 rfl (lv_at hl 0 rfl) ?_
    refine va_get (D := D) (ci := 0) (v := .ref (hWalk 0)) (C := R_X) (T := T_X) (N := 10) (pc := 40) hx hb hts (fun w h => List.mem_cons_of_mem _ (in_X w h)) hown hK hP _ (fl_at 0 0 rfl rfl) rfl 2 (by decide) (hts _ (List.mem_cons_of_mem _ tw_385)) (fun _ h9 => h9) rfl d_X_checkValues_40 ?_
    refine va_get (D := D) (ci := 3) (v := .int (Walk_place sWalk_j30)) (C := R_Walk) (T := T_Walk) (N := 18) (pc := 43) hx hb hts (fun w h => List.mem_cons_of_mem _ (in_Walk w h)) hown hK hP _ (fl_at 12 0 rfl rfl) rfl 2 (by decide) (hts _ (List.mem_cons_of_mem _ tw_214)) (fun _ h9 => h9) rfl d_X_checkValues_43 ?_
    obtain ⟨q5, hq5, hf⟩ := o_bd_e hf
    refine fi_i (pc := 46) (va_runS (As := [.int x2_j30, .int (Walk_place sWalk_j30)]) (rest := [.int (Walk_fault sWalk_j30), .ref (hX 0)]) ⟨hx, hb, hml, hown, hts⟩ ((c_X_placeOf l D K x2_j30 (Walk_place sWalk_j30) q5 hq5) _) (cwS 2 hts (gS tw_874 tw_875 tw_1 tw_876) rfl rfl rfl (by decide +kernel) ⟨by decide, by decide⟩) ⟨mPre_blind, (mPre_fl hK hF hA hP hD hS [] rfl rfl)⟩ rfl rfl hl.1 rfl (lv_room (Nat.le_of_ble_eq_true rfl)) d_X_checkValues_46 ⟨Nat.zero_le _, Nat.zero_le _⟩) hA hP hD hS [] rfl rfl (fun H locs hP hD hS => ?_)
    have hP : va_P D vwCl (fl [wX K hX (hTab 0) (hProg 0) (hWalk 0) (hWri 0) (hRea 0) (hTP 0) (hGrd 0) (hVAL 0) sX_j30, wGO K hVAL, wRow K (fun _ => hVAL 1) 100 (sVAL 0), wRow K (fun _ => hVAL 2) 100 (sVAL 1), wRow K (fun _ => hVAL 3) 100 (sVAL 2), wRow K (fun _ => hVAL 4) 100 (sVAL 3), wRow K (fun _ => hVAL 5) 100 (sVAL 4), wRow K (fun _ => hVAL 6) 100 (sVAL 5), wRow K (fun _ => hVAL 7) 100 (sVAL 6), wRow K (fun _ => hVAL 8) 100 (sVAL 7), wTab K hTab sTab, wProg K hProg (hTab 0) sProg, wWalk K hWalk (hFld 0) (hTab 0) (hProg 0) (hLps 0) sWalk_j30, wFld K hFld sFld_j30, wLps K hLps sLps_j30]) H := hP
    have hD : va_D A (fl [wX K hX (hTab 0) (hProg 0) (hWalk 0) (hWri 0) (hRea 0) (hTP 0) (hGrd 0) (hVAL 0) sX_j30, wGO K hVAL, wRow K (fun _ => hVAL 1) 100 (sVAL 0), wRow K (fun _ => hVAL 2) 100 (sVAL 1), wRow K (fun _ => hVAL 3) 100 (sVAL 2), wRow K (fun _ => hVAL 4) 100 (sVAL 3), wRow K (fun _ => hVAL 5) 100 (sVAL 4), wRow K (fun _ => hVAL 6) 100 (sVAL 5), wRow K (fun _ => hVAL 7) 100 (sVAL 6), wRow K (fun _ => hVAL 8) 100 (sVAL 7), wTab K hTab sTab, wProg K hProg (hTab 0) sProg, wWalk K hWalk (hFld 0) (hTab 0) (hProg 0) (hLps 0) sWalk_j30, wFld K hFld sFld_j30, wLps K hLps sLps_j30]) := hD
    obtain ⟨q6, hq6, hf⟩ := o_bd_e hf
    refine fi_v (pc := 49) (va_runV (As := [.int (Walk_fault sWalk_j30), .int q5]) (rest := []) ⟨hx, hb, hml, hown, hts⟩ ((c_X_setFault l D K hX hVAL hTab hProg hWalk hWri hRea hTP hGrd sX_j30 (Walk_fault sWalk_j30) q5 q6 hq6) _) (cwV 2 hts (gV tw_827 tw_829 tp_22 tw_1 tw_830) rfl rfl rfl (by decide +kernel) ⟨by decide, by decide⟩) ⟨mPre_blind, va_recv hK hP (ci := 0) rfl (fl_at 0 0 rfl rfl), (mPre_fl hK hF hA hP hD hS [0] rfl rfl)⟩ rfl rfl hl.1 rfl (lv_room (Nat.le_of_ble_eq_true rfl)) d_X_checkValues_49 ⟨Nat.zero_le _, Nat.zero_le _⟩) hA hP hD hS [0] rfl rfl (fun H locs hP hD hS => ?_)
    have hP : va_P D vwCl (fl [wX K hX (hTab 0) (hProg 0) (hWalk 0) (hWri 0) (hRea 0) (hTP 0) (hGrd 0) (hVAL 0) q6, wGO K hVAL, wRow K (fun _ => hVAL 1) 100 (sVAL 0), wRow K (fun _ => hVAL 2) 100 (sVAL 1), wRow K (fun _ => hVAL 3) 100 (sVAL 2), wRow K (fun _ => hVAL 4) 100 (sVAL 3), wRow K (fun _ => hVAL 5) 100 (sVAL 4), wRow K (fun _ => hVAL 6) 100 (sVAL 5), wRow K (fun _ => hVAL 7) 100 (sVAL 6), wRow K (fun _ => hVAL 8) 100 (sVAL 7), wTab K hTab sTab, wProg K hProg (hTab 0) sProg, wWalk K hWalk (hFld 0) (hTab 0) (hProg 0) (hLps 0) sWalk_j30, wFld K hFld sFld_j30, wLps K hLps sLps_j30]) H := hP
    have hD : va_D A (fl [wX K hX (hTab 0) (hProg 0) (hWalk 0) (hWri 0) (hRea 0) (hTP 0) (hGrd 0) (hVAL 0) q6, wGO K hVAL, wRow K (fun _ => hVAL 1) 100 (sVAL 0), wRow K (fun _ => hVAL 2) 100 (sVAL 1), wRow K (fun _ => hVAL 3) 100 (sVAL 2), wRow K (fun _ => hVAL 4) 100 (sVAL 3), wRow K (fun _ => hVAL 5) 100 (sVAL 4), wRow K (fun _ => hVAL 6) 100 (sVAL 5), wRow K (fun _ => hVAL 7) 100 (sVAL 6), wRow K (fun _ => hVAL 8) 100 (sVAL 7), wTab K hTab sTab, wProg K hProg (hTab 0) sProg, wWalk K hWalk (hFld 0) (hTab 0) (hProg 0) (hLps 0) sWalk_j30, wFld K hFld sFld_j30, wLps K hLps sLps_j30]) := hD
    refine lv_iconst (v := 0) (pc := 52) hx hb d_X_checkValues_52 (by decide) ?_
    cases hf
    exact ret_z hx hb hr hlocks hK hP hS rfl d_X_checkValues_53
  refine lv_iconst (v := 0) (pc := 0) hx hb d_X_checkValues_0 (by decide) ?_
  refine lv_istore_n (lv' := [(2, .int 0), (0, .ref (hX 0)), (1, .int a0)]) (pc := 1) hx hb d_X_checkValues_1 rfl hl (by decide) rfl (fun ls hl => ?_)
  have L2 : ∀ (x1_L2 : Int32) (sX_L2 : S_X) (n : Nat) (x2_L2 : Int32) (sWalk_L2 : S_Walk) (sFld_L2 : S_Fld) (sLps_L2 : S_Lps) (H : Heap) (locs : List Loc) (ls : Array Slot), va_P D vwCl (fl [wX K hX (hTab 0) (hProg 0) (hWalk 0) (hWri 0) (hRea 0) (hTP 0) (hGrd 0) (hVAL 0) sX_L2, wGO K hVAL, wRow K (fun _ => hVAL 1) 100 (sVAL 0), wRow K (fun _ => hVAL 2) 100 (sVAL 1), wRow K (fun _ => hVAL 3) 100 (sVAL 2), wRow K (fun _ => hVAL 4) 100 (sVAL 3), wRow K (fun _ => hVAL 5) 100 (sVAL 4), wRow K (fun _ => hVAL 6) 100 (sVAL 5), wRow K (fun _ => hVAL 7) 100 (sVAL 6), wRow K (fun _ => hVAL 8) 100 (sVAL 7), wTab K hTab sTab, wProg K hProg (hTab 0) sProg, wWalk K hWalk (hFld 0) (hTab 0) (hProg 0) (hLps 0) sWalk_L2, wFld K hFld sFld_L2, wLps K hLps sLps_L2]) H → va_D A (fl [wX K hX (hTab 0) (hProg 0) (hWalk 0) (hWri 0) (hRea 0) (hTP 0) (hGrd 0) (hVAL 0) sX_L2, wGO K hVAL, wRow K (fun _ => hVAL 1) 100 (sVAL 0), wRow K (fun _ => hVAL 2) 100 (sVAL 1), wRow K (fun _ => hVAL 3) 100 (sVAL 2), wRow K (fun _ => hVAL 4) 100 (sVAL 3), wRow K (fun _ => hVAL 5) 100 (sVAL 4), wRow K (fun _ => hVAL 6) 100 (sVAL 5), wRow K (fun _ => hVAL 7) 100 (sVAL 6), wRow K (fun _ => hVAL 8) 100 (sVAL 7), wTab K hTab sTab, wProg K hProg (hTab 0) sProg, wWalk K hWalk (hFld 0) (hTab 0) (hProg 0) (hLps 0) sWalk_L2, wFld K hFld sFld_L2, wLps K hLps sLps_L2]) → va_S A s.heap H locs → lv_has ls 3 [(0, .ref (hX 0)), (1, .int x1_L2), (2, .int x2_L2)] → X_checkValues_L2 fu sVAL sTab sProg x1_L2 sX_L2 (fun y2 zWalk zFld zLps => X_checkValues_j30 fu sVAL sTab sProg y2 sX_L2 zWalk zFld zLps) n x2_L2 sWalk_L2 sFld_L2 sLps_L2 = some ((r, sX', sWalk', sFld', sLps')) → W p l e rm_X_checkValues s m ([.ref (hX 0), .int a0] : List Value).toArray below meth c H locs 0 0 (Qi below ([.ref (hX 0), .int a0] : List Value).toArray s D K A (fl [wX K hX (hTab 0) (hProg 0) (hWalk 0) (hWri 0) (hRea 0) (hTP 0) (hGrd 0) (hVAL 0) sX', wGO K hVAL, wRow K (fun _ => hVAL 1) 100 (sVAL 0), wRow K (fun _ => hVAL 2) 100 (sVAL 1), wRow K (fun _ => hVAL 3) 100 (sVAL 2), wRow K (fun _ => hVAL 4) 100 (sVAL 3), wRow K (fun _ => hVAL 5) 100 (sVAL 4), wRow K (fun _ => hVAL 6) 100 (sVAL 5), wRow K (fun _ => hVAL 7) 100 (sVAL 6), wRow K (fun _ => hVAL 8) 100 (sVAL 7), wTab K hTab sTab, wProg K hProg (hTab 0) sProg, wWalk K hWalk (hFld 0) (hTab 0) (hProg 0) (hLps 0) sWalk', wFld K hFld sFld', wLps K hLps sLps']) r) (F0 m 2 ls []) := by
    intro x1_L2 sX_L2 n
    induction n with
    | zero =>
      intro x2_L2 sWalk_L2 sFld_L2 sLps_L2 H locs ls hP hD hS hl hf
      exact absurd hf (fun h => nomatch h)
    | succ n_2 ih_2 =>
      intro x2_L2 sWalk_L2 sFld_L2 sLps_L2 H locs ls hP hD hS hl hf
      refine lv_iload_n (pc := 2) hx hb d_X_checkValues_2 rfl (lv_at hl 2 rfl) ?_
      refine lv_iload_n (pc := 3) hx hb d_X_checkValues_3 rfl (lv_at hl 1 rfl) ?_
      refine lv_icmp_ge (tgt := 60) (pc := 4) hx hb d_X_checkValues_4 (by decide) (fun c4 => ?_) (fun c4 => ?_)
      · replace hf := o_t c4 hf
        refine lv_iconst (v := 1) (pc := 60) hx hb d_X_checkValues_60 (by decide) ?_
        cases hf
        exact ret_z hx hb hr hlocks hK hP hS rfl d_X_checkValues_61
      · replace hf := o_f c4 hf
        refine lv_aload_n (pc := 7) hx hb d_X_checkValues_7 rfl (lv_at hl 0 rfl) ?_
        refine va_get (D := D) (ci := 0) (v := .ref (hWalk 0)) (C := R_X) (T := T_X) (N := 10) (pc := 8) hx hb hts (fun w h => List.mem_cons_of_mem _ (in_X w h)) hown hK hP _ (fl_at 0 0 rfl rfl) rfl 2 (by decide) (hts _ (List.mem_cons_of_mem _ tw_385)) (fun _ h9 => h9) rfl d_X_checkValues_8 ?_
        refine lv_aload_n (pc := 11) hx hb d_X_checkValues_11 rfl (lv_at hl 0 rfl) ?_
        refine va_get (D := D) (ci := 0) (v := .ref (hVAL 0)) (C := R_X) (T := T_X) (N := 10) (pc := 12) hx hb hts (fun w h => List.mem_cons_of_mem _ (in_X w h)) hown hK hP _ (fl_at 0 0 rfl rfl) rfl 7 (by decide) (hts _ (List.mem_cons_of_mem _ tw_390)) (fun _ h9 => h9) rfl d_X_checkValues_12 ?_
        refine lv_iload_n (pc := 15) hx hb d_X_checkValues_15 rfl (lv_at hl 2 rfl) ?_
        obtain ⟨hi1, hf⟩ := o_gi_e hf
        refine va_aldg (D := D) (pc := 16) hx hb hK hP _ 2 (fl_at 1 0 rfl rfl) rfl hi1 d_X_checkValues_16 ?_
        refine W.eq (g2 := F0 m 17 ls [.ref (hVAL ((x2_L2 : Int32).toNatClampNeg + 1)), .ref (hWalk 0)]) rfl ?_
        obtain ⟨q2, hq2, hf⟩ := o_bd_e hf
        refine fi_v (pc := 17) (va_runV (As := [.ref (hVAL ((x2_L2 : Int32).toNatClampNeg + 1))]) (rest := []) ⟨hx, hb, hml, hown, hts⟩ ((c_Walk_overChecked l D K fu hTab hProg hWalk hFld hLps (fun _ => hVAL ((x2_L2 : Int32).toNatClampNeg + 1)) 100 sTab sProg sWalk_L2 sFld_L2 sLps_L2 (sVAL ((x2_L2 : Int32).toNatClampNeg)) q2.1 q2.2.1 q2.2.2 hq2) _) (cwV 1 hts (gV tw_890 tw_891 tw_892 tw_4 tw_893) rfl rfl rfl (by decide +kernel) ⟨by decide, by decide⟩) ⟨mPre_blind, va_recv hK hP (ci := 3) rfl (fl_at 12 0 rfl rfl), (mPre_fl hK hF hA hP hD hS [10, 11, 12, 13, 14, 2 + (x2_L2 : Int32).toNatClampNeg] (gr8 (P := fun k => ([10, 11, 12, 13, 14, 2 + k] : List Nat).map (fun i => ([wX K hX (hTab 0) (hProg 0) (hWalk 0) (hWri 0) (hRea 0) (hTP 0) (hGrd 0) (hVAL 0) sX_L2, wGO K hVAL, wRow K (fun _ => hVAL 1) 100 (sVAL 0), wRow K (fun _ => hVAL 2) 100 (sVAL 1), wRow K (fun _ => hVAL 3) 100 (sVAL 2), wRow K (fun _ => hVAL 4) 100 (sVAL 3), wRow K (fun _ => hVAL 5) 100 (sVAL 4), wRow K (fun _ => hVAL 6) 100 (sVAL 5), wRow K (fun _ => hVAL 7) 100 (sVAL 6), wRow K (fun _ => hVAL 8) 100 (sVAL 7), wTab K hTab sTab, wProg K hProg (hTab 0) sProg, wWalk K hWalk (hFld 0) (hTab 0) (hProg 0) (hLps 0) sWalk_L2, wFld K hFld sFld_L2, wLps K hLps sLps_L2] : List va_W)[i]?) = ([wTab K hTab sTab, wProg K hProg (hTab 0) sProg, wWalk K hWalk (hFld 0) (hTab 0) (hProg 0) (hLps 0) sWalk_L2, wFld K hFld sFld_L2, wLps K hLps sLps_L2, wRow K (fun _ => hVAL (k + 1)) 100 (sVAL k)] : List va_W).map some) (vp_lt hi1) rfl rfl rfl rfl rfl rfl rfl rfl) (gr8 (P := fun k => va_nd [10, 11, 12, 13, 14, 2 + k] = true) (vp_lt hi1) rfl rfl rfl rfl rfl rfl rfl rfl))⟩ rfl rfl hl.1 rfl (lv_room (Nat.le_of_ble_eq_true rfl)) d_X_checkValues_17 ⟨Nat.zero_le _, Nat.zero_le _⟩) hA hP hD hS [10, 11, 12, 13, 14, 2 + (x2_L2 : Int32).toNatClampNeg] (gr8 (P := fun k => ([10, 11, 12, 13, 14, 2 + k] : List Nat).map (fun i => ([wX K hX (hTab 0) (hProg 0) (hWalk 0) (hWri 0) (hRea 0) (hTP 0) (hGrd 0) (hVAL 0) sX_L2, wGO K hVAL, wRow K (fun _ => hVAL 1) 100 (sVAL 0), wRow K (fun _ => hVAL 2) 100 (sVAL 1), wRow K (fun _ => hVAL 3) 100 (sVAL 2), wRow K (fun _ => hVAL 4) 100 (sVAL 3), wRow K (fun _ => hVAL 5) 100 (sVAL 4), wRow K (fun _ => hVAL 6) 100 (sVAL 5), wRow K (fun _ => hVAL 7) 100 (sVAL 6), wRow K (fun _ => hVAL 8) 100 (sVAL 7), wTab K hTab sTab, wProg K hProg (hTab 0) sProg, wWalk K hWalk (hFld 0) (hTab 0) (hProg 0) (hLps 0) sWalk_L2, wFld K hFld sFld_L2, wLps K hLps sLps_L2] : List va_W)[i]?) = ([wTab K hTab sTab, wProg K hProg (hTab 0) sProg, wWalk K hWalk (hFld 0) (hTab 0) (hProg 0) (hLps 0) sWalk_L2, wFld K hFld sFld_L2, wLps K hLps sLps_L2, wRow K (fun _ => hVAL (k + 1)) 100 (sVAL k)] : List va_W).map some) (vp_lt hi1) rfl rfl rfl rfl rfl rfl rfl rfl) rfl (fun H locs hP hD hS => ?_)
        have hPB := (gr8 (P := fun k => pl [wX K hX (hTab 0) (hProg 0) (hWalk 0) (hWri 0) (hRea 0) (hTP 0) (hGrd 0) (hVAL 0) sX_L2, wGO K hVAL, wRow K (fun _ => hVAL 1) 100 (sVAL 0), wRow K (fun _ => hVAL 2) 100 (sVAL 1), wRow K (fun _ => hVAL 3) 100 (sVAL 2), wRow K (fun _ => hVAL 4) 100 (sVAL 3), wRow K (fun _ => hVAL 5) 100 (sVAL 4), wRow K (fun _ => hVAL 6) 100 (sVAL 5), wRow K (fun _ => hVAL 7) 100 (sVAL 6), wRow K (fun _ => hVAL 8) 100 (sVAL 7), wTab K hTab sTab, wProg K hProg (hTab 0) sProg, wWalk K hWalk (hFld 0) (hTab 0) (hProg 0) (hLps 0) sWalk_L2, wFld K hFld sFld_L2, wLps K hLps sLps_L2] [10, 11, 12, 13, 14, 2 + k] [wTab K hTab sTab, wProg K hProg (hTab 0) sProg, wWalk K hWalk (hFld 0) (hTab 0) (hProg 0) (hLps 0) q2.1, wFld K hFld q2.2.1, wLps K hLps q2.2.2, wRow K (fun _ => hVAL (k + 1)) 100 (sVAL k)] = [wX K hX (hTab 0) (hProg 0) (hWalk 0) (hWri 0) (hRea 0) (hTP 0) (hGrd 0) (hVAL 0) sX_L2, wGO K hVAL, wRow K (fun _ => hVAL 1) 100 (sVAL 0), wRow K (fun _ => hVAL 2) 100 (sVAL 1), wRow K (fun _ => hVAL 3) 100 (sVAL 2), wRow K (fun _ => hVAL 4) 100 (sVAL 3), wRow K (fun _ => hVAL 5) 100 (sVAL 4), wRow K (fun _ => hVAL 6) 100 (sVAL 5), wRow K (fun _ => hVAL 7) 100 (sVAL 6), wRow K (fun _ => hVAL 8) 100 (sVAL 7), wTab K hTab sTab, wProg K hProg (hTab 0) sProg, wWalk K hWalk (hFld 0) (hTab 0) (hProg 0) (hLps 0) q2.1, wFld K hFld q2.2.1, wLps K hLps q2.2.2]) (vp_lt hi1) rfl rfl rfl rfl rfl rfl rfl rfl)
        have hP : va_P D vwCl (fl [wX K hX (hTab 0) (hProg 0) (hWalk 0) (hWri 0) (hRea 0) (hTP 0) (hGrd 0) (hVAL 0) sX_L2, wGO K hVAL, wRow K (fun _ => hVAL 1) 100 (sVAL 0), wRow K (fun _ => hVAL 2) 100 (sVAL 1), wRow K (fun _ => hVAL 3) 100 (sVAL 2), wRow K (fun _ => hVAL 4) 100 (sVAL 3), wRow K (fun _ => hVAL 5) 100 (sVAL 4), wRow K (fun _ => hVAL 6) 100 (sVAL 5), wRow K (fun _ => hVAL 7) 100 (sVAL 6), wRow K (fun _ => hVAL 8) 100 (sVAL 7), wTab K hTab sTab, wProg K hProg (hTab 0) sProg, wWalk K hWalk (hFld 0) (hTab 0) (hProg 0) (hLps 0) q2.1, wFld K hFld q2.2.1, wLps K hLps q2.2.2]) H := Eq.mp (congrArg (fun w => va_P D vwCl (fl w) H) hPB) hP
        have hD : va_D A (fl [wX K hX (hTab 0) (hProg 0) (hWalk 0) (hWri 0) (hRea 0) (hTP 0) (hGrd 0) (hVAL 0) sX_L2, wGO K hVAL, wRow K (fun _ => hVAL 1) 100 (sVAL 0), wRow K (fun _ => hVAL 2) 100 (sVAL 1), wRow K (fun _ => hVAL 3) 100 (sVAL 2), wRow K (fun _ => hVAL 4) 100 (sVAL 3), wRow K (fun _ => hVAL 5) 100 (sVAL 4), wRow K (fun _ => hVAL 6) 100 (sVAL 5), wRow K (fun _ => hVAL 7) 100 (sVAL 6), wRow K (fun _ => hVAL 8) 100 (sVAL 7), wTab K hTab sTab, wProg K hProg (hTab 0) sProg, wWalk K hWalk (hFld 0) (hTab 0) (hProg 0) (hLps 0) q2.1, wFld K hFld q2.2.1, wLps K hLps q2.2.2]) := Eq.mp (congrArg (fun w => va_D A (fl w)) hPB) hD
        refine lv_aload_n (pc := 20) hx hb d_X_checkValues_20 rfl (lv_at hl 0 rfl) ?_
        refine va_get (D := D) (ci := 0) (v := .ref (hWalk 0)) (C := R_X) (T := T_X) (N := 10) (pc := 21) hx hb hts (fun w h => List.mem_cons_of_mem _ (in_X w h)) hown hK hP _ (fl_at 0 0 rfl rfl) rfl 2 (by decide) (hts _ (List.mem_cons_of_mem _ tw_385)) (fun _ h9 => h9) rfl d_X_checkValues_21 ?_
        refine va_get (D := D) (ci := 3) (v := .int (Walk_fault q2.1)) (C := R_Walk) (T := T_Walk) (N := 18) (pc := 24) hx hb hts (fun w h => List.mem_cons_of_mem _ (in_Walk w h)) hown hK hP _ (fl_at 12 0 rfl rfl) rfl 1 (by decide) (hts _ (List.mem_cons_of_mem _ tw_211)) (fun _ h9 => h9) rfl d_X_checkValues_24 ?_
        refine lv_if_eq (tgt := 54) (pc := 27) hx hb d_X_checkValues_27 (by decide) (fun c3 => ?_) (fun c3 => ?_)
        · replace hf := o_t c3 hf
          refine lv_iinc (v := x2_L2 + 1) (lv' := [(2, .int (x2_L2 + 1)), (0, .ref (hX 0)), (1, .int x1_L2)]) (pc := 54) hx hb d_X_checkValues_54 hl (k := 2) rfl rfl (by decide) rfl (fun ls hl => ?_)
          refine lv_goto (tgt := 2) (pc := 57) hx hb d_X_checkValues_57 (by decide) ?_
          exact ih_2 (x2_L2 + 1) q2.1 q2.2.1 q2.2.2 H locs ls hP hD hS (lv_sub hl [1, 2, 0] rfl) hf
        · replace hf := o_f c3 hf
          exact J30 x2_L2 sX_L2 q2.1 q2.2.1 q2.2.2 H locs ls hP hD hS (lv_sub hl [0, 2] rfl) hf
  exact L2 a0 sX fu 0 sWalk sFld sLps H locs ls hP hD hS (lv_sub hl [1, 2, 0] rfl) hf
def X_openTape (fu : Nat) (sTP : S_Bits) (sX : S_X) (sRea : S_Rea) (sRR : (Nat → Nat → Int64)) : Option (Int32 × S_X × S_Rea × (Nat → Nat → Int64)) := o_bd (Rea_open fu sTP sRea sRR) fun q1 => (if q1.1 = 0 then o_bd (X_setFault 11 ((-1)) sX) fun q2 => (some ((0, q2, q1.2.1, q1.2.2))) else some ((1, sX, q1.2.1, q1.2.2)))
abbrev rm_X_openTape : Room := { frames := 3, cells := 0, slots := 0, locals := 68 }
set_option maxHeartbeats 4000000 in
set_option maxRecDepth 100000 in
theorem c_X_openTape (l : Launch) (D : va_G) (K : Nat → ClassId) (fu : Nat) (hX : Nat → Nat) (hVAL : Nat → Nat) (hTab : Nat → Nat) (hProg : Nat → Nat) (hWalk : Nat → Nat) (hWri : Nat → Nat) (hRea : Nat → Nat) (hRR : Nat → Nat) (hTP : Nat → Nat) (hGrd : Nat → Nat) (sX : S_X) (sRea : S_Rea) (sRR : (Nat → Nat → Int64)) (sTP : S_Bits) (r : Int32) (sX' : S_X) (sRea' : S_Rea) (sRR' : (Nat → Nat → Int64)) (hf : X_openTape fu sTP sX sRea sRR = some ((r, sX', sRea', sRR'))) : mi l D K y_X_openTape ws_X_openTape rm_X_openTape [.ref (hX 0)] (fl [wX K hX (hTab 0) (hProg 0) (hWalk 0) (hWri 0) (hRea 0) (hTP 0) (hGrd 0) (hVAL 0) sX, wRea K hRea (hRR 0) (hTP 0) sRea, wGO K hRR, wRow K (fun _ => hRR 1) 100 (sRR 0), wRow K (fun _ => hRR 2) 100 (sRR 1), wRow K (fun _ => hRR 3) 100 (sRR 2), wRow K (fun _ => hRR 4) 100 (sRR 3), wRow K (fun _ => hRR 5) 100 (sRR 4), wRow K (fun _ => hRR 6) 100 (sRR 5), wRow K (fun _ => hRR 7) 100 (sRR 6), wRow K (fun _ => hRR 8) 100 (sRR 7), wBits K hTP 1000 sTP]) (fl [wX K hX (hTab 0) (hProg 0) (hWalk 0) (hWri 0) (hRea 0) (hTP 0) (hGrd 0) (hVAL 0) sX', wRea K hRea (hRR 0) (hTP 0) sRea', wGO K hRR, wRow K (fun _ => hRR 1) 100 (sRR' 0), wRow K (fun _ => hRR 2) 100 (sRR' 1), wRow K (fun _ => hRR 3) 100 (sRR' 2), wRow K (fun _ => hRR 4) 100 (sRR' 3), wRow K (fun _ => hRR 5) 100 (sRR' 4), wRow K (fun _ => hRR 6) 100 (sRR' 5), wRow K (fun _ => hRR 7) 100 (sRR' 6), wRow K (fun _ => hRR 8) 100 (sRR' 7), wBits K hTP 1000 sTP]) r := by
  refine mi_of (cc := b_X_openTape) (maxL := 1) (own := "ObsMessages") (by decide) rfl rfl (Nat.le_of_ble_eq_true rfl) ?_
  intro p e s m below meth c A ls hC hP hD hS hl
  obtain ⟨hx, hb, hml, hown, hts, hr, hlocks, hK, hF, hA⟩ := hC
  have hP : va_P D vwCl (fl [wX K hX (hTab 0) (hProg 0) (hWalk 0) (hWri 0) (hRea 0) (hTP 0) (hGrd 0) (hVAL 0) sX, wRea K hRea (hRR 0) (hTP 0) sRea, wGO K hRR, wRow K (fun _ => hRR 1) 100 (sRR 0), wRow K (fun _ => hRR 2) 100 (sRR 1), wRow K (fun _ => hRR 3) 100 (sRR 2), wRow K (fun _ => hRR 4) 100 (sRR 3), wRow K (fun _ => hRR 5) 100 (sRR 4), wRow K (fun _ => hRR 6) 100 (sRR 5), wRow K (fun _ => hRR 7) 100 (sRR 6), wRow K (fun _ => hRR 8) 100 (sRR 7), wBits K hTP 1000 sTP]) s.heap := hP
  have hl : lv_has ls 1 [(0, .ref (hX 0))] := hl
  suffices hW : ∀ (H : Heap) (locs : List Loc), va_P D vwCl (fl [wX K hX (hTab 0) (hProg 0) (hWalk 0) (hWri 0) (hRea 0) (hTP 0) (hGrd 0) (hVAL 0) sX, wRea K hRea (hRR 0) (hTP 0) sRea, wGO K hRR, wRow K (fun _ => hRR 1) 100 (sRR 0), wRow K (fun _ => hRR 2) 100 (sRR 1), wRow K (fun _ => hRR 3) 100 (sRR 2), wRow K (fun _ => hRR 4) 100 (sRR 3), wRow K (fun _ => hRR 5) 100 (sRR 4), wRow K (fun _ => hRR 6) 100 (sRR 5), wRow K (fun _ => hRR 7) 100 (sRR 6), wRow K (fun _ => hRR 8) 100 (sRR 7), wBits K hTP 1000 sTP]) H → va_S A s.heap H locs → W p l e rm_X_openTape s m ([.ref (hX 0)] : List Value).toArray below meth c H locs 0 0 (Qi below ([.ref (hX 0)] : List Value).toArray s D K A (fl [wX K hX (hTab 0) (hProg 0) (hWalk 0) (hWri 0) (hRea 0) (hTP 0) (hGrd 0) (hVAL 0) sX', wRea K hRea (hRR 0) (hTP 0) sRea', wGO K hRR, wRow K (fun _ => hRR 1) 100 (sRR' 0), wRow K (fun _ => hRR 2) 100 (sRR' 1), wRow K (fun _ => hRR 3) 100 (sRR' 2), wRow K (fun _ => hRR 4) 100 (sRR' 3), wRow K (fun _ => hRR 5) 100 (sRR' 4), wRow K (fun _ => hRR 6) 100 (sRR' 5), wRow K (fun _ => hRR 7) 100 (sRR' 6), wRow K (fun _ => hRR 8) 100 (sRR' 7), wBits K hTP 1000 sTP]) r) (F0 m 0 ls []) from hW s.heap [] hP hS
  clear hP hS
  intro H locs hP hS
  refine lv_aload_n (pc := 0) hx hb d_X_openTape_0 rfl (lv_at hl 0 rfl) ?_
  refine va_get (D := D) (ci := 0) (v := .ref (hRea 0)) (C := R_X) (T := T_X) (N := 10) (pc := 1) hx hb hts (fun w h => List.mem_cons_of_mem _ (in_X w h)) hown hK hP _ (fl_at 0 0 rfl rfl) rfl 4 (by decide) (hts _ (List.mem_cons_of_mem _ tw_387)) (fun _ h9 => h9) rfl d_X_openTape_1 ?_
  obtain ⟨q1, hq1, hf⟩ := o_bd_e hf
  refine fi_i (pc := 4) (va_runV (As := []) (rest := []) ⟨hx, hb, hml, hown, hts⟩ ((c_Rea_open l D K fu hRea hRR hTP sRea sRR sTP q1.1 q1.2.1 q1.2.2 hq1) _) (cwV 0 hts (gV tw_971 tw_972 tw_973 tw_9 tw_974) rfl rfl rfl (by decide +kernel) ⟨by decide, by decide⟩) ⟨mPre_blind, va_recv hK hP (ci := 8) rfl (fl_at 1 0 rfl rfl), (mPre_fl hK hF hA hP hD hS [1, 2, 3, 4, 5, 6, 7, 8, 9, 10, 11] rfl rfl)⟩ rfl rfl hl.1 rfl (lv_room (Nat.le_of_ble_eq_true rfl)) d_X_openTape_4 ⟨Nat.zero_le _, Nat.zero_le _⟩) hA hP hD hS [1, 2, 3, 4, 5, 6, 7, 8, 9, 10, 11] rfl rfl (fun H locs hP hD hS => ?_)
  have hP : va_P D vwCl (fl [wX K hX (hTab 0) (hProg 0) (hWalk 0) (hWri 0) (hRea 0) (hTP 0) (hGrd 0) (hVAL 0) sX, wRea K hRea (hRR 0) (hTP 0) q1.2.1, wGO K hRR, wRow K (fun _ => hRR 1) 100 (q1.2.2 0), wRow K (fun _ => hRR 2) 100 (q1.2.2 1), wRow K (fun _ => hRR 3) 100 (q1.2.2 2), wRow K (fun _ => hRR 4) 100 (q1.2.2 3), wRow K (fun _ => hRR 5) 100 (q1.2.2 4), wRow K (fun _ => hRR 6) 100 (q1.2.2 5), wRow K (fun _ => hRR 7) 100 (q1.2.2 6), wRow K (fun _ => hRR 8) 100 (q1.2.2 7), wBits K hTP 1000 sTP]) H := hP
  have hD : va_D A (fl [wX K hX (hTab 0) (hProg 0) (hWalk 0) (hWri 0) (hRea 0) (hTP 0) (hGrd 0) (hVAL 0) sX, wRea K hRea (hRR 0) (hTP 0) q1.2.1, wGO K hRR, wRow K (fun _ => hRR 1) 100 (q1.2.2 0), wRow K (fun _ => hRR 2) 100 (q1.2.2 1), wRow K (fun _ => hRR 3) 100 (q1.2.2 2), wRow K (fun _ => hRR 4) 100 (q1.2.2 3), wRow K (fun _ => hRR 5) 100 (q1.2.2 4), wRow K (fun _ => hRR 6) 100 (q1.2.2 5), wRow K (fun _ => hRR 7) 100 (q1.2.2 6), wRow K (fun _ => hRR 8) 100 (q1.2.2 7), wBits K hTP 1000 sTP]) := hD
  refine lv_if_eq (tgt := 12) (pc := 7) hx hb d_X_openTape_7 (by decide) (fun c3 => ?_) (fun c3 => ?_)
  · replace hf := o_t c3 hf
    refine lv_aload_n (pc := 12) hx hb d_X_openTape_12 rfl (lv_at hl 0 rfl) ?_
    refine lv_bipush (v := 11) (pc := 13) hx hb d_X_openTape_13 (by decide) ?_
    refine lv_iconst (v := (-1)) (pc := 15) hx hb d_X_openTape_15 (by decide) ?_
    obtain ⟨q2, hq2, hf⟩ := o_bd_e hf
    refine fi_v (pc := 16) (va_runV (As := [.int 11, .int ((-1))]) (rest := []) ⟨hx, hb, hml, hown, hts⟩ ((c_X_setFault l D K hX hVAL hTab hProg hWalk hWri hRea hTP hGrd sX 11 ((-1)) q2 hq2) _) (cwV 2 hts (gV tw_827 tw_829 tp_22 tw_1 tw_830) rfl rfl rfl (by decide +kernel) ⟨by decide, by decide⟩) ⟨mPre_blind, va_recv hK hP (ci := 0) rfl (fl_at 0 0 rfl rfl), (mPre_fl hK hF hA hP hD hS [0] rfl rfl)⟩ rfl rfl hl.1 rfl (lv_room (Nat.le_of_ble_eq_true rfl)) d_X_openTape_16 ⟨Nat.zero_le _, Nat.zero_le _⟩) hA hP hD hS [0] rfl rfl (fun H locs hP hD hS => ?_)
    have hP : va_P D vwCl (fl [wX K hX (hTab 0) (hProg 0) (hWalk 0) (hWri 0) (hRea 0) (hTP 0) (hGrd 0) (hVAL 0) q2, wRea K hRea (hRR 0) (hTP 0) q1.2.1, wGO K hRR, wRow K (fun _ => hRR 1) 100 (q1.2.2 0), wRow K (fun _ => hRR 2) 100 (q1.2.2 1), wRow K (fun _ => hRR 3) 100 (q1.2.2 2), wRow K (fun _ => hRR 4) 100 (q1.2.2 3), wRow K (fun _ => hRR 5) 100 (q1.2.2 4), wRow K (fun _ => hRR 6) 100 (q1.2.2 5), wRow K (fun _ => hRR 7) 100 (q1.2.2 6), wRow K (fun _ => hRR 8) 100 (q1.2.2 7), wBits K hTP 1000 sTP]) H := hP
    have hD : va_D A (fl [wX K hX (hTab 0) (hProg 0) (hWalk 0) (hWri 0) (hRea 0) (hTP 0) (hGrd 0) (hVAL 0) q2, wRea K hRea (hRR 0) (hTP 0) q1.2.1, wGO K hRR, wRow K (fun _ => hRR 1) 100 (q1.2.2 0), wRow K (fun _ => hRR 2) 100 (q1.2.2 1), wRow K (fun _ => hRR 3) 100 (q1.2.2 2), wRow K (fun _ => hRR 4) 100 (q1.2.2 3), wRow K (fun _ => hRR 5) 100 (q1.2.2 4), wRow K (fun _ => hRR 6) 100 (q1.2.2 5), wRow K (fun _ => hRR 7) 100 (q1.2.2 6), wRow K (fun _ => hRR 8) 100 (q1.2.2 7), wBits K hTP 1000 sTP]) := hD
    refine lv_iconst (v := 0) (pc := 19) hx hb d_X_openTape_19 (by decide) ?_
    cases hf
    exact ret_z hx hb hr hlocks hK hP hS rfl d_X_openTape_20
  · replace hf := o_f c3 hf
    refine lv_iconst (v := 1) (pc := 10) hx hb d_X_openTape_10 (by decide) ?_
    cases hf
    exact ret_z hx hb hr hlocks hK hP hS rfl d_X_openTape_11
def X_field (fu : Nat) (sX : S_X) (sVAL : (Nat → Nat → Int64)) (sTab : S_Tab) (a0 : Int32) (a1 : Int32) (a2 : Int32) (sProg : S_Prog) (sWalk : S_Walk) (sFld : S_Fld) (sLps : S_Lps) : Option (Int32 × S_Prog × S_Walk × S_Fld × S_Lps) := o_bd (X_walkOver fu sX sVAL sTab a0 sProg sWalk sFld sLps) fun q1 => (if q1.1 = 0 then some (((-1), q1.2.1, q1.2.2.1, q1.2.2.2.1, q1.2.2.2.2)) else o_bd (Fld_has q1.2.2.2.1 a1) fun q2 => (if q2 = 0 then some (((-1), q1.2.1, q1.2.2.1, q1.2.2.2.1, q1.2.2.2.2)) else if a2 = 0 then (o_gd (o_in a1 100) (some ((Fld_kinds q1.2.2.2.1 (a1 : Int32).toNatClampNeg, q1.2.1, q1.2.2.1, q1.2.2.2.1, q1.2.2.2.2)))) else if a2 = 1 then (o_gd (o_in a1 100) (some ((Fld_codes q1.2.2.2.1 (a1 : Int32).toNatClampNeg, q1.2.1, q1.2.2.1, q1.2.2.2.1, q1.2.2.2.2)))) else if a2 = 2 then (o_gd (o_in a1 100) (some ((Fld_widths q1.2.2.2.1 (a1 : Int32).toNatClampNeg, q1.2.1, q1.2.2.1, q1.2.2.2.1, q1.2.2.2.2)))) else if a2 = 3 then (o_gd (o_in a1 100) (some ((Fld_scales q1.2.2.2.1 (a1 : Int32).toNatClampNeg, q1.2.1, q1.2.2.1, q1.2.2.2.1, q1.2.2.2.2)))) else if a2 = 4 then (o_gd (o_in a1 100) (some ((Fld_targets q1.2.2.2.1 (a1 : Int32).toNatClampNeg, q1.2.1, q1.2.2.1, q1.2.2.2.1, q1.2.2.2.2)))) else if a2 = 5 then (o_gd (o_in a1 100) (some ((Fld_repetitions q1.2.2.2.1 (a1 : Int32).toNatClampNeg, q1.2.1, q1.2.2.1, q1.2.2.2.1, q1.2.2.2.2)))) else some (((-1), q1.2.1, q1.2.2.1, q1.2.2.2.1, q1.2.2.2.2))))
abbrev rm_X_field : Room := { frames := 6, cells := 0, slots := 0, locals := 165 }
set_option maxHeartbeats 4000000 in
set_option maxRecDepth 100000 in
theorem c_X_field (l : Launch) (D : va_G) (K : Nat → ClassId) (fu : Nat) (hX : Nat → Nat) (hVAL : Nat → Nat) (hTab : Nat → Nat) (hProg : Nat → Nat) (hWalk : Nat → Nat) (hFld : Nat → Nat) (hLps : Nat → Nat) (hWri : Nat → Nat) (hRea : Nat → Nat) (hTP : Nat → Nat) (hGrd : Nat → Nat) (sX : S_X) (sVAL : (Nat → Nat → Int64)) (sTab : S_Tab) (sProg : S_Prog) (sWalk : S_Walk) (sFld : S_Fld) (sLps : S_Lps) (a0 : Int32) (a1 : Int32) (a2 : Int32) (r : Int32) (sProg' : S_Prog) (sWalk' : S_Walk) (sFld' : S_Fld) (sLps' : S_Lps) (hf : X_field fu sX sVAL sTab a0 a1 a2 sProg sWalk sFld sLps = some ((r, sProg', sWalk', sFld', sLps'))) : mi l D K y_X_field ws_X_field rm_X_field [.ref (hX 0), .int a0, .int a1, .int a2] (fl [wX K hX (hTab 0) (hProg 0) (hWalk 0) (hWri 0) (hRea 0) (hTP 0) (hGrd 0) (hVAL 0) sX, wGO K hVAL, wRow K (fun _ => hVAL 1) 100 (sVAL 0), wRow K (fun _ => hVAL 2) 100 (sVAL 1), wRow K (fun _ => hVAL 3) 100 (sVAL 2), wRow K (fun _ => hVAL 4) 100 (sVAL 3), wRow K (fun _ => hVAL 5) 100 (sVAL 4), wRow K (fun _ => hVAL 6) 100 (sVAL 5), wRow K (fun _ => hVAL 7) 100 (sVAL 6), wRow K (fun _ => hVAL 8) 100 (sVAL 7), wTab K hTab sTab, wProg K hProg (hTab 0) sProg, wWalk K hWalk (hFld 0) (hTab 0) (hProg 0) (hLps 0) sWalk, wFld K hFld sFld, wLps K hLps sLps]) (fl [wX K hX (hTab 0) (hProg 0) (hWalk 0) (hWri 0) (hRea 0) (hTP 0) (hGrd 0) (hVAL 0) sX, wGO K hVAL, wRow K (fun _ => hVAL 1) 100 (sVAL 0), wRow K (fun _ => hVAL 2) 100 (sVAL 1), wRow K (fun _ => hVAL 3) 100 (sVAL 2), wRow K (fun _ => hVAL 4) 100 (sVAL 3), wRow K (fun _ => hVAL 5) 100 (sVAL 4), wRow K (fun _ => hVAL 6) 100 (sVAL 5), wRow K (fun _ => hVAL 7) 100 (sVAL 6), wRow K (fun _ => hVAL 8) 100 (sVAL 7), wTab K hTab sTab, wProg K hProg (hTab 0) sProg', wWalk K hWalk (hFld 0) (hTab 0) (hProg 0) (hLps 0) sWalk', wFld K hFld sFld', wLps K hLps sLps']) r := by
  refine mi_of (cc := b_X_field) (maxL := 4) (own := "ObsMessages") (by decide) rfl rfl (Nat.le_of_ble_eq_true rfl) ?_
  intro p e s m below meth c A ls hC hP hD hS hl
  obtain ⟨hx, hb, hml, hown, hts, hr, hlocks, hK, hF, hA⟩ := hC
  have hP : va_P D vwCl (fl [wX K hX (hTab 0) (hProg 0) (hWalk 0) (hWri 0) (hRea 0) (hTP 0) (hGrd 0) (hVAL 0) sX, wGO K hVAL, wRow K (fun _ => hVAL 1) 100 (sVAL 0), wRow K (fun _ => hVAL 2) 100 (sVAL 1), wRow K (fun _ => hVAL 3) 100 (sVAL 2), wRow K (fun _ => hVAL 4) 100 (sVAL 3), wRow K (fun _ => hVAL 5) 100 (sVAL 4), wRow K (fun _ => hVAL 6) 100 (sVAL 5), wRow K (fun _ => hVAL 7) 100 (sVAL 6), wRow K (fun _ => hVAL 8) 100 (sVAL 7), wTab K hTab sTab, wProg K hProg (hTab 0) sProg, wWalk K hWalk (hFld 0) (hTab 0) (hProg 0) (hLps 0) sWalk, wFld K hFld sFld, wLps K hLps sLps]) s.heap := hP
  have hl : lv_has ls 4 [(0, .ref (hX 0)), (1, .int a0), (2, .int a1), (3, .int a2)] := hl
  suffices hW : ∀ (H : Heap) (locs : List Loc), va_P D vwCl (fl [wX K hX (hTab 0) (hProg 0) (hWalk 0) (hWri 0) (hRea 0) (hTP 0) (hGrd 0) (hVAL 0) sX, wGO K hVAL, wRow K (fun _ => hVAL 1) 100 (sVAL 0), wRow K (fun _ => hVAL 2) 100 (sVAL 1), wRow K (fun _ => hVAL 3) 100 (sVAL 2), wRow K (fun _ => hVAL 4) 100 (sVAL 3), wRow K (fun _ => hVAL 5) 100 (sVAL 4), wRow K (fun _ => hVAL 6) 100 (sVAL 5), wRow K (fun _ => hVAL 7) 100 (sVAL 6), wRow K (fun _ => hVAL 8) 100 (sVAL 7), wTab K hTab sTab, wProg K hProg (hTab 0) sProg, wWalk K hWalk (hFld 0) (hTab 0) (hProg 0) (hLps 0) sWalk, wFld K hFld sFld, wLps K hLps sLps]) H → va_S A s.heap H locs → W p l e rm_X_field s m ([.ref (hX 0), .int a0, .int a1, .int a2] : List Value).toArray below meth c H locs 0 0 (Qi below ([.ref (hX 0), .int a0, .int a1, .int a2] : List Value).toArray s D K A (fl [wX K hX (hTab 0) (hProg 0) (hWalk 0) (hWri 0) (hRea 0) (hTP 0) (hGrd 0) (hVAL 0) sX, wGO K hVAL, wRow K (fun _ => hVAL 1) 100 (sVAL 0), wRow K (fun _ => hVAL 2) 100 (sVAL 1), wRow K (fun _ => hVAL 3) 100 (sVAL 2), wRow K (fun _ => hVAL 4) 100 (sVAL 3), wRow K (fun _ => hVAL 5) 100 (sVAL 4), wRow K (fun _ => hVAL 6) 100 (sVAL 5), wRow K (fun _ => hVAL 7) 100 (sVAL 6), wRow K (fun _ => hVAL 8) 100 (sVAL 7), wTab K hTab sTab, wProg K hProg (hTab 0) sProg', wWalk K hWalk (hFld 0) (hTab 0) (hProg 0) (hLps 0) sWalk', wFld K hFld sFld', wLps K hLps sLps']) r) (F0 m 0 ls []) from hW s.heap [] hP hS
  clear hP hS
  intro H locs hP hS
  refine lv_aload_n (pc := 0) hx hb d_X_field_0 rfl (lv_at hl 0 rfl) ?_
  refine lv_iload_n (pc := 1) hx hb d_X_field_1 rfl (lv_at hl 1 rfl) ?_
  obtain ⟨q1, hq1, hf⟩ := o_bd_e hf
  refine fi_i (pc := 2) (va_runV (As := [.int a0]) (rest := []) ⟨hx, hb, hml, hown, hts⟩ ((c_X_walkOver l D K fu hX hVAL hTab hProg hWalk hFld hLps hWri hRea hTP hGrd sX sVAL sTab sProg sWalk sFld sLps a0 q1.1 q1.2.1 q1.2.2.1 q1.2.2.2.1 q1.2.2.2.2 hq1) _) (cwV 1 hts (gV tw_435 tw_437 tp_0 tw_1 tw_438) rfl rfl rfl (by decide +kernel) ⟨by decide, by decide⟩) ⟨mPre_blind, va_recv hK hP (ci := 0) rfl (fl_at 0 0 rfl rfl), (mPre_fl hK hF hA hP hD hS [0, 1, 2, 3, 4, 5, 6, 7, 8, 9, 10, 11, 12, 13, 14] rfl rfl)⟩ rfl rfl hl.1 rfl (lv_room (Nat.le_of_ble_eq_true rfl)) d_X_field_2 ⟨Nat.zero_le _, Nat.zero_le _⟩) hA hP hD hS [0, 1, 2, 3, 4, 5, 6, 7, 8, 9, 10, 11, 12, 13, 14] rfl rfl (fun H locs hP hD hS => ?_)
  have hP : va_P D vwCl (fl [wX K hX (hTab 0) (hProg 0) (hWalk 0) (hWri 0) (hRea 0) (hTP 0) (hGrd 0) (hVAL 0) sX, wGO K hVAL, wRow K (fun _ => hVAL 1) 100 (sVAL 0), wRow K (fun _ => hVAL 2) 100 (sVAL 1), wRow K (fun _ => hVAL 3) 100 (sVAL 2), wRow K (fun _ => hVAL 4) 100 (sVAL 3), wRow K (fun _ => hVAL 5) 100 (sVAL 4), wRow K (fun _ => hVAL 6) 100 (sVAL 5), wRow K (fun _ => hVAL 7) 100 (sVAL 6), wRow K (fun _ => hVAL 8) 100 (sVAL 7), wTab K hTab sTab, wProg K hProg (hTab 0) q1.2.1, wWalk K hWalk (hFld 0) (hTab 0) (hProg 0) (hLps 0) q1.2.2.1, wFld K hFld q1.2.2.2.1, wLps K hLps q1.2.2.2.2]) H := hP
  have hD : va_D A (fl [wX K hX (hTab 0) (hProg 0) (hWalk 0) (hWri 0) (hRea 0) (hTP 0) (hGrd 0) (hVAL 0) sX, wGO K hVAL, wRow K (fun _ => hVAL 1) 100 (sVAL 0), wRow K (fun _ => hVAL 2) 100 (sVAL 1), wRow K (fun _ => hVAL 3) 100 (sVAL 2), wRow K (fun _ => hVAL 4) 100 (sVAL 3), wRow K (fun _ => hVAL 5) 100 (sVAL 4), wRow K (fun _ => hVAL 6) 100 (sVAL 5), wRow K (fun _ => hVAL 7) 100 (sVAL 6), wRow K (fun _ => hVAL 8) 100 (sVAL 7), wTab K hTab sTab, wProg K hProg (hTab 0) q1.2.1, wWalk K hWalk (hFld 0) (hTab 0) (hProg 0) (hLps 0) q1.2.2.1, wFld K hFld q1.2.2.2.1, wLps K hLps q1.2.2.2.2]) := hD
  refine lv_if_eq (tgt := 22) (pc := 5) hx hb d_X_field_5 (by decide) (fun c16 => ?_) (fun c16 => ?_)
  · replace hf := o_t c16 hf
    refine lv_iconst (v := (-1)) (pc := 22) hx hb d_X_field_22 (by decide) ?_
    cases hf
    exact ret_i hx hb hr hlocks hK hP hS d_X_field_23
  · replace hf := o_f c16 hf
    refine lv_aload_n (pc := 8) hx hb d_X_field_8 rfl (lv_at hl 0 rfl) ?_
    refine va_get (D := D) (ci := 0) (v := .ref (hWalk 0)) (C := R_X) (T := T_X) (N := 10) (pc := 9) hx hb hts (fun w h => List.mem_cons_of_mem _ (in_X w h)) hown hK hP _ (fl_at 0 0 rfl rfl) rfl 2 (by decide) (hts _ (List.mem_cons_of_mem _ tw_385)) (fun _ h9 => h9) rfl d_X_field_9 ?_
    refine va_get (D := D) (ci := 3) (v := .ref (hFld 0)) (C := R_Walk) (T := T_Walk) (N := 18) (pc := 12) hx hb hts (fun w h => List.mem_cons_of_mem _ (in_Walk w h)) hown hK hP _ (fl_at 12 0 rfl rfl) rfl 0 (by decide) (hts _ (List.mem_cons_of_mem _ tw_208)) (fun _ h9 => h9) rfl d_X_field_12 ?_
    refine lv_iload_n (pc := 15) hx hb d_X_field_15 rfl (lv_at hl 2 rfl) ?_
    obtain ⟨q2, hq2, hf⟩ := o_bd_e hf
    refine fi_i (pc := 16) (va_runV (As := [.int a1]) (rest := []) ⟨hx, hb, hml, hown, hts⟩ ((c_Fld_has l D K hFld q1.2.2.2.1 a1 q2 hq2) _) (cwV 1 hts (gV tw_631 tw_632 tw_633 tw_5 tw_634) rfl rfl rfl (by decide +kernel) ⟨by decide, by decide⟩) ⟨mPre_blind, va_recv hK hP (ci := 4) rfl (fl_at 13 0 rfl rfl), (mPre_fl hK hF hA hP hD hS [13] rfl rfl)⟩ rfl rfl hl.1 rfl (lv_room (Nat.le_of_ble_eq_true rfl)) d_X_field_16 ⟨Nat.zero_le _, Nat.zero_le _⟩) hA hP hD hS [13] rfl rfl (fun H locs hP hD hS => ?_)
    have hP : va_P D vwCl (fl [wX K hX (hTab 0) (hProg 0) (hWalk 0) (hWri 0) (hRea 0) (hTP 0) (hGrd 0) (hVAL 0) sX, wGO K hVAL, wRow K (fun _ => hVAL 1) 100 (sVAL 0), wRow K (fun _ => hVAL 2) 100 (sVAL 1), wRow K (fun _ => hVAL 3) 100 (sVAL 2), wRow K (fun _ => hVAL 4) 100 (sVAL 3), wRow K (fun _ => hVAL 5) 100 (sVAL 4), wRow K (fun _ => hVAL 6) 100 (sVAL 5), wRow K (fun _ => hVAL 7) 100 (sVAL 6), wRow K (fun _ => hVAL 8) 100 (sVAL 7), wTab K hTab sTab, wProg K hProg (hTab 0) q1.2.1, wWalk K hWalk (hFld 0) (hTab 0) (hProg 0) (hLps 0) q1.2.2.1, wFld K hFld q1.2.2.2.1, wLps K hLps q1.2.2.2.2]) H := hP
    have hD : va_D A (fl [wX K hX (hTab 0) (hProg 0) (hWalk 0) (hWri 0) (hRea 0) (hTP 0) (hGrd 0) (hVAL 0) sX, wGO K hVAL, wRow K (fun _ => hVAL 1) 100 (sVAL 0), wRow K (fun _ => hVAL 2) 100 (sVAL 1), wRow K (fun _ => hVAL 3) 100 (sVAL 2), wRow K (fun _ => hVAL 4) 100 (sVAL 3), wRow K (fun _ => hVAL 5) 100 (sVAL 4), wRow K (fun _ => hVAL 6) 100 (sVAL 5), wRow K (fun _ => hVAL 7) 100 (sVAL 6), wRow K (fun _ => hVAL 8) 100 (sVAL 7), wTab K hTab sTab, wProg K hProg (hTab 0) q1.2.1, wWalk K hWalk (hFld 0) (hTab 0) (hProg 0) (hLps 0) q1.2.2.1, wFld K hFld q1.2.2.2.1, wLps K hLps q1.2.2.2.2]) := hD
    refine lv_if_ne (tgt := 24) (pc := 19) hx hb d_X_field_19 (by decide) (fun c15 => ?_) (fun c15 => ?_)
    · replace hf := o_f c15 hf
      refine lv_iload_n (pc := 24) hx hb d_X_field_24 rfl (lv_at hl 3 rfl) ?_
      rcases Classical.em (a2 = 0) with c3 | c3
      · replace hf := o_t c3 hf
        refine lv_tableIn (tgt := 64) (pc := 25) hx hb d_X_field_25 (by rw [c3]; decide) (by rw [c3]; decide) (by rw [c3]; rfl) (by decide) ?_
        refine lv_aload_n (pc := 64) hx hb d_X_field_64 rfl (lv_at hl 0 rfl) ?_
        refine va_get (D := D) (ci := 0) (v := .ref (hWalk 0)) (C := R_X) (T := T_X) (N := 10) (pc := 65) hx hb hts (fun w h => List.mem_cons_of_mem _ (in_X w h)) hown hK hP _ (fl_at 0 0 rfl rfl) rfl 2 (by decide) (hts _ (List.mem_cons_of_mem _ tw_385)) (fun _ h9 => h9) rfl d_X_field_65 ?_
        refine va_get (D := D) (ci := 3) (v := .ref (hFld 0)) (C := R_Walk) (T := T_Walk) (N := 18) (pc := 68) hx hb hts (fun w h => List.mem_cons_of_mem _ (in_Walk w h)) hown hK hP _ (fl_at 12 0 rfl rfl) rfl 0 (by decide) (hts _ (List.mem_cons_of_mem _ tw_208)) (fun _ h9 => h9) rfl d_X_field_68 ?_
        refine va_get (D := D) (ci := 4) (v := .ref (hFld 1)) (C := R_Fld) (T := T_Fld) (N := 8) (pc := 71) hx hb hts (fun w h => List.mem_cons_of_mem _ (in_Fld w h)) hown hK hP _ (fl_at 13 0 rfl rfl) rfl 0 (by decide) (hts _ (List.mem_cons_of_mem _ tw_138)) (fun _ h9 => h9) rfl d_X_field_71 ?_
        refine lv_iload_n (pc := 74) hx hb d_X_field_74 rfl (lv_at hl 2 rfl) ?_
        obtain ⟨hi4, hf⟩ := o_gi_e hf
        refine va_iald (D := D) (pc := 75) hx hb hK hP _ 0 (fl_at 13 1 rfl rfl) rfl hi4 d_X_field_75 ?_
        cases hf
        exact ret_i hx hb hr hlocks hK hP hS d_X_field_76
      · replace hf := o_f c3 hf
        rcases Classical.em (a2 = 1) with c5 | c5
        · replace hf := o_t c5 hf
          refine lv_tableIn (tgt := 77) (pc := 25) hx hb d_X_field_25 (by rw [c5]; decide) (by rw [c5]; decide) (by rw [c5]; rfl) (by decide) ?_
          refine lv_aload_n (pc := 77) hx hb d_X_field_77 rfl (lv_at hl 0 rfl) ?_
          refine va_get (D := D) (ci := 0) (v := .ref (hWalk 0)) (C := R_X) (T := T_X) (N := 10) (pc := 78) hx hb hts (fun w h => List.mem_cons_of_mem _ (in_X w h)) hown hK hP _ (fl_at 0 0 rfl rfl) rfl 2 (by decide) (hts _ (List.mem_cons_of_mem _ tw_385)) (fun _ h9 => h9) rfl d_X_field_78 ?_
          refine va_get (D := D) (ci := 3) (v := .ref (hFld 0)) (C := R_Walk) (T := T_Walk) (N := 18) (pc := 81) hx hb hts (fun w h => List.mem_cons_of_mem _ (in_Walk w h)) hown hK hP _ (fl_at 12 0 rfl rfl) rfl 0 (by decide) (hts _ (List.mem_cons_of_mem _ tw_208)) (fun _ h9 => h9) rfl d_X_field_81 ?_
          refine va_get (D := D) (ci := 4) (v := .ref (hFld 2)) (C := R_Fld) (T := T_Fld) (N := 8) (pc := 84) hx hb hts (fun w h => List.mem_cons_of_mem _ (in_Fld w h)) hown hK hP _ (fl_at 13 0 rfl rfl) rfl 1 (by decide) (hts _ (List.mem_cons_of_mem _ tw_140)) (fun _ h9 => h9) rfl d_X_field_84 ?_
          refine lv_iload_n (pc := 87) hx hb d_X_field_87 rfl (lv_at hl 2 rfl) ?_
          obtain ⟨hi6, hf⟩ := o_gi_e hf
          refine va_iald (D := D) (pc := 88) hx hb hK hP _ 0 (fl_at 13 2 rfl rfl) rfl hi6 d_X_field_88 ?_
          cases hf
          exact ret_i hx hb hr hlocks hK hP hS d_X_field_89
        · replace hf := o_f c5 hf
          rcases Classical.em (a2 = 2) with c7 | c7
          · replace hf := o_t c7 hf
            refine lv_tableIn (tgt := 90) (pc := 25) hx hb d_X_field_25 (by rw [c7]; decide) (by rw [c7]; decide) (by rw [c7]; rfl) (by decide) ?_
            refine lv_aload_n (pc := 90) hx hb d_X_field_90 rfl (lv_at hl 0 rfl) ?_
            refine va_get (D := D) (ci := 0) (v := .ref (hWalk 0)) (C := R_X) (T := T_X) (N := 10) (pc := 91) hx hb hts (fun w h => List.mem_cons_of_mem _ (in_X w h)) hown hK hP _ (fl_at 0 0 rfl rfl) rfl 2 (by decide) (hts _ (List.mem_cons_of_mem _ tw_385)) (fun _ h9 => h9) rfl d_X_field_91 ?_
            refine va_get (D := D) (ci := 3) (v := .ref (hFld 0)) (C := R_Walk) (T := T_Walk) (N := 18) (pc := 94) hx hb hts (fun w h => List.mem_cons_of_mem _ (in_Walk w h)) hown hK hP _ (fl_at 12 0 rfl rfl) rfl 0 (by decide) (hts _ (List.mem_cons_of_mem _ tw_208)) (fun _ h9 => h9) rfl d_X_field_94 ?_
            refine va_get (D := D) (ci := 4) (v := .ref (hFld 3)) (C := R_Fld) (T := T_Fld) (N := 8) (pc := 97) hx hb hts (fun w h => List.mem_cons_of_mem _ (in_Fld w h)) hown hK hP _ (fl_at 13 0 rfl rfl) rfl 2 (by decide) (hts _ (List.mem_cons_of_mem _ tw_145)) (fun _ h9 => h9) rfl d_X_field_97 ?_
            refine lv_iload_n (pc := 100) hx hb d_X_field_100 rfl (lv_at hl 2 rfl) ?_
            obtain ⟨hi8, hf⟩ := o_gi_e hf
            refine va_iald (D := D) (pc := 101) hx hb hK hP _ 0 (fl_at 13 3 rfl rfl) rfl hi8 d_X_field_101 ?_
            cases hf
            exact ret_i hx hb hr hlocks hK hP hS d_X_field_102
          · replace hf := o_f c7 hf
            rcases Classical.em (a2 = 3) with c9 | c9
            · replace hf := o_t c9 hf
              refine lv_tableIn (tgt := 103) (pc := 25) hx hb d_X_field_25 (by rw [c9]; decide) (by rw [c9]; decide) (by rw [c9]; rfl) (by decide) ?_
              refine lv_aload_n (pc := 103) hx hb d_X_field_103 rfl (lv_at hl 0 rfl) ?_
              refine va_get (D := D) (ci := 0) (v := .ref (hWalk 0)) (C := R_X) (T := T_X) (N := 10) (pc := 104) hx hb hts (fun w h => List.mem_cons_of_mem _ (in_X w h)) hown hK hP _ (fl_at 0 0 rfl rfl) rfl 2 (by decide) (hts _ (List.mem_cons_of_mem _ tw_385)) (fun _ h9 => h9) rfl d_X_field_104 ?_
              refine va_get (D := D) (ci := 3) (v := .ref (hFld 0)) (C := R_Walk) (T := T_Walk) (N := 18) (pc := 107) hx hb hts (fun w h => List.mem_cons_of_mem _ (in_Walk w h)) hown hK hP _ (fl_at 12 0 rfl rfl) rfl 0 (by decide) (hts _ (List.mem_cons_of_mem _ tw_208)) (fun _ h9 => h9) rfl d_X_field_107 ?_
              refine va_get (D := D) (ci := 4) (v := .ref (hFld 4)) (C := R_Fld) (T := T_Fld) (N := 8) (pc := 110) hx hb hts (fun w h => List.mem_cons_of_mem _ (in_Fld w h)) hown hK hP _ (fl_at 13 0 rfl rfl) rfl 3 (by decide) (hts _ (List.mem_cons_of_mem _ tw_148)) (fun _ h9 => h9) rfl d_X_field_110 ?_
              refine lv_iload_n (pc := 113) hx hb d_X_field_113 rfl (lv_at hl 2 rfl) ?_
              obtain ⟨hi10, hf⟩ := o_gi_e hf
              refine va_iald (D := D) (pc := 114) hx hb hK hP _ 0 (fl_at 13 4 rfl rfl) rfl hi10 d_X_field_114 ?_
              cases hf
              exact ret_i hx hb hr hlocks hK hP hS d_X_field_115
            · replace hf := o_f c9 hf
              rcases Classical.em (a2 = 4) with c11 | c11
              · replace hf := o_t c11 hf
                refine lv_tableIn (tgt := 116) (pc := 25) hx hb d_X_field_25 (by rw [c11]; decide) (by rw [c11]; decide) (by rw [c11]; rfl) (by decide) ?_
                refine lv_aload_n (pc := 116) hx hb d_X_field_116 rfl (lv_at hl 0 rfl) ?_
                refine va_get (D := D) (ci := 0) (v := .ref (hWalk 0)) (C := R_X) (T := T_X) (N := 10) (pc := 117) hx hb hts (fun w h => List.mem_cons_of_mem _ (in_X w h)) hown hK hP _ (fl_at 0 0 rfl rfl) rfl 2 (by decide) (hts _ (List.mem_cons_of_mem _ tw_385)) (fun _ h9 => h9) rfl d_X_field_117 ?_
                refine va_get (D := D) (ci := 3) (v := .ref (hFld 0)) (C := R_Walk) (T := T_Walk) (N := 18) (pc := 120) hx hb hts (fun w h => List.mem_cons_of_mem _ (in_Walk w h)) hown hK hP _ (fl_at 12 0 rfl rfl) rfl 0 (by decide) (hts _ (List.mem_cons_of_mem _ tw_208)) (fun _ h9 => h9) rfl d_X_field_120 ?_
                refine va_get (D := D) (ci := 4) (v := .ref (hFld 6)) (C := R_Fld) (T := T_Fld) (N := 8) (pc := 123) hx hb hts (fun w h => List.mem_cons_of_mem _ (in_Fld w h)) hown hK hP _ (fl_at 13 0 rfl rfl) rfl 5 (by decide) (hts _ (List.mem_cons_of_mem _ tw_156)) (fun _ h9 => h9) rfl d_X_field_123 ?_
                refine lv_iload_n (pc := 126) hx hb d_X_field_126 rfl (lv_at hl 2 rfl) ?_
                obtain ⟨hi12, hf⟩ := o_gi_e hf
                refine va_iald (D := D) (pc := 127) hx hb hK hP _ 0 (fl_at 13 6 rfl rfl) rfl hi12 d_X_field_127 ?_
                cases hf
                exact ret_i hx hb hr hlocks hK hP hS d_X_field_128
              · replace hf := o_f c11 hf
                rcases Classical.em (a2 = 5) with c13 | c13
                · replace hf := o_t c13 hf
                  refine lv_tableIn (tgt := 129) (pc := 25) hx hb d_X_field_25 (by rw [c13]; decide) (by rw [c13]; decide) (by rw [c13]; rfl) (by decide) ?_
                  refine lv_aload_n (pc := 129) hx hb d_X_field_129 rfl (lv_at hl 0 rfl) ?_
                  refine va_get (D := D) (ci := 0) (v := .ref (hWalk 0)) (C := R_X) (T := T_X) (N := 10) (pc := 130) hx hb hts (fun w h => List.mem_cons_of_mem _ (in_X w h)) hown hK hP _ (fl_at 0 0 rfl rfl) rfl 2 (by decide) (hts _ (List.mem_cons_of_mem _ tw_385)) (fun _ h9 => h9) rfl d_X_field_130 ?_
                  refine va_get (D := D) (ci := 3) (v := .ref (hFld 0)) (C := R_Walk) (T := T_Walk) (N := 18) (pc := 133) hx hb hts (fun w h => List.mem_cons_of_mem _ (in_Walk w h)) hown hK hP _ (fl_at 12 0 rfl rfl) rfl 0 (by decide) (hts _ (List.mem_cons_of_mem _ tw_208)) (fun _ h9 => h9) rfl d_X_field_133 ?_
                  refine va_get (D := D) (ci := 4) (v := .ref (hFld 7)) (C := R_Fld) (T := T_Fld) (N := 8) (pc := 136) hx hb hts (fun w h => List.mem_cons_of_mem _ (in_Fld w h)) hown hK hP _ (fl_at 13 0 rfl rfl) rfl 6 (by decide) (hts _ (List.mem_cons_of_mem _ tw_158)) (fun _ h9 => h9) rfl d_X_field_136 ?_
                  refine lv_iload_n (pc := 139) hx hb d_X_field_139 rfl (lv_at hl 2 rfl) ?_
                  obtain ⟨hi14, hf⟩ := o_gi_e hf
                  refine va_iald (D := D) (pc := 140) hx hb hK hP _ 0 (fl_at 13 7 rfl rfl) rfl hi14 d_X_field_140 ?_
                  cases hf
                  exact ret_i hx hb hr hlocks hK hP hS d_X_field_141
                · replace hf := o_f c13 hf
                  refine lv_tableOut (tgt := 142) (pc := 25) hx hb d_X_field_25 (by have := lv_neT (a := 0) c3 (by decide); have := lv_neT (a := 1) c5 (by decide); have := lv_neT (a := 2) c7 (by decide); have := lv_neT (a := 3) c9 (by decide); have := lv_neT (a := 4) c11 (by decide); have := lv_neT (a := 5) c13 (by decide); omega) (by decide) ?_
                  refine lv_iconst (v := (-1)) (pc := 142) hx hb d_X_field_142 (by decide) ?_
                  cases hf
                  exact ret_i hx hb hr hlocks hK hP hS d_X_field_143
    · replace hf := o_t c15 hf
      refine lv_iconst (v := (-1)) (pc := 22) hx hb d_X_field_22 (by decide) ?_
      cases hf
      exact ret_i hx hb hr hlocks hK hP hS d_X_field_23
def X_reference (fu : Nat) (sX : S_X) (sVAL : (Nat → Nat → Int64)) (sTab : S_Tab) (a0 : Int32) (a1 : Int32) (sProg : S_Prog) (sWalk : S_Walk) (sFld : S_Fld) (sLps : S_Lps) : Option (Int64 × S_Prog × S_Walk × S_Fld × S_Lps) := o_bd (X_walkOver fu sX sVAL sTab a0 sProg sWalk sFld sLps) fun q1 => (if q1.1 = 0 then some ((0, q1.2.1, q1.2.2.1, q1.2.2.2.1, q1.2.2.2.2)) else o_bd (Fld_has q1.2.2.2.1 a1) fun q2 => (if q2 = 0 then some ((0, q1.2.1, q1.2.2.1, q1.2.2.2.1, q1.2.2.2.2)) else o_gd (o_in a1 100) (some ((Fld_references q1.2.2.2.1 (a1 : Int32).toNatClampNeg, q1.2.1, q1.2.2.1, q1.2.2.2.1, q1.2.2.2.2)))))
abbrev rm_X_reference : Room := { frames := 6, cells := 0, slots := 0, locals := 165 }
set_option maxHeartbeats 4000000 in
set_option maxRecDepth 100000 in
theorem c_X_reference (l : Launch) (D : va_G) (K : Nat → ClassId) (fu : Nat) (hX : Nat → Nat) (hVAL : Nat → Nat) (hTab : Nat → Nat) (hProg : Nat → Nat) (hWalk : Nat → Nat) (hFld : Nat → Nat) (hLps : Nat → Nat) (hWri : Nat → Nat) (hRea : Nat → Nat) (hTP : Nat → Nat) (hGrd : Nat → Nat) (sX : S_X) (sVAL : (Nat → Nat → Int64)) (sTab : S_Tab) (sProg : S_Prog) (sWalk : S_Walk) (sFld : S_Fld) (sLps : S_Lps) (a0 : Int32) (a1 : Int32) (r : Int64) (sProg' : S_Prog) (sWalk' : S_Walk) (sFld' : S_Fld) (sLps' : S_Lps) (hf : X_reference fu sX sVAL sTab a0 a1 sProg sWalk sFld sLps = some ((r, sProg', sWalk', sFld', sLps'))) : ml l D K y_X_reference ws_X_reference rm_X_reference [.ref (hX 0), .int a0, .int a1] (fl [wX K hX (hTab 0) (hProg 0) (hWalk 0) (hWri 0) (hRea 0) (hTP 0) (hGrd 0) (hVAL 0) sX, wGO K hVAL, wRow K (fun _ => hVAL 1) 100 (sVAL 0), wRow K (fun _ => hVAL 2) 100 (sVAL 1), wRow K (fun _ => hVAL 3) 100 (sVAL 2), wRow K (fun _ => hVAL 4) 100 (sVAL 3), wRow K (fun _ => hVAL 5) 100 (sVAL 4), wRow K (fun _ => hVAL 6) 100 (sVAL 5), wRow K (fun _ => hVAL 7) 100 (sVAL 6), wRow K (fun _ => hVAL 8) 100 (sVAL 7), wTab K hTab sTab, wProg K hProg (hTab 0) sProg, wWalk K hWalk (hFld 0) (hTab 0) (hProg 0) (hLps 0) sWalk, wFld K hFld sFld, wLps K hLps sLps]) (fl [wX K hX (hTab 0) (hProg 0) (hWalk 0) (hWri 0) (hRea 0) (hTP 0) (hGrd 0) (hVAL 0) sX, wGO K hVAL, wRow K (fun _ => hVAL 1) 100 (sVAL 0), wRow K (fun _ => hVAL 2) 100 (sVAL 1), wRow K (fun _ => hVAL 3) 100 (sVAL 2), wRow K (fun _ => hVAL 4) 100 (sVAL 3), wRow K (fun _ => hVAL 5) 100 (sVAL 4), wRow K (fun _ => hVAL 6) 100 (sVAL 5), wRow K (fun _ => hVAL 7) 100 (sVAL 6), wRow K (fun _ => hVAL 8) 100 (sVAL 7), wTab K hTab sTab, wProg K hProg (hTab 0) sProg', wWalk K hWalk (hFld 0) (hTab 0) (hProg 0) (hLps 0) sWalk', wFld K hFld sFld', wLps K hLps sLps']) r := by
  refine ml_of (cc := b_X_reference) (maxL := 3) (own := "ObsMessages") (by decide) rfl rfl (Nat.le_of_ble_eq_true rfl) ?_
  intro p e s m below meth c A ls hC hP hD hS hl
  obtain ⟨hx, hb, hml, hown, hts, hr, hlocks, hK, hF, hA⟩ := hC
  have hP : va_P D vwCl (fl [wX K hX (hTab 0) (hProg 0) (hWalk 0) (hWri 0) (hRea 0) (hTP 0) (hGrd 0) (hVAL 0) sX, wGO K hVAL, wRow K (fun _ => hVAL 1) 100 (sVAL 0), wRow K (fun _ => hVAL 2) 100 (sVAL 1), wRow K (fun _ => hVAL 3) 100 (sVAL 2), wRow K (fun _ => hVAL 4) 100 (sVAL 3), wRow K (fun _ => hVAL 5) 100 (sVAL 4), wRow K (fun _ => hVAL 6) 100 (sVAL 5), wRow K (fun _ => hVAL 7) 100 (sVAL 6), wRow K (fun _ => hVAL 8) 100 (sVAL 7), wTab K hTab sTab, wProg K hProg (hTab 0) sProg, wWalk K hWalk (hFld 0) (hTab 0) (hProg 0) (hLps 0) sWalk, wFld K hFld sFld, wLps K hLps sLps]) s.heap := hP
  have hl : lv_has ls 3 [(0, .ref (hX 0)), (1, .int a0), (2, .int a1)] := hl
  suffices hW : ∀ (H : Heap) (locs : List Loc), va_P D vwCl (fl [wX K hX (hTab 0) (hProg 0) (hWalk 0) (hWri 0) (hRea 0) (hTP 0) (hGrd 0) (hVAL 0) sX, wGO K hVAL, wRow K (fun _ => hVAL 1) 100 (sVAL 0), wRow K (fun _ => hVAL 2) 100 (sVAL 1), wRow K (fun _ => hVAL 3) 100 (sVAL 2), wRow K (fun _ => hVAL 4) 100 (sVAL 3), wRow K (fun _ => hVAL 5) 100 (sVAL 4), wRow K (fun _ => hVAL 6) 100 (sVAL 5), wRow K (fun _ => hVAL 7) 100 (sVAL 6), wRow K (fun _ => hVAL 8) 100 (sVAL 7), wTab K hTab sTab, wProg K hProg (hTab 0) sProg, wWalk K hWalk (hFld 0) (hTab 0) (hProg 0) (hLps 0) sWalk, wFld K hFld sFld, wLps K hLps sLps]) H → va_S A s.heap H locs → W p l e rm_X_reference s m ([.ref (hX 0), .int a0, .int a1] : List Value).toArray below meth c H locs 0 0 (Ql below ([.ref (hX 0), .int a0, .int a1] : List Value).toArray s D K A (fl [wX K hX (hTab 0) (hProg 0) (hWalk 0) (hWri 0) (hRea 0) (hTP 0) (hGrd 0) (hVAL 0) sX, wGO K hVAL, wRow K (fun _ => hVAL 1) 100 (sVAL 0), wRow K (fun _ => hVAL 2) 100 (sVAL 1), wRow K (fun _ => hVAL 3) 100 (sVAL 2), wRow K (fun _ => hVAL 4) 100 (sVAL 3), wRow K (fun _ => hVAL 5) 100 (sVAL 4), wRow K (fun _ => hVAL 6) 100 (sVAL 5), wRow K (fun _ => hVAL 7) 100 (sVAL 6), wRow K (fun _ => hVAL 8) 100 (sVAL 7), wTab K hTab sTab, wProg K hProg (hTab 0) sProg', wWalk K hWalk (hFld 0) (hTab 0) (hProg 0) (hLps 0) sWalk', wFld K hFld sFld', wLps K hLps sLps']) r) (F0 m 0 ls []) from hW s.heap [] hP hS
  clear hP hS
  intro H locs hP hS
  refine lv_aload_n (pc := 0) hx hb d_X_reference_0 rfl (lv_at hl 0 rfl) ?_
  refine lv_iload_n (pc := 1) hx hb d_X_reference_1 rfl (lv_at hl 1 rfl) ?_
  obtain ⟨q1, hq1, hf⟩ := o_bd_e hf
  refine fi_i (pc := 2) (va_runV (As := [.int a0]) (rest := []) ⟨hx, hb, hml, hown, hts⟩ ((c_X_walkOver l D K fu hX hVAL hTab hProg hWalk hFld hLps hWri hRea hTP hGrd sX sVAL sTab sProg sWalk sFld sLps a0 q1.1 q1.2.1 q1.2.2.1 q1.2.2.2.1 q1.2.2.2.2 hq1) _) (cwV 1 hts (gV tw_435 tw_437 tp_0 tw_1 tw_438) rfl rfl rfl (by decide +kernel) ⟨by decide, by decide⟩) ⟨mPre_blind, va_recv hK hP (ci := 0) rfl (fl_at 0 0 rfl rfl), (mPre_fl hK hF hA hP hD hS [0, 1, 2, 3, 4, 5, 6, 7, 8, 9, 10, 11, 12, 13, 14] rfl rfl)⟩ rfl rfl hl.1 rfl (lv_room (Nat.le_of_ble_eq_true rfl)) d_X_reference_2 ⟨Nat.zero_le _, Nat.zero_le _⟩) hA hP hD hS [0, 1, 2, 3, 4, 5, 6, 7, 8, 9, 10, 11, 12, 13, 14] rfl rfl (fun H locs hP hD hS => ?_)
  have hP : va_P D vwCl (fl [wX K hX (hTab 0) (hProg 0) (hWalk 0) (hWri 0) (hRea 0) (hTP 0) (hGrd 0) (hVAL 0) sX, wGO K hVAL, wRow K (fun _ => hVAL 1) 100 (sVAL 0), wRow K (fun _ => hVAL 2) 100 (sVAL 1), wRow K (fun _ => hVAL 3) 100 (sVAL 2), wRow K (fun _ => hVAL 4) 100 (sVAL 3), wRow K (fun _ => hVAL 5) 100 (sVAL 4), wRow K (fun _ => hVAL 6) 100 (sVAL 5), wRow K (fun _ => hVAL 7) 100 (sVAL 6), wRow K (fun _ => hVAL 8) 100 (sVAL 7), wTab K hTab sTab, wProg K hProg (hTab 0) q1.2.1, wWalk K hWalk (hFld 0) (hTab 0) (hProg 0) (hLps 0) q1.2.2.1, wFld K hFld q1.2.2.2.1, wLps K hLps q1.2.2.2.2]) H := hP
  have hD : va_D A (fl [wX K hX (hTab 0) (hProg 0) (hWalk 0) (hWri 0) (hRea 0) (hTP 0) (hGrd 0) (hVAL 0) sX, wGO K hVAL, wRow K (fun _ => hVAL 1) 100 (sVAL 0), wRow K (fun _ => hVAL 2) 100 (sVAL 1), wRow K (fun _ => hVAL 3) 100 (sVAL 2), wRow K (fun _ => hVAL 4) 100 (sVAL 3), wRow K (fun _ => hVAL 5) 100 (sVAL 4), wRow K (fun _ => hVAL 6) 100 (sVAL 5), wRow K (fun _ => hVAL 7) 100 (sVAL 6), wRow K (fun _ => hVAL 8) 100 (sVAL 7), wTab K hTab sTab, wProg K hProg (hTab 0) q1.2.1, wWalk K hWalk (hFld 0) (hTab 0) (hProg 0) (hLps 0) q1.2.2.1, wFld K hFld q1.2.2.2.1, wLps K hLps q1.2.2.2.2]) := hD
  refine lv_if_eq (tgt := 37) (pc := 5) hx hb d_X_reference_5 (by decide) (fun c5 => ?_) (fun c5 => ?_)
  · replace hf := o_t c5 hf
    refine lv_lconst (v := 0) (pc := 37) hx hb d_X_reference_37 (by decide) ?_
    cases hf
    exact ret_l hx hb hr hlocks hK hP hS d_X_reference_38
  · replace hf := o_f c5 hf
    refine lv_aload_n (pc := 8) hx hb d_X_reference_8 rfl (lv_at hl 0 rfl) ?_
    refine va_get (D := D) (ci := 0) (v := .ref (hWalk 0)) (C := R_X) (T := T_X) (N := 10) (pc := 9) hx hb hts (fun w h => List.mem_cons_of_mem _ (in_X w h)) hown hK hP _ (fl_at 0 0 rfl rfl) rfl 2 (by decide) (hts _ (List.mem_cons_of_mem _ tw_385)) (fun _ h9 => h9) rfl d_X_reference_9 ?_
    refine va_get (D := D) (ci := 3) (v := .ref (hFld 0)) (C := R_Walk) (T := T_Walk) (N := 18) (pc := 12) hx hb hts (fun w h => List.mem_cons_of_mem _ (in_Walk w h)) hown hK hP _ (fl_at 12 0 rfl rfl) rfl 0 (by decide) (hts _ (List.mem_cons_of_mem _ tw_208)) (fun _ h9 => h9) rfl d_X_reference_12 ?_
    refine lv_iload_n (pc := 15) hx hb d_X_reference_15 rfl (lv_at hl 2 rfl) ?_
    obtain ⟨q2, hq2, hf⟩ := o_bd_e hf
    refine fi_i (pc := 16) (va_runV (As := [.int a1]) (rest := []) ⟨hx, hb, hml, hown, hts⟩ ((c_Fld_has l D K hFld q1.2.2.2.1 a1 q2 hq2) _) (cwV 1 hts (gV tw_631 tw_632 tw_633 tw_5 tw_634) rfl rfl rfl (by decide +kernel) ⟨by decide, by decide⟩) ⟨mPre_blind, va_recv hK hP (ci := 4) rfl (fl_at 13 0 rfl rfl), (mPre_fl hK hF hA hP hD hS [13] rfl rfl)⟩ rfl rfl hl.1 rfl (lv_room (Nat.le_of_ble_eq_true rfl)) d_X_reference_16 ⟨Nat.zero_le _, Nat.zero_le _⟩) hA hP hD hS [13] rfl rfl (fun H locs hP hD hS => ?_)
    have hP : va_P D vwCl (fl [wX K hX (hTab 0) (hProg 0) (hWalk 0) (hWri 0) (hRea 0) (hTP 0) (hGrd 0) (hVAL 0) sX, wGO K hVAL, wRow K (fun _ => hVAL 1) 100 (sVAL 0), wRow K (fun _ => hVAL 2) 100 (sVAL 1), wRow K (fun _ => hVAL 3) 100 (sVAL 2), wRow K (fun _ => hVAL 4) 100 (sVAL 3), wRow K (fun _ => hVAL 5) 100 (sVAL 4), wRow K (fun _ => hVAL 6) 100 (sVAL 5), wRow K (fun _ => hVAL 7) 100 (sVAL 6), wRow K (fun _ => hVAL 8) 100 (sVAL 7), wTab K hTab sTab, wProg K hProg (hTab 0) q1.2.1, wWalk K hWalk (hFld 0) (hTab 0) (hProg 0) (hLps 0) q1.2.2.1, wFld K hFld q1.2.2.2.1, wLps K hLps q1.2.2.2.2]) H := hP
    have hD : va_D A (fl [wX K hX (hTab 0) (hProg 0) (hWalk 0) (hWri 0) (hRea 0) (hTP 0) (hGrd 0) (hVAL 0) sX, wGO K hVAL, wRow K (fun _ => hVAL 1) 100 (sVAL 0), wRow K (fun _ => hVAL 2) 100 (sVAL 1), wRow K (fun _ => hVAL 3) 100 (sVAL 2), wRow K (fun _ => hVAL 4) 100 (sVAL 3), wRow K (fun _ => hVAL 5) 100 (sVAL 4), wRow K (fun _ => hVAL 6) 100 (sVAL 5), wRow K (fun _ => hVAL 7) 100 (sVAL 6), wRow K (fun _ => hVAL 8) 100 (sVAL 7), wTab K hTab sTab, wProg K hProg (hTab 0) q1.2.1, wWalk K hWalk (hFld 0) (hTab 0) (hProg 0) (hLps 0) q1.2.2.1, wFld K hFld q1.2.2.2.1, wLps K hLps q1.2.2.2.2]) := hD
    refine lv_if_eq (tgt := 37) (pc := 19) hx hb d_X_reference_19 (by decide) (fun c4 => ?_) (fun c4 => ?_)
    · replace hf := o_t c4 hf
      refine lv_lconst (v := 0) (pc := 37) hx hb d_X_reference_37 (by decide) ?_
      cases hf
      exact ret_l hx hb hr hlocks hK hP hS d_X_reference_38
    · replace hf := o_f c4 hf
      refine lv_aload_n (pc := 22) hx hb d_X_reference_22 rfl (lv_at hl 0 rfl) ?_
      refine va_get (D := D) (ci := 0) (v := .ref (hWalk 0)) (C := R_X) (T := T_X) (N := 10) (pc := 23) hx hb hts (fun w h => List.mem_cons_of_mem _ (in_X w h)) hown hK hP _ (fl_at 0 0 rfl rfl) rfl 2 (by decide) (hts _ (List.mem_cons_of_mem _ tw_385)) (fun _ h9 => h9) rfl d_X_reference_23 ?_
      refine va_get (D := D) (ci := 3) (v := .ref (hFld 0)) (C := R_Walk) (T := T_Walk) (N := 18) (pc := 26) hx hb hts (fun w h => List.mem_cons_of_mem _ (in_Walk w h)) hown hK hP _ (fl_at 12 0 rfl rfl) rfl 0 (by decide) (hts _ (List.mem_cons_of_mem _ tw_208)) (fun _ h9 => h9) rfl d_X_reference_26 ?_
      refine va_get (D := D) (ci := 4) (v := .ref (hFld 5)) (C := R_Fld) (T := T_Fld) (N := 8) (pc := 29) hx hb hts (fun w h => List.mem_cons_of_mem _ (in_Fld w h)) hown hK hP _ (fl_at 13 0 rfl rfl) rfl 4 (by decide) (hts _ (List.mem_cons_of_mem _ tw_152)) (fun _ h9 => h9) rfl d_X_reference_29 ?_
      refine lv_iload_n (pc := 32) hx hb d_X_reference_32 rfl (lv_at hl 2 rfl) ?_
      obtain ⟨hi3, hf⟩ := o_gi_e hf
      refine va_lald (D := D) (pc := 33) hx hb hK hP _ 1 (fl_at 13 5 rfl rfl) rfl hi3 d_X_reference_33 ?_
      refine lv_goto (tgt := 38) (pc := 34) hx hb d_X_reference_34 (by decide) ?_
      cases hf
      exact ret_l hx hb hr hlocks hK hP hS d_X_reference_38
def X_find_j61 (fu : Nat) (sX : S_X) (sVAL : (Nat → Nat → Int64)) (sTab : S_Tab) (kc_16 : Int32 → Int32 → Option (Int32 × S_Prog × S_Walk × S_Fld × S_Lps)) (x2_L16 : Int32) (x3_L16 : Int32) (x4_L16 : Int32) (sProg_L16 : S_Prog) (sWalk_L16 : S_Walk) (sFld_L16 : S_Fld) (sLps_L16 : S_Lps) (x5_j61 : Int32) (x6_j61 : Int32) : Option (Int32 × S_Prog × S_Walk × S_Fld × S_Lps) := kc_16 x5_j61 (x6_j61 + 1)
def X_find_L16 (fu : Nat) (sX : S_X) (sVAL : (Nat → Nat → Int64)) (sTab : S_Tab) (x2_L16 : Int32) (x3_L16 : Int32) (x4_L16 : Int32) (sProg_L16 : S_Prog) (sWalk_L16 : S_Walk) (sFld_L16 : S_Fld) (sLps_L16 : S_Lps) : Nat → Int32 → Int32 → Option (Int32 × S_Prog × S_Walk × S_Fld × S_Lps)
  | 0, _, _ => none
  | n + 1, x5_L16, x6_L16 => if (Fld_count sFld_L16) ≤ x6_L16 then some (((-1), sProg_L16, sWalk_L16, sFld_L16, sLps_L16)) else o_bd (Fld_isElementOf sFld_L16 x6_L16 x2_L16 x3_L16) fun q2 => (if q2 = 0 then X_find_j61 fu sX sVAL sTab (fun v0 v1 => X_find_L16 fu sX sVAL sTab x2_L16 x3_L16 x4_L16 sProg_L16 sWalk_L16 sFld_L16 sLps_L16 n v0 v1) x2_L16 x3_L16 x4_L16 sProg_L16 sWalk_L16 sFld_L16 sLps_L16 x5_L16 x6_L16 else if x5_L16 = x4_L16 then some ((x6_L16, sProg_L16, sWalk_L16, sFld_L16, sLps_L16)) else X_find_j61 fu sX sVAL sTab (fun v0 v1 => X_find_L16 fu sX sVAL sTab x2_L16 x3_L16 x4_L16 sProg_L16 sWalk_L16 sFld_L16 sLps_L16 n v0 v1) x2_L16 x3_L16 x4_L16 sProg_L16 sWalk_L16 sFld_L16 sLps_L16 (x5_L16 + 1) x6_L16)
def X_find (fu : Nat) (sX : S_X) (sVAL : (Nat → Nat → Int64)) (sTab : S_Tab) (a0 : Int32) (a1 : Int32) (a2 : Int32) (a3 : Int32) (sProg : S_Prog) (sWalk : S_Walk) (sFld : S_Fld) (sLps : S_Lps) : Option (Int32 × S_Prog × S_Walk × S_Fld × S_Lps) := o_bd (X_walkOver fu sX sVAL sTab a0 sProg sWalk sFld sLps) fun q1 => (if q1.1 = 0 then some (((-1), q1.2.1, q1.2.2.1, q1.2.2.2.1, q1.2.2.2.2)) else X_find_L16 fu sX sVAL sTab a1 a2 a3 q1.2.1 q1.2.2.1 q1.2.2.2.1 q1.2.2.2.2 fu 0 0)
abbrev rm_X_find : Room := { frames := 6, cells := 0, slots := 0, locals := 165 }
set_option maxHeartbeats 4000000 in
set_option maxRecDepth 100000 in
theorem c_X_find (l : Launch) (D : va_G) (K : Nat → ClassId) (fu : Nat) (hX : Nat → Nat) (hVAL : Nat → Nat) (hTab : Nat → Nat) (hProg : Nat → Nat) (hWalk : Nat → Nat) (hFld : Nat → Nat) (hLps : Nat → Nat) (hWri : Nat → Nat) (hRea : Nat → Nat) (hTP : Nat → Nat) (hGrd : Nat → Nat) (sX : S_X) (sVAL : (Nat → Nat → Int64)) (sTab : S_Tab) (sProg : S_Prog) (sWalk : S_Walk) (sFld : S_Fld) (sLps : S_Lps) (a0 : Int32) (a1 : Int32) (a2 : Int32) (a3 : Int32) (r : Int32) (sProg' : S_Prog) (sWalk' : S_Walk) (sFld' : S_Fld) (sLps' : S_Lps) (hf : X_find fu sX sVAL sTab a0 a1 a2 a3 sProg sWalk sFld sLps = some ((r, sProg', sWalk', sFld', sLps'))) : mi l D K y_X_find ws_X_find rm_X_find [.ref (hX 0), .int a0, .int a1, .int a2, .int a3] (fl [wX K hX (hTab 0) (hProg 0) (hWalk 0) (hWri 0) (hRea 0) (hTP 0) (hGrd 0) (hVAL 0) sX, wGO K hVAL, wRow K (fun _ => hVAL 1) 100 (sVAL 0), wRow K (fun _ => hVAL 2) 100 (sVAL 1), wRow K (fun _ => hVAL 3) 100 (sVAL 2), wRow K (fun _ => hVAL 4) 100 (sVAL 3), wRow K (fun _ => hVAL 5) 100 (sVAL 4), wRow K (fun _ => hVAL 6) 100 (sVAL 5), wRow K (fun _ => hVAL 7) 100 (sVAL 6), wRow K (fun _ => hVAL 8) 100 (sVAL 7), wTab K hTab sTab, wProg K hProg (hTab 0) sProg, wWalk K hWalk (hFld 0) (hTab 0) (hProg 0) (hLps 0) sWalk, wFld K hFld sFld, wLps K hLps sLps]) (fl [wX K hX (hTab 0) (hProg 0) (hWalk 0) (hWri 0) (hRea 0) (hTP 0) (hGrd 0) (hVAL 0) sX, wGO K hVAL, wRow K (fun _ => hVAL 1) 100 (sVAL 0), wRow K (fun _ => hVAL 2) 100 (sVAL 1), wRow K (fun _ => hVAL 3) 100 (sVAL 2), wRow K (fun _ => hVAL 4) 100 (sVAL 3), wRow K (fun _ => hVAL 5) 100 (sVAL 4), wRow K (fun _ => hVAL 6) 100 (sVAL 5), wRow K (fun _ => hVAL 7) 100 (sVAL 6), wRow K (fun _ => hVAL 8) 100 (sVAL 7), wTab K hTab sTab, wProg K hProg (hTab 0) sProg', wWalk K hWalk (hFld 0) (hTab 0) (hProg 0) (hLps 0) sWalk', wFld K hFld sFld', wLps K hLps sLps']) r := by
  refine mi_of (cc := b_X_find) (maxL := 7) (own := "ObsMessages") (by decide) rfl rfl (Nat.le_of_ble_eq_true rfl) ?_
  intro p e s m below meth c A ls hC hP hD hS hl
  obtain ⟨hx, hb, hml, hown, hts, hr, hlocks, hK, hF, hA⟩ := hC
  have hP : va_P D vwCl (fl [wX K hX (hTab 0) (hProg 0) (hWalk 0) (hWri 0) (hRea 0) (hTP 0) (hGrd 0) (hVAL 0) sX, wGO K hVAL, wRow K (fun _ => hVAL 1) 100 (sVAL 0), wRow K (fun _ => hVAL 2) 100 (sVAL 1), wRow K (fun _ => hVAL 3) 100 (sVAL 2), wRow K (fun _ => hVAL 4) 100 (sVAL 3), wRow K (fun _ => hVAL 5) 100 (sVAL 4), wRow K (fun _ => hVAL 6) 100 (sVAL 5), wRow K (fun _ => hVAL 7) 100 (sVAL 6), wRow K (fun _ => hVAL 8) 100 (sVAL 7), wTab K hTab sTab, wProg K hProg (hTab 0) sProg, wWalk K hWalk (hFld 0) (hTab 0) (hProg 0) (hLps 0) sWalk, wFld K hFld sFld, wLps K hLps sLps]) s.heap := hP
  have hl : lv_has ls 7 [(0, .ref (hX 0)), (1, .int a0), (2, .int a1), (3, .int a2), (4, .int a3)] := hl
  suffices hW : ∀ (H : Heap) (locs : List Loc), va_P D vwCl (fl [wX K hX (hTab 0) (hProg 0) (hWalk 0) (hWri 0) (hRea 0) (hTP 0) (hGrd 0) (hVAL 0) sX, wGO K hVAL, wRow K (fun _ => hVAL 1) 100 (sVAL 0), wRow K (fun _ => hVAL 2) 100 (sVAL 1), wRow K (fun _ => hVAL 3) 100 (sVAL 2), wRow K (fun _ => hVAL 4) 100 (sVAL 3), wRow K (fun _ => hVAL 5) 100 (sVAL 4), wRow K (fun _ => hVAL 6) 100 (sVAL 5), wRow K (fun _ => hVAL 7) 100 (sVAL 6), wRow K (fun _ => hVAL 8) 100 (sVAL 7), wTab K hTab sTab, wProg K hProg (hTab 0) sProg, wWalk K hWalk (hFld 0) (hTab 0) (hProg 0) (hLps 0) sWalk, wFld K hFld sFld, wLps K hLps sLps]) H → va_S A s.heap H locs → W p l e rm_X_find s m ([.ref (hX 0), .int a0, .int a1, .int a2, .int a3] : List Value).toArray below meth c H locs 0 0 (Qi below ([.ref (hX 0), .int a0, .int a1, .int a2, .int a3] : List Value).toArray s D K A (fl [wX K hX (hTab 0) (hProg 0) (hWalk 0) (hWri 0) (hRea 0) (hTP 0) (hGrd 0) (hVAL 0) sX, wGO K hVAL, wRow K (fun _ => hVAL 1) 100 (sVAL 0), wRow K (fun _ => hVAL 2) 100 (sVAL 1), wRow K (fun _ => hVAL 3) 100 (sVAL 2), wRow K (fun _ => hVAL 4) 100 (sVAL 3), wRow K (fun _ => hVAL 5) 100 (sVAL 4), wRow K (fun _ => hVAL 6) 100 (sVAL 5), wRow K (fun _ => hVAL 7) 100 (sVAL 6), wRow K (fun _ => hVAL 8) 100 (sVAL 7), wTab K hTab sTab, wProg K hProg (hTab 0) sProg', wWalk K hWalk (hFld 0) (hTab 0) (hProg 0) (hLps 0) sWalk', wFld K hFld sFld', wLps K hLps sLps']) r) (F0 m 0 ls []) from hW s.heap [] hP hS
  clear hP hS
  intro H locs hP hS
  refine lv_aload_n (pc := 0) hx hb d_X_find_0 rfl (lv_at hl 0 rfl) ?_
  refine lv_iload_n (pc := 1) hx hb d_X_find_1 rfl (lv_at hl 1 rfl) ?_
  obtain ⟨q1, hq1, hf⟩ := o_bd_e hf
  refine fi_i (pc := 2) (va_runV (As := [.int a0]) (rest := []) ⟨hx, hb, hml, hown, hts⟩ ((c_X_walkOver l D K fu hX hVAL hTab hProg hWalk hFld hLps hWri hRea hTP hGrd sX sVAL sTab sProg sWalk sFld sLps a0 q1.1 q1.2.1 q1.2.2.1 q1.2.2.2.1 q1.2.2.2.2 hq1) _) (cwV 1 hts (gV tw_435 tw_437 tp_0 tw_1 tw_438) rfl rfl rfl (by decide +kernel) ⟨by decide, by decide⟩) ⟨mPre_blind, va_recv hK hP (ci := 0) rfl (fl_at 0 0 rfl rfl), (mPre_fl hK hF hA hP hD hS [0, 1, 2, 3, 4, 5, 6, 7, 8, 9, 10, 11, 12, 13, 14] rfl rfl)⟩ rfl rfl hl.1 rfl (lv_room (Nat.le_of_ble_eq_true rfl)) d_X_find_2 ⟨Nat.zero_le _, Nat.zero_le _⟩) hA hP hD hS [0, 1, 2, 3, 4, 5, 6, 7, 8, 9, 10, 11, 12, 13, 14] rfl rfl (fun H locs hP hD hS => ?_)
  have hP : va_P D vwCl (fl [wX K hX (hTab 0) (hProg 0) (hWalk 0) (hWri 0) (hRea 0) (hTP 0) (hGrd 0) (hVAL 0) sX, wGO K hVAL, wRow K (fun _ => hVAL 1) 100 (sVAL 0), wRow K (fun _ => hVAL 2) 100 (sVAL 1), wRow K (fun _ => hVAL 3) 100 (sVAL 2), wRow K (fun _ => hVAL 4) 100 (sVAL 3), wRow K (fun _ => hVAL 5) 100 (sVAL 4), wRow K (fun _ => hVAL 6) 100 (sVAL 5), wRow K (fun _ => hVAL 7) 100 (sVAL 6), wRow K (fun _ => hVAL 8) 100 (sVAL 7), wTab K hTab sTab, wProg K hProg (hTab 0) q1.2.1, wWalk K hWalk (hFld 0) (hTab 0) (hProg 0) (hLps 0) q1.2.2.1, wFld K hFld q1.2.2.2.1, wLps K hLps q1.2.2.2.2]) H := hP
  have hD : va_D A (fl [wX K hX (hTab 0) (hProg 0) (hWalk 0) (hWri 0) (hRea 0) (hTP 0) (hGrd 0) (hVAL 0) sX, wGO K hVAL, wRow K (fun _ => hVAL 1) 100 (sVAL 0), wRow K (fun _ => hVAL 2) 100 (sVAL 1), wRow K (fun _ => hVAL 3) 100 (sVAL 2), wRow K (fun _ => hVAL 4) 100 (sVAL 3), wRow K (fun _ => hVAL 5) 100 (sVAL 4), wRow K (fun _ => hVAL 6) 100 (sVAL 5), wRow K (fun _ => hVAL 7) 100 (sVAL 6), wRow K (fun _ => hVAL 8) 100 (sVAL 7), wTab K hTab sTab, wProg K hProg (hTab 0) q1.2.1, wWalk K hWalk (hFld 0) (hTab 0) (hProg 0) (hLps 0) q1.2.2.1, wFld K hFld q1.2.2.2.1, wLps K hLps q1.2.2.2.2]) := hD
  refine lv_if_ne (tgt := 10) (pc := 5) hx hb d_X_find_5 (by decide) (fun c6 => ?_) (fun c6 => ?_)
  · replace hf := o_f c6 hf
    refine lv_iconst (v := 0) (pc := 10) hx hb d_X_find_10 (by decide) ?_
    refine lv_istore (lv' := [(5, .int 0), (0, .ref (hX 0)), (1, .int a0), (2, .int a1), (3, .int a2), (4, .int a3)]) (pc := 11) hx hb d_X_find_11 hl (by decide) rfl (fun ls hl => ?_)
    refine lv_iconst (v := 0) (pc := 13) hx hb d_X_find_13 (by decide) ?_
    refine lv_istore (lv' := [(6, .int 0), (5, .int 0), (0, .ref (hX 0)), (1, .int a0), (2, .int a1), (3, .int a2), (4, .int a3)]) (pc := 14) hx hb d_X_find_14 hl (by decide) rfl (fun ls hl => ?_)
    have L16 : ∀ (x2_L16 : Int32) (x3_L16 : Int32) (x4_L16 : Int32) (sProg_L16 : S_Prog) (sWalk_L16 : S_Walk) (sFld_L16 : S_Fld) (sLps_L16 : S_Lps) (n : Nat) (x5_L16 : Int32) (x6_L16 : Int32) (H : Heap) (locs : List Loc) (ls : Array Slot), va_P D vwCl (fl [wX K hX (hTab 0) (hProg 0) (hWalk 0) (hWri 0) (hRea 0) (hTP 0) (hGrd 0) (hVAL 0) sX, wGO K hVAL, wRow K (fun _ => hVAL 1) 100 (sVAL 0), wRow K (fun _ => hVAL 2) 100 (sVAL 1), wRow K (fun _ => hVAL 3) 100 (sVAL 2), wRow K (fun _ => hVAL 4) 100 (sVAL 3), wRow K (fun _ => hVAL 5) 100 (sVAL 4), wRow K (fun _ => hVAL 6) 100 (sVAL 5), wRow K (fun _ => hVAL 7) 100 (sVAL 6), wRow K (fun _ => hVAL 8) 100 (sVAL 7), wTab K hTab sTab, wProg K hProg (hTab 0) sProg_L16, wWalk K hWalk (hFld 0) (hTab 0) (hProg 0) (hLps 0) sWalk_L16, wFld K hFld sFld_L16, wLps K hLps sLps_L16]) H → va_D A (fl [wX K hX (hTab 0) (hProg 0) (hWalk 0) (hWri 0) (hRea 0) (hTP 0) (hGrd 0) (hVAL 0) sX, wGO K hVAL, wRow K (fun _ => hVAL 1) 100 (sVAL 0), wRow K (fun _ => hVAL 2) 100 (sVAL 1), wRow K (fun _ => hVAL 3) 100 (sVAL 2), wRow K (fun _ => hVAL 4) 100 (sVAL 3), wRow K (fun _ => hVAL 5) 100 (sVAL 4), wRow K (fun _ => hVAL 6) 100 (sVAL 5), wRow K (fun _ => hVAL 7) 100 (sVAL 6), wRow K (fun _ => hVAL 8) 100 (sVAL 7), wTab K hTab sTab, wProg K hProg (hTab 0) sProg_L16, wWalk K hWalk (hFld 0) (hTab 0) (hProg 0) (hLps 0) sWalk_L16, wFld K hFld sFld_L16, wLps K hLps sLps_L16]) → va_S A s.heap H locs → lv_has ls 7 [(0, .ref (hX 0)), (2, .int x2_L16), (3, .int x3_L16), (4, .int x4_L16), (5, .int x5_L16), (6, .int x6_L16)] → X_find_L16 fu sX sVAL sTab x2_L16 x3_L16 x4_L16 sProg_L16 sWalk_L16 sFld_L16 sLps_L16 n x5_L16 x6_L16 = some ((r, sProg', sWalk', sFld', sLps')) → W p l e rm_X_find s m ([.ref (hX 0), .int a0, .int a1, .int a2, .int a3] : List Value).toArray below meth c H locs 0 0 (Qi below ([.ref (hX 0), .int a0, .int a1, .int a2, .int a3] : List Value).toArray s D K A (fl [wX K hX (hTab 0) (hProg 0) (hWalk 0) (hWri 0) (hRea 0) (hTP 0) (hGrd 0) (hVAL 0) sX, wGO K hVAL, wRow K (fun _ => hVAL 1) 100 (sVAL 0), wRow K (fun _ => hVAL 2) 100 (sVAL 1), wRow K (fun _ => hVAL 3) 100 (sVAL 2), wRow K (fun _ => hVAL 4) 100 (sVAL 3), wRow K (fun _ => hVAL 5) 100 (sVAL 4), wRow K (fun _ => hVAL 6) 100 (sVAL 5), wRow K (fun _ => hVAL 7) 100 (sVAL 6), wRow K (fun _ => hVAL 8) 100 (sVAL 7), wTab K hTab sTab, wProg K hProg (hTab 0) sProg', wWalk K hWalk (hFld 0) (hTab 0) (hProg 0) (hLps 0) sWalk', wFld K hFld sFld', wLps K hLps sLps']) r) (F0 m 16 ls []) := by
      intro x2_L16 x3_L16 x4_L16 sProg_L16 sWalk_L16 sFld_L16 sLps_L16 n
      induction n with
      | zero =>
        intro x5_L16 x6_L16 H locs ls hP hD hS hl hf
        exact absurd hf (fun h => nomatch h)
      | succ n_16 ih_16 =>
        intro x5_L16 x6_L16 H locs ls hP hD hS hl hf
        have J61 : ∀ (x5_j61 : Int32) (x6_j61 : Int32) (H : Heap) (locs : List Loc) (ls : Array Slot), va_P D vwCl (fl [wX K hX (hTab 0) (hProg 0) (hWalk 0) (hWri 0) (hRea 0) (hTP 0) (hGrd 0) (hVAL 0) sX, wGO K hVAL, wRow K (fun _ => hVAL 1) 100 (sVAL 0), wRow K (fun _ => hVAL 2) 100 (sVAL 1), wRow K (fun _ => hVAL 3) 100 (sVAL 2), wRow K (fun _ => hVAL 4) 100 (sVAL 3), wRow K (fun _ => hVAL 5) 100 (sVAL 4), wRow K (fun _ => hVAL 6) 100 (sVAL 5), wRow K (fun _ => hVAL 7) 100 (sVAL 6), wRow K (fun _ => hVAL 8) 100 (sVAL 7), wTab K hTab sTab, wProg K hProg (hTab 0) sProg_L16, wWalk K hWalk (hFld 0) (hTab 0) (hProg 0) (hLps 0) sWalk_L16, wFld K hFld sFld_L16, wLps K hLps sLps_L16]) H → va_D A (fl [wX K hX (hTab 0) (hProg 0) (hWalk 0) (hWri 0) (hRea 0) (hTP 0) (hGrd 0) (hVAL 0) sX, wGO K hVAL, wRow K (fun _ => hVAL 1) 100 (sVAL 0), wRow K (fun _ => hVAL 2) 100 (sVAL 1), wRow K (fun _ => hVAL 3) 100 (sVAL 2), wRow K (fun _ => hVAL 4) 100 (sVAL 3), wRow K (fun _ => hVAL 5) 100 (sVAL 4), wRow K (fun _ => hVAL 6) 100 (sVAL 5), wRow K (fun _ => hVAL 7) 100 (sVAL 6), wRow K (fun _ => hVAL 8) 100 (sVAL 7), wTab K hTab sTab, wProg K hProg (hTab 0) sProg_L16, wWalk K hWalk (hFld 0) (hTab 0) (hProg 0) (hLps 0) sWalk_L16, wFld K hFld sFld_L16, wLps K hLps sLps_L16]) → va_S A s.heap H locs → lv_has ls 7 [(0, .ref (hX 0)), (2, .int x2_L16), (3, .int x3_L16), (4, .int x4_L16), (5, .int x5_j61), (6, .int x6_j61)] → X_find_j61 fu sX sVAL sTab (fun v0 v1 => X_find_L16 fu sX sVAL sTab x2_L16 x3_L16 x4_L16 sProg_L16 sWalk_L16 sFld_L16 sLps_L16 n_16 v0 v1) x2_L16 x3_L16 x4_L16 sProg_L16 sWalk_L16 sFld_L16 sLps_L16 x5_j61 x6_j61 = some ((r, sProg', sWalk', sFld', sLps')) → W p l e rm_X_find s m ([.ref (hX 0), .int a0, .int a1, .int a2, .int a3] : List Value).toArray below meth c H locs 0 0 (Qi below ([.ref (hX 0), .int a0, .int a1, .int a2, .int a3] : List Value).toArray s D K A (fl [wX K hX (hTab 0) (hProg 0) (hWalk 0) (hWri 0) (hRea 0) (hTP 0) (hGrd 0) (hVAL 0) sX, wGO K hVAL, wRow K (fun _ => hVAL 1) 100 (sVAL 0), wRow K (fun _ => hVAL 2) 100 (sVAL 1), wRow K (fun _ => hVAL 3) 100 (sVAL 2), wRow K (fun _ => hVAL 4) 100 (sVAL 3), wRow K (fun _ => hVAL 5) 100 (sVAL 4), wRow K (fun _ => hVAL 6) 100 (sVAL 5), wRow K (fun _ => hVAL 7) 100 (sVAL 6), wRow K (fun _ => hVAL 8) 100 (sVAL 7), wTab K hTab sTab, wProg K hProg (hTab 0) sProg', wWalk K hWalk (hFld 0) (hTab 0) (hProg 0) (hLps 0) sWalk', wFld K hFld sFld', wLps K hLps sLps']) r) (F0 m 61 ls []) := by
          intro x5_j61 x6_j61 H locs ls hP hD hS hl hf
          refine lv_iinc (v := x6_j61 + 1) (lv' := [(6, .int (x6_j61 + 1)), (0, .ref (hX 0)), (2, .int x2_L16), (3, .int x3_L16), (4, .int x4_L16), (5, .int x5_j61)]) (pc := 61) hx hb d_X_find_61 hl (k := 5) rfl rfl (by decide) rfl (fun ls hl => ?_)
          refine lv_goto (tgt := 16) (pc := 64) hx hb d_X_find_64 (by decide) ?_
          exact ih_16 x5_j61 (x6_j61 + 1) H locs ls hP hD hS (lv_sub hl [1, 2, 3, 4, 5, 0] rfl) hf
        refine lv_iload (pc := 16) hx hb d_X_find_16 (lv_at hl 5 rfl) ?_
        refine lv_aload_n (pc := 18) hx hb d_X_find_18 rfl (lv_at hl 0 rfl) ?_
        refine va_get (D := D) (ci := 0) (v := .ref (hWalk 0)) (C := R_X) (T := T_X) (N := 10) (pc := 19) hx hb hts (fun w h => List.mem_cons_of_mem _ (in_X w h)) hown hK hP _ (fl_at 0 0 rfl rfl) rfl 2 (by decide) (hts _ (List.mem_cons_of_mem _ tw_385)) (fun _ h9 => h9) rfl d_X_find_19 ?_
        refine va_get (D := D) (ci := 3) (v := .ref (hFld 0)) (C := R_Walk) (T := T_Walk) (N := 18) (pc := 22) hx hb hts (fun w h => List.mem_cons_of_mem _ (in_Walk w h)) hown hK hP _ (fl_at 12 0 rfl rfl) rfl 0 (by decide) (hts _ (List.mem_cons_of_mem _ tw_208)) (fun _ h9 => h9) rfl d_X_find_22 ?_
        refine va_get (D := D) (ci := 4) (v := .int (Fld_count sFld_L16)) (C := R_Fld) (T := T_Fld) (N := 8) (pc := 25) hx hb hts (fun w h => List.mem_cons_of_mem _ (in_Fld w h)) hown hK hP _ (fl_at 13 0 rfl rfl) rfl 7 (by decide) (hts _ (List.mem_cons_of_mem _ tw_164)) (fun _ h9 => h9) rfl d_X_find_25 ?_
        refine lv_icmp_ge (tgt := 67) (pc := 28) hx hb d_X_find_28 (by decide) (fun c5 => ?_) (fun c5 => ?_)
        · replace hf := o_t c5 hf
          refine lv_iconst (v := (-1)) (pc := 67) hx hb d_X_find_67 (by decide) ?_
          cases hf
          exact ret_i hx hb hr hlocks hK hP hS d_X_find_68
        · replace hf := o_f c5 hf
          refine lv_aload_n (pc := 31) hx hb d_X_find_31 rfl (lv_at hl 0 rfl) ?_
          refine va_get (D := D) (ci := 0) (v := .ref (hWalk 0)) (C := R_X) (T := T_X) (N := 10) (pc := 32) hx hb hts (fun w h => List.mem_cons_of_mem _ (in_X w h)) hown hK hP _ (fl_at 0 0 rfl rfl) rfl 2 (by decide) (hts _ (List.mem_cons_of_mem _ tw_385)) (fun _ h9 => h9) rfl d_X_find_32 ?_
          refine va_get (D := D) (ci := 3) (v := .ref (hFld 0)) (C := R_Walk) (T := T_Walk) (N := 18) (pc := 35) hx hb hts (fun w h => List.mem_cons_of_mem _ (in_Walk w h)) hown hK hP _ (fl_at 12 0 rfl rfl) rfl 0 (by decide) (hts _ (List.mem_cons_of_mem _ tw_208)) (fun _ h9 => h9) rfl d_X_find_35 ?_
          refine lv_iload (pc := 38) hx hb d_X_find_38 (lv_at hl 5 rfl) ?_
          refine lv_iload_n (pc := 40) hx hb d_X_find_40 rfl (lv_at hl 1 rfl) ?_
          refine lv_iload_n (pc := 41) hx hb d_X_find_41 rfl (lv_at hl 2 rfl) ?_
          obtain ⟨q2, hq2, hf⟩ := o_bd_e hf
          refine fi_i (pc := 42) (va_runV (As := [.int x6_L16, .int x2_L16, .int x3_L16]) (rest := []) ⟨hx, hb, hml, hown, hts⟩ ((c_Fld_isElementOf l D K hFld sFld_L16 x6_L16 x2_L16 x3_L16 q2 hq2) _) (cwV 3 hts (gV tw_643 tw_644 tw_645 tw_5 tw_646) rfl rfl rfl (by decide +kernel) ⟨by decide, by decide⟩) ⟨mPre_blind, va_recv hK hP (ci := 4) rfl (fl_at 13 0 rfl rfl), (mPre_fl hK hF hA hP hD hS [13] rfl rfl)⟩ rfl rfl hl.1 rfl (lv_room (Nat.le_of_ble_eq_true rfl)) d_X_find_42 ⟨Nat.zero_le _, Nat.zero_le _⟩) hA hP hD hS [13] rfl rfl (fun H locs hP hD hS => ?_)
          have hP : va_P D vwCl (fl [wX K hX (hTab 0) (hProg 0) (hWalk 0) (hWri 0) (hRea 0) (hTP 0) (hGrd 0) (hVAL 0) sX, wGO K hVAL, wRow K (fun _ => hVAL 1) 100 (sVAL 0), wRow K (fun _ => hVAL 2) 100 (sVAL 1), wRow K (fun _ => hVAL 3) 100 (sVAL 2), wRow K (fun _ => hVAL 4) 100 (sVAL 3), wRow K (fun _ => hVAL 5) 100 (sVAL 4), wRow K (fun _ => hVAL 6) 100 (sVAL 5), wRow K (fun _ => hVAL 7) 100 (sVAL 6), wRow K (fun _ => hVAL 8) 100 (sVAL 7), wTab K hTab sTab, wProg K hProg (hTab 0) sProg_L16, wWalk K hWalk (hFld 0) (hTab 0) (hProg 0) (hLps 0) sWalk_L16, wFld K hFld sFld_L16, wLps K hLps sLps_L16]) H := hP
          have hD : va_D A (fl [wX K hX (hTab 0) (hProg 0) (hWalk 0) (hWri 0) (hRea 0) (hTP 0) (hGrd 0) (hVAL 0) sX, wGO K hVAL, wRow K (fun _ => hVAL 1) 100 (sVAL 0), wRow K (fun _ => hVAL 2) 100 (sVAL 1), wRow K (fun _ => hVAL 3) 100 (sVAL 2), wRow K (fun _ => hVAL 4) 100 (sVAL 3), wRow K (fun _ => hVAL 5) 100 (sVAL 4), wRow K (fun _ => hVAL 6) 100 (sVAL 5), wRow K (fun _ => hVAL 7) 100 (sVAL 6), wRow K (fun _ => hVAL 8) 100 (sVAL 7), wTab K hTab sTab, wProg K hProg (hTab 0) sProg_L16, wWalk K hWalk (hFld 0) (hTab 0) (hProg 0) (hLps 0) sWalk_L16, wFld K hFld sFld_L16, wLps K hLps sLps_L16]) := hD
          refine lv_if_eq (tgt := 61) (pc := 45) hx hb d_X_find_45 (by decide) (fun c4 => ?_) (fun c4 => ?_)
          · replace hf := o_t c4 hf
            exact J61 x5_L16 x6_L16 H locs ls hP hD hS (lv_sub hl [0, 1, 2, 3, 4, 5] rfl) hf
          · replace hf := o_f c4 hf
            refine lv_iload (pc := 48) hx hb d_X_find_48 (lv_at hl 4 rfl) ?_
            refine lv_iload (pc := 50) hx hb d_X_find_50 (lv_at hl 3 rfl) ?_
            refine lv_icmp_ne (tgt := 58) (pc := 52) hx hb d_X_find_52 (by decide) (fun c3 => ?_) (fun c3 => ?_)
            · replace hf := o_f c3 hf
              refine lv_iinc (v := x5_L16 + 1) (lv' := [(5, .int (x5_L16 + 1)), (0, .ref (hX 0)), (2, .int x2_L16), (3, .int x3_L16), (4, .int x4_L16), (6, .int x6_L16)]) (pc := 58) hx hb d_X_find_58 hl (k := 4) rfl rfl (by decide) rfl (fun ls hl => ?_)
              exact J61 (x5_L16 + 1) x6_L16 H locs ls hP hD hS (lv_sub hl [1, 2, 3, 4, 0, 5] rfl) hf
            · replace hf := o_t c3 hf
              refine lv_iload (pc := 55) hx hb d_X_find_55 (lv_at hl 5 rfl) ?_
              cases hf
              exact ret_i hx hb hr hlocks hK hP hS d_X_find_57
    exact L16 a1 a2 a3 q1.2.1 q1.2.2.1 q1.2.2.2.1 q1.2.2.2.2 fu 0 0 H locs ls hP hD hS (lv_sub hl [2, 4, 5, 6, 1, 0] rfl) hf
  · replace hf := o_t c6 hf
    refine lv_iconst (v := (-1)) (pc := 8) hx hb d_X_find_8 (by decide) ?_
    cases hf
    exact ret_i hx hb hr hlocks hK hP hS d_X_find_9
def X_byteAt (sX : S_X) (sWri : S_Wri) (sWB : S_Bits) (a0 : Int32) : Option (Int32) := if a0 < 0 then some ((-1)) else o_bd (Bits_byteCount 3679 sWB) fun q1 => (if q1 ≤ a0 then some ((-1)) else o_gd (o_in a0 3679) (some (Bits_bytes sWB (a0 : Int32).toNatClampNeg)))
abbrev rm_X_byteAt : Room := { frames := 1, cells := 0, slots := 0, locals := 20 }
set_option maxHeartbeats 4000000 in
set_option maxRecDepth 100000 in
theorem c_X_byteAt (l : Launch) (D : va_G) (K : Nat → ClassId) (hX : Nat → Nat) (hVAL : Nat → Nat) (hTab : Nat → Nat) (hProg : Nat → Nat) (hWalk : Nat → Nat) (hWri : Nat → Nat) (hWB : Nat → Nat) (hRea : Nat → Nat) (hTP : Nat → Nat) (hGrd : Nat → Nat) (sX : S_X) (sWri : S_Wri) (sWB : S_Bits) (a0 : Int32) (r : Int32) (hf : X_byteAt sX sWri sWB a0 = some r) : mi l D K y_X_byteAt ws_X_byteAt rm_X_byteAt [.ref (hX 0), .int a0] (fl [wX K hX (hTab 0) (hProg 0) (hWalk 0) (hWri 0) (hRea 0) (hTP 0) (hGrd 0) (hVAL 0) sX, wWri K hWri (hWB 0) sWri, wBits K hWB 3679 sWB]) (fl [wX K hX (hTab 0) (hProg 0) (hWalk 0) (hWri 0) (hRea 0) (hTP 0) (hGrd 0) (hVAL 0) sX, wWri K hWri (hWB 0) sWri, wBits K hWB 3679 sWB]) r := by
  refine mi_of (cc := b_X_byteAt) (maxL := 2) (own := "ObsMessages") (by decide) rfl rfl (Nat.le_of_ble_eq_true rfl) ?_
  intro p e s m below meth c A ls hC hP hD hS hl
  obtain ⟨hx, hb, hml, hown, hts, hr, hlocks, hK, hF, hA⟩ := hC
  have hP : va_P D vwCl (fl [wX K hX (hTab 0) (hProg 0) (hWalk 0) (hWri 0) (hRea 0) (hTP 0) (hGrd 0) (hVAL 0) sX, wWri K hWri (hWB 0) sWri, wBits K hWB 3679 sWB]) s.heap := hP
  have hl : lv_has ls 2 [(0, .ref (hX 0)), (1, .int a0)] := hl
  suffices hW : ∀ (H : Heap) (locs : List Loc), va_P D vwCl (fl [wX K hX (hTab 0) (hProg 0) (hWalk 0) (hWri 0) (hRea 0) (hTP 0) (hGrd 0) (hVAL 0) sX, wWri K hWri (hWB 0) sWri, wBits K hWB 3679 sWB]) H → va_S A s.heap H locs → W p l e rm_X_byteAt s m ([.ref (hX 0), .int a0] : List Value).toArray below meth c H locs 0 0 (Qi below ([.ref (hX 0), .int a0] : List Value).toArray s D K A (fl [wX K hX (hTab 0) (hProg 0) (hWalk 0) (hWri 0) (hRea 0) (hTP 0) (hGrd 0) (hVAL 0) sX, wWri K hWri (hWB 0) sWri, wBits K hWB 3679 sWB]) r) (F0 m 0 ls []) from hW s.heap [] hP hS
  clear hP hS
  intro H locs hP hS
  refine lv_iload_n (pc := 0) hx hb d_X_byteAt_0 rfl (lv_at hl 1 rfl) ?_
  refine lv_if_lt (tgt := 33) (pc := 1) hx hb d_X_byteAt_1 (by decide) (fun c4 => ?_) (fun c4 => ?_)
  · replace hf := o_t c4 hf
    refine lv_iconst (v := (-1)) (pc := 33) hx hb d_X_byteAt_33 (by decide) ?_
    cases hf
    exact ret_i hx hb hr hlocks hK hP hS d_X_byteAt_34
  · replace hf := o_f c4 hf
    refine lv_iload_n (pc := 4) hx hb d_X_byteAt_4 rfl (lv_at hl 1 rfl) ?_
    refine lv_aload_n (pc := 5) hx hb d_X_byteAt_5 rfl (lv_at hl 0 rfl) ?_
    refine va_get (D := D) (ci := 0) (v := .ref (hWri 0)) (C := R_X) (T := T_X) (N := 10) (pc := 6) hx hb hts (fun w h => List.mem_cons_of_mem _ (in_X w h)) hown hK hP _ (fl_at 0 0 rfl rfl) rfl 3 (by decide) (hts _ (List.mem_cons_of_mem _ tw_386)) (fun _ h9 => h9) rfl d_X_byteAt_6 ?_
    refine va_get (D := D) (ci := 6) (v := .ref (hWB 0)) (C := R_Wri) (T := T_Wri) (N := 1) (pc := 9) hx hb hts (fun w h => List.mem_cons_of_mem _ (in_Wri w h)) hown hK hP _ (fl_at 1 0 rfl rfl) rfl 0 (by decide) (hts _ (List.mem_cons_of_mem _ tw_292)) (fun _ h9 => h9) rfl d_X_byteAt_9 ?_
    obtain ⟨q1, hq1, hf⟩ := o_bd_e hf
    refine fi_i (pc := 12) (va_runV (As := []) (rest := [.int a0]) ⟨hx, hb, hml, hown, hts⟩ ((c_Bits_byteCount l D K hWB 3679 sWB q1 hq1) _) (cwV 0 hts (gV tw_651 tw_652 tw_653 tw_8 tw_654) rfl rfl rfl (by decide +kernel) ⟨by decide, by decide⟩) ⟨mPre_blind, va_recv hK hP (ci := 7) rfl (fl_at 2 0 rfl rfl), (mPre_fl hK hF hA hP hD hS [2] rfl rfl)⟩ rfl rfl hl.1 rfl (lv_room (Nat.le_of_ble_eq_true rfl)) d_X_byteAt_12 ⟨Nat.zero_le _, Nat.zero_le _⟩) hA hP hD hS [2] rfl rfl (fun H locs hP hD hS => ?_)
    have hP : va_P D vwCl (fl [wX K hX (hTab 0) (hProg 0) (hWalk 0) (hWri 0) (hRea 0) (hTP 0) (hGrd 0) (hVAL 0) sX, wWri K hWri (hWB 0) sWri, wBits K hWB 3679 sWB]) H := hP
    have hD : va_D A (fl [wX K hX (hTab 0) (hProg 0) (hWalk 0) (hWri 0) (hRea 0) (hTP 0) (hGrd 0) (hVAL 0) sX, wWri K hWri (hWB 0) sWri, wBits K hWB 3679 sWB]) := hD
    refine lv_icmp_ge (tgt := 33) (pc := 15) hx hb d_X_byteAt_15 (by decide) (fun c3 => ?_) (fun c3 => ?_)
    · replace hf := o_t c3 hf
      refine lv_iconst (v := (-1)) (pc := 33) hx hb d_X_byteAt_33 (by decide) ?_
      cases hf
      exact ret_i hx hb hr hlocks hK hP hS d_X_byteAt_34
    · replace hf := o_f c3 hf
      refine lv_aload_n (pc := 18) hx hb d_X_byteAt_18 rfl (lv_at hl 0 rfl) ?_
      refine va_get (D := D) (ci := 0) (v := .ref (hWri 0)) (C := R_X) (T := T_X) (N := 10) (pc := 19) hx hb hts (fun w h => List.mem_cons_of_mem _ (in_X w h)) hown hK hP _ (fl_at 0 0 rfl rfl) rfl 3 (by decide) (hts _ (List.mem_cons_of_mem _ tw_386)) (fun _ h9 => h9) rfl d_X_byteAt_19 ?_
      refine va_get (D := D) (ci := 6) (v := .ref (hWB 0)) (C := R_Wri) (T := T_Wri) (N := 1) (pc := 22) hx hb hts (fun w h => List.mem_cons_of_mem _ (in_Wri w h)) hown hK hP _ (fl_at 1 0 rfl rfl) rfl 0 (by decide) (hts _ (List.mem_cons_of_mem _ tw_292)) (fun _ h9 => h9) rfl d_X_byteAt_22 ?_
      refine va_get (D := D) (ci := 7) (v := .ref (hWB 1)) (C := R_Bits) (T := T_Bits) (N := 2) (pc := 25) hx hb hts (fun w h => List.mem_cons_of_mem _ (in_Bits w h)) hown hK hP _ (fl_at 2 0 rfl rfl) rfl 0 (by decide) (hts _ (List.mem_cons_of_mem _ tw_282)) (fun _ h9 => h9) rfl d_X_byteAt_25 ?_
      refine lv_iload_n (pc := 28) hx hb d_X_byteAt_28 rfl (lv_at hl 1 rfl) ?_
      obtain ⟨hi2, hf⟩ := o_gi_e hf
      refine va_iald (D := D) (pc := 29) hx hb hK hP _ 0 (fl_at 2 1 rfl rfl) rfl hi2 d_X_byteAt_29 ?_
      refine lv_goto (tgt := 34) (pc := 30) hx hb d_X_byteAt_30 (by decide) ?_
      cases hf
      exact ret_i hx hb hr hlocks hK hP hS d_X_byteAt_34
def X_feed (fu : Nat) (sX : S_X) (a0 : Int32) (a1 : Int32) (sTP : S_Bits) : Option (Int32 × S_Bits) := if a1 < 1 then some (((-1), sTP)) else if 4 < a1 then some (((-1), sTP)) else o_bd (Bits_byteCount 1000 sTP) fun q1 => (if (q1 + a1) ≤ 1000 then o_bd (Bits_add fu 1000 ((a0 : Int32).toInt64) (8 * a1) sTP) fun q2 => (o_bd (Bits_byteCount 1000 q2) fun q3 => (some ((q3, q2)))) else some (((-1), sTP)))
abbrev rm_X_feed : Room := { frames := 1, cells := 0, slots := 0, locals := 24 }
set_option maxHeartbeats 4000000 in
set_option maxRecDepth 100000 in
theorem c_X_feed (l : Launch) (D : va_G) (K : Nat → ClassId) (fu : Nat) (hX : Nat → Nat) (hVAL : Nat → Nat) (hTab : Nat → Nat) (hProg : Nat → Nat) (hWalk : Nat → Nat) (hWri : Nat → Nat) (hRea : Nat → Nat) (hTP : Nat → Nat) (hGrd : Nat → Nat) (sX : S_X) (sTP : S_Bits) (a0 : Int32) (a1 : Int32) (r : Int32) (sTP' : S_Bits) (hf : X_feed fu sX a0 a1 sTP = some ((r, sTP'))) : mi l D K y_X_feed ws_X_feed rm_X_feed [.ref (hX 0), .int a0, .int a1] (fl [wX K hX (hTab 0) (hProg 0) (hWalk 0) (hWri 0) (hRea 0) (hTP 0) (hGrd 0) (hVAL 0) sX, wBits K hTP 1000 sTP]) (fl [wX K hX (hTab 0) (hProg 0) (hWalk 0) (hWri 0) (hRea 0) (hTP 0) (hGrd 0) (hVAL 0) sX, wBits K hTP 1000 sTP']) r := by
  refine mi_of (cc := b_X_feed) (maxL := 3) (own := "ObsMessages") (by decide) rfl rfl (Nat.le_of_ble_eq_true rfl) ?_
  intro p e s m below meth c A ls hC hP hD hS hl
  obtain ⟨hx, hb, hml, hown, hts, hr, hlocks, hK, hF, hA⟩ := hC
  have hP : va_P D vwCl (fl [wX K hX (hTab 0) (hProg 0) (hWalk 0) (hWri 0) (hRea 0) (hTP 0) (hGrd 0) (hVAL 0) sX, wBits K hTP 1000 sTP]) s.heap := hP
  have hl : lv_has ls 3 [(0, .ref (hX 0)), (1, .int a0), (2, .int a1)] := hl
  suffices hW : ∀ (H : Heap) (locs : List Loc), va_P D vwCl (fl [wX K hX (hTab 0) (hProg 0) (hWalk 0) (hWri 0) (hRea 0) (hTP 0) (hGrd 0) (hVAL 0) sX, wBits K hTP 1000 sTP]) H → va_S A s.heap H locs → W p l e rm_X_feed s m ([.ref (hX 0), .int a0, .int a1] : List Value).toArray below meth c H locs 0 0 (Qi below ([.ref (hX 0), .int a0, .int a1] : List Value).toArray s D K A (fl [wX K hX (hTab 0) (hProg 0) (hWalk 0) (hWri 0) (hRea 0) (hTP 0) (hGrd 0) (hVAL 0) sX, wBits K hTP 1000 sTP']) r) (F0 m 0 ls []) from hW s.heap [] hP hS
  clear hP hS
  intro H locs hP hS
  refine lv_iload_n (pc := 0) hx hb d_X_feed_0 rfl (lv_at hl 2 rfl) ?_
  refine lv_iconst (v := 1) (pc := 1) hx hb d_X_feed_1 (by decide) ?_
  refine lv_icmp_lt (tgt := 25) (pc := 2) hx hb d_X_feed_2 (by decide) (fun c6 => ?_) (fun c6 => ?_)
  · replace hf := o_t c6 hf
    refine lv_iconst (v := (-1)) (pc := 25) hx hb d_X_feed_25 (by decide) ?_
    cases hf
    exact ret_i hx hb hr hlocks hK hP hS d_X_feed_26
  · replace hf := o_f c6 hf
    refine lv_iload_n (pc := 5) hx hb d_X_feed_5 rfl (lv_at hl 2 rfl) ?_
    refine lv_iconst (v := 4) (pc := 6) hx hb d_X_feed_6 (by decide) ?_
    refine lv_icmp_gt (tgt := 25) (pc := 7) hx hb d_X_feed_7 (by decide) (fun c5 => ?_) (fun c5 => ?_)
    · replace hf := o_t c5 hf
      refine lv_iconst (v := (-1)) (pc := 25) hx hb d_X_feed_25 (by decide) ?_
      cases hf
      exact ret_i hx hb hr hlocks hK hP hS d_X_feed_26
    · replace hf := o_f c5 hf
      refine lv_aload_n (pc := 10) hx hb d_X_feed_10 rfl (lv_at hl 0 rfl) ?_
      refine va_get (D := D) (ci := 0) (v := .ref (hTP 0)) (C := R_X) (T := T_X) (N := 10) (pc := 11) hx hb hts (fun w h => List.mem_cons_of_mem _ (in_X w h)) hown hK hP _ (fl_at 0 0 rfl rfl) rfl 5 (by decide) (hts _ (List.mem_cons_of_mem _ tw_388)) (fun _ h9 => h9) rfl d_X_feed_11 ?_
      obtain ⟨q1, hq1, hf⟩ := o_bd_e hf
      refine fi_i (pc := 14) (va_runV (As := []) (rest := []) ⟨hx, hb, hml, hown, hts⟩ ((c_Bits_byteCount l D K hTP 1000 sTP q1 hq1) _) (cwV 0 hts (gV tw_651 tw_652 tw_653 tw_8 tw_654) rfl rfl rfl (by decide +kernel) ⟨by decide, by decide⟩) ⟨mPre_blind, va_recv hK hP (ci := 7) rfl (fl_at 1 0 rfl rfl), (mPre_fl hK hF hA hP hD hS [1] rfl rfl)⟩ rfl rfl hl.1 rfl (lv_room (Nat.le_of_ble_eq_true rfl)) d_X_feed_14 ⟨Nat.zero_le _, Nat.zero_le _⟩) hA hP hD hS [1] rfl rfl (fun H locs hP hD hS => ?_)
      have hP : va_P D vwCl (fl [wX K hX (hTab 0) (hProg 0) (hWalk 0) (hWri 0) (hRea 0) (hTP 0) (hGrd 0) (hVAL 0) sX, wBits K hTP 1000 sTP]) H := hP
      have hD : va_D A (fl [wX K hX (hTab 0) (hProg 0) (hWalk 0) (hWri 0) (hRea 0) (hTP 0) (hGrd 0) (hVAL 0) sX, wBits K hTP 1000 sTP]) := hD
      refine lv_iload_n (pc := 17) hx hb d_X_feed_17 rfl (lv_at hl 2 rfl) ?_
      refine lv_iadd (pc := 18) hx hb d_X_feed_18 ?_
      refine lv_sipush (v := 1000) (pc := 19) hx hb d_X_feed_19 (by decide) ?_
      refine lv_icmp_le (tgt := 27) (pc := 22) hx hb d_X_feed_22 (by decide) (fun c4 => ?_) (fun c4 => ?_)
      · replace hf := o_t c4 hf
        refine lv_aload_n (pc := 27) hx hb d_X_feed_27 rfl (lv_at hl 0 rfl) ?_
        refine va_get (D := D) (ci := 0) (v := .ref (hTP 0)) (C := R_X) (T := T_X) (N := 10) (pc := 28) hx hb hts (fun w h => List.mem_cons_of_mem _ (in_X w h)) hown hK hP _ (fl_at 0 0 rfl rfl) rfl 5 (by decide) (hts _ (List.mem_cons_of_mem _ tw_388)) (fun _ h9 => h9) rfl d_X_feed_28 ?_
        refine lv_iload_n (pc := 31) hx hb d_X_feed_31 rfl (lv_at hl 1 rfl) ?_
        refine lv_i2l (pc := 32) hx hb d_X_feed_32 rfl ?_
        refine lv_bipush (v := 8) (pc := 33) hx hb d_X_feed_33 (by decide) ?_
        refine lv_iload_n (pc := 35) hx hb d_X_feed_35 rfl (lv_at hl 2 rfl) ?_
        refine lv_imul (pc := 36) hx hb d_X_feed_36 ?_
        obtain ⟨q2, hq2, hf⟩ := o_bd_e hf
        refine fi_v (pc := 37) (va_runV (As := [.long ((a0 : Int32).toInt64), .int (8 * a1)]) (rest := []) ⟨hx, hb, hml, hown, hts⟩ ((c_Bits_add l D K fu hTP 1000 sTP ((a0 : Int32).toInt64) (8 * a1) q2 hq2) _) (cwV 2 hts (gV tw_659 tw_660 tw_661 tw_8 tw_662) rfl rfl rfl (by decide +kernel) ⟨by decide, by decide⟩) ⟨mPre_blind, va_recv hK hP (ci := 7) rfl (fl_at 1 0 rfl rfl), (mPre_fl hK hF hA hP hD hS [1] rfl rfl)⟩ rfl rfl hl.1 rfl (lv_room (Nat.le_of_ble_eq_true rfl)) d_X_feed_37 ⟨Nat.zero_le _, Nat.zero_le _⟩) hA hP hD hS [1] rfl rfl (fun H locs hP hD hS => ?_)
        have hP : va_P D vwCl (fl [wX K hX (hTab 0) (hProg 0) (hWalk 0) (hWri 0) (hRea 0) (hTP 0) (hGrd 0) (hVAL 0) sX, wBits K hTP 1000 q2]) H := hP
        have hD : va_D A (fl [wX K hX (hTab 0) (hProg 0) (hWalk 0) (hWri 0) (hRea 0) (hTP 0) (hGrd 0) (hVAL 0) sX, wBits K hTP 1000 q2]) := hD
        refine lv_aload_n (pc := 40) hx hb d_X_feed_40 rfl (lv_at hl 0 rfl) ?_
        refine va_get (D := D) (ci := 0) (v := .ref (hTP 0)) (C := R_X) (T := T_X) (N := 10) (pc := 41) hx hb hts (fun w h => List.mem_cons_of_mem _ (in_X w h)) hown hK hP _ (fl_at 0 0 rfl rfl) rfl 5 (by decide) (hts _ (List.mem_cons_of_mem _ tw_388)) (fun _ h9 => h9) rfl d_X_feed_41 ?_
        obtain ⟨q3, hq3, hf⟩ := o_bd_e hf
        refine fi_i (pc := 44) (va_runV (As := []) (rest := []) ⟨hx, hb, hml, hown, hts⟩ ((c_Bits_byteCount l D K hTP 1000 q2 q3 hq3) _) (cwV 0 hts (gV tw_651 tw_652 tw_653 tw_8 tw_654) rfl rfl rfl (by decide +kernel) ⟨by decide, by decide⟩) ⟨mPre_blind, va_recv hK hP (ci := 7) rfl (fl_at 1 0 rfl rfl), (mPre_fl hK hF hA hP hD hS [1] rfl rfl)⟩ rfl rfl hl.1 rfl (lv_room (Nat.le_of_ble_eq_true rfl)) d_X_feed_44 ⟨Nat.zero_le _, Nat.zero_le _⟩) hA hP hD hS [1] rfl rfl (fun H locs hP hD hS => ?_)
        have hP : va_P D vwCl (fl [wX K hX (hTab 0) (hProg 0) (hWalk 0) (hWri 0) (hRea 0) (hTP 0) (hGrd 0) (hVAL 0) sX, wBits K hTP 1000 q2]) H := hP
        have hD : va_D A (fl [wX K hX (hTab 0) (hProg 0) (hWalk 0) (hWri 0) (hRea 0) (hTP 0) (hGrd 0) (hVAL 0) sX, wBits K hTP 1000 q2]) := hD
        cases hf
        exact ret_i hx hb hr hlocks hK hP hS d_X_feed_47
      · replace hf := o_f c4 hf
        refine lv_iconst (v := (-1)) (pc := 25) hx hb d_X_feed_25 (by decide) ?_
        cases hf
        exact ret_i hx hb hr hlocks hK hP hS d_X_feed_26
def X_packedAt (sX : S_X) (sGrd : S_Grd) (a0 : Int32) : Option (Int64) := if a0 < 0 then some ((-9000000000000000000)) else if 64 ≤ a0 then some ((-9000000000000000000)) else o_gd (o_in a0 64) (some (Grd_packed sGrd (a0 : Int32).toNatClampNeg))
abbrev rm_X_packedAt : Room := { frames := 0, cells := 0, slots := 0, locals := 0 }
set_option maxHeartbeats 4000000 in
set_option maxRecDepth 100000 in
theorem c_X_packedAt (l : Launch) (D : va_G) (K : Nat → ClassId) (hX : Nat → Nat) (hVAL : Nat → Nat) (hTab : Nat → Nat) (hProg : Nat → Nat) (hWalk : Nat → Nat) (hWri : Nat → Nat) (hRea : Nat → Nat) (hTP : Nat → Nat) (hGrd : Nat → Nat) (sX : S_X) (sGrd : S_Grd) (a0 : Int32) (r : Int64) (hf : X_packedAt sX sGrd a0 = some r) : ml l D K y_X_packedAt ws_X_packedAt rm_X_packedAt [.ref (hX 0), .int a0] (fl [wX K hX (hTab 0) (hProg 0) (hWalk 0) (hWri 0) (hRea 0) (hTP 0) (hGrd 0) (hVAL 0) sX, wGrd K hGrd sGrd]) (fl [wX K hX (hTab 0) (hProg 0) (hWalk 0) (hWri 0) (hRea 0) (hTP 0) (hGrd 0) (hVAL 0) sX, wGrd K hGrd sGrd]) r := by
  refine ml_of (cc := b_X_packedAt) (maxL := 2) (own := "ObsMessages") (by decide) rfl rfl (Nat.le_of_ble_eq_true rfl) ?_
  intro p e s m below meth c A ls hC hP hD hS hl
  obtain ⟨hx, hb, hml, hown, hts, hr, hlocks, hK, hF, hA⟩ := hC
  have hP : va_P D vwCl (fl [wX K hX (hTab 0) (hProg 0) (hWalk 0) (hWri 0) (hRea 0) (hTP 0) (hGrd 0) (hVAL 0) sX, wGrd K hGrd sGrd]) s.heap := hP
  have hl : lv_has ls 2 [(0, .ref (hX 0)), (1, .int a0)] := hl
  suffices hW : ∀ (H : Heap) (locs : List Loc), va_P D vwCl (fl [wX K hX (hTab 0) (hProg 0) (hWalk 0) (hWri 0) (hRea 0) (hTP 0) (hGrd 0) (hVAL 0) sX, wGrd K hGrd sGrd]) H → va_S A s.heap H locs → W p l e rm_X_packedAt s m ([.ref (hX 0), .int a0] : List Value).toArray below meth c H locs 0 0 (Ql below ([.ref (hX 0), .int a0] : List Value).toArray s D K A (fl [wX K hX (hTab 0) (hProg 0) (hWalk 0) (hWri 0) (hRea 0) (hTP 0) (hGrd 0) (hVAL 0) sX, wGrd K hGrd sGrd]) r) (F0 m 0 ls []) from hW s.heap [] hP hS
  clear hP hS
  intro H locs hP hS
  refine lv_iload_n (pc := 0) hx hb d_X_packedAt_0 rfl (lv_at hl 1 rfl) ?_
  refine lv_if_lt (tgt := 22) (pc := 1) hx hb d_X_packedAt_1 (by decide) (fun c3 => ?_) (fun c3 => ?_)
  · replace hf := o_t c3 hf
    refine lv_ldc2 (pc := 22) hx hb hown (hts _ (List.mem_cons_of_mem _ tw_381)) d_X_packedAt_22 ?_
    cases hf
    exact ret_l hx hb hr hlocks hK hP hS d_X_packedAt_25
  · replace hf := o_f c3 hf
    refine lv_iload_n (pc := 4) hx hb d_X_packedAt_4 rfl (lv_at hl 1 rfl) ?_
    refine lv_bipush (v := 64) (pc := 5) hx hb d_X_packedAt_5 (by decide) ?_
    refine lv_icmp_ge (tgt := 22) (pc := 7) hx hb d_X_packedAt_7 (by decide) (fun c2 => ?_) (fun c2 => ?_)
    · replace hf := o_t c2 hf
      refine lv_ldc2 (pc := 22) hx hb hown (hts _ (List.mem_cons_of_mem _ tw_381)) d_X_packedAt_22 ?_
      cases hf
      exact ret_l hx hb hr hlocks hK hP hS d_X_packedAt_25
    · replace hf := o_f c2 hf
      refine lv_aload_n (pc := 10) hx hb d_X_packedAt_10 rfl (lv_at hl 0 rfl) ?_
      refine va_get (D := D) (ci := 0) (v := .ref (hGrd 0)) (C := R_X) (T := T_X) (N := 10) (pc := 11) hx hb hts (fun w h => List.mem_cons_of_mem _ (in_X w h)) hown hK hP _ (fl_at 0 0 rfl rfl) rfl 6 (by decide) (hts _ (List.mem_cons_of_mem _ tw_389)) (fun _ h9 => h9) rfl d_X_packedAt_11 ?_
      refine va_get (D := D) (ci := 9) (v := .ref (hGrd 2)) (C := R_Grd) (T := T_Grd) (N := 9) (pc := 14) hx hb hts (fun w h => List.mem_cons_of_mem _ (in_Grd w h)) hown hK hP _ (fl_at 1 0 rfl rfl) rfl 1 (by decide) (hts _ (List.mem_cons_of_mem _ tw_349)) (fun _ h9 => h9) rfl d_X_packedAt_14 ?_
      refine lv_iload_n (pc := 17) hx hb d_X_packedAt_17 rfl (lv_at hl 1 rfl) ?_
      obtain ⟨hi1, hf⟩ := o_gi_e hf
      refine va_lald (D := D) (pc := 18) hx hb hK hP _ 1 (fl_at 1 2 rfl rfl) rfl hi1 d_X_packedAt_18 ?_
      refine lv_goto (tgt := 25) (pc := 19) hx hb d_X_packedAt_19 (by decide) ?_
      cases hf
      exact ret_l hx hb hr hlocks hK hP hS d_X_packedAt_25
def X_group (sX : S_X) (sGrd : S_Grd) (a0 : Int32) : Option (Int32) := if a0 = ((-1)) then some (Grd_codeCount sGrd) else if a0 = ((-2)) then some (Grd_groupBits sGrd) else if a0 < 0 then some ((-1)) else if (Grd_groupCount sGrd) ≤ a0 then some ((-1)) else o_gd (o_in a0 64) (some (Grd_groupEnds sGrd (a0 : Int32).toNatClampNeg))
abbrev rm_X_group : Room := { frames := 0, cells := 0, slots := 0, locals := 0 }
set_option maxHeartbeats 4000000 in
set_option maxRecDepth 100000 in
theorem c_X_group (l : Launch) (D : va_G) (K : Nat → ClassId) (hX : Nat → Nat) (hVAL : Nat → Nat) (hTab : Nat → Nat) (hProg : Nat → Nat) (hWalk : Nat → Nat) (hWri : Nat → Nat) (hRea : Nat → Nat) (hTP : Nat → Nat) (hGrd : Nat → Nat) (sX : S_X) (sGrd : S_Grd) (a0 : Int32) (r : Int32) (hf : X_group sX sGrd a0 = some r) : mi l D K y_X_group ws_X_group rm_X_group [.ref (hX 0), .int a0] (fl [wX K hX (hTab 0) (hProg 0) (hWalk 0) (hWri 0) (hRea 0) (hTP 0) (hGrd 0) (hVAL 0) sX, wGrd K hGrd sGrd]) (fl [wX K hX (hTab 0) (hProg 0) (hWalk 0) (hWri 0) (hRea 0) (hTP 0) (hGrd 0) (hVAL 0) sX, wGrd K hGrd sGrd]) r := by
  refine mi_of (cc := b_X_group) (maxL := 2) (own := "ObsMessages") (by decide) rfl rfl (Nat.le_of_ble_eq_true rfl) ?_
  intro p e s m below meth c A ls hC hP hD hS hl
  obtain ⟨hx, hb, hml, hown, hts, hr, hlocks, hK, hF, hA⟩ := hC
  have hP : va_P D vwCl (fl [wX K hX (hTab 0) (hProg 0) (hWalk 0) (hWri 0) (hRea 0) (hTP 0) (hGrd 0) (hVAL 0) sX, wGrd K hGrd sGrd]) s.heap := hP
  have hl : lv_has ls 2 [(0, .ref (hX 0)), (1, .int a0)] := hl
  suffices hW : ∀ (H : Heap) (locs : List Loc), va_P D vwCl (fl [wX K hX (hTab 0) (hProg 0) (hWalk 0) (hWri 0) (hRea 0) (hTP 0) (hGrd 0) (hVAL 0) sX, wGrd K hGrd sGrd]) H → va_S A s.heap H locs → W p l e rm_X_group s m ([.ref (hX 0), .int a0] : List Value).toArray below meth c H locs 0 0 (Qi below ([.ref (hX 0), .int a0] : List Value).toArray s D K A (fl [wX K hX (hTab 0) (hProg 0) (hWalk 0) (hWri 0) (hRea 0) (hTP 0) (hGrd 0) (hVAL 0) sX, wGrd K hGrd sGrd]) r) (F0 m 0 ls []) from hW s.heap [] hP hS
  clear hP hS
  intro H locs hP hS
  refine lv_iload_n (pc := 0) hx hb d_X_group_0 rfl (lv_at hl 1 rfl) ?_
  refine lv_iconst (v := (-1)) (pc := 1) hx hb d_X_group_1 (by decide) ?_
  refine lv_icmp_ne (tgt := 13) (pc := 2) hx hb d_X_group_2 (by decide) (fun c5 => ?_) (fun c5 => ?_)
  · replace hf := o_f c5 hf
    refine lv_iload_n (pc := 13) hx hb d_X_group_13 rfl (lv_at hl 1 rfl) ?_
    refine lv_bipush (v := (-2)) (pc := 14) hx hb d_X_group_14 (by decide) ?_
    refine lv_icmp_ne (tgt := 27) (pc := 16) hx hb d_X_group_16 (by decide) (fun c4 => ?_) (fun c4 => ?_)
    · replace hf := o_f c4 hf
      refine lv_iload_n (pc := 27) hx hb d_X_group_27 rfl (lv_at hl 1 rfl) ?_
      refine lv_if_lt (tgt := 54) (pc := 28) hx hb d_X_group_28 (by decide) (fun c3 => ?_) (fun c3 => ?_)
      · replace hf := o_t c3 hf
        refine lv_iconst (v := (-1)) (pc := 54) hx hb d_X_group_54 (by decide) ?_
        cases hf
        exact ret_i hx hb hr hlocks hK hP hS d_X_group_55
      · replace hf := o_f c3 hf
        refine lv_iload_n (pc := 31) hx hb d_X_group_31 rfl (lv_at hl 1 rfl) ?_
        refine lv_aload_n (pc := 32) hx hb d_X_group_32 rfl (lv_at hl 0 rfl) ?_
        refine va_get (D := D) (ci := 0) (v := .ref (hGrd 0)) (C := R_X) (T := T_X) (N := 10) (pc := 33) hx hb hts (fun w h => List.mem_cons_of_mem _ (in_X w h)) hown hK hP _ (fl_at 0 0 rfl rfl) rfl 6 (by decide) (hts _ (List.mem_cons_of_mem _ tw_389)) (fun _ h9 => h9) rfl d_X_group_33 ?_
        refine va_get (D := D) (ci := 9) (v := .int (Grd_groupCount sGrd)) (C := R_Grd) (T := T_Grd) (N := 9) (pc := 36) hx hb hts (fun w h => List.mem_cons_of_mem _ (in_Grd w h)) hown hK hP _ (fl_at 1 0 rfl rfl) rfl 3 (by decide) (hts _ (List.mem_cons_of_mem _ tw_353)) (fun _ h9 => h9) rfl d_X_group_36 ?_
        refine lv_icmp_ge (tgt := 54) (pc := 39) hx hb d_X_group_39 (by decide) (fun c2 => ?_) (fun c2 => ?_)
        · replace hf := o_t c2 hf
          refine lv_iconst (v := (-1)) (pc := 54) hx hb d_X_group_54 (by decide) ?_
          cases hf
          exact ret_i hx hb hr hlocks hK hP hS d_X_group_55
        · replace hf := o_f c2 hf
          refine lv_aload_n (pc := 42) hx hb d_X_group_42 rfl (lv_at hl 0 rfl) ?_
          refine va_get (D := D) (ci := 0) (v := .ref (hGrd 0)) (C := R_X) (T := T_X) (N := 10) (pc := 43) hx hb hts (fun w h => List.mem_cons_of_mem _ (in_X w h)) hown hK hP _ (fl_at 0 0 rfl rfl) rfl 6 (by decide) (hts _ (List.mem_cons_of_mem _ tw_389)) (fun _ h9 => h9) rfl d_X_group_43 ?_
          refine va_get (D := D) (ci := 9) (v := .ref (hGrd 3)) (C := R_Grd) (T := T_Grd) (N := 9) (pc := 46) hx hb hts (fun w h => List.mem_cons_of_mem _ (in_Grd w h)) hown hK hP _ (fl_at 1 0 rfl rfl) rfl 2 (by decide) (hts _ (List.mem_cons_of_mem _ tw_351)) (fun _ h9 => h9) rfl d_X_group_46 ?_
          refine lv_iload_n (pc := 49) hx hb d_X_group_49 rfl (lv_at hl 1 rfl) ?_
          obtain ⟨hi1, hf⟩ := o_gi_e hf
          refine va_iald (D := D) (pc := 50) hx hb hK hP _ 0 (fl_at 1 3 rfl rfl) rfl hi1 d_X_group_50 ?_
          refine lv_goto (tgt := 55) (pc := 51) hx hb d_X_group_51 (by decide) ?_
          cases hf
          exact ret_i hx hb hr hlocks hK hP hS d_X_group_55
    · replace hf := o_t c4 hf
      refine lv_aload_n (pc := 19) hx hb d_X_group_19 rfl (lv_at hl 0 rfl) ?_
      refine va_get (D := D) (ci := 0) (v := .ref (hGrd 0)) (C := R_X) (T := T_X) (N := 10) (pc := 20) hx hb hts (fun w h => List.mem_cons_of_mem _ (in_X w h)) hown hK hP _ (fl_at 0 0 rfl rfl) rfl 6 (by decide) (hts _ (List.mem_cons_of_mem _ tw_389)) (fun _ h9 => h9) rfl d_X_group_20 ?_
      refine va_get (D := D) (ci := 9) (v := .int (Grd_groupBits sGrd)) (C := R_Grd) (T := T_Grd) (N := 9) (pc := 23) hx hb hts (fun w h => List.mem_cons_of_mem _ (in_Grd w h)) hown hK hP _ (fl_at 1 0 rfl rfl) rfl 4 (by decide) (hts _ (List.mem_cons_of_mem _ tw_355)) (fun _ h9 => h9) rfl d_X_group_23 ?_
      cases hf
      exact ret_i hx hb hr hlocks hK hP hS d_X_group_26
  · replace hf := o_t c5 hf
    refine lv_aload_n (pc := 5) hx hb d_X_group_5 rfl (lv_at hl 0 rfl) ?_
    refine va_get (D := D) (ci := 0) (v := .ref (hGrd 0)) (C := R_X) (T := T_X) (N := 10) (pc := 6) hx hb hts (fun w h => List.mem_cons_of_mem _ (in_X w h)) hown hK hP _ (fl_at 0 0 rfl rfl) rfl 6 (by decide) (hts _ (List.mem_cons_of_mem _ tw_389)) (fun _ h9 => h9) rfl d_X_group_6 ?_
    refine va_get (D := D) (ci := 9) (v := .int (Grd_codeCount sGrd)) (C := R_Grd) (T := T_Grd) (N := 9) (pc := 9) hx hb hts (fun w h => List.mem_cons_of_mem _ (in_Grd w h)) hown hK hP _ (fl_at 1 0 rfl rfl) rfl 5 (by decide) (hts _ (List.mem_cons_of_mem _ tw_357)) (fun _ h9 => h9) rfl d_X_group_9 ?_
    cases hf
    exact ret_i hx hb hr hlocks hK hP hS d_X_group_12
