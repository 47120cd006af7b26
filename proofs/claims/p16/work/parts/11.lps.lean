def Lps_leaveAll (sLps : S_Lps) : Option (S_Lps) := o_lt (Lps_set_open sLps 0) fun sLps_1 => (some sLps_1)
abbrev rm_Lps_leaveAll : Room := { frames := 0, cells := 0, slots := 0, locals := 0 }
set_option maxHeartbeats 4000000 in
set_option maxRecDepth 100000 in
theorem c_Lps_leaveAll (l : Launch) (D : va_G) (K : Nat → ClassId) (hLps : Nat → Nat) (sLps : S_Lps) (sLps' : S_Lps) (hf : Lps_leaveAll sLps = some sLps') : mv l D K y_Lps_leaveAll ws_Lps_leaveAll rm_Lps_leaveAll [.ref (hLps 0)] (fl [wLps K hLps sLps]) (fl [wLps K hLps sLps']) := by
  refine mv_of (cc := b_Lps_leaveAll) (maxL := 1) (own := "ObsMessages$Loops") (by decide) rfl rfl (Nat.le_of_ble_eq_true rfl) ?_
  intro p e s m below meth c A ls hC hP hD hS hl
  obtain ⟨hx, hb, hml, hown, hts, hr, hlocks, hK, hF, hA⟩ := hC
  have hP : va_P D vwCl (fl [wLps K hLps sLps]) s.heap := hP
  have hl : lv_has ls 1 [(0, .ref (hLps 0))] := hl
  suffices hW : ∀ (H : Heap) (locs : List Loc), va_P D vwCl (fl [wLps K hLps sLps]) H → va_S A s.heap H locs → W p l e rm_Lps_leaveAll s m ([.ref (hLps 0)] : List Value).toArray below meth c H locs 0 0 (Qv below ([.ref (hLps 0)] : List Value).toArray s D K A (fl [wLps K hLps sLps'])) (F0 m 0 ls []) from hW s.heap [] hP hS
  clear hP hS
  intro H locs hP hS
  refine lv_aload_n (pc := 0) hx hb d_Lps_leaveAll_0 rfl (lv_at hl 0 rfl) ?_
  refine lv_iconst (v := 0) (pc := 1) hx hb d_Lps_leaveAll_1 (by decide) ?_
  refine va_put (D := D) (ci := 5) (v := .int 0) (ty := .int) (C := R_Lps) (T := T_Lps) (N := 5) (pc := 2) hx hb hts (fun w h => List.mem_cons_of_mem _ (in_Lps w h)) ty_Lps ty_Lps_ok nm_Lps hown hK hP hD hS _ (fl_at 0 0 rfl rfl) rfl 4 (by decide) (hts _ (List.mem_cons_of_mem _ tw_193)) (fun _ h9 => h9) rfl (by decide +kernel) rfl rfl (Nat.le_of_ble_eq_true rfl) d_Lps_leaveAll_2 (fun H locs hP hD hS => ?_)
  obtain ⟨sLps_1, esLps_1, hf⟩ := o_lt_e hf
  have hP : va_P D vwCl (fl [wLps K hLps sLps_1]) H := by rw [esLps_1]; exact fl_P 0 0 rfl (Nat.le_of_ble_eq_true rfl) rfl rfl hP
  have hD : va_D A (fl [wLps K hLps sLps_1]) := by rw [esLps_1]; exact fl_D 0 0 rfl (Nat.le_of_ble_eq_true rfl) rfl rfl hD
  cases hf
  exact ret_v hx hb hr hlocks hK hP hS d_Lps_leaveAll_5
def Lps_enter (a0 : Int32) (a1 : Int32) (a2 : Int32) (sLps : S_Lps) : Option (S_Lps) := if 64 ≤ (Lps_open sLps) then some sLps else o_gd (o_in (Lps_open sLps) 64) (o_lt (Lps_put_starts sLps (Lps_open sLps : Int32).toNatClampNeg a0) fun sLps_2 => (o_gd (o_in (Lps_open sLps_2) 64) (o_lt (Lps_put_ends sLps_2 (Lps_open sLps_2 : Int32).toNatClampNeg a1) fun sLps_4 => (o_gd (o_in (Lps_open sLps_4) 64) (o_lt (Lps_put_times sLps_4 (Lps_open sLps_4 : Int32).toNatClampNeg a2) fun sLps_6 => (o_gd (o_in (Lps_open sLps_6) 64) (o_lt (Lps_put_done sLps_6 (Lps_open sLps_6 : Int32).toNatClampNeg 0) fun sLps_8 => (o_lt (Lps_set_open sLps_8 ((Lps_open sLps_8) + 1)) fun sLps_9 => (some sLps_9)))))))))
abbrev rm_Lps_enter : Room := { frames := 0, cells := 0, slots := 0, locals := 0 }
set_option maxHeartbeats 4000000 in
set_option maxRecDepth 100000 in
theorem c_Lps_enter (l : Launch) (D : va_G) (K : Nat → ClassId) (hLps : Nat → Nat) (sLps : S_Lps) (a0 : Int32) (a1 : Int32) (a2 : Int32) (sLps' : S_Lps) (hf : Lps_enter a0 a1 a2 sLps = some sLps') : mv l D K y_Lps_enter ws_Lps_enter rm_Lps_enter [.ref (hLps 0), .int a0, .int a1, .int a2] (fl [wLps K hLps sLps]) (fl [wLps K hLps sLps']) := by
  refine mv_of (cc := b_Lps_enter) (maxL := 4) (own := "ObsMessages$Loops") (by decide) rfl rfl (Nat.le_of_ble_eq_true rfl) ?_
  intro p e s m below meth c A ls hC hP hD hS hl
  obtain ⟨hx, hb, hml, hown, hts, hr, hlocks, hK, hF, hA⟩ := hC
  have hP : va_P D vwCl (fl [wLps K hLps sLps]) s.heap := hP
  have hl : lv_has ls 4 [(0, .ref (hLps 0)), (1, .int a0), (2, .int a1), (3, .int a2)] := hl
  suffices hW : ∀ (H : Heap) (locs : List Loc), va_P D vwCl (fl [wLps K hLps sLps]) H → va_S A s.heap H locs → W p l e rm_Lps_enter s m ([.ref (hLps 0), .int a0, .int a1, .int a2] : List Value).toArray below meth c H locs 0 0 (Qv below ([.ref (hLps 0), .int a0, .int a1, .int a2] : List Value).toArray s D K A (fl [wLps K hLps sLps'])) (F0 m 0 ls []) from hW s.heap [] hP hS
  clear hP hS
  intro H locs hP hS
  refine lv_aload_n (pc := 0) hx hb d_Lps_enter_0 rfl (lv_at hl 0 rfl) ?_
  refine va_get (D := D) (ci := 5) (v := .int (Lps_open sLps)) (C := R_Lps) (T := T_Lps) (N := 5) (pc := 1) hx hb hts (fun w h => List.mem_cons_of_mem _ (in_Lps w h)) hown hK hP _ (fl_at 0 0 rfl rfl) rfl 4 (by decide) (hts _ (List.mem_cons_of_mem _ tw_193)) (fun _ h9 => h9) rfl d_Lps_enter_1 ?_
  refine lv_bipush (v := 64) (pc := 4) hx hb d_Lps_enter_4 (by decide) ?_
  refine lv_icmp_ge (tgt := 59) (pc := 6) hx hb d_Lps_enter_6 (by decide) (fun c10 => ?_) (fun c10 => ?_)
  · replace hf := o_t c10 hf
    cases hf
    exact ret_v hx hb hr hlocks hK hP hS d_Lps_enter_59
  · replace hf := o_f c10 hf
    refine lv_aload_n (pc := 9) hx hb d_Lps_enter_9 rfl (lv_at hl 0 rfl) ?_
    refine va_get (D := D) (ci := 5) (v := .ref (hLps 1)) (C := R_Lps) (T := T_Lps) (N := 5) (pc := 10) hx hb hts (fun w h => List.mem_cons_of_mem _ (in_Lps w h)) hown hK hP _ (fl_at 0 0 rfl rfl) rfl 0 (by decide) (hts _ (List.mem_cons_of_mem _ tw_189)) (fun _ h9 => h9) rfl d_Lps_enter_10 ?_
    refine lv_aload_n (pc := 13) hx hb d_Lps_enter_13 rfl (lv_at hl 0 rfl) ?_
    refine va_get (D := D) (ci := 5) (v := .int (Lps_open sLps)) (C := R_Lps) (T := T_Lps) (N := 5) (pc := 14) hx hb hts (fun w h => List.mem_cons_of_mem _ (in_Lps w h)) hown hK hP _ (fl_at 0 0 rfl rfl) rfl 4 (by decide) (hts _ (List.mem_cons_of_mem _ tw_193)) (fun _ h9 => h9) rfl d_Lps_enter_14 ?_
    refine lv_iload_n (pc := 17) hx hb d_Lps_enter_17 rfl (lv_at hl 1 rfl) ?_
    obtain ⟨hi1, hf⟩ := o_gi_e hf
    refine va_iast (D := D) (pc := 18) hx hb hK hP hD hS _ 0 (fl_at 0 1 rfl rfl) rfl hi1 d_Lps_enter_18 (fun H locs hP hD hS => ?_)
    obtain ⟨sLps_2, esLps_2, hf⟩ := o_lt_e hf
    have hP : va_P D vwCl (fl [wLps K hLps sLps_2]) H := by rw [esLps_2]; exact fl_P 0 1 rfl (Nat.le_of_ble_eq_true rfl) rfl rfl hP
    have hD : va_D A (fl [wLps K hLps sLps_2]) := by rw [esLps_2]; exact fl_D 0 1 rfl (Nat.le_of_ble_eq_true rfl) rfl rfl hD
    refine lv_aload_n (pc := 19) hx hb d_Lps_enter_19 rfl (lv_at hl 0 rfl) ?_
    refine va_get (D := D) (ci := 5) (v := .ref (hLps 2)) (C := R_Lps) (T := T_Lps) (N := 5) (pc := 20) hx hb hts (fun w h => List.mem_cons_of_mem _ (in_Lps w h)) hown hK hP _ (fl_at 0 0 rfl rfl) rfl 1 (by decide) (hts _ (List.mem_cons_of_mem _ tw_190)) (fun _ h9 => h9) rfl d_Lps_enter_20 ?_
    refine lv_aload_n (pc := 23) hx hb d_Lps_enter_23 rfl (lv_at hl 0 rfl) ?_
    refine va_get (D := D) (ci := 5) (v := .int (Lps_open sLps_2)) (C := R_Lps) (T := T_Lps) (N := 5) (pc := 24) hx hb hts (fun w h => List.mem_cons_of_mem _ (in_Lps w h)) hown hK hP _ (fl_at 0 0 rfl rfl) rfl 4 (by decide) (hts _ (List.mem_cons_of_mem _ tw_193)) (fun _ h9 => h9) rfl d_Lps_enter_24 ?_
    refine lv_iload_n (pc := 27) hx hb d_Lps_enter_27 rfl (lv_at hl 2 rfl) ?_
    obtain ⟨hi3, hf⟩ := o_gi_e hf
    refine va_iast (D := D) (pc := 28) hx hb hK hP hD hS _ 0 (fl_at 0 2 rfl rfl) rfl hi3 d_Lps_enter_28 (fun H locs hP hD hS => ?_)
    obtain ⟨sLps_4, esLps_4, hf⟩ := o_lt_e hf
    have hP : va_P D vwCl (fl [wLps K hLps sLps_4]) H := by rw [esLps_4]; exact fl_P 0 2 rfl (Nat.le_of_ble_eq_true rfl) rfl rfl hP
    have hD : va_D A (fl [wLps K hLps sLps_4]) := by rw [esLps_4]; exact fl_D 0 2 rfl (Nat.le_of_ble_eq_true rfl) rfl rfl hD
    refine lv_aload_n (pc := 29) hx hb d_Lps_enter_29 rfl (lv_at hl 0 rfl) ?_
    refine va_get (D := D) (ci := 5) (v := .ref (hLps 3)) (C := R_Lps) (T := T_Lps) (N := 5) (pc := 30) hx hb hts (fun w h => List.mem_cons_of_mem _ (in_Lps w h)) hown hK hP _ (fl_at 0 0 rfl rfl) rfl 2 (by decide) (hts _ (List.mem_cons_of_mem _ tw_191)) (fun _ h9 => h9) rfl d_Lps_enter_30 ?_
    refine lv_aload_n (pc := 33) hx hb d_Lps_enter_33 rfl (lv_at hl 0 rfl) ?_
    refine va_get (D := D) (ci := 5) (v := .int (Lps_open sLps_4)) (C := R_Lps) (T := T_Lps) (N := 5) (pc := 34) hx hb hts (fun w h => List.mem_cons_of_mem _ (in_Lps w h)) hown hK hP _ (fl_at 0 0 rfl rfl) rfl 4 (by decide) (hts _ (List.mem_cons_of_mem _ tw_193)) (fun _ h9 => h9) rfl d_Lps_enter_34 ?_
    refine lv_iload_n (pc := 37) hx hb d_Lps_enter_37 rfl (lv_at hl 3 rfl) ?_
    obtain ⟨hi5, hf⟩ := o_gi_e hf
    refine va_iast (D := D) (pc := 38) hx hb hK hP hD hS _ 0 (fl_at 0 3 rfl rfl) rfl hi5 d_Lps_enter_38 (fun H locs hP hD hS => ?_)
    obtain ⟨sLps_6, esLps_6, hf⟩ := o_lt_e hf
    have hP : va_P D vwCl (fl [wLps K hLps sLps_6]) H := by rw [esLps_6]; exact fl_P 0 3 rfl (Nat.le_of_ble_eq_true rfl) rfl rfl hP
    have hD : va_D A (fl [wLps K hLps sLps_6]) := by rw [esLps_6]; exact fl_D 0 3 rfl (Nat.le_of_ble_eq_true rfl) rfl rfl hD
    refine lv_aload_n (pc := 39) hx hb d_Lps_enter_39 rfl (lv_at hl 0 rfl) ?_
    refine va_get (D := D) (ci := 5) (v := .ref (hLps 4)) (C := R_Lps) (T := T_Lps) (N := 5) (pc := 40) hx hb hts (fun w h => List.mem_cons_of_mem _ (in_Lps w h)) hown hK hP _ (fl_at 0 0 rfl rfl) rfl 3 (by decide) (hts _ (List.mem_cons_of_mem _ tw_192)) (fun _ h9 => h9) rfl d_Lps_enter_40 ?_
    refine lv_aload_n (pc := 43) hx hb d_Lps_enter_43 rfl (lv_at hl 0 rfl) ?_
    refine va_get (D := D) (ci := 5) (v := .int (Lps_open sLps_6)) (C := R_Lps) (T := T_Lps) (N := 5) (pc := 44) hx hb hts (fun w h => List.mem_cons_of_mem _ (in_Lps w h)) hown hK hP _ (fl_at 0 0 rfl rfl) rfl 4 (by decide) (hts _ (List.mem_cons_of_mem _ tw_193)) (fun _ h9 => h9) rfl d_Lps_enter_44 ?_
    refine lv_iconst (v := 0) (pc := 47) hx hb d_Lps_enter_47 (by decide) ?_
    obtain ⟨hi7, hf⟩ := o_gi_e hf
    refine va_iast (D := D) (pc := 48) hx hb hK hP hD hS _ 0 (fl_at 0 4 rfl rfl) rfl hi7 d_Lps_enter_48 (fun H locs hP hD hS => ?_)
    obtain ⟨sLps_8, esLps_8, hf⟩ := o_lt_e hf
    have hP : va_P D vwCl (fl [wLps K hLps sLps_8]) H := by rw [esLps_8]; exact fl_P 0 4 rfl (Nat.le_of_ble_eq_true rfl) rfl rfl hP
    have hD : va_D A (fl [wLps K hLps sLps_8]) := by rw [esLps_8]; exact fl_D 0 4 rfl (Nat.le_of_ble_eq_true rfl) rfl rfl hD
    refine lv_aload_n (pc := 49) hx hb d_Lps_enter_49 rfl (lv_at hl 0 rfl) ?_
    refine lv_dup (pc := 50) hx hb d_Lps_enter_50 rfl ?_
    refine va_get (D := D) (ci := 5) (v := .int (Lps_open sLps_8)) (C := R_Lps) (T := T_Lps) (N := 5) (pc := 51) hx hb hts (fun w h => List.mem_cons_of_mem _ (in_Lps w h)) hown hK hP _ (fl_at 0 0 rfl rfl) rfl 4 (by decide) (hts _ (List.mem_cons_of_mem _ tw_193)) (fun _ h9 => h9) rfl d_Lps_enter_51 ?_
    refine lv_iconst (v := 1) (pc := 54) hx hb d_Lps_enter_54 (by decide) ?_
    refine lv_iadd (pc := 55) hx hb d_Lps_enter_55 ?_
    refine va_put (D := D) (ci := 5) (v := .int ((Lps_open sLps_8) + 1)) (ty := .int) (C := R_Lps) (T := T_Lps) (N := 5) (pc := 56) hx hb hts (fun w h => List.mem_cons_of_mem _ (in_Lps w h)) ty_Lps ty_Lps_ok nm_Lps hown hK hP hD hS _ (fl_at 0 0 rfl rfl) rfl 4 (by decide) (hts _ (List.mem_cons_of_mem _ tw_193)) (fun _ h9 => h9) rfl (by decide +kernel) rfl rfl (Nat.le_of_ble_eq_true rfl) d_Lps_enter_56 (fun H locs hP hD hS => ?_)
    obtain ⟨sLps_9, esLps_9, hf⟩ := o_lt_e hf
    have hP : va_P D vwCl (fl [wLps K hLps sLps_9]) H := by rw [esLps_9]; exact fl_P 0 0 rfl (Nat.le_of_ble_eq_true rfl) rfl rfl hP
    have hD : va_D A (fl [wLps K hLps sLps_9]) := by rw [esLps_9]; exact fl_D 0 0 rfl (Nat.le_of_ble_eq_true rfl) rfl rfl hD
    cases hf
    exact ret_v hx hb hr hlocks hK hP hS d_Lps_enter_59
def Lps_repetition (sLps : S_Lps) : Option (Int32) := if (Lps_open sLps) = 0 then some ((-1)) else o_gd (o_in ((Lps_open sLps) - 1) 64) (some (Lps_done sLps ((Lps_open sLps) - 1 : Int32).toNatClampNeg))
abbrev rm_Lps_repetition : Room := { frames := 0, cells := 0, slots := 0, locals := 0 }
set_option maxHeartbeats 4000000 in
set_option maxRecDepth 100000 in
theorem c_Lps_repetition (l : Launch) (D : va_G) (K : Nat → ClassId) (hLps : Nat → Nat) (sLps : S_Lps) (r : Int32) (hf : Lps_repetition sLps = some r) : mi l D K y_Lps_repetition ws_Lps_repetition rm_Lps_repetition [.ref (hLps 0)] (fl [wLps K hLps sLps]) (fl [wLps K hLps sLps]) r := by
  refine mi_of (cc := b_Lps_repetition) (maxL := 1) (own := "ObsMessages$Loops") (by decide) rfl rfl (Nat.le_of_ble_eq_true rfl) ?_
  intro p e s m below meth c A ls hC hP hD hS hl
  obtain ⟨hx, hb, hml, hown, hts, hr, hlocks, hK, hF, hA⟩ := hC
  have hP : va_P D vwCl (fl [wLps K hLps sLps]) s.heap := hP
  have hl : lv_has ls 1 [(0, .ref (hLps 0))] := hl
  suffices hW : ∀ (H : Heap) (locs : List Loc), va_P D vwCl (fl [wLps K hLps sLps]) H → va_S A s.heap H locs → W p l e rm_Lps_repetition s m ([.ref (hLps 0)] : List Value).toArray below meth c H locs 0 0 (Qi below ([.ref (hLps 0)] : List Value).toArray s D K A (fl [wLps K hLps sLps]) r) (F0 m 0 ls []) from hW s.heap [] hP hS
  clear hP hS
  intro H locs hP hS
  refine lv_aload_n (pc := 0) hx hb d_Lps_repetition_0 rfl (lv_at hl 0 rfl) ?_
  refine va_get (D := D) (ci := 5) (v := .int (Lps_open sLps)) (C := R_Lps) (T := T_Lps) (N := 5) (pc := 1) hx hb hts (fun w h => List.mem_cons_of_mem _ (in_Lps w h)) hown hK hP _ (fl_at 0 0 rfl rfl) rfl 4 (by decide) (hts _ (List.mem_cons_of_mem _ tw_193)) (fun _ h9 => h9) rfl d_Lps_repetition_1 ?_
  refine lv_if_ne (tgt := 11) (pc := 4) hx hb d_Lps_repetition_4 (by decide) (fun c2 => ?_) (fun c2 => ?_)
  · replace hf := o_f c2 hf
    refine lv_aload_n (pc := 11) hx hb d_Lps_repetition_11 rfl (lv_at hl 0 rfl) ?_
    refine va_get (D := D) (ci := 5) (v := .ref (hLps 4)) (C := R_Lps) (T := T_Lps) (N := 5) (pc := 12) hx hb hts (fun w h => List.mem_cons_of_mem _ (in_Lps w h)) hown hK hP _ (fl_at 0 0 rfl rfl) rfl 3 (by decide) (hts _ (List.mem_cons_of_mem _ tw_192)) (fun _ h9 => h9) rfl d_Lps_repetition_12 ?_
    refine lv_aload_n (pc := 15) hx hb d_Lps_repetition_15 rfl (lv_at hl 0 rfl) ?_
    refine va_get (D := D) (ci := 5) (v := .int (Lps_open sLps)) (C := R_Lps) (T := T_Lps) (N := 5) (pc := 16) hx hb hts (fun w h => List.mem_cons_of_mem _ (in_Lps w h)) hown hK hP _ (fl_at 0 0 rfl rfl) rfl 4 (by decide) (hts _ (List.mem_cons_of_mem _ tw_193)) (fun _ h9 => h9) rfl d_Lps_repetition_16 ?_
    refine lv_iconst (v := 1) (pc := 19) hx hb d_Lps_repetition_19 (by decide) ?_
    refine lv_isub (pc := 20) hx hb d_Lps_repetition_20 ?_
    obtain ⟨hi1, hf⟩ := o_gi_e hf
    refine va_iald (D := D) (pc := 21) hx hb hK hP _ 0 (fl_at 0 4 rfl rfl) rfl hi1 d_Lps_repetition_21 ?_
    cases hf
    exact ret_i hx hb hr hlocks hK hP hS d_Lps_repetition_22
  · replace hf := o_t c2 hf
    refine lv_iconst (v := (-1)) (pc := 7) hx hb d_Lps_repetition_7 (by decide) ?_
    refine lv_goto (tgt := 22) (pc := 8) hx hb d_Lps_repetition_8 (by decide) ?_
    cases hf
    exact ret_i hx hb hr hlocks hK hP hS d_Lps_repetition_22
def Lps_onFrom_L0 (fu : Nat) (x1_L0 : Int32) : Nat → S_Lps → Option (Int32 × S_Lps)
  | 0, _ => none
  | n + 1, sLps_L0 => if (Lps_open sLps_L0) ≤ 0 then some ((x1_L0, sLps_L0)) else o_gd (o_in ((Lps_open sLps_L0) - 1) 64) (if x1_L0 = (Lps_ends sLps_L0 ((Lps_open sLps_L0) - 1 : Int32).toNatClampNeg) then o_gd (o_in ((Lps_open sLps_L0) - 1) 64) (o_gd (o_in ((Lps_open sLps_L0) - 1) 64) (o_lt (Lps_put_done sLps_L0 ((Lps_open sLps_L0) - 1 : Int32).toNatClampNeg ((Lps_done sLps_L0 ((Lps_open sLps_L0) - 1 : Int32).toNatClampNeg) + 1)) fun sLps_4 => (o_gd (o_in ((Lps_open sLps_L0) - 1) 64) (o_gd (o_in ((Lps_open sLps_L0) - 1) 64) (if (Lps_times sLps_4 ((Lps_open sLps_L0) - 1 : Int32).toNatClampNeg) ≤ (Lps_done sLps_4 ((Lps_open sLps_L0) - 1 : Int32).toNatClampNeg) then o_lt (Lps_set_open sLps_4 ((Lps_open sLps_4) - 1)) fun sLps_7 => (Lps_onFrom_L0 fu x1_L0 n sLps_7) else o_gd (o_in ((Lps_open sLps_L0) - 1) 64) (some ((Lps_starts sLps_4 ((Lps_open sLps_L0) - 1 : Int32).toNatClampNeg, sLps_4)))))))) else some ((x1_L0, sLps_L0)))
def Lps_onFrom (fu : Nat) (a0 : Int32) (sLps : S_Lps) : Option (Int32 × S_Lps) := Lps_onFrom_L0 fu a0 fu sLps
abbrev rm_Lps_onFrom : Room := { frames := 0, cells := 0, slots := 0, locals := 0 }
set_option maxHeartbeats 4000000 in
set_option maxRecDepth 100000 in
theorem c_Lps_onFrom (l : Launch) (D : va_G) (K : Nat → ClassId) (fu : Nat) (hLps : Nat → Nat) (sLps : S_Lps) (a0 : Int32) (r : Int32) (sLps' : S_Lps) (hf : Lps_onFrom fu a0 sLps = some ((r, sLps'))) : mi l D K y_Lps_onFrom ws_Lps_onFrom rm_Lps_onFrom [.ref (hLps 0), .int a0] (fl [wLps K hLps sLps]) (fl [wLps K hLps sLps']) r := by
  refine mi_of (cc := b_Lps_onFrom) (maxL := 3) (own := "ObsMessages$Loops") (by decide) rfl rfl (Nat.le_of_ble_eq_true rfl) ?_
  intro p e s m below meth c A ls hC hP hD hS hl
  obtain ⟨hx, hb, hml, hown, hts, hr, hlocks, hK, hF, hA⟩ := hC
  have hP : va_P D vwCl (fl [wLps K hLps sLps]) s.heap := hP
  have hl : lv_has ls 3 [(0, .ref (hLps 0)), (1, .int a0)] := hl
  suffices hW : ∀ (H : Heap) (locs : List Loc), va_P D vwCl (fl [wLps K hLps sLps]) H → va_S A s.heap H locs → W p l e rm_Lps_onFrom s m ([.ref (hLps 0), .int a0] : List Value).toArray below meth c H locs 0 0 (Qi below ([.ref (hLps 0), .int a0] : List Value).toArray s D K A (fl [wLps K hLps sLps']) r) (F0 m 0 ls []) from hW s.heap [] hP hS
  clear hP hS
  intro H locs hP hS
  have L0 : ∀ (x1_L0 : Int32) (n : Nat) (sLps_L0 : S_Lps) (H : Heap) (locs : List Loc) (ls : Array Slot), va_P D vwCl (fl [wLps K hLps sLps_L0]) H → va_D A (fl [wLps K hLps sLps_L0]) → va_S A s.heap H locs → lv_has ls 3 [(0, .ref (hLps 0)), (1, .int x1_L0)] → Lps_onFrom_L0 fu x1_L0 n sLps_L0 = some ((r, sLps')) → W p l e rm_Lps_onFrom s m ([.ref (hLps 0), .int a0] : List Value).toArray below meth c H locs 0 0 (Qi below ([.ref (hLps 0), .int a0] : List Value).toArray s D K A (fl [wLps K hLps sLps']) r) (F0 m 0 ls []) := by
    intro x1_L0 n
    induction n with
    | zero =>
      intro sLps_L0 H locs ls hP hD hS hl hf
      exact absurd hf (fun h => nomatch h)
    | succ n_0 ih_0 =>
      intro sLps_L0 H locs ls hP hD hS hl hf
      refine lv_aload_n (pc := 0) hx hb d_Lps_onFrom_0 rfl (lv_at hl 0 rfl) ?_
      refine va_get (D := D) (ci := 5) (v := .int (Lps_open sLps_L0)) (C := R_Lps) (T := T_Lps) (N := 5) (pc := 1) hx hb hts (fun w h => List.mem_cons_of_mem _ (in_Lps w h)) hown hK hP _ (fl_at 0 0 rfl rfl) rfl 4 (by decide) (hts _ (List.mem_cons_of_mem _ tw_193)) (fun _ h9 => h9) rfl d_Lps_onFrom_1 ?_
      refine lv_if_le (tgt := 74) (pc := 4) hx hb d_Lps_onFrom_4 (by decide) (fun c11 => ?_) (fun c11 => ?_)
      · replace hf := o_t c11 hf
        refine lv_iload_n (pc := 74) hx hb d_Lps_onFrom_74 rfl (lv_at hl 1 rfl) ?_
        cases hf
        exact ret_i hx hb hr hlocks hK hP hS d_Lps_onFrom_75
      · replace hf := o_f c11 hf
        refine lv_iload_n (pc := 7) hx hb d_Lps_onFrom_7 rfl (lv_at hl 1 rfl) ?_
        refine lv_aload_n (pc := 8) hx hb d_Lps_onFrom_8 rfl (lv_at hl 0 rfl) ?_
        refine va_get (D := D) (ci := 5) (v := .ref (hLps 2)) (C := R_Lps) (T := T_Lps) (N := 5) (pc := 9) hx hb hts (fun w h => List.mem_cons_of_mem _ (in_Lps w h)) hown hK hP _ (fl_at 0 0 rfl rfl) rfl 1 (by decide) (hts _ (List.mem_cons_of_mem _ tw_190)) (fun _ h9 => h9) rfl d_Lps_onFrom_9 ?_
        refine lv_aload_n (pc := 12) hx hb d_Lps_onFrom_12 rfl (lv_at hl 0 rfl) ?_
        refine va_get (D := D) (ci := 5) (v := .int (Lps_open sLps_L0)) (C := R_Lps) (T := T_Lps) (N := 5) (pc := 13) hx hb hts (fun w h => List.mem_cons_of_mem _ (in_Lps w h)) hown hK hP _ (fl_at 0 0 rfl rfl) rfl 4 (by decide) (hts _ (List.mem_cons_of_mem _ tw_193)) (fun _ h9 => h9) rfl d_Lps_onFrom_13 ?_
        refine lv_iconst (v := 1) (pc := 16) hx hb d_Lps_onFrom_16 (by decide) ?_
        refine lv_isub (pc := 17) hx hb d_Lps_onFrom_17 ?_
        obtain ⟨hi1, hf⟩ := o_gi_e hf
        refine va_iald (D := D) (pc := 18) hx hb hK hP _ 0 (fl_at 0 2 rfl rfl) rfl hi1 d_Lps_onFrom_18 ?_
        refine lv_icmp_ne (tgt := 74) (pc := 19) hx hb d_Lps_onFrom_19 (by decide) (fun c10 => ?_) (fun c10 => ?_)
        · replace hf := o_f c10 hf
          refine lv_iload_n (pc := 74) hx hb d_Lps_onFrom_74 rfl (lv_at hl 1 rfl) ?_
          cases hf
          exact ret_i hx hb hr hlocks hK hP hS d_Lps_onFrom_75
        · replace hf := o_t c10 hf
          refine lv_aload_n (pc := 22) hx hb d_Lps_onFrom_22 rfl (lv_at hl 0 rfl) ?_
          refine va_get (D := D) (ci := 5) (v := .int (Lps_open sLps_L0)) (C := R_Lps) (T := T_Lps) (N := 5) (pc := 23) hx hb hts (fun w h => List.mem_cons_of_mem _ (in_Lps w h)) hown hK hP _ (fl_at 0 0 rfl rfl) rfl 4 (by decide) (hts _ (List.mem_cons_of_mem _ tw_193)) (fun _ h9 => h9) rfl d_Lps_onFrom_23 ?_
          refine lv_iconst (v := 1) (pc := 26) hx hb d_Lps_onFrom_26 (by decide) ?_
          refine lv_isub (pc := 27) hx hb d_Lps_onFrom_27 ?_
          refine lv_istore_n (lv' := [(2, .int ((Lps_open sLps_L0) - 1)), (0, .ref (hLps 0)), (1, .int x1_L0)]) (pc := 28) hx hb d_Lps_onFrom_28 rfl hl (by decide) rfl (fun ls hl => ?_)
          refine lv_aload_n (pc := 29) hx hb d_Lps_onFrom_29 rfl (lv_at hl 1 rfl) ?_
          refine va_get (D := D) (ci := 5) (v := .ref (hLps 4)) (C := R_Lps) (T := T_Lps) (N := 5) (pc := 30) hx hb hts (fun w h => List.mem_cons_of_mem _ (in_Lps w h)) hown hK hP _ (fl_at 0 0 rfl rfl) rfl 3 (by decide) (hts _ (List.mem_cons_of_mem _ tw_192)) (fun _ h9 => h9) rfl d_Lps_onFrom_30 ?_
          refine lv_iload_n (pc := 33) hx hb d_Lps_onFrom_33 rfl (lv_at hl 0 rfl) ?_
          refine lv_dup2_11 (pc := 34) hx hb d_Lps_onFrom_34 rfl rfl ?_
          obtain ⟨hi2, hf⟩ := o_gi_e hf
          refine va_iald (D := D) (pc := 35) hx hb hK hP _ 0 (fl_at 0 4 rfl rfl) rfl hi2 d_Lps_onFrom_35 ?_
          refine lv_iconst (v := 1) (pc := 36) hx hb d_Lps_onFrom_36 (by decide) ?_
          refine lv_iadd (pc := 37) hx hb d_Lps_onFrom_37 ?_
          obtain ⟨hi3, hf⟩ := o_gi_e hf
          refine va_iast (D := D) (pc := 38) hx hb hK hP hD hS _ 0 (fl_at 0 4 rfl rfl) rfl hi3 d_Lps_onFrom_38 (fun H locs hP hD hS => ?_)
          obtain ⟨sLps_4, esLps_4, hf⟩ := o_lt_e hf
          have hP : va_P D vwCl (fl [wLps K hLps sLps_4]) H := by rw [esLps_4]; exact fl_P 0 4 rfl (Nat.le_of_ble_eq_true rfl) rfl rfl hP
          have hD : va_D A (fl [wLps K hLps sLps_4]) := by rw [esLps_4]; exact fl_D 0 4 rfl (Nat.le_of_ble_eq_true rfl) rfl rfl hD
          refine lv_aload_n (pc := 39) hx hb d_Lps_onFrom_39 rfl (lv_at hl 1 rfl) ?_
          refine va_get (D := D) (ci := 5) (v := .ref (hLps 4)) (C := R_Lps) (T := T_Lps) (N := 5) (pc := 40) hx hb hts (fun w h => List.mem_cons_of_mem _ (in_Lps w h)) hown hK hP _ (fl_at 0 0 rfl rfl) rfl 3 (by decide) (hts _ (List.mem_cons_of_mem _ tw_192)) (fun _ h9 => h9) rfl d_Lps_onFrom_40 ?_
          refine lv_iload_n (pc := 43) hx hb d_Lps_onFrom_43 rfl (lv_at hl 0 rfl) ?_
          obtain ⟨hi5, hf⟩ := o_gi_e hf
          refine va_iald (D := D) (pc := 44) hx hb hK hP _ 0 (fl_at 0 4 rfl rfl) rfl hi5 d_Lps_onFrom_44 ?_
          refine lv_aload_n (pc := 45) hx hb d_Lps_onFrom_45 rfl (lv_at hl 1 rfl) ?_
          refine va_get (D := D) (ci := 5) (v := .ref (hLps 3)) (C := R_Lps) (T := T_Lps) (N := 5) (pc := 46) hx hb hts (fun w h => List.mem_cons_of_mem _ (in_Lps w h)) hown hK hP _ (fl_at 0 0 rfl rfl) rfl 2 (by decide) (hts _ (List.mem_cons_of_mem _ tw_191)) (fun _ h9 => h9) rfl d_Lps_onFrom_46 ?_
          refine lv_iload_n (pc := 49) hx hb d_Lps_onFrom_49 rfl (lv_at hl 0 rfl) ?_
          obtain ⟨hi6, hf⟩ := o_gi_e hf
          refine va_iald (D := D) (pc := 50) hx hb hK hP _ 0 (fl_at 0 3 rfl rfl) rfl hi6 d_Lps_onFrom_50 ?_
          refine lv_icmp_ge (tgt := 61) (pc := 51) hx hb d_Lps_onFrom_51 (by decide) (fun c9 => ?_) (fun c9 => ?_)
          · replace hf := o_t c9 hf
            refine lv_aload_n (pc := 61) hx hb d_Lps_onFrom_61 rfl (lv_at hl 1 rfl) ?_
            refine lv_dup (pc := 62) hx hb d_Lps_onFrom_62 rfl ?_
            refine va_get (D := D) (ci := 5) (v := .int (Lps_open sLps_4)) (C := R_Lps) (T := T_Lps) (N := 5) (pc := 63) hx hb hts (fun w h => List.mem_cons_of_mem _ (in_Lps w h)) hown hK hP _ (fl_at 0 0 rfl rfl) rfl 4 (by decide) (hts _ (List.mem_cons_of_mem _ tw_193)) (fun _ h9 => h9) rfl d_Lps_onFrom_63 ?_
            refine lv_iconst (v := 1) (pc := 66) hx hb d_Lps_onFrom_66 (by decide) ?_
            refine lv_isub (pc := 67) hx hb d_Lps_onFrom_67 ?_
            refine va_put (D := D) (ci := 5) (v := .int ((Lps_open sLps_4) - 1)) (ty := .int) (C := R_Lps) (T := T_Lps) (N := 5) (pc := 68) hx hb hts (fun w h => List.mem_cons_of_mem _ (in_Lps w h)) ty_Lps ty_Lps_ok nm_Lps hown hK hP hD hS _ (fl_at 0 0 rfl rfl) rfl 4 (by decide) (hts _ (List.mem_cons_of_mem _ tw_193)) (fun _ h9 => h9) rfl (by decide +kernel) rfl rfl (Nat.le_of_ble_eq_true rfl) d_Lps_onFrom_68 (fun H locs hP hD hS => ?_)
            obtain ⟨sLps_7, esLps_7, hf⟩ := o_lt_e hf
            have hP : va_P D vwCl (fl [wLps K hLps sLps_7]) H := by rw [esLps_7]; exact fl_P 0 0 rfl (Nat.le_of_ble_eq_true rfl) rfl rfl hP
            have hD : va_D A (fl [wLps K hLps sLps_7]) := by rw [esLps_7]; exact fl_D 0 0 rfl (Nat.le_of_ble_eq_true rfl) rfl rfl hD
            refine lv_goto (tgt := 0) (pc := 71) hx hb d_Lps_onFrom_71 (by decide) ?_
            exact ih_0 sLps_7 H locs ls hP hD hS (lv_sub hl [1, 2] rfl) hf
          · replace hf := o_f c9 hf
            refine lv_aload_n (pc := 54) hx hb d_Lps_onFrom_54 rfl (lv_at hl 1 rfl) ?_
            refine va_get (D := D) (ci := 5) (v := .ref (hLps 1)) (C := R_Lps) (T := T_Lps) (N := 5) (pc := 55) hx hb hts (fun w h => List.mem_cons_of_mem _ (in_Lps w h)) hown hK hP _ (fl_at 0 0 rfl rfl) rfl 0 (by decide) (hts _ (List.mem_cons_of_mem _ tw_189)) (fun _ h9 => h9) rfl d_Lps_onFrom_55 ?_
            refine lv_iload_n (pc := 58) hx hb d_Lps_onFrom_58 rfl (lv_at hl 0 rfl) ?_
            obtain ⟨hi8, hf⟩ := o_gi_e hf
            refine va_iald (D := D) (pc := 59) hx hb hK hP _ 0 (fl_at 0 1 rfl rfl) rfl hi8 d_Lps_onFrom_59 ?_
            cases hf
            exact ret_i hx hb hr hlocks hK hP hS d_Lps_onFrom_60
  exact L0 a0 fu sLps H locs ls hP hD hS (lv_sub hl [0, 1] rfl) hf
