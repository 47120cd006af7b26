def Mod_added (sMo : S_Mo) (sMops : (Nat → Int32)) (a0 : Int32) : Option (Int32) := o_gd (o_in a0 4) (if (sMops (a0 : Int32).toNatClampNeg) = ((-100)) then some 0 else o_gd (o_in a0 4) (some (sMops (a0 : Int32).toNatClampNeg)))
abbrev rm_Mod_added : Room := { frames := 0, cells := 0, slots := 0, locals := 0 }
set_option maxHeartbeats 4000000 in
set_option maxRecDepth 100000 in
theorem c_Mod_added (l : Launch) (D : va_G) (K : Nat → ClassId) (hMo : Nat → Nat) (sMo : S_Mo) (sMops : (Nat → Int32)) (a0 : Int32) (r : Int32) (hf : Mod_added sMo sMops a0 = some r) : mi l D K y_Mod_added ws_Mod_added rm_Mod_added [.ref (hMo 0), .int a0] (fl [wMo K hMo sMo, wRowI K (fun _ => hMo 16) 4 sMops]) (fl [wMo K hMo sMo, wRowI K (fun _ => hMo 16) 4 sMops]) r := by
  refine mi_of (cc := b_Mod_added) (maxL := 2) (own := "ObsMessagesModel") (by decide) rfl rfl (Nat.le_of_ble_eq_true rfl) ?_
  intro p e s m below meth c A ls hC hP hD hS hl
  obtain ⟨hx, hb, hml, hown, hts, hr, hlocks, hK, hF, hA⟩ := hC
  have hP : va_P D vwCl (fl [wMo K hMo sMo, wRowI K (fun _ => hMo 16) 4 sMops]) s.heap := hP
  have hl : lv_has ls 2 [(0, .ref (hMo 0)), (1, .int a0)] := hl
  suffices hW : ∀ (H : Heap) (locs : List Loc), va_P D vwCl (fl [wMo K hMo sMo, wRowI K (fun _ => hMo 16) 4 sMops]) H → va_S A s.heap H locs → W p l e rm_Mod_added s m ([.ref (hMo 0), .int a0] : List Value).toArray below meth c H locs 0 0 (Qi below ([.ref (hMo 0), .int a0] : List Value).toArray s D K A (fl [wMo K hMo sMo, wRowI K (fun _ => hMo 16) 4 sMops]) r) (F0 m 0 ls []) from hW s.heap [] hP hS
  clear hP hS
  intro H locs hP hS
  refine lv_aload_n (pc := 0) hx hb d_Mod_added_0 rfl (lv_at hl 0 rfl) ?_
  refine va_get (D := D) (ci := 10) (v := .ref (hMo 16)) (C := R_Mod) (T := T_Mod) (N := 61) (pc := 1) hx hb hts (fun w h => List.mem_cons_of_mem _ (in_Mod w h)) hown hK hP _ (fl_at 0 0 rfl rfl) rfl 20 (by decide) (hts _ (List.mem_cons_of_mem _ tw_1113)) (fun _ h9 => h9) rfl d_Mod_added_1 ?_
  refine lv_iload_n (pc := 4) hx hb d_Mod_added_4 rfl (lv_at hl 1 rfl) ?_
  obtain ⟨hi1, hf⟩ := o_gi_e hf
  refine va_iald (D := D) (pc := 5) hx hb hK hP _ 0 (fl_at 1 0 rfl rfl) rfl hi1 d_Mod_added_5 ?_
  refine lv_bipush (v := (-100)) (pc := 6) hx hb d_Mod_added_6 (by decide) ?_
  refine lv_icmp_ne (tgt := 15) (pc := 8) hx hb d_Mod_added_8 (by decide) (fun c3 => ?_) (fun c3 => ?_)
  · replace hf := o_f c3 hf
    refine lv_aload_n (pc := 15) hx hb d_Mod_added_15 rfl (lv_at hl 0 rfl) ?_
    refine va_get (D := D) (ci := 10) (v := .ref (hMo 16)) (C := R_Mod) (T := T_Mod) (N := 61) (pc := 16) hx hb hts (fun w h => List.mem_cons_of_mem _ (in_Mod w h)) hown hK hP _ (fl_at 0 0 rfl rfl) rfl 20 (by decide) (hts _ (List.mem_cons_of_mem _ tw_1113)) (fun _ h9 => h9) rfl d_Mod_added_16 ?_
    refine lv_iload_n (pc := 19) hx hb d_Mod_added_19 rfl (lv_at hl 1 rfl) ?_
    obtain ⟨hi2, hf⟩ := o_gi_e hf
    refine va_iald (D := D) (pc := 20) hx hb hK hP _ 0 (fl_at 1 0 rfl rfl) rfl hi2 d_Mod_added_20 ?_
    cases hf
    exact ret_i hx hb hr hlocks hK hP hS d_Mod_added_21
  · replace hf := o_t c3 hf
    refine lv_iconst (v := 0) (pc := 11) hx hb d_Mod_added_11 (by decide) ?_
    refine lv_goto (tgt := 21) (pc := 12) hx hb d_Mod_added_12 (by decide) ?_
    cases hf
    exact ret_i hx hb hr hlocks hK hP hS d_Mod_added_21
def Mod_isIn (a0 : Int32) (a1 : Int32) (a2 : Int32) : Option (Int32) := if a0 < a1 then some 0 else if a2 < a0 then some 0 else some 1
abbrev rm_Mod_isIn : Room := { frames := 0, cells := 0, slots := 0, locals := 0 }
set_option maxHeartbeats 4000000 in
set_option maxRecDepth 100000 in
theorem c_Mod_isIn (l : Launch) (D : va_G) (K : Nat → ClassId) (a0 : Int32) (a1 : Int32) (a2 : Int32) (r : Int32) (hf : Mod_isIn a0 a1 a2 = some r) : mi l D K y_Mod_isIn ws_Mod_isIn rm_Mod_isIn [.int a0, .int a1, .int a2] (fl []) (fl []) r := by
  refine mi_of (cc := b_Mod_isIn) (maxL := 3) (own := "ObsMessagesModel") (by decide) rfl rfl (Nat.le_of_ble_eq_true rfl) ?_
  intro p e s m below meth c A ls hC hP hD hS hl
  obtain ⟨hx, hb, hml, hown, hts, hr, hlocks, hK, hF, hA⟩ := hC
  have hP : va_P D vwCl (fl []) s.heap := hP
  have hl : lv_has ls 3 [(0, .int a0), (1, .int a1), (2, .int a2)] := hl
  suffices hW : ∀ (H : Heap) (locs : List Loc), va_P D vwCl (fl []) H → va_S A s.heap H locs → W p l e rm_Mod_isIn s m ([.int a0, .int a1, .int a2] : List Value).toArray below meth c H locs 0 0 (Qi below ([.int a0, .int a1, .int a2] : List Value).toArray s D K A (fl []) r) (F0 m 0 ls []) from hW s.heap [] hP hS
  clear hP hS
  intro H locs hP hS
  refine lv_iload_n (pc := 0) hx hb d_Mod_isIn_0 rfl (lv_at hl 0 rfl) ?_
  refine lv_iload_n (pc := 1) hx hb d_Mod_isIn_1 rfl (lv_at hl 1 rfl) ?_
  refine lv_icmp_lt (tgt := 14) (pc := 2) hx hb d_Mod_isIn_2 (by decide) (fun c2 => ?_) (fun c2 => ?_)
  · replace hf := o_t c2 hf
    refine lv_iconst (v := 0) (pc := 14) hx hb d_Mod_isIn_14 (by decide) ?_
    cases hf
    exact ret_z hx hb hr hlocks hK hP hS rfl d_Mod_isIn_15
  · replace hf := o_f c2 hf
    refine lv_iload_n (pc := 5) hx hb d_Mod_isIn_5 rfl (lv_at hl 0 rfl) ?_
    refine lv_iload_n (pc := 6) hx hb d_Mod_isIn_6 rfl (lv_at hl 2 rfl) ?_
    refine lv_icmp_gt (tgt := 14) (pc := 7) hx hb d_Mod_isIn_7 (by decide) (fun c1 => ?_) (fun c1 => ?_)
    · replace hf := o_t c1 hf
      refine lv_iconst (v := 0) (pc := 14) hx hb d_Mod_isIn_14 (by decide) ?_
      cases hf
      exact ret_z hx hb hr hlocks hK hP hS rfl d_Mod_isIn_15
    · replace hf := o_f c1 hf
      refine lv_iconst (v := 1) (pc := 10) hx hb d_Mod_isIn_10 (by decide) ?_
      refine lv_goto (tgt := 15) (pc := 11) hx hb d_Mod_isIn_11 (by decide) ?_
      cases hf
      exact ret_z hx hb hr hlocks hK hP hS rfl d_Mod_isIn_15
def Mod_count_j26 (sMo_j26 : S_Mo) : Option (Int32 × S_Mo) := if 1000 < (Mo_looked sMo_j26) then some ((0, sMo_j26)) else some ((1, sMo_j26))
def Mod_count (a0 : Int32) (sMo : S_Mo) : Option (Int32 × S_Mo) := o_lt (Mo_set_looked sMo ((Mo_looked sMo) + 1)) fun sMo_1 => (if (Mo_looked sMo_1) ≤ 1000 then Mod_count_j26 sMo_1 else o_bd (Mod_wrong 2 a0 sMo_1) fun q2 => (Mod_count_j26 q2))
abbrev rm_Mod_count : Room := { frames := 1, cells := 0, slots := 0, locals := 22 }
set_option maxHeartbeats 4000000 in
set_option maxRecDepth 100000 in
theorem c_Mod_count (l : Launch) (D : va_G) (K : Nat → ClassId) (hMo : Nat → Nat) (sMo : S_Mo) (a0 : Int32) (r : Int32) (sMo' : S_Mo) (hf : Mod_count a0 sMo = some ((r, sMo'))) : mi l D K y_Mod_count ws_Mod_count rm_Mod_count [.ref (hMo 0), .int a0] (fl [wMo K hMo sMo]) (fl [wMo K hMo sMo']) r := by
  refine mi_of (cc := b_Mod_count) (maxL := 2) (own := "ObsMessagesModel") (by decide) rfl rfl (Nat.le_of_ble_eq_true rfl) ?_
  intro p e s m below meth c A ls hC hP hD hS hl
  obtain ⟨hx, hb, hml, hown, hts, hr, hlocks, hK, hF, hA⟩ := hC
  have hP : va_P D vwCl (fl [wMo K hMo sMo]) s.heap := hP
  have hl : lv_has ls 2 [(0, .ref (hMo 0)), (1, .int a0)] := hl
  suffices hW : ∀ (H : Heap) (locs : List Loc), va_P D vwCl (fl [wMo K hMo sMo]) H → va_S A s.heap H locs → W p l e rm_Mod_count s m ([.ref (hMo 0), .int a0] : List Value).toArray below meth c H locs 0 0 (Qi below ([.ref (hMo 0), .int a0] : List Value).toArray s D K A (fl [wMo K hMo sMo']) r) (F0 m 0 ls []) from hW s.heap [] hP hS
  clear hP hS
  intro H locs hP hS
  have J26 : ∀ (sMo_j26 : S_Mo) (H : Heap) (locs : List Loc) (ls : Array Slot), va_P D vwCl (fl [wMo K hMo sMo_j26]) H → va_D A (fl [wMo K hMo sMo_j26]) → va_S A s.heap H locs → lv_has ls 2 [(0, .ref (hMo 0))] → Mod_count_j26 sMo_j26 = some ((r, sMo')) → W p l e rm_Mod_count s m ([.ref (hMo 0), .int a0] : List Value).toArray below meth c H locs 0 0 (Qi below ([.ref (hMo 0), .int a0] : List Value).toArray s D K A (fl [wMo K hMo sMo']) r) (F0 m 26 ls []) := by
    intro sMo_j26 H locs ls hP hD hS hl hf
    refine lv_aload_n (pc := 26) hx hb d_Mod_count_26 rfl (lv_at hl 0 rfl) ?_
    refine va_get (D := D) (ci := 10) (v := .int (Mo_looked sMo_j26)) (C := R_Mod) (T := T_Mod) (N := 61) (pc := 27) hx hb hts (fun w h => List.mem_cons_of_mem _ (in_Mod w h)) hown hK hP _ (fl_at 0 0 rfl rfl) rfl 21 (by decide) (hts _ (List.mem_cons_of_mem _ tw_1114)) (fun _ h9 => h9) rfl d_Mod_count_27 ?_
    refine lv_sipush (v := 1000) (pc := 30) hx hb d_Mod_count_30 (by decide) ?_
    refine lv_icmp_gt (tgt := 40) (pc := 33) hx hb d_Mod_count_33 (by decide) (fun c4 => ?_) (fun c4 => ?_)
    · replace hf := o_t c4 hf
      refine lv_iconst (v := 0) (pc := 40) hx hb d_Mod_count_40 (by decide) ?_
      cases hf
      exact ret_z hx hb hr hlocks hK hP hS rfl d_Mod_count_41
    · replace hf := o_f c4 hf
      refine lv_iconst (v := 1) (pc := 36) hx hb d_Mod_count_36 (by decide) ?_
      refine lv_goto (tgt := 41) (pc := 37) hx hb d_Mod_count_37 (by decide) ?_
      cases hf
      exact ret_z hx hb hr hlocks hK hP hS rfl d_Mod_count_41
  refine lv_aload_n (pc := 0) hx hb d_Mod_count_0 rfl (lv_at hl 0 rfl) ?_
  refine lv_dup (pc := 1) hx hb d_Mod_count_1 rfl ?_
  refine va_get (D := D) (ci := 10) (v := .int (Mo_looked sMo)) (C := R_Mod) (T := T_Mod) (N := 61) (pc := 2) hx hb hts (fun w h => List.mem_cons_of_mem _ (in_Mod w h)) hown hK hP _ (fl_at 0 0 rfl rfl) rfl 21 (by decide) (hts _ (List.mem_cons_of_mem _ tw_1114)) (fun _ h9 => h9) rfl d_Mod_count_2 ?_
  refine lv_iconst (v := 1) (pc := 5) hx hb d_Mod_count_5 (by decide) ?_
  refine lv_iadd (pc := 6) hx hb d_Mod_count_6 ?_
  refine va_put (D := D) (ci := 10) (v := .int ((Mo_looked sMo) + 1)) (ty := .int) (C := R_Mod) (T := T_Mod) (N := 61) (pc := 7) hx hb hts (fun w h => List.mem_cons_of_mem _ (in_Mod w h)) ty_Mod ty_Mod_ok nm_Mod hown hK hP hD hS _ (fl_at 0 0 rfl rfl) rfl 21 (by decide) (hts _ (List.mem_cons_of_mem _ tw_1114)) (fun _ h9 => h9) rfl (by decide +kernel) rfl rfl (Nat.le_of_ble_eq_true rfl) d_Mod_count_7 (fun H locs hP hD hS => ?_)
  obtain ⟨sMo_1, esMo_1, hf⟩ := o_lt_e hf
  have hP : va_P D vwCl (fl [wMo K hMo sMo_1]) H := by rw [esMo_1]; exact fl_P 0 0 rfl (Nat.le_of_ble_eq_true rfl) rfl rfl hP
  have hD : va_D A (fl [wMo K hMo sMo_1]) := by rw [esMo_1]; exact fl_D 0 0 rfl (Nat.le_of_ble_eq_true rfl) rfl rfl hD
  refine lv_aload_n (pc := 10) hx hb d_Mod_count_10 rfl (lv_at hl 0 rfl) ?_
  refine va_get (D := D) (ci := 10) (v := .int (Mo_looked sMo_1)) (C := R_Mod) (T := T_Mod) (N := 61) (pc := 11) hx hb hts (fun w h => List.mem_cons_of_mem _ (in_Mod w h)) hown hK hP _ (fl_at 0 0 rfl rfl) rfl 21 (by decide) (hts _ (List.mem_cons_of_mem _ tw_1114)) (fun _ h9 => h9) rfl d_Mod_count_11 ?_
  refine lv_sipush (v := 1000) (pc := 14) hx hb d_Mod_count_14 (by decide) ?_
  refine lv_icmp_le (tgt := 26) (pc := 17) hx hb d_Mod_count_17 (by decide) (fun c3 => ?_) (fun c3 => ?_)
  · replace hf := o_t c3 hf
    exact J26 sMo_1 H locs ls hP hD hS (lv_sub hl [0] rfl) hf
  · replace hf := o_f c3 hf
    refine lv_aload_n (pc := 20) hx hb d_Mod_count_20 rfl (lv_at hl 0 rfl) ?_
    refine lv_iconst (v := 2) (pc := 21) hx hb d_Mod_count_21 (by decide) ?_
    refine lv_iload_n (pc := 22) hx hb d_Mod_count_22 rfl (lv_at hl 1 rfl) ?_
    obtain ⟨q2, hq2, hf⟩ := o_bd_e hf
    refine fi_v (pc := 23) (va_runV (As := [.int 2, .int a0]) (rest := []) ⟨hx, hb, hml, hown, hts⟩ ((c_Mod_wrong l D K hMo sMo_1 2 a0 q2 hq2) _) (cwV 2 hts (gV tw_1340 tw_1342 tp_44 tw_12 tw_1343) rfl rfl rfl (by decide +kernel) ⟨by decide, by decide⟩) ⟨mPre_blind, va_recv hK hP (ci := 10) rfl (fl_at 0 0 rfl rfl), (mPre_fl hK hF hA hP hD hS [0] rfl rfl)⟩ rfl rfl hl.1 rfl (lv_room (Nat.le_of_ble_eq_true rfl)) d_Mod_count_23 ⟨Nat.zero_le _, Nat.zero_le _⟩) hA hP hD hS [0] rfl rfl (fun H locs hP hD hS => ?_)
    have hP : va_P D vwCl (fl [wMo K hMo q2]) H := hP
    have hD : va_D A (fl [wMo K hMo q2]) := hD
    exact J26 q2 H locs ls hP hD hS (lv_sub hl [0] rfl) hf
def Mod_fault (a0 : Int32) (sMo : S_Mo) : Option (Int32 × S_Mo) := o_lt (Mo_set_thrown sMo 0) fun sMo_1 => (if a0 = 0 then some ((Mo_fault sMo_1, sMo_1)) else if a0 = 1 then some ((Mo_place sMo_1, sMo_1)) else some (((-1), sMo_1)))
abbrev rm_Mod_fault : Room := { frames := 0, cells := 0, slots := 0, locals := 0 }
set_option maxHeartbeats 4000000 in
set_option maxRecDepth 100000 in
theorem c_Mod_fault (l : Launch) (D : va_G) (K : Nat → ClassId) (hMo : Nat → Nat) (sMo : S_Mo) (a0 : Int32) (r : Int32) (sMo' : S_Mo) (hf : Mod_fault a0 sMo = some ((r, sMo'))) : mi l D K y_Mod_fault ws_Mod_fault rm_Mod_fault [.ref (hMo 0), .int a0] (fl [wMo K hMo sMo]) (fl [wMo K hMo sMo']) r := by
  refine mi_of (cc := b_Mod_fault) (maxL := 2) (own := "ObsMessagesModel") (by decide) rfl rfl (Nat.le_of_ble_eq_true rfl) ?_
  intro p e s m below meth c A ls hC hP hD hS hl
  obtain ⟨hx, hb, hml, hown, hts, hr, hlocks, hK, hF, hA⟩ := hC
  have hP : va_P D vwCl (fl [wMo K hMo sMo]) s.heap := hP
  have hl : lv_has ls 2 [(0, .ref (hMo 0)), (1, .int a0)] := hl
  suffices hW : ∀ (H : Heap) (locs : List Loc), va_P D vwCl (fl [wMo K hMo sMo]) H → va_S A s.heap H locs → W p l e rm_Mod_fault s m ([.ref (hMo 0), .int a0] : List Value).toArray below meth c H locs 0 0 (Qi below ([.ref (hMo 0), .int a0] : List Value).toArray s D K A (fl [wMo K hMo sMo']) r) (F0 m 0 ls []) from hW s.heap [] hP hS
  clear hP hS
  intro H locs hP hS
  refine lv_aload_n (pc := 0) hx hb d_Mod_fault_0 rfl (lv_at hl 0 rfl) ?_
  refine lv_iconst (v := 0) (pc := 1) hx hb d_Mod_fault_1 (by decide) ?_
  refine va_put (D := D) (ci := 10) (v := .int 0) (ty := .int) (C := R_Mod) (T := T_Mod) (N := 61) (pc := 2) hx hb hts (fun w h => List.mem_cons_of_mem _ (in_Mod w h)) ty_Mod ty_Mod_ok nm_Mod hown hK hP hD hS _ (fl_at 0 0 rfl rfl) rfl 0 (by decide) (hts _ (List.mem_cons_of_mem _ tw_1093)) (fun _ h9 => h9) rfl (by decide +kernel) rfl rfl (Nat.le_of_ble_eq_true rfl) d_Mod_fault_2 (fun H locs hP hD hS => ?_)
  obtain ⟨sMo_1, esMo_1, hf⟩ := o_lt_e hf
  have hP : va_P D vwCl (fl [wMo K hMo sMo_1]) H := by rw [esMo_1]; exact fl_P 0 0 rfl (Nat.le_of_ble_eq_true rfl) rfl rfl hP
  have hD : va_D A (fl [wMo K hMo sMo_1]) := by rw [esMo_1]; exact fl_D 0 0 rfl (Nat.le_of_ble_eq_true rfl) rfl rfl hD
  refine lv_iload_n (pc := 5) hx hb d_Mod_fault_5 rfl (lv_at hl 1 rfl) ?_
  refine lv_if_ne (tgt := 16) (pc := 6) hx hb d_Mod_fault_6 (by decide) (fun c3 => ?_) (fun c3 => ?_)
  · replace hf := o_f c3 hf
    refine lv_iload_n (pc := 16) hx hb d_Mod_fault_16 rfl (lv_at hl 1 rfl) ?_
    refine lv_iconst (v := 1) (pc := 17) hx hb d_Mod_fault_17 (by decide) ?_
    refine lv_icmp_ne (tgt := 28) (pc := 18) hx hb d_Mod_fault_18 (by decide) (fun c2 => ?_) (fun c2 => ?_)
    · replace hf := o_f c2 hf
      refine lv_iconst (v := (-1)) (pc := 28) hx hb d_Mod_fault_28 (by decide) ?_
      cases hf
      exact ret_i hx hb hr hlocks hK hP hS d_Mod_fault_29
    · replace hf := o_t c2 hf
      refine lv_aload_n (pc := 21) hx hb d_Mod_fault_21 rfl (lv_at hl 0 rfl) ?_
      refine va_get (D := D) (ci := 10) (v := .int (Mo_place sMo_1)) (C := R_Mod) (T := T_Mod) (N := 61) (pc := 22) hx hb hts (fun w h => List.mem_cons_of_mem _ (in_Mod w h)) hown hK hP _ (fl_at 0 0 rfl rfl) rfl 9 (by decide) (hts _ (List.mem_cons_of_mem _ tw_1102)) (fun _ h9 => h9) rfl d_Mod_fault_22 ?_
      refine lv_goto (tgt := 29) (pc := 25) hx hb d_Mod_fault_25 (by decide) ?_
      cases hf
      exact ret_i hx hb hr hlocks hK hP hS d_Mod_fault_29
  · replace hf := o_t c3 hf
    refine lv_aload_n (pc := 9) hx hb d_Mod_fault_9 rfl (lv_at hl 0 rfl) ?_
    refine va_get (D := D) (ci := 10) (v := .int (Mo_fault sMo_1)) (C := R_Mod) (T := T_Mod) (N := 61) (pc := 10) hx hb hts (fun w h => List.mem_cons_of_mem _ (in_Mod w h)) hown hK hP _ (fl_at 0 0 rfl rfl) rfl 8 (by decide) (hts _ (List.mem_cons_of_mem _ tw_1101)) (fun _ h9 => h9) rfl d_Mod_fault_10 ?_
    refine lv_goto (tgt := 29) (pc := 13) hx hb d_Mod_fault_13 (by decide) ?_
    cases hf
    exact ret_i hx hb hr hlocks hK hP hS d_Mod_fault_29
def Mod_wrongAt (a0 : Int32) (a1 : Int32) (sMo : S_Mo) : Option (S_Mo) := if (Mo_mode sMo) = 3 then o_bd (Mod_wrong a0 ((100 * 0) + a1) sMo) fun q2 => (some q2) else o_bd (Mod_wrong a0 ((100 * (Mo_subset sMo)) + a1) sMo) fun q1 => (some q1)
abbrev rm_Mod_wrongAt : Room := { frames := 1, cells := 0, slots := 0, locals := 22 }
set_option maxHeartbeats 4000000 in
set_option maxRecDepth 100000 in
theorem c_Mod_wrongAt (l : Launch) (D : va_G) (K : Nat → ClassId) (hMo : Nat → Nat) (sMo : S_Mo) (a0 : Int32) (a1 : Int32) (sMo' : S_Mo) (hf : Mod_wrongAt a0 a1 sMo = some sMo') : mv l D K y_Mod_wrongAt ws_Mod_wrongAt rm_Mod_wrongAt [.ref (hMo 0), .int a0, .int a1] (fl [wMo K hMo sMo]) (fl [wMo K hMo sMo']) := by
  refine mv_of (cc := b_Mod_wrongAt) (maxL := 3) (own := "ObsMessagesModel") (by decide) rfl rfl (Nat.le_of_ble_eq_true rfl) ?_
  intro p e s m below meth c A ls hC hP hD hS hl
  obtain ⟨hx, hb, hml, hown, hts, hr, hlocks, hK, hF, hA⟩ := hC
  have hP : va_P D vwCl (fl [wMo K hMo sMo]) s.heap := hP
  have hl : lv_has ls 3 [(0, .ref (hMo 0)), (1, .int a0), (2, .int a1)] := hl
  suffices hW : ∀ (H : Heap) (locs : List Loc), va_P D vwCl (fl [wMo K hMo sMo]) H → va_S A s.heap H locs → W p l e rm_Mod_wrongAt s m ([.ref (hMo 0), .int a0, .int a1] : List Value).toArray below meth c H locs 0 0 (Qv below ([.ref (hMo 0), .int a0, .int a1] : List Value).toArray s D K A (fl [wMo K hMo sMo'])) (F0 m 0 ls []) from hW s.heap [] hP hS
  clear hP hS
  intro H locs hP hS
  refine lv_aload_n (pc := 0) hx hb d_Mod_wrongAt_0 rfl (lv_at hl 0 rfl) ?_
  refine lv_iload_n (pc := 1) hx hb d_Mod_wrongAt_1 rfl (lv_at hl 1 rfl) ?_
  refine lv_bipush (v := 100) (pc := 2) hx hb d_Mod_wrongAt_2 (by decide) ?_
  refine lv_aload_n (pc := 4) hx hb d_Mod_wrongAt_4 rfl (lv_at hl 0 rfl) ?_
  refine va_get (D := D) (ci := 10) (v := .int (Mo_mode sMo)) (C := R_Mod) (T := T_Mod) (N := 61) (pc := 5) hx hb hts (fun w h => List.mem_cons_of_mem _ (in_Mod w h)) hown hK hP _ (fl_at 0 0 rfl rfl) rfl 35 (by decide) (hts _ (List.mem_cons_of_mem _ tw_1128)) (fun _ h9 => h9) rfl d_Mod_wrongAt_5 ?_
  refine lv_iconst (v := 3) (pc := 8) hx hb d_Mod_wrongAt_8 (by decide) ?_
  refine lv_icmp_ne (tgt := 16) (pc := 9) hx hb d_Mod_wrongAt_9 (by decide) (fun c3 => ?_) (fun c3 => ?_)
  · replace hf := o_f c3 hf
    refine lv_aload_n (pc := 16) hx hb d_Mod_wrongAt_16 rfl (lv_at hl 0 rfl) ?_
    refine va_get (D := D) (ci := 10) (v := .int (Mo_subset sMo)) (C := R_Mod) (T := T_Mod) (N := 61) (pc := 17) hx hb hts (fun w h => List.mem_cons_of_mem _ (in_Mod w h)) hown hK hP _ (fl_at 0 0 rfl rfl) rfl 36 (by decide) (hts _ (List.mem_cons_of_mem _ tw_1129)) (fun _ h9 => h9) rfl d_Mod_wrongAt_17 ?_
    refine lv_imul (pc := 20) hx hb d_Mod_wrongAt_20 ?_
    refine lv_iload_n (pc := 21) hx hb d_Mod_wrongAt_21 rfl (lv_at hl 2 rfl) ?_
    refine lv_iadd (pc := 22) hx hb d_Mod_wrongAt_22 ?_
    obtain ⟨q1, hq1, hf⟩ := o_bd_e hf
    refine fi_v (pc := 23) (va_runV (As := [.int a0, .int ((100 * (Mo_subset sMo)) + a1)]) (rest := []) ⟨hx, hb, hml, hown, hts⟩ ((c_Mod_wrong l D K hMo sMo a0 ((100 * (Mo_subset sMo)) + a1) q1 hq1) _) (cwV 2 hts (gV tw_1340 tw_1342 tp_44 tw_12 tw_1343) rfl rfl rfl (by decide +kernel) ⟨by decide, by decide⟩) ⟨mPre_blind, va_recv hK hP (ci := 10) rfl (fl_at 0 0 rfl rfl), (mPre_fl hK hF hA hP hD hS [0] rfl rfl)⟩ rfl rfl hl.1 rfl (lv_room (Nat.le_of_ble_eq_true rfl)) d_Mod_wrongAt_23 ⟨Nat.zero_le _, Nat.zero_le _⟩) hA hP hD hS [0] rfl rfl (fun H locs hP hD hS => ?_)
    have hP : va_P D vwCl (fl [wMo K hMo q1]) H := hP
    have hD : va_D A (fl [wMo K hMo q1]) := hD
    cases hf
    exact ret_v hx hb hr hlocks hK hP hS d_Mod_wrongAt_26
  · replace hf := o_t c3 hf
    refine lv_iconst (v := 0) (pc := 12) hx hb d_Mod_wrongAt_12 (by decide) ?_
    refine lv_goto (tgt := 20) (pc := 13) hx hb d_Mod_wrongAt_13 (by decide) ?_
    refine lv_imul (pc := 20) hx hb d_Mod_wrongAt_20 ?_
    refine lv_iload_n (pc := 21) hx hb d_Mod_wrongAt_21 rfl (lv_at hl 2 rfl) ?_
    refine lv_iadd (pc := 22) hx hb d_Mod_wrongAt_22 ?_
    obtain ⟨q2, hq2, hf⟩ := o_bd_e hf
    refine fi_v (pc := 23) (va_runV (As := [.int a0, .int ((100 * 0) + a1)]) (rest := []) ⟨hx, hb, hml, hown, hts⟩ ((c_Mod_wrong l D K hMo sMo a0 ((100 * 0) + a1) q2 hq2) _) (cwV 2 hts (gV tw_1340 tw_1342 tp_44 tw_12 tw_1343) rfl rfl rfl (by decide +kernel) ⟨by decide, by decide⟩) ⟨mPre_blind, va_recv hK hP (ci := 10) rfl (fl_at 0 0 rfl rfl), (mPre_fl hK hF hA hP hD hS [0] rfl rfl)⟩ rfl rfl hl.1 rfl (lv_room (Nat.le_of_ble_eq_true rfl)) d_Mod_wrongAt_23 ⟨Nat.zero_le _, Nat.zero_le _⟩) hA hP hD hS [0] rfl rfl (fun H locs hP hD hS => ?_)
    have hP : va_P D vwCl (fl [wMo K hMo q2]) H := hP
    have hD : va_D A (fl [wMo K hMo q2]) := hD
    cases hf
    exact ret_v hx hb hr hlocks hK hP hS d_Mod_wrongAt_26
def Mod_most (a0 : Int32) : Option (Int64) := some ((1 <<< ((a0 : Int32).toInt64 &&& 63)) - 1)
abbrev rm_Mod_most : Room := { frames := 0, cells := 0, slots := 0, locals := 0 }
set_option maxHeartbeats 4000000 in
set_option maxRecDepth 100000 in
theorem c_Mod_most (l : Launch) (D : va_G) (K : Nat → ClassId) (a0 : Int32) (r : Int64) (hf : Mod_most a0 = some r) : ml l D K y_Mod_most ws_Mod_most rm_Mod_most [.int a0] (fl []) (fl []) r := by
  refine ml_of (cc := b_Mod_most) (maxL := 1) (own := "ObsMessagesModel") (by decide) rfl rfl (Nat.le_of_ble_eq_true rfl) ?_
  intro p e s m below meth c A ls hC hP hD hS hl
  obtain ⟨hx, hb, hml, hown, hts, hr, hlocks, hK, hF, hA⟩ := hC
  have hP : va_P D vwCl (fl []) s.heap := hP
  have hl : lv_has ls 1 [(0, .int a0)] := hl
  suffices hW : ∀ (H : Heap) (locs : List Loc), va_P D vwCl (fl []) H → va_S A s.heap H locs → W p l e rm_Mod_most s m ([.int a0] : List Value).toArray below meth c H locs 0 0 (Ql below ([.int a0] : List Value).toArray s D K A (fl []) r) (F0 m 0 ls []) from hW s.heap [] hP hS
  clear hP hS
  intro H locs hP hS
  refine lv_lconst (v := 1) (pc := 0) hx hb d_Mod_most_0 (by decide) ?_
  refine lv_iload_n (pc := 1) hx hb d_Mod_most_1 rfl (lv_at hl 0 rfl) ?_
  refine lv_lshl (pc := 2) hx hb d_Mod_most_2 rfl ?_
  refine lv_lconst (v := 1) (pc := 3) hx hb d_Mod_most_3 (by decide) ?_
  refine lv_lsub (pc := 4) hx hb d_Mod_most_4 ?_
  cases hf
  exact ret_l hx hb hr hlocks hK hP hS d_Mod_most_5
def Mod_take_j55 (fu : Nat) (sMbits : (Nat → Int32)) (kc_27 : Int64 → Int32 → S_Mo → Option (Int64 × S_Mo)) (x1_L27 : Int32) (x5_j55 : Int32) (t0_j55 : Int64) (t1_j55 : Int64) (sMo_j55 : S_Mo) : Option (Int64 × S_Mo) := o_lt (Mo_set_at sMo_j55 ((Mo_at sMo_j55) + 1)) fun sMo_4 => (kc_27 (t0_j55 + t1_j55) (x5_j55 + 1) sMo_4)
def Mod_take_L27 (fu : Nat) (sMbits : (Nat → Int32)) (x1_L27 : Int32) : Nat → Int64 → Int32 → S_Mo → Option (Int64 × S_Mo)
  | 0, _, _, _ => none
  | n + 1, x3_L27, x5_L27, sMo_L27 => if x1_L27 ≤ x5_L27 then some ((x3_L27, sMo_L27)) else o_gd (o_in (Mo_at sMo_L27) 40000) (if (sMbits (Mo_at sMo_L27 : Int32).toNatClampNeg) = 0 then Mod_take_j55 fu sMbits (fun v0 v1 v2 => Mod_take_L27 fu sMbits x1_L27 n v0 v1 v2) x1_L27 x5_L27 (2 * x3_L27) 0 sMo_L27 else Mod_take_j55 fu sMbits (fun v0 v1 v2 => Mod_take_L27 fu sMbits x1_L27 n v0 v1 v2) x1_L27 x5_L27 (2 * x3_L27) 1 sMo_L27)
def Mod_take (fu : Nat) (sMbits : (Nat → Int32)) (a0 : Int32) (a1 : Int32) (sMo : S_Mo) : Option (Int64 × S_Mo) := if ((Mo_at sMo) + a0) ≤ (Mo_many sMo) then Mod_take_L27 fu sMbits a0 fu 0 0 sMo else o_bd (Mod_wrongAt 12 a1 sMo) fun q5 => (some ((0, q5)))
abbrev rm_Mod_take : Room := { frames := 2, cells := 0, slots := 0, locals := 44 }
set_option maxHeartbeats 4000000 in
set_option maxRecDepth 100000 in
theorem c_Mod_take (l : Launch) (D : va_G) (K : Nat → ClassId) (fu : Nat) (hMo : Nat → Nat) (sMo : S_Mo) (sMbits : (Nat → Int32)) (a0 : Int32) (a1 : Int32) (r : Int64) (sMo' : S_Mo) (hf : Mod_take fu sMbits a0 a1 sMo = some ((r, sMo'))) : ml l D K y_Mod_take ws_Mod_take rm_Mod_take [.ref (hMo 0), .int a0, .int a1] (fl [wMo K hMo sMo, wRowZ K (fun _ => hMo 26) 40000 sMbits]) (fl [wMo K hMo sMo', wRowZ K (fun _ => hMo 26) 40000 sMbits]) r := by
  refine ml_of (cc := b_Mod_take) (maxL := 6) (own := "ObsMessagesModel") (by decide) rfl rfl (Nat.le_of_ble_eq_true rfl) ?_
  intro p e s m below meth c A ls hC hP hD hS hl
  obtain ⟨hx, hb, hml, hown, hts, hr, hlocks, hK, hF, hA⟩ := hC
  have hP : va_P D vwCl (fl [wMo K hMo sMo, wRowZ K (fun _ => hMo 26) 40000 sMbits]) s.heap := hP
  have hl : lv_has ls 6 [(0, .ref (hMo 0)), (1, .int a0), (2, .int a1)] := hl
  suffices hW : ∀ (H : Heap) (locs : List Loc), va_P D vwCl (fl [wMo K hMo sMo, wRowZ K (fun _ => hMo 26) 40000 sMbits]) H → va_S A s.heap H locs → W p l e rm_Mod_take s m ([.ref (hMo 0), .int a0, .int a1] : List Value).toArray below meth c H locs 0 0 (Ql below ([.ref (hMo 0), .int a0, .int a1] : List Value).toArray s D K A (fl [wMo K hMo sMo', wRowZ K (fun _ => hMo 26) 40000 sMbits]) r) (F0 m 0 ls []) from hW s.heap [] hP hS
  clear hP hS
  intro H locs hP hS
  refine lv_lconst (v := 0) (pc := 0) hx hb d_Mod_take_0 (by decide) ?_
  refine lv_lstore_n (lv' := [(3, .long 0), (0, .ref (hMo 0)), (1, .int a0), (2, .int a1)]) (pc := 1) hx hb d_Mod_take_1 rfl hl (by decide) rfl (fun ls hl => ?_)
  refine lv_aload_n (pc := 2) hx hb d_Mod_take_2 rfl (lv_at hl 1 rfl) ?_
  refine va_get (D := D) (ci := 10) (v := .int (Mo_at sMo)) (C := R_Mod) (T := T_Mod) (N := 61) (pc := 3) hx hb hts (fun w h => List.mem_cons_of_mem _ (in_Mod w h)) hown hK hP _ (fl_at 0 0 rfl rfl) rfl 41 (by decide) (hts _ (List.mem_cons_of_mem _ tw_1134)) (fun _ h9 => h9) rfl d_Mod_take_3 ?_
  refine lv_iload_n (pc := 6) hx hb d_Mod_take_6 rfl (lv_at hl 2 rfl) ?_
  refine lv_iadd (pc := 7) hx hb d_Mod_take_7 ?_
  refine lv_aload_n (pc := 8) hx hb d_Mod_take_8 rfl (lv_at hl 1 rfl) ?_
  refine va_get (D := D) (ci := 10) (v := .int (Mo_many sMo)) (C := R_Mod) (T := T_Mod) (N := 61) (pc := 9) hx hb hts (fun w h => List.mem_cons_of_mem _ (in_Mod w h)) hown hK hP _ (fl_at 0 0 rfl rfl) rfl 40 (by decide) (hts _ (List.mem_cons_of_mem _ tw_1133)) (fun _ h9 => h9) rfl d_Mod_take_9 ?_
  refine lv_icmp_le (tgt := 24) (pc := 12) hx hb d_Mod_take_12 (by decide) (fun c6 => ?_) (fun c6 => ?_)
  · replace hf := o_t c6 hf
    refine lv_iconst (v := 0) (pc := 24) hx hb d_Mod_take_24 (by decide) ?_
    refine lv_istore (lv' := [(5, .int 0), (3, .long 0), (0, .ref (hMo 0)), (1, .int a0), (2, .int a1)]) (pc := 25) hx hb d_Mod_take_25 hl (by decide) rfl (fun ls hl => ?_)
    have L27 : ∀ (x1_L27 : Int32) (n : Nat) (x3_L27 : Int64) (x5_L27 : Int32) (sMo_L27 : S_Mo) (H : Heap) (locs : List Loc) (ls : Array Slot), va_P D vwCl (fl [wMo K hMo sMo_L27, wRowZ K (fun _ => hMo 26) 40000 sMbits]) H → va_D A (fl [wMo K hMo sMo_L27, wRowZ K (fun _ => hMo 26) 40000 sMbits]) → va_S A s.heap H locs → lv_has ls 6 [(0, .ref (hMo 0)), (1, .int x1_L27), (3, .long x3_L27), (5, .int x5_L27)] → Mod_take_L27 fu sMbits x1_L27 n x3_L27 x5_L27 sMo_L27 = some ((r, sMo')) → W p l e rm_Mod_take s m ([.ref (hMo 0), .int a0, .int a1] : List Value).toArray below meth c H locs 0 0 (Ql below ([.ref (hMo 0), .int a0, .int a1] : List Value).toArray s D K A (fl [wMo K hMo sMo', wRowZ K (fun _ => hMo 26) 40000 sMbits]) r) (F0 m 27 ls []) := by
      intro x1_L27 n
      induction n with
      | zero =>
        intro x3_L27 x5_L27 sMo_L27 H locs ls hP hD hS hl hf
        exact absurd hf (fun h => nomatch h)
      | succ n_27 ih_27 =>
        intro x3_L27 x5_L27 sMo_L27 H locs ls hP hD hS hl hf
        have J55 : ∀ (x5_j55 : Int32) (t0_j55 : Int64) (t1_j55 : Int64) (sMo_j55 : S_Mo) (H : Heap) (locs : List Loc) (ls : Array Slot), va_P D vwCl (fl [wMo K hMo sMo_j55, wRowZ K (fun _ => hMo 26) 40000 sMbits]) H → va_D A (fl [wMo K hMo sMo_j55, wRowZ K (fun _ => hMo 26) 40000 sMbits]) → va_S A s.heap H locs → lv_has ls 6 [(0, .ref (hMo 0)), (1, .int x1_L27), (5, .int x5_j55)] → Mod_take_j55 fu sMbits (fun v0 v1 v2 => Mod_take_L27 fu sMbits x1_L27 n_27 v0 v1 v2) x1_L27 x5_j55 t0_j55 t1_j55 sMo_j55 = some ((r, sMo')) → W p l e rm_Mod_take s m ([.ref (hMo 0), .int a0, .int a1] : List Value).toArray below meth c H locs 0 0 (Ql below ([.ref (hMo 0), .int a0, .int a1] : List Value).toArray s D K A (fl [wMo K hMo sMo', wRowZ K (fun _ => hMo 26) 40000 sMbits]) r) (F0 m 55 ls [.long t1_j55, .long t0_j55]) := by
          intro x5_j55 t0_j55 t1_j55 sMo_j55 H locs ls hP hD hS hl hf
          refine lv_ladd (pc := 55) hx hb d_Mod_take_55 ?_
          refine lv_lstore_n (lv' := [(3, .long (t0_j55 + t1_j55)), (0, .ref (hMo 0)), (1, .int x1_L27), (5, .int x5_j55)]) (pc := 56) hx hb d_Mod_take_56 rfl hl (by decide) rfl (fun ls hl => ?_)
          refine lv_aload_n (pc := 57) hx hb d_Mod_take_57 rfl (lv_at hl 1 rfl) ?_
          refine lv_dup (pc := 58) hx hb d_Mod_take_58 rfl ?_
          refine va_get (D := D) (ci := 10) (v := .int (Mo_at sMo_j55)) (C := R_Mod) (T := T_Mod) (N := 61) (pc := 59) hx hb hts (fun w h => List.mem_cons_of_mem _ (in_Mod w h)) hown hK hP _ (fl_at 0 0 rfl rfl) rfl 41 (by decide) (hts _ (List.mem_cons_of_mem _ tw_1134)) (fun _ h9 => h9) rfl d_Mod_take_59 ?_
          refine lv_iconst (v := 1) (pc := 62) hx hb d_Mod_take_62 (by decide) ?_
          refine lv_iadd (pc := 63) hx hb d_Mod_take_63 ?_
          refine va_put (D := D) (ci := 10) (v := .int ((Mo_at sMo_j55) + 1)) (ty := .int) (C := R_Mod) (T := T_Mod) (N := 61) (pc := 64) hx hb hts (fun w h => List.mem_cons_of_mem _ (in_Mod w h)) ty_Mod ty_Mod_ok nm_Mod hown hK hP hD hS _ (fl_at 0 0 rfl rfl) rfl 41 (by decide) (hts _ (List.mem_cons_of_mem _ tw_1134)) (fun _ h9 => h9) rfl (by decide +kernel) rfl rfl (Nat.le_of_ble_eq_true rfl) d_Mod_take_64 (fun H locs hP hD hS => ?_)
          obtain ⟨sMo_4, esMo_4, hf⟩ := o_lt_e hf
          have hP : va_P D vwCl (fl [wMo K hMo sMo_4, wRowZ K (fun _ => hMo 26) 40000 sMbits]) H := by rw [esMo_4]; exact fl_P 0 0 rfl (Nat.le_of_ble_eq_true rfl) rfl rfl hP
          have hD : va_D A (fl [wMo K hMo sMo_4, wRowZ K (fun _ => hMo 26) 40000 sMbits]) := by rw [esMo_4]; exact fl_D 0 0 rfl (Nat.le_of_ble_eq_true rfl) rfl rfl hD
          refine lv_iinc (v := x5_j55 + 1) (lv' := [(5, .int (x5_j55 + 1)), (3, .long (t0_j55 + t1_j55)), (0, .ref (hMo 0)), (1, .int x1_L27)]) (pc := 67) hx hb d_Mod_take_67 hl (k := 3) rfl rfl (by decide) rfl (fun ls hl => ?_)
          refine lv_goto (tgt := 27) (pc := 70) hx hb d_Mod_take_70 (by decide) ?_
          exact ih_27 (t0_j55 + t1_j55) (x5_j55 + 1) sMo_4 H locs ls hP hD hS (lv_sub hl [2, 3, 1, 0] rfl) hf
        refine lv_iload (pc := 27) hx hb d_Mod_take_27 (lv_at hl 3 rfl) ?_
        refine lv_iload_n (pc := 29) hx hb d_Mod_take_29 rfl (lv_at hl 1 rfl) ?_
        refine lv_icmp_ge (tgt := 73) (pc := 30) hx hb d_Mod_take_30 (by decide) (fun c3 => ?_) (fun c3 => ?_)
        · replace hf := o_t c3 hf
          refine lv_lload_n (pc := 73) hx hb d_Mod_take_73 rfl (lv_at hl 2 rfl) ?_
          cases hf
          exact ret_l hx hb hr hlocks hK hP hS d_Mod_take_74
        · replace hf := o_f c3 hf
          refine lv_ldc2 (pc := 33) hx hb hown (hts _ (List.mem_cons_of_mem _ tw_1436)) d_Mod_take_33 ?_
          refine lv_lload_n (pc := 36) hx hb d_Mod_take_36 rfl (lv_at hl 2 rfl) ?_
          refine lv_lmul (pc := 37) hx hb d_Mod_take_37 ?_
          refine lv_aload_n (pc := 38) hx hb d_Mod_take_38 rfl (lv_at hl 0 rfl) ?_
          refine va_get (D := D) (ci := 10) (v := .ref (hMo 26)) (C := R_Mod) (T := T_Mod) (N := 61) (pc := 39) hx hb hts (fun w h => List.mem_cons_of_mem _ (in_Mod w h)) hown hK hP _ (fl_at 0 0 rfl rfl) rfl 38 (by decide) (hts _ (List.mem_cons_of_mem _ tw_1131)) (fun _ h9 => h9) rfl d_Mod_take_39 ?_
          refine lv_aload_n (pc := 42) hx hb d_Mod_take_42 rfl (lv_at hl 0 rfl) ?_
          refine va_get (D := D) (ci := 10) (v := .int (Mo_at sMo_L27)) (C := R_Mod) (T := T_Mod) (N := 61) (pc := 43) hx hb hts (fun w h => List.mem_cons_of_mem _ (in_Mod w h)) hown hK hP _ (fl_at 0 0 rfl rfl) rfl 41 (by decide) (hts _ (List.mem_cons_of_mem _ tw_1134)) (fun _ h9 => h9) rfl d_Mod_take_43 ?_
          obtain ⟨hi1, hf⟩ := o_gi_e hf
          refine va_zald (D := D) (pc := 46) hx hb hK hP _ 3 (fl_at 1 0 rfl rfl) rfl hi1 d_Mod_take_46 ?_
          refine lv_if_eq (tgt := 54) (pc := 47) hx hb d_Mod_take_47 (by decide) (fun c2 => ?_) (fun c2 => ?_)
          · replace hf := o_t c2 hf
            refine lv_lconst (v := 0) (pc := 54) hx hb d_Mod_take_54 (by decide) ?_
            exact J55 x5_L27 (2 * x3_L27) 0 sMo_L27 H locs ls hP hD hS (lv_sub hl [0, 1, 3] rfl) hf
          · replace hf := o_f c2 hf
            refine lv_lconst (v := 1) (pc := 50) hx hb d_Mod_take_50 (by decide) ?_
            refine lv_goto (tgt := 55) (pc := 51) hx hb d_Mod_take_51 (by decide) ?_
            exact J55 x5_L27 (2 * x3_L27) 1 sMo_L27 H locs ls hP hD hS (lv_sub hl [0, 1, 3] rfl) hf
    exact L27 a0 fu 0 0 sMo H locs ls hP hD hS (lv_sub hl [2, 3, 1, 0] rfl) hf
  · replace hf := o_f c6 hf
    refine lv_aload_n (pc := 15) hx hb d_Mod_take_15 rfl (lv_at hl 1 rfl) ?_
    refine lv_bipush (v := 12) (pc := 16) hx hb d_Mod_take_16 (by decide) ?_
    refine lv_iload_n (pc := 18) hx hb d_Mod_take_18 rfl (lv_at hl 3 rfl) ?_
    obtain ⟨q5, hq5, hf⟩ := o_bd_e hf
    refine fi_v (pc := 19) (va_runV (As := [.int 12, .int a1]) (rest := []) ⟨hx, hb, hml, hown, hts⟩ ((c_Mod_wrongAt l D K hMo sMo 12 a1 q5 hq5) _) (cwV 2 hts (gV tw_1404 tw_1406 tp_53 tw_12 tw_1407) rfl rfl rfl (by decide +kernel) ⟨by decide, by decide⟩) ⟨mPre_blind, va_recv hK hP (ci := 10) rfl (fl_at 0 0 rfl rfl), (mPre_fl hK hF hA hP hD hS [0] rfl rfl)⟩ rfl rfl hl.1 rfl (lv_room (Nat.le_of_ble_eq_true rfl)) d_Mod_take_19 ⟨Nat.zero_le _, Nat.zero_le _⟩) hA hP hD hS [0] rfl rfl (fun H locs hP hD hS => ?_)
    have hP : va_P D vwCl (fl [wMo K hMo q5, wRowZ K (fun _ => hMo 26) 40000 sMbits]) H := hP
    have hD : va_D A (fl [wMo K hMo q5, wRowZ K (fun _ => hMo 26) 40000 sMbits]) := hD
    refine lv_lconst (v := 0) (pc := 22) hx hb d_Mod_take_22 (by decide) ?_
    cases hf
    exact ret_l hx hb hr hlocks hK hP hS d_Mod_take_23
def Mod_meant (sMo : S_Mo) (sMkind : (Nat → Int32)) (sMwidth : (Nat → Int32)) (sMbase : (Nat → Int64)) (a0 : Int32) (a1 : Int64) : Option (Int64) := o_gd (o_in a0 101) (if (sMkind (a0 : Int32).toNatClampNeg) = 3 then some a1 else o_gd (o_in a0 101) (o_bd (Mod_most (sMwidth (a0 : Int32).toNatClampNeg)) fun q3 => (if a1 = q3 then some ((-9000000000000000000)) else o_gd (o_in a0 101) (some (a1 + (sMbase (a0 : Int32).toNatClampNeg))))))
abbrev rm_Mod_meant : Room := { frames := 1, cells := 0, slots := 0, locals := 20 }
set_option maxHeartbeats 4000000 in
set_option maxRecDepth 100000 in
theorem c_Mod_meant (l : Launch) (D : va_G) (K : Nat → ClassId) (hMo : Nat → Nat) (sMo : S_Mo) (sMkind : (Nat → Int32)) (sMwidth : (Nat → Int32)) (sMbase : (Nat → Int64)) (a0 : Int32) (a1 : Int64) (r : Int64) (hf : Mod_meant sMo sMkind sMwidth sMbase a0 a1 = some r) : ml l D K y_Mod_meant ws_Mod_meant rm_Mod_meant [.ref (hMo 0), .int a0, .long a1] (fl [wMo K hMo sMo, wRowI K (fun _ => hMo 17) 101 sMkind, wRowI K (fun _ => hMo 19) 101 sMwidth, wRow K (fun _ => hMo 23) 101 sMbase]) (fl [wMo K hMo sMo, wRowI K (fun _ => hMo 17) 101 sMkind, wRowI K (fun _ => hMo 19) 101 sMwidth, wRow K (fun _ => hMo 23) 101 sMbase]) r := by
  refine ml_of (cc := b_Mod_meant) (maxL := 4) (own := "ObsMessagesModel") (by decide) rfl rfl (Nat.le_of_ble_eq_true rfl) ?_
  intro p e s m below meth c A ls hC hP hD hS hl
  obtain ⟨hx, hb, hml, hown, hts, hr, hlocks, hK, hF, hA⟩ := hC
  have hP : va_P D vwCl (fl [wMo K hMo sMo, wRowI K (fun _ => hMo 17) 101 sMkind, wRowI K (fun _ => hMo 19) 101 sMwidth, wRow K (fun _ => hMo 23) 101 sMbase]) s.heap := hP
  have hl : lv_has ls 4 [(0, .ref (hMo 0)), (1, .int a0), (2, .long a1)] := hl
  suffices hW : ∀ (H : Heap) (locs : List Loc), va_P D vwCl (fl [wMo K hMo sMo, wRowI K (fun _ => hMo 17) 101 sMkind, wRowI K (fun _ => hMo 19) 101 sMwidth, wRow K (fun _ => hMo 23) 101 sMbase]) H → va_S A s.heap H locs → W p l e rm_Mod_meant s m ([.ref (hMo 0), .int a0, .long a1] : List Value).toArray below meth c H locs 0 0 (Ql below ([.ref (hMo 0), .int a0, .long a1] : List Value).toArray s D K A (fl [wMo K hMo sMo, wRowI K (fun _ => hMo 17) 101 sMkind, wRowI K (fun _ => hMo 19) 101 sMwidth, wRow K (fun _ => hMo 23) 101 sMbase]) r) (F0 m 0 ls []) from hW s.heap [] hP hS
  clear hP hS
  intro H locs hP hS
  refine lv_aload_n (pc := 0) hx hb d_Mod_meant_0 rfl (lv_at hl 0 rfl) ?_
  refine va_get (D := D) (ci := 10) (v := .ref (hMo 17)) (C := R_Mod) (T := T_Mod) (N := 61) (pc := 1) hx hb hts (fun w h => List.mem_cons_of_mem _ (in_Mod w h)) hown hK hP _ (fl_at 0 0 rfl rfl) rfl 23 (by decide) (hts _ (List.mem_cons_of_mem _ tw_1116)) (fun _ h9 => h9) rfl d_Mod_meant_1 ?_
  refine lv_iload_n (pc := 4) hx hb d_Mod_meant_4 rfl (lv_at hl 1 rfl) ?_
  obtain ⟨hi1, hf⟩ := o_gi_e hf
  refine va_iald (D := D) (pc := 5) hx hb hK hP _ 0 (fl_at 1 0 rfl rfl) rfl hi1 d_Mod_meant_5 ?_
  refine lv_iconst (v := 3) (pc := 6) hx hb d_Mod_meant_6 (by decide) ?_
  refine lv_icmp_ne (tgt := 14) (pc := 7) hx hb d_Mod_meant_7 (by decide) (fun c6 => ?_) (fun c6 => ?_)
  · replace hf := o_f c6 hf
    refine lv_lload_n (pc := 14) hx hb d_Mod_meant_14 rfl (lv_at hl 2 rfl) ?_
    refine lv_aload_n (pc := 15) hx hb d_Mod_meant_15 rfl (lv_at hl 0 rfl) ?_
    refine va_get (D := D) (ci := 10) (v := .ref (hMo 19)) (C := R_Mod) (T := T_Mod) (N := 61) (pc := 16) hx hb hts (fun w h => List.mem_cons_of_mem _ (in_Mod w h)) hown hK hP _ (fl_at 0 0 rfl rfl) rfl 25 (by decide) (hts _ (List.mem_cons_of_mem _ tw_1118)) (fun _ h9 => h9) rfl d_Mod_meant_16 ?_
    refine lv_iload_n (pc := 19) hx hb d_Mod_meant_19 rfl (lv_at hl 1 rfl) ?_
    obtain ⟨hi2, hf⟩ := o_gi_e hf
    refine va_iald (D := D) (pc := 20) hx hb hK hP _ 0 (fl_at 2 0 rfl rfl) rfl hi2 d_Mod_meant_20 ?_
    obtain ⟨q3, hq3, hf⟩ := o_bd_e hf
    refine fi_l (pc := 21) (va_runS (As := [.int (sMwidth (a0 : Int32).toNatClampNeg)]) (rest := [.long a1]) ⟨hx, hb, hml, hown, hts⟩ ((c_Mod_most l D K (sMwidth (a0 : Int32).toNatClampNeg) q3 hq3) _) (cwS 1 hts (gS tw_1437 tw_1438 tw_12 tw_1439) rfl rfl rfl (by decide +kernel) ⟨by decide, by decide⟩) ⟨mPre_blind, (mPre_fl hK hF hA hP hD hS [] rfl rfl)⟩ rfl rfl hl.1 rfl (lv_room (Nat.le_of_ble_eq_true rfl)) d_Mod_meant_21 ⟨Nat.zero_le _, Nat.zero_le _⟩) hA hP hD hS [] rfl rfl (fun H locs hP hD hS => ?_)
    have hP : va_P D vwCl (fl [wMo K hMo sMo, wRowI K (fun _ => hMo 17) 101 sMkind, wRowI K (fun _ => hMo 19) 101 sMwidth, wRow K (fun _ => hMo 23) 101 sMbase]) H := hP
    have hD : va_D A (fl [wMo K hMo sMo, wRowI K (fun _ => hMo 17) 101 sMkind, wRowI K (fun _ => hMo 19) 101 sMwidth, wRow K (fun _ => hMo 23) 101 sMbase]) := hD
    refine lc_ne (tgt := 34) (pc := 24) hx hb d_Mod_meant_24 d_Mod_meant_25 (by decide) (fun c5 => ?_) (fun c5 => ?_)
    · replace hf := o_f c5 hf
      refine lv_lload_n (pc := 34) hx hb d_Mod_meant_34 rfl (lv_at hl 2 rfl) ?_
      refine lv_aload_n (pc := 35) hx hb d_Mod_meant_35 rfl (lv_at hl 0 rfl) ?_
      refine va_get (D := D) (ci := 10) (v := .ref (hMo 23)) (C := R_Mod) (T := T_Mod) (N := 61) (pc := 36) hx hb hts (fun w h => List.mem_cons_of_mem _ (in_Mod w h)) hown hK hP _ (fl_at 0 0 rfl rfl) rfl 29 (by decide) (hts _ (List.mem_cons_of_mem _ tw_1122)) (fun _ h9 => h9) rfl d_Mod_meant_36 ?_
      refine lv_iload_n (pc := 39) hx hb d_Mod_meant_39 rfl (lv_at hl 1 rfl) ?_
      obtain ⟨hi4, hf⟩ := o_gi_e hf
      refine va_lald (D := D) (pc := 40) hx hb hK hP _ 1 (fl_at 3 0 rfl rfl) rfl hi4 d_Mod_meant_40 ?_
      refine lv_ladd (pc := 41) hx hb d_Mod_meant_41 ?_
      cases hf
      exact ret_l hx hb hr hlocks hK hP hS d_Mod_meant_42
    · replace hf := o_t c5 hf
      refine lv_ldc2 (pc := 28) hx hb hown (hts _ (List.mem_cons_of_mem _ tw_1092)) d_Mod_meant_28 ?_
      refine lv_goto (tgt := 42) (pc := 31) hx hb d_Mod_meant_31 (by decide) ?_
      cases hf
      exact ret_l hx hb hr hlocks hK hP hS d_Mod_meant_42
  · replace hf := o_t c6 hf
    refine lv_lload_n (pc := 10) hx hb d_Mod_meant_10 rfl (lv_at hl 2 rfl) ?_
    refine lv_goto (tgt := 42) (pc := 11) hx hb d_Mod_meant_11 (by decide) ?_
    cases hf
    exact ret_l hx hb hr hlocks hK hP hS d_Mod_meant_42
def Mod_raw (sMo : S_Mo) (sMkind : (Nat → Int32)) (sMwidth : (Nat → Int32)) (sMbase : (Nat → Int64)) (a0 : Int32) (a1 : Int64) : Option (Int64) := o_gd (o_in a0 101) (if (sMkind (a0 : Int32).toNatClampNeg) = 3 then some a1 else if a1 = ((-9000000000000000000)) then o_gd (o_in a0 101) (o_bd (Mod_most (sMwidth (a0 : Int32).toNatClampNeg)) fun q4 => (some q4)) else o_gd (o_in a0 101) (some (a1 - (sMbase (a0 : Int32).toNatClampNeg))))
abbrev rm_Mod_raw : Room := { frames := 1, cells := 0, slots := 0, locals := 20 }
set_option maxHeartbeats 4000000 in
set_option maxRecDepth 100000 in
theorem c_Mod_raw (l : Launch) (D : va_G) (K : Nat → ClassId) (hMo : Nat → Nat) (sMo : S_Mo) (sMkind : (Nat → Int32)) (sMwidth : (Nat → Int32)) (sMbase : (Nat → Int64)) (a0 : Int32) (a1 : Int64) (r : Int64) (hf : Mod_raw sMo sMkind sMwidth sMbase a0 a1 = some r) : ml l D K y_Mod_raw ws_Mod_raw rm_Mod_raw [.ref (hMo 0), .int a0, .long a1] (fl [wMo K hMo sMo, wRowI K (fun _ => hMo 17) 101 sMkind, wRowI K (fun _ => hMo 19) 101 sMwidth, wRow K (fun _ => hMo 23) 101 sMbase]) (fl [wMo K hMo sMo, wRowI K (fun _ => hMo 17) 101 sMkind, wRowI K (fun _ => hMo 19) 101 sMwidth, wRow K (fun _ => hMo 23) 101 sMbase]) r := by
  refine ml_of (cc := b_Mod_raw) (maxL := 4) (own := "ObsMessagesModel") (by decide) rfl rfl (Nat.le_of_ble_eq_true rfl) ?_
  intro p e s m below meth c A ls hC hP hD hS hl
  obtain ⟨hx, hb, hml, hown, hts, hr, hlocks, hK, hF, hA⟩ := hC
  have hP : va_P D vwCl (fl [wMo K hMo sMo, wRowI K (fun _ => hMo 17) 101 sMkind, wRowI K (fun _ => hMo 19) 101 sMwidth, wRow K (fun _ => hMo 23) 101 sMbase]) s.heap := hP
  have hl : lv_has ls 4 [(0, .ref (hMo 0)), (1, .int a0), (2, .long a1)] := hl
  suffices hW : ∀ (H : Heap) (locs : List Loc), va_P D vwCl (fl [wMo K hMo sMo, wRowI K (fun _ => hMo 17) 101 sMkind, wRowI K (fun _ => hMo 19) 101 sMwidth, wRow K (fun _ => hMo 23) 101 sMbase]) H → va_S A s.heap H locs → W p l e rm_Mod_raw s m ([.ref (hMo 0), .int a0, .long a1] : List Value).toArray below meth c H locs 0 0 (Ql below ([.ref (hMo 0), .int a0, .long a1] : List Value).toArray s D K A (fl [wMo K hMo sMo, wRowI K (fun _ => hMo 17) 101 sMkind, wRowI K (fun _ => hMo 19) 101 sMwidth, wRow K (fun _ => hMo 23) 101 sMbase]) r) (F0 m 0 ls []) from hW s.heap [] hP hS
  clear hP hS
  intro H locs hP hS
  refine lv_aload_n (pc := 0) hx hb d_Mod_raw_0 rfl (lv_at hl 0 rfl) ?_
  refine va_get (D := D) (ci := 10) (v := .ref (hMo 17)) (C := R_Mod) (T := T_Mod) (N := 61) (pc := 1) hx hb hts (fun w h => List.mem_cons_of_mem _ (in_Mod w h)) hown hK hP _ (fl_at 0 0 rfl rfl) rfl 23 (by decide) (hts _ (List.mem_cons_of_mem _ tw_1116)) (fun _ h9 => h9) rfl d_Mod_raw_1 ?_
  refine lv_iload_n (pc := 4) hx hb d_Mod_raw_4 rfl (lv_at hl 1 rfl) ?_
  obtain ⟨hi1, hf⟩ := o_gi_e hf
  refine va_iald (D := D) (pc := 5) hx hb hK hP _ 0 (fl_at 1 0 rfl rfl) rfl hi1 d_Mod_raw_5 ?_
  refine lv_iconst (v := 3) (pc := 6) hx hb d_Mod_raw_6 (by decide) ?_
  refine lv_icmp_ne (tgt := 14) (pc := 7) hx hb d_Mod_raw_7 (by decide) (fun c6 => ?_) (fun c6 => ?_)
  · replace hf := o_f c6 hf
    refine lv_lload_n (pc := 14) hx hb d_Mod_raw_14 rfl (lv_at hl 2 rfl) ?_
    refine lv_ldc2 (pc := 15) hx hb hown (hts _ (List.mem_cons_of_mem _ tw_1092)) d_Mod_raw_15 ?_
    refine lc_ne (tgt := 34) (pc := 18) hx hb d_Mod_raw_18 d_Mod_raw_19 (by decide) (fun c5 => ?_) (fun c5 => ?_)
    · replace hf := o_f c5 hf
      refine lv_lload_n (pc := 34) hx hb d_Mod_raw_34 rfl (lv_at hl 2 rfl) ?_
      refine lv_aload_n (pc := 35) hx hb d_Mod_raw_35 rfl (lv_at hl 0 rfl) ?_
      refine va_get (D := D) (ci := 10) (v := .ref (hMo 23)) (C := R_Mod) (T := T_Mod) (N := 61) (pc := 36) hx hb hts (fun w h => List.mem_cons_of_mem _ (in_Mod w h)) hown hK hP _ (fl_at 0 0 rfl rfl) rfl 29 (by decide) (hts _ (List.mem_cons_of_mem _ tw_1122)) (fun _ h9 => h9) rfl d_Mod_raw_36 ?_
      refine lv_iload_n (pc := 39) hx hb d_Mod_raw_39 rfl (lv_at hl 1 rfl) ?_
      obtain ⟨hi2, hf⟩ := o_gi_e hf
      refine va_lald (D := D) (pc := 40) hx hb hK hP _ 1 (fl_at 3 0 rfl rfl) rfl hi2 d_Mod_raw_40 ?_
      refine lv_lsub (pc := 41) hx hb d_Mod_raw_41 ?_
      cases hf
      exact ret_l hx hb hr hlocks hK hP hS d_Mod_raw_42
    · replace hf := o_t c5 hf
      refine lv_aload_n (pc := 22) hx hb d_Mod_raw_22 rfl (lv_at hl 0 rfl) ?_
      refine va_get (D := D) (ci := 10) (v := .ref (hMo 19)) (C := R_Mod) (T := T_Mod) (N := 61) (pc := 23) hx hb hts (fun w h => List.mem_cons_of_mem _ (in_Mod w h)) hown hK hP _ (fl_at 0 0 rfl rfl) rfl 25 (by decide) (hts _ (List.mem_cons_of_mem _ tw_1118)) (fun _ h9 => h9) rfl d_Mod_raw_23 ?_
      refine lv_iload_n (pc := 26) hx hb d_Mod_raw_26 rfl (lv_at hl 1 rfl) ?_
      obtain ⟨hi3, hf⟩ := o_gi_e hf
      refine va_iald (D := D) (pc := 27) hx hb hK hP _ 0 (fl_at 2 0 rfl rfl) rfl hi3 d_Mod_raw_27 ?_
      obtain ⟨q4, hq4, hf⟩ := o_bd_e hf
      refine fi_l (pc := 28) (va_runS (As := [.int (sMwidth (a0 : Int32).toNatClampNeg)]) (rest := []) ⟨hx, hb, hml, hown, hts⟩ ((c_Mod_most l D K (sMwidth (a0 : Int32).toNatClampNeg) q4 hq4) _) (cwS 1 hts (gS tw_1437 tw_1438 tw_12 tw_1439) rfl rfl rfl (by decide +kernel) ⟨by decide, by decide⟩) ⟨mPre_blind, (mPre_fl hK hF hA hP hD hS [] rfl rfl)⟩ rfl rfl hl.1 rfl (lv_room (Nat.le_of_ble_eq_true rfl)) d_Mod_raw_28 ⟨Nat.zero_le _, Nat.zero_le _⟩) hA hP hD hS [] rfl rfl (fun H locs hP hD hS => ?_)
      have hP : va_P D vwCl (fl [wMo K hMo sMo, wRowI K (fun _ => hMo 17) 101 sMkind, wRowI K (fun _ => hMo 19) 101 sMwidth, wRow K (fun _ => hMo 23) 101 sMbase]) H := hP
      have hD : va_D A (fl [wMo K hMo sMo, wRowI K (fun _ => hMo 17) 101 sMkind, wRowI K (fun _ => hMo 19) 101 sMwidth, wRow K (fun _ => hMo 23) 101 sMbase]) := hD
      refine lv_goto (tgt := 42) (pc := 31) hx hb d_Mod_raw_31 (by decide) ?_
      cases hf
      exact ret_l hx hb hr hlocks hK hP hS d_Mod_raw_42
  · replace hf := o_t c6 hf
    refine lv_lload_n (pc := 10) hx hb d_Mod_raw_10 rfl (lv_at hl 2 rfl) ?_
    refine lv_goto (tgt := 42) (pc := 11) hx hb d_Mod_raw_11 (by decide) ?_
    cases hf
    exact ret_l hx hb hr hlocks hK hP hS d_Mod_raw_42
def Mod_takeAll_j238 (fu : Nat) (sMkind : (Nat → Int32)) (sMwidth : (Nat → Int32)) (sMbase : (Nat → Int64)) (sMbits : (Nat → Int32)) (kc_107 : Int32 → S_Mo → (Nat → Int64) → Option (S_Mo × (Nat → Int64))) (x1_L107 : Int32) (x2_L107 : Int64) (x4_L107 : Int32) (x6_j238 : Int32) (t1_j238 : Int32) (t2_j238 : Int64) (sMo_j238 : S_Mo) (sMread_j238 : (Nat → Int64)) : Option (S_Mo × (Nat → Int64)) := o_gd (o_in t1_j238 800) (o_lt (vp_updL sMread_j238 (t1_j238 : Int32).toNatClampNeg t2_j238) fun sMread_35 => (kc_107 (x6_j238 + 1) sMo_j238 sMread_35))
def Mod_takeAll_j207 (fu : Nat) (sMkind : (Nat → Int32)) (sMwidth : (Nat → Int32)) (sMbase : (Nat → Int64)) (sMbits : (Nat → Int32)) (kc_107 : Int32 → S_Mo → (Nat → Int64) → Option (S_Mo × (Nat → Int64))) (x1_L107 : Int32) (x2_L107 : Int64) (x4_L107 : Int32) (x6_j207 : Int32) (x7_j207 : Int64) (x9_j207 : Int32) (sMo_j207 : S_Mo) (sMread_j207 : (Nat → Int64)) : Option (S_Mo × (Nat → Int64)) := if x9_j207 = 0 then o_bd (Mod_meant sMo_j207 sMkind sMwidth sMbase x1_L107 (x2_L107 + x7_j207)) fun q32 => (Mod_takeAll_j238 fu sMkind sMwidth sMbase sMbits kc_107 x1_L107 x2_L107 x4_L107 x6_j207 ((100 * x6_j207) + x1_L107) q32 sMo_j207 sMread_j207) else Mod_takeAll_j238 fu sMkind sMwidth sMbase sMbits kc_107 x1_L107 x2_L107 x4_L107 x6_j207 ((100 * x6_j207) + x1_L107) ((-9000000000000000000)) sMo_j207 sMread_j207
def Mod_takeAll_j162 (fu : Nat) (sMkind : (Nat → Int32)) (sMwidth : (Nat → Int32)) (sMbase : (Nat → Int64)) (sMbits : (Nat → Int32)) (kc_107 : Int32 → S_Mo → (Nat → Int64) → Option (S_Mo × (Nat → Int64))) (x1_L107 : Int32) (x2_L107 : Int64) (x4_L107 : Int32) (x6_j162 : Int32) (x7_j162 : Int64) (t0_j162 : Int32) (sMo_j162 : S_Mo) (sMread_j162 : (Nat → Int64)) : Option (S_Mo × (Nat → Int64)) := if x4_L107 ≤ 0 then Mod_takeAll_j207 fu sMkind sMwidth sMbase sMbits kc_107 x1_L107 x2_L107 x4_L107 x6_j162 x7_j162 t0_j162 sMo_j162 sMread_j162 else if t0_j162 = 0 then if (Mo_fault sMo_j162) = 0 then o_gd (o_in x1_L107 101) (o_bd (Mod_most (sMwidth (x1_L107 : Int32).toNatClampNeg)) fun q26 => (if (x2_L107 + x7_j162) ≤ (q26 - 1) then Mod_takeAll_j207 fu sMkind sMwidth sMbase sMbits kc_107 x1_L107 x2_L107 x4_L107 x6_j162 x7_j162 t0_j162 sMo_j162 sMread_j162 else o_bd (Mod_wrongAt 12 x1_L107 sMo_j162) fun q27 => (Mod_takeAll_j207 fu sMkind sMwidth sMbase sMbits kc_107 x1_L107 x2_L107 x4_L107 x6_j162 x7_j162 t0_j162 q27 sMread_j162))) else Mod_takeAll_j207 fu sMkind sMwidth sMbase sMbits kc_107 x1_L107 x2_L107 x4_L107 x6_j162 x7_j162 t0_j162 sMo_j162 sMread_j162 else Mod_takeAll_j207 fu sMkind sMwidth sMbase sMbits kc_107 x1_L107 x2_L107 x4_L107 x6_j162 x7_j162 t0_j162 sMo_j162 sMread_j162
def Mod_takeAll_j161 (fu : Nat) (sMkind : (Nat → Int32)) (sMwidth : (Nat → Int32)) (sMbase : (Nat → Int64)) (sMbits : (Nat → Int32)) (kc_107 : Int32 → S_Mo → (Nat → Int64) → Option (S_Mo × (Nat → Int64))) (x1_L107 : Int32) (x2_L107 : Int64) (x4_L107 : Int32) (x6_j161 : Int32) (x7_j161 : Int64) (sMo_j161 : S_Mo) (sMread_j161 : (Nat → Int64)) : Option (S_Mo × (Nat → Int64)) := Mod_takeAll_j162 fu sMkind sMwidth sMbase sMbits kc_107 x1_L107 x2_L107 x4_L107 x6_j161 x7_j161 0 sMo_j161 sMread_j161
def Mod_takeAll_j139 (fu : Nat) (sMkind : (Nat → Int32)) (sMwidth : (Nat → Int32)) (sMbase : (Nat → Int64)) (sMbits : (Nat → Int32)) (kc_107 : Int32 → S_Mo → (Nat → Int64) → Option (S_Mo × (Nat → Int64))) (x1_L107 : Int32) (x2_L107 : Int64) (x4_L107 : Int32) (x6_j139 : Int32) (t0_j139 : Int64) (sMo_j139 : S_Mo) (sMread_j139 : (Nat → Int64)) : Option (S_Mo × (Nat → Int64)) := if x4_L107 ≤ 0 then Mod_takeAll_j161 fu sMkind sMwidth sMbase sMbits kc_107 x1_L107 x2_L107 x4_L107 x6_j139 t0_j139 sMo_j139 sMread_j139 else o_bd (Mod_most x4_L107) fun q22 => (if t0_j139 = q22 then Mod_takeAll_j162 fu sMkind sMwidth sMbase sMbits kc_107 x1_L107 x2_L107 x4_L107 x6_j139 t0_j139 1 sMo_j139 sMread_j139 else Mod_takeAll_j161 fu sMkind sMwidth sMbase sMbits kc_107 x1_L107 x2_L107 x4_L107 x6_j139 t0_j139 sMo_j139 sMread_j139)
def Mod_takeAll_L107 (fu : Nat) (sMkind : (Nat → Int32)) (sMwidth : (Nat → Int32)) (sMbase : (Nat → Int64)) (sMbits : (Nat → Int32)) (x1_L107 : Int32) (x2_L107 : Int64) (x4_L107 : Int32) : Nat → Int32 → S_Mo → (Nat → Int64) → Option (S_Mo × (Nat → Int64))
  | 0, _, _, _ => none
  | n + 1, x6_L107, sMo_L107, sMread_L107 => if (Mo_subsets sMo_L107) ≤ x6_L107 then some ((sMo_L107, sMread_L107)) else if (Mo_fault sMo_L107) = 0 then if x4_L107 = 0 then Mod_takeAll_j139 fu sMkind sMwidth sMbase sMbits (fun v0 v1 v2 => Mod_takeAll_L107 fu sMkind sMwidth sMbase sMbits x1_L107 x2_L107 x4_L107 n v0 v1 v2) x1_L107 x2_L107 x4_L107 x6_L107 0 sMo_L107 sMread_L107 else o_bd (Mod_take fu sMbits x4_L107 x1_L107 sMo_L107) fun q18 => (Mod_takeAll_j139 fu sMkind sMwidth sMbase sMbits (fun v0 v1 v2 => Mod_takeAll_L107 fu sMkind sMwidth sMbase sMbits x1_L107 x2_L107 x4_L107 n v0 v1 v2) x1_L107 x2_L107 x4_L107 x6_L107 q18.1 q18.2 sMread_L107) else some ((sMo_L107, sMread_L107))
def Mod_takeAll_j104 (fu : Nat) (sMkind : (Nat → Int32)) (sMwidth : (Nat → Int32)) (sMbase : (Nat → Int64)) (sMbits : (Nat → Int32)) (x1_j104 : Int32) (x2_j104 : Int64) (x4_j104 : Int32) (sMo_j104 : S_Mo) (sMread_j104 : (Nat → Int64)) : Option (S_Mo × (Nat → Int64)) := Mod_takeAll_L107 fu sMkind sMwidth sMbase sMbits x1_j104 x2_j104 x4_j104 fu 0 sMo_j104 sMread_j104
def Mod_takeAll_j97 (fu : Nat) (sMkind : (Nat → Int32)) (sMwidth : (Nat → Int32)) (sMbase : (Nat → Int64)) (sMbits : (Nat → Int32)) (x1_j97 : Int32) (x2_j97 : Int64) (x4_j97 : Int32) (sMo_j97 : S_Mo) (sMread_j97 : (Nat → Int64)) : Option (S_Mo × (Nat → Int64)) := o_bd (Mod_wrongAt 12 x1_j97 sMo_j97) fun q17 => (Mod_takeAll_j104 fu sMkind sMwidth sMbase sMbits x1_j97 x2_j97 x4_j97 q17 sMread_j97)
def Mod_takeAll_j73 (fu : Nat) (sMkind : (Nat → Int32)) (sMwidth : (Nat → Int32)) (sMbase : (Nat → Int64)) (sMbits : (Nat → Int32)) (x1_j73 : Int32) (x2_j73 : Int64) (x4_j73 : Int32) (sMo_j73 : S_Mo) (sMread_j73 : (Nat → Int64)) : Option (S_Mo × (Nat → Int64)) := o_gd (o_in x1_j73 101) (if (sMkind (x1_j73 : Int32).toNatClampNeg) = 2 then o_gd (o_in x1_j73 101) (o_bd (Mod_most (sMwidth (x1_j73 : Int32).toNatClampNeg)) fun q14 => (if x2_j73 = q14 then Mod_takeAll_j97 fu sMkind sMwidth sMbase sMbits x1_j73 x2_j73 x4_j73 sMo_j73 sMread_j73 else Mod_takeAll_j104 fu sMkind sMwidth sMbase sMbits x1_j73 x2_j73 x4_j73 sMo_j73 sMread_j73)) else Mod_takeAll_j104 fu sMkind sMwidth sMbase sMbits x1_j73 x2_j73 x4_j73 sMo_j73 sMread_j73)
def Mod_takeAll_j47 (fu : Nat) (sMkind : (Nat → Int32)) (sMwidth : (Nat → Int32)) (sMbase : (Nat → Int64)) (sMbits : (Nat → Int32)) (x1_j47 : Int32) (x2_j47 : Int64) (x4_j47 : Int32) (t0_j47 : Int32) (sMo_j47 : S_Mo) (sMread_j47 : (Nat → Int64)) : Option (S_Mo × (Nat → Int64)) := if (Mo_fault sMo_j47) = 0 then if 33 < x4_j47 then Mod_takeAll_j97 fu sMkind sMwidth sMbase sMbits x1_j47 x2_j47 x4_j47 sMo_j47 sMread_j47 else if t0_j47 = 0 then Mod_takeAll_j73 fu sMkind sMwidth sMbase sMbits x1_j47 x2_j47 x4_j47 sMo_j47 sMread_j47 else if 0 < x4_j47 then Mod_takeAll_j97 fu sMkind sMwidth sMbase sMbits x1_j47 x2_j47 x4_j47 sMo_j47 sMread_j47 else Mod_takeAll_j73 fu sMkind sMwidth sMbase sMbits x1_j47 x2_j47 x4_j47 sMo_j47 sMread_j47 else Mod_takeAll_j104 fu sMkind sMwidth sMbase sMbits x1_j47 x2_j47 x4_j47 sMo_j47 sMread_j47
def Mod_takeAll_j42 (fu : Nat) (sMkind : (Nat → Int32)) (sMwidth : (Nat → Int32)) (sMbase : (Nat → Int64)) (sMbits : (Nat → Int32)) (x1_j42 : Int32) (x2_j42 : Int64) (x4_j42 : Int32) (sMo_j42 : S_Mo) (sMread_j42 : (Nat → Int64)) : Option (S_Mo × (Nat → Int64)) := Mod_takeAll_j47 fu sMkind sMwidth sMbase sMbits x1_j42 x2_j42 x4_j42 1 sMo_j42 sMread_j42
def Mod_takeAll (fu : Nat) (sMkind : (Nat → Int32)) (sMwidth : (Nat → Int32)) (sMbase : (Nat → Int64)) (sMbits : (Nat → Int32)) (a0 : Int32) (sMo : S_Mo) (sMread : (Nat → Int64)) : Option (S_Mo × (Nat → Int64)) := o_gd (o_in a0 101) (o_bd (Mod_take fu sMbits (sMwidth (a0 : Int32).toNatClampNeg) a0 sMo) fun q2 => (o_bd (Mod_take fu sMbits 6 a0 q2.2) fun q3 => (o_gd (o_in a0 101) (if (sMkind (a0 : Int32).toNatClampNeg) = 2 then Mod_takeAll_j42 fu sMkind sMwidth sMbase sMbits a0 q2.1 ((q3.1 : Int64).toInt32) q3.2 sMread else o_gd (o_in a0 101) (if (sMkind (a0 : Int32).toNatClampNeg) = 3 then Mod_takeAll_j42 fu sMkind sMwidth sMbase sMbits a0 q2.1 ((q3.1 : Int64).toInt32) q3.2 sMread else Mod_takeAll_j47 fu sMkind sMwidth sMbase sMbits a0 q2.1 ((q3.1 : Int64).toInt32) 0 q3.2 sMread)))))
abbrev rm_Mod_takeAll : Room := { frames := 3, cells := 0, slots := 0, locals := 69 }
set_option maxHeartbeats 4000000 in
set_option maxRecDepth 100000 in
theorem c_Mod_takeAll (l : Launch) (D : va_G) (K : Nat → ClassId) (fu : Nat) (hMo : Nat → Nat) (sMo : S_Mo) (sMread : (Nat → Int64)) (sMkind : (Nat → Int32)) (sMwidth : (Nat → Int32)) (sMbase : (Nat → Int64)) (sMbits : (Nat → Int32)) (a0 : Int32) (sMo' : S_Mo) (sMread' : (Nat → Int64)) (hf : Mod_takeAll fu sMkind sMwidth sMbase sMbits a0 sMo sMread = some ((sMo', sMread'))) : mv l D K y_Mod_takeAll ws_Mod_takeAll rm_Mod_takeAll [.ref (hMo 0), .int a0] (fl [wMo K hMo sMo, wRow K (fun _ => hMo 8) 800 sMread, wRowI K (fun _ => hMo 17) 101 sMkind, wRowI K (fun _ => hMo 19) 101 sMwidth, wRow K (fun _ => hMo 23) 101 sMbase, wRowZ K (fun _ => hMo 26) 40000 sMbits]) (fl [wMo K hMo sMo', wRow K (fun _ => hMo 8) 800 sMread', wRowI K (fun _ => hMo 17) 101 sMkind, wRowI K (fun _ => hMo 19) 101 sMwidth, wRow K (fun _ => hMo 23) 101 sMbase, wRowZ K (fun _ => hMo 26) 40000 sMbits]) := by
  refine mv_of (cc := b_Mod_takeAll) (maxL := 10) (own := "ObsMessagesModel") (by decide) rfl rfl (Nat.le_of_ble_eq_true rfl) ?_
  intro p e s m below meth c A ls hC hP hD hS hl
  obtain ⟨hx, hb, hml, hown, hts, hr, hlocks, hK, hF, hA⟩ := hC
  have hP : va_P D vwCl (fl [wMo K hMo sMo, wRow K (fun _ => hMo 8) 800 sMread, wRowI K (fun _ => hMo 17) 101 sMkind, wRowI K (fun _ => hMo 19) 101 sMwidth, wRow K (fun _ => hMo 23) 101 sMbase, wRowZ K (fun _ => hMo 26) 40000 sMbits]) s.heap := hP
  have hl : lv_has ls 10 [(0, .ref (hMo 0)), (1, .int a0)] := hl
  suffices hW : ∀ (H : Heap) (locs : List Loc), va_P D vwCl (fl [wMo K hMo sMo, wRow K (fun _ => hMo 8) 800 sMread, wRowI K (fun _ => hMo 17) 101 sMkind, wRowI K (fun _ => hMo 19) 101 sMwidth, wRow K (fun _ => hMo 23) 101 sMbase, wRowZ K (fun _ => hMo 26) 40000 sMbits]) H → va_S A s.heap H locs → W p l e rm_Mod_takeAll s m ([.ref (hMo 0), .int a0] : List Value).toArray below meth c H locs 0 0 (Qv below ([.ref (hMo 0), .int a0] : List Value).toArray s D K A (fl [wMo K hMo sMo', wRow K (fun _ => hMo 8) 800 sMread', wRowI K (fun _ => hMo 17) 101 sMkind, wRowI K (fun _ => hMo 19) 101 sMwidth, wRow K (fun _ => hMo 23) 101 sMbase, wRowZ K (fun _ => hMo 26) 40000 sMbits])) (F0 m 0 ls []) from hW s.heap [] hP hS
  clear hP hS
  intro H locs hP hS
  have J104 : ∀ (x1_j104 : Int32) (x2_j104 : Int64) (x4_j104 : Int32) (sMo_j104 : S_Mo) (sMread_j104 : (Nat → Int64)) (H : Heap) (locs : List Loc) (ls : Array Slot), va_P D vwCl (fl [wMo K hMo sMo_j104, wRow K (fun _ => hMo 8) 800 sMread_j104, wRowI K (fun _ => hMo 17) 101 sMkind, wRowI K (fun _ => hMo 19) 101 sMwidth, wRow K (fun _ => hMo 23) 101 sMbase, wRowZ K (fun _ => hMo 26) 40000 sMbits]) H → va_D A (fl [wMo K hMo sMo_j104, wRow K (fun _ => hMo 8) 800 sMread_j104, wRowI K (fun _ => hMo 17) 101 sMkind, wRowI K (fun _ => hMo 19) 101 sMwidth, wRow K (fun _ => hMo 23) 101 sMbase, wRowZ K (fun _ => hMo 26) 40000 sMbits]) → va_S A s.heap H locs → lv_has ls 10 [(0, .ref (hMo 0)), (1, .int x1_j104), (2, .long x2_j104), (4, .int x4_j104)] → Mod_takeAll_j104 fu sMkind sMwidth sMbase sMbits x1_j104 x2_j104 x4_j104 sMo_j104 sMread_j104 = some ((sMo', sMread')) → W p l e rm_Mod_takeAll s m ([.ref (hMo 0), .int a0] : List Value).toArray below meth c H locs 0 0 (Qv below ([.ref (hMo 0), .int a0] : List Value).toArray s D K A (fl [wMo K hMo sMo', wRow K (fun _ => hMo 8) 800 sMread', wRowI K (fun _ => hMo 17) 101 sMkind, wRowI K (fun _ => hMo 19) 101 sMwidth, wRow K (fun _ => hMo 23) 101 sMbase, wRowZ K (fun _ => hMo 26) 40000 sMbits])) (F0 m 104 ls []) := by
    intro x1_j104 x2_j104 x4_j104 sMo_j104 sMread_j104 H locs ls hP hD hS hl hf
    refine lv_iconst (v := 0) (pc := 104) hx hb d_Mod_takeAll_104 (by decide) ?_
    refine lv_istore (lv' := [(6, .int 0), (0, .ref (hMo 0)), (1, .int x1_j104), (2, .long x2_j104), (4, .int x4_j104)]) (pc := 105) hx hb d_Mod_takeAll_105 hl (by decide) rfl (fun ls hl => ?_)
    have L107 : ∀ (x1_L107 : Int32) (x2_L107 : Int64) (x4_L107 : Int32) (n : Nat) (x6_L107 : Int32) (sMo_L107 : S_Mo) (sMread_L107 : (Nat → Int64)) (H : Heap) (locs : List Loc) (ls : Array Slot), va_P D vwCl (fl [wMo K hMo sMo_L107, wRow K (fun _ => hMo 8) 800 sMread_L107, wRowI K (fun _ => hMo 17) 101 sMkind, wRowI K (fun _ => hMo 19) 101 sMwidth, wRow K (fun _ => hMo 23) 101 sMbase, wRowZ K (fun _ => hMo 26) 40000 sMbits]) H → va_D A (fl [wMo K hMo sMo_L107, wRow K (fun _ => hMo 8) 800 sMread_L107, wRowI K (fun _ => hMo 17) 101 sMkind, wRowI K (fun _ => hMo 19) 101 sMwidth, wRow K (fun _ => hMo 23) 101 sMbase, wRowZ K (fun _ => hMo 26) 40000 sMbits]) → va_S A s.heap H locs → lv_has ls 10 [(0, .ref (hMo 0)), (1, .int x1_L107), (2, .long x2_L107), (4, .int x4_L107), (6, .int x6_L107)] → Mod_takeAll_L107 fu sMkind sMwidth sMbase sMbits x1_L107 x2_L107 x4_L107 n x6_L107 sMo_L107 sMread_L107 = some ((sMo', sMread')) → W p l e rm_Mod_takeAll s m ([.ref (hMo 0), .int a0] : List Value).toArray below meth c H locs 0 0 (Qv below ([.ref (hMo 0), .int a0] : List Value).toArray s D K A (fl [wMo K hMo sMo', wRow K (fun _ => hMo 8) 800 sMread', wRowI K (fun _ => hMo 17) 101 sMkind, wRowI K (fun _ => hMo 19) 101 sMwidth, wRow K (fun _ => hMo 23) 101 sMbase, wRowZ K (fun _ => hMo 26) 40000 sMbits])) (F0 m 107 ls []) := by
      intro x1_L107 x2_L107 x4_L107 n
      induction n with
      | zero =>
        intro x6_L107 sMo_L107 sMread_L107 H locs ls hP hD hS hl hf
        exact absurd hf (fun h => nomatch h)
      | succ n_107 ih_107 =>
        intro x6_L107 sMo_L107 sMread_L107 H locs ls hP hD hS hl hf
        have J238 : ∀ (x6_j238 : Int32) (t1_j238 : Int32) (t2_j238 : Int64) (sMo_j238 : S_Mo) (sMread_j238 : (Nat → Int64)) (H : Heap) (locs : List Loc) (ls : Array Slot), va_P D vwCl (fl [wMo K hMo sMo_j238, wRow K (fun _ => hMo 8) 800 sMread_j238, wRowI K (fun _ => hMo 17) 101 sMkind, wRowI K (fun _ => hMo 19) 101 sMwidth, wRow K (fun _ => hMo 23) 101 sMbase, wRowZ K (fun _ => hMo 26) 40000 sMbits]) H → va_D A (fl [wMo K hMo sMo_j238, wRow K (fun _ => hMo 8) 800 sMread_j238, wRowI K (fun _ => hMo 17) 101 sMkind, wRowI K (fun _ => hMo 19) 101 sMwidth, wRow K (fun _ => hMo 23) 101 sMbase, wRowZ K (fun _ => hMo 26) 40000 sMbits]) → va_S A s.heap H locs → lv_has ls 10 [(0, .ref (hMo 0)), (1, .int x1_L107), (2, .long x2_L107), (4, .int x4_L107), (6, .int x6_j238)] → Mod_takeAll_j238 fu sMkind sMwidth sMbase sMbits (fun v0 v1 v2 => Mod_takeAll_L107 fu sMkind sMwidth sMbase sMbits x1_L107 x2_L107 x4_L107 n_107 v0 v1 v2) x1_L107 x2_L107 x4_L107 x6_j238 t1_j238 t2_j238 sMo_j238 sMread_j238 = some ((sMo', sMread')) → W p l e rm_Mod_takeAll s m ([.ref (hMo 0), .int a0] : List Value).toArray below meth c H locs 0 0 (Qv below ([.ref (hMo 0), .int a0] : List Value).toArray s D K A (fl [wMo K hMo sMo', wRow K (fun _ => hMo 8) 800 sMread', wRowI K (fun _ => hMo 17) 101 sMkind, wRowI K (fun _ => hMo 19) 101 sMwidth, wRow K (fun _ => hMo 23) 101 sMbase, wRowZ K (fun _ => hMo 26) 40000 sMbits])) (F0 m 238 ls [.long t2_j238, .int t1_j238, .ref (hMo 8)]) := by
          intro x6_j238 t1_j238 t2_j238 sMo_j238 sMread_j238 H locs ls hP hD hS hl hf
          obtain ⟨hi34, hf⟩ := o_gi_e hf
          refine va_last (D := D) (pc := 238) hx hb hK hP hD hS _ 1 (fl_at 1 0 rfl rfl) rfl hi34 d_Mod_takeAll_238 (fun H locs hP hD hS => ?_)
          obtain ⟨sMread_35, esMread_35, hf⟩ := o_lt_e hf
          have hP : va_P D vwCl (fl [wMo K hMo sMo_j238, wRow K (fun _ => hMo 8) 800 sMread_35, wRowI K (fun _ => hMo 17) 101 sMkind, wRowI K (fun _ => hMo 19) 101 sMwidth, wRow K (fun _ => hMo 23) 101 sMbase, wRowZ K (fun _ => hMo 26) 40000 sMbits]) H := by rw [esMread_35]; exact fl_P 1 0 rfl (Nat.le_of_ble_eq_true rfl) rfl rfl hP
          have hD : va_D A (fl [wMo K hMo sMo_j238, wRow K (fun _ => hMo 8) 800 sMread_35, wRowI K (fun _ => hMo 17) 101 sMkind, wRowI K (fun _ => hMo 19) 101 sMwidth, wRow K (fun _ => hMo 23) 101 sMbase, wRowZ K (fun _ => hMo 26) 40000 sMbits]) := by rw [esMread_35]; exact fl_D 1 0 rfl (Nat.le_of_ble_eq_true rfl) rfl rfl hD
          refine lv_iinc (v := x6_j238 + 1) (lv' := [(6, .int (x6_j238 + 1)), (0, .ref (hMo 0)), (1, .int x1_L107), (2, .long x2_L107), (4, .int x4_L107)]) (pc := 239) hx hb d_Mod_takeAll_239 hl (k := 4) rfl rfl (by decide) rfl (fun ls hl => ?_)
          refine lv_goto (tgt := 107) (pc := 242) hx hb d_Mod_takeAll_242 (by decide) ?_
          exact ih_107 (x6_j238 + 1) sMo_j238 sMread_35 H locs ls hP hD hS (lv_sub hl [1, 2, 3, 4, 0] rfl) hf
        have J207 : ∀ (x6_j207 : Int32) (x7_j207 : Int64) (x9_j207 : Int32) (sMo_j207 : S_Mo) (sMread_j207 : (Nat → Int64)) (H : Heap) (locs : List Loc) (ls : Array Slot), va_P D vwCl (fl [wMo K hMo sMo_j207, wRow K (fun _ => hMo 8) 800 sMread_j207, wRowI K (fun _ => hMo 17) 101 sMkind, wRowI K (fun _ => hMo 19) 101 sMwidth, wRow K (fun _ => hMo 23) 101 sMbase, wRowZ K (fun _ => hMo 26) 40000 sMbits]) H → va_D A (fl [wMo K hMo sMo_j207, wRow K (fun _ => hMo 8) 800 sMread_j207, wRowI K (fun _ => hMo 17) 101 sMkind, wRowI K (fun _ => hMo 19) 101 sMwidth, wRow K (fun _ => hMo 23) 101 sMbase, wRowZ K (fun _ => hMo 26) 40000 sMbits]) → va_S A s.heap H locs → lv_has ls 10 [(0, .ref (hMo 0)), (1, .int x1_L107), (2, .long x2_L107), (4, .int x4_L107), (6, .int x6_j207), (7, .long x7_j207), (9, .int x9_j207)] → Mod_takeAll_j207 fu sMkind sMwidth sMbase sMbits (fun v0 v1 v2 => Mod_takeAll_L107 fu sMkind sMwidth sMbase sMbits x1_L107 x2_L107 x4_L107 n_107 v0 v1 v2) x1_L107 x2_L107 x4_L107 x6_j207 x7_j207 x9_j207 sMo_j207 sMread_j207 = some ((sMo', sMread')) → W p l e rm_Mod_takeAll s m ([.ref (hMo 0), .int a0] : List Value).toArray below meth c H locs 0 0 (Qv below ([.ref (hMo 0), .int a0] : List Value).toArray s D K A (fl [wMo K hMo sMo', wRow K (fun _ => hMo 8) 800 sMread', wRowI K (fun _ => hMo 17) 101 sMkind, wRowI K (fun _ => hMo 19) 101 sMwidth, wRow K (fun _ => hMo 23) 101 sMbase, wRowZ K (fun _ => hMo 26) 40000 sMbits])) (F0 m 207 ls []) := by
          intro x6_j207 x7_j207 x9_j207 sMo_j207 sMread_j207 H locs ls hP hD hS hl hf
          refine lv_aload_n (pc := 207) hx hb d_Mod_takeAll_207 rfl (lv_at hl 0 rfl) ?_
          refine va_get (D := D) (ci := 10) (v := .ref (hMo 8)) (C := R_Mod) (T := T_Mod) (N := 61) (pc := 208) hx hb hts (fun w h => List.mem_cons_of_mem _ (in_Mod w h)) hown hK hP _ (fl_at 0 0 rfl rfl) rfl 11 (by decide) (hts _ (List.mem_cons_of_mem _ tw_1104)) (fun _ h9 => h9) rfl d_Mod_takeAll_208 ?_
          refine lv_bipush (v := 100) (pc := 211) hx hb d_Mod_takeAll_211 (by decide) ?_
          refine lv_iload (pc := 213) hx hb d_Mod_takeAll_213 (lv_at hl 4 rfl) ?_
          refine lv_imul (pc := 215) hx hb d_Mod_takeAll_215 ?_
          refine lv_iload_n (pc := 216) hx hb d_Mod_takeAll_216 rfl (lv_at hl 1 rfl) ?_
          refine lv_iadd (pc := 217) hx hb d_Mod_takeAll_217 ?_
          refine lv_iload (pc := 218) hx hb d_Mod_takeAll_218 (lv_at hl 6 rfl) ?_
          refine lv_if_eq (tgt := 229) (pc := 220) hx hb d_Mod_takeAll_220 (by decide) (fun c33 => ?_) (fun c33 => ?_)
          · replace hf := o_t c33 hf
            refine lv_aload_n (pc := 229) hx hb d_Mod_takeAll_229 rfl (lv_at hl 0 rfl) ?_
            refine lv_iload_n (pc := 230) hx hb d_Mod_takeAll_230 rfl (lv_at hl 1 rfl) ?_
            refine lv_lload_n (pc := 231) hx hb d_Mod_takeAll_231 rfl (lv_at hl 2 rfl) ?_
            refine lv_lload (pc := 232) hx hb d_Mod_takeAll_232 (lv_at hl 5 rfl) ?_
            refine lv_ladd (pc := 234) hx hb d_Mod_takeAll_234 ?_
            obtain ⟨q32, hq32, hf⟩ := o_bd_e hf
            refine fi_l (pc := 235) (va_runV (As := [.int x1_L107, .long (x2_L107 + x7_j207)]) (rest := [.int ((100 * x6_j207) + x1_L107), .ref (hMo 8)]) ⟨hx, hb, hml, hown, hts⟩ ((c_Mod_meant l D K hMo sMo_j207 sMkind sMwidth sMbase x1_L107 (x2_L107 + x7_j207) q32 hq32) _) (cwV 2 hts (gV tw_1440 tw_1442 tp_61 tw_12 tw_1443) rfl rfl rfl (by decide +kernel) ⟨by decide, by decide⟩) ⟨mPre_blind, va_recv hK hP (ci := 10) rfl (fl_at 0 0 rfl rfl), (mPre_fl hK hF hA hP hD hS [0, 2, 3, 4] rfl rfl)⟩ rfl rfl hl.1 rfl (lv_room (Nat.le_of_ble_eq_true rfl)) d_Mod_takeAll_235 ⟨Nat.zero_le _, Nat.zero_le _⟩) hA hP hD hS [0, 2, 3, 4] rfl rfl (fun H locs hP hD hS => ?_)
            have hP : va_P D vwCl (fl [wMo K hMo sMo_j207, wRow K (fun _ => hMo 8) 800 sMread_j207, wRowI K (fun _ => hMo 17) 101 sMkind, wRowI K (fun _ => hMo 19) 101 sMwidth, wRow K (fun _ => hMo 23) 101 sMbase, wRowZ K (fun _ => hMo 26) 40000 sMbits]) H := hP
            have hD : va_D A (fl [wMo K hMo sMo_j207, wRow K (fun _ => hMo 8) 800 sMread_j207, wRowI K (fun _ => hMo 17) 101 sMkind, wRowI K (fun _ => hMo 19) 101 sMwidth, wRow K (fun _ => hMo 23) 101 sMbase, wRowZ K (fun _ => hMo 26) 40000 sMbits]) := hD
            exact J238 x6_j207 ((100 * x6_j207) + x1_L107) q32 sMo_j207 sMread_j207 H locs ls hP hD hS (lv_sub hl [0, 1, 2, 3, 4] rfl) hf
          · replace hf := o_f c33 hf
            refine lv_ldc2 (pc := 223) hx hb hown (hts _ (List.mem_cons_of_mem _ tw_1092)) d_Mod_takeAll_223 ?_
            refine lv_goto (tgt := 238) (pc := 226) hx hb d_Mod_takeAll_226 (by decide) ?_
            exact J238 x6_j207 ((100 * x6_j207) + x1_L107) ((-9000000000000000000)) sMo_j207 sMread_j207 H locs ls hP hD hS (lv_sub hl [0, 1, 2, 3, 4] rfl) hf
        have J162 : ∀ (x6_j162 : Int32) (x7_j162 : Int64) (t0_j162 : Int32) (sMo_j162 : S_Mo) (sMread_j162 : (Nat → Int64)) (H : Heap) (locs : List Loc) (ls : Array Slot), va_P D vwCl (fl [wMo K hMo sMo_j162, wRow K (fun _ => hMo 8) 800 sMread_j162, wRowI K (fun _ => hMo 17) 101 sMkind, wRowI K (fun _ => hMo 19) 101 sMwidth, wRow K (fun _ => hMo 23) 101 sMbase, wRowZ K (fun _ => hMo 26) 40000 sMbits]) H → va_D A (fl [wMo K hMo sMo_j162, wRow K (fun _ => hMo 8) 800 sMread_j162, wRowI K (fun _ => hMo 17) 101 sMkind, wRowI K (fun _ => hMo 19) 101 sMwidth, wRow K (fun _ => hMo 23) 101 sMbase, wRowZ K (fun _ => hMo 26) 40000 sMbits]) → va_S A s.heap H locs → lv_has ls 10 [(0, .ref (hMo 0)), (1, .int x1_L107), (2, .long x2_L107), (4, .int x4_L107), (6, .int x6_j162), (7, .long x7_j162)] → Mod_takeAll_j162 fu sMkind sMwidth sMbase sMbits (fun v0 v1 v2 => Mod_takeAll_L107 fu sMkind sMwidth sMbase sMbits x1_L107 x2_L107 x4_L107 n_107 v0 v1 v2) x1_L107 x2_L107 x4_L107 x6_j162 x7_j162 t0_j162 sMo_j162 sMread_j162 = some ((sMo', sMread')) → W p l e rm_Mod_takeAll s m ([.ref (hMo 0), .int a0] : List Value).toArray below meth c H locs 0 0 (Qv below ([.ref (hMo 0), .int a0] : List Value).toArray s D K A (fl [wMo K hMo sMo', wRow K (fun _ => hMo 8) 800 sMread', wRowI K (fun _ => hMo 17) 101 sMkind, wRowI K (fun _ => hMo 19) 101 sMwidth, wRow K (fun _ => hMo 23) 101 sMbase, wRowZ K (fun _ => hMo 26) 40000 sMbits])) (F0 m 162 ls [.int t0_j162]) := by
          intro x6_j162 x7_j162 t0_j162 sMo_j162 sMread_j162 H locs ls hP hD hS hl hf
          refine lv_istore (lv' := [(9, .int t0_j162), (0, .ref (hMo 0)), (1, .int x1_L107), (2, .long x2_L107), (4, .int x4_L107), (6, .int x6_j162), (7, .long x7_j162)]) (pc := 162) hx hb d_Mod_takeAll_162 hl (by decide) rfl (fun ls hl => ?_)
          refine lv_iload (pc := 164) hx hb d_Mod_takeAll_164 (lv_at hl 4 rfl) ?_
          refine lv_if_le (tgt := 207) (pc := 166) hx hb d_Mod_takeAll_166 (by decide) (fun c31 => ?_) (fun c31 => ?_)
          · replace hf := o_t c31 hf
            exact J207 x6_j162 x7_j162 t0_j162 sMo_j162 sMread_j162 H locs ls hP hD hS (lv_sub hl [1, 2, 3, 4, 5, 6, 0] rfl) hf
          · replace hf := o_f c31 hf
            refine lv_iload (pc := 169) hx hb d_Mod_takeAll_169 (lv_at hl 0 rfl) ?_
            refine lv_if_ne (tgt := 207) (pc := 171) hx hb d_Mod_takeAll_171 (by decide) (fun c30 => ?_) (fun c30 => ?_)
            · replace hf := o_f c30 hf
              exact J207 x6_j162 x7_j162 t0_j162 sMo_j162 sMread_j162 H locs ls hP hD hS (lv_sub hl [1, 2, 3, 4, 5, 6, 0] rfl) hf
            · replace hf := o_t c30 hf
              refine lv_aload_n (pc := 174) hx hb d_Mod_takeAll_174 rfl (lv_at hl 1 rfl) ?_
              refine va_get (D := D) (ci := 10) (v := .int (Mo_fault sMo_j162)) (C := R_Mod) (T := T_Mod) (N := 61) (pc := 175) hx hb hts (fun w h => List.mem_cons_of_mem _ (in_Mod w h)) hown hK hP _ (fl_at 0 0 rfl rfl) rfl 8 (by decide) (hts _ (List.mem_cons_of_mem _ tw_1101)) (fun _ h9 => h9) rfl d_Mod_takeAll_175 ?_
              refine lv_if_ne (tgt := 207) (pc := 178) hx hb d_Mod_takeAll_178 (by decide) (fun c29 => ?_) (fun c29 => ?_)
              · replace hf := o_f c29 hf
                exact J207 x6_j162 x7_j162 t0_j162 sMo_j162 sMread_j162 H locs ls hP hD hS (lv_sub hl [1, 2, 3, 4, 5, 6, 0] rfl) hf
              · replace hf := o_t c29 hf
                refine lv_lload_n (pc := 181) hx hb d_Mod_takeAll_181 rfl (lv_at hl 3 rfl) ?_
                refine lv_lload (pc := 182) hx hb d_Mod_takeAll_182 (lv_at hl 6 rfl) ?_
                refine lv_ladd (pc := 184) hx hb d_Mod_takeAll_184 ?_
                refine lv_aload_n (pc := 185) hx hb d_Mod_takeAll_185 rfl (lv_at hl 1 rfl) ?_
                refine va_get (D := D) (ci := 10) (v := .ref (hMo 19)) (C := R_Mod) (T := T_Mod) (N := 61) (pc := 186) hx hb hts (fun w h => List.mem_cons_of_mem _ (in_Mod w h)) hown hK hP _ (fl_at 0 0 rfl rfl) rfl 25 (by decide) (hts _ (List.mem_cons_of_mem _ tw_1118)) (fun _ h9 => h9) rfl d_Mod_takeAll_186 ?_
                refine lv_iload_n (pc := 189) hx hb d_Mod_takeAll_189 rfl (lv_at hl 2 rfl) ?_
                obtain ⟨hi25, hf⟩ := o_gi_e hf
                refine va_iald (D := D) (pc := 190) hx hb hK hP _ 0 (fl_at 3 0 rfl rfl) rfl hi25 d_Mod_takeAll_190 ?_
                obtain ⟨q26, hq26, hf⟩ := o_bd_e hf
                refine fi_l (pc := 191) (va_runS (As := [.int (sMwidth (x1_L107 : Int32).toNatClampNeg)]) (rest := [.long (x2_L107 + x7_j162)]) ⟨hx, hb, hml, hown, hts⟩ ((c_Mod_most l D K (sMwidth (x1_L107 : Int32).toNatClampNeg) q26 hq26) _) (cwS 1 hts (gS tw_1437 tw_1438 tw_12 tw_1439) rfl rfl rfl (by decide +kernel) ⟨by decide, by decide⟩) ⟨mPre_blind, (mPre_fl hK hF hA hP hD hS [] rfl rfl)⟩ rfl rfl hl.1 rfl (lv_room (Nat.le_of_ble_eq_true rfl)) d_Mod_takeAll_191 ⟨Nat.zero_le _, Nat.zero_le _⟩) hA hP hD hS [] rfl rfl (fun H locs hP hD hS => ?_)
                have hP : va_P D vwCl (fl [wMo K hMo sMo_j162, wRow K (fun _ => hMo 8) 800 sMread_j162, wRowI K (fun _ => hMo 17) 101 sMkind, wRowI K (fun _ => hMo 19) 101 sMwidth, wRow K (fun _ => hMo 23) 101 sMbase, wRowZ K (fun _ => hMo 26) 40000 sMbits]) H := hP
                have hD : va_D A (fl [wMo K hMo sMo_j162, wRow K (fun _ => hMo 8) 800 sMread_j162, wRowI K (fun _ => hMo 17) 101 sMkind, wRowI K (fun _ => hMo 19) 101 sMwidth, wRow K (fun _ => hMo 23) 101 sMbase, wRowZ K (fun _ => hMo 26) 40000 sMbits]) := hD
                refine lv_lconst (v := 1) (pc := 194) hx hb d_Mod_takeAll_194 (by decide) ?_
                refine lv_lsub (pc := 195) hx hb d_Mod_takeAll_195 ?_
                refine lc_le (tgt := 207) (pc := 196) hx hb d_Mod_takeAll_196 d_Mod_takeAll_197 (by decide) (fun c28 => ?_) (fun c28 => ?_)
                · replace hf := o_t c28 hf
                  exact J207 x6_j162 x7_j162 t0_j162 sMo_j162 sMread_j162 H locs ls hP hD hS (lv_sub hl [1, 2, 3, 4, 5, 6, 0] rfl) hf
                · replace hf := o_f c28 hf
                  refine lv_aload_n (pc := 200) hx hb d_Mod_takeAll_200 rfl (lv_at hl 1 rfl) ?_
                  refine lv_bipush (v := 12) (pc := 201) hx hb d_Mod_takeAll_201 (by decide) ?_
                  refine lv_iload_n (pc := 203) hx hb d_Mod_takeAll_203 rfl (lv_at hl 2 rfl) ?_
                  obtain ⟨q27, hq27, hf⟩ := o_bd_e hf
                  refine fi_v (pc := 204) (va_runV (As := [.int 12, .int x1_L107]) (rest := []) ⟨hx, hb, hml, hown, hts⟩ ((c_Mod_wrongAt l D K hMo sMo_j162 12 x1_L107 q27 hq27) _) (cwV 2 hts (gV tw_1404 tw_1406 tp_53 tw_12 tw_1407) rfl rfl rfl (by decide +kernel) ⟨by decide, by decide⟩) ⟨mPre_blind, va_recv hK hP (ci := 10) rfl (fl_at 0 0 rfl rfl), (mPre_fl hK hF hA hP hD hS [0] rfl rfl)⟩ rfl rfl hl.1 rfl (lv_room (Nat.le_of_ble_eq_true rfl)) d_Mod_takeAll_204 ⟨Nat.zero_le _, Nat.zero_le _⟩) hA hP hD hS [0] rfl rfl (fun H locs hP hD hS => ?_)
                  have hP : va_P D vwCl (fl [wMo K hMo q27, wRow K (fun _ => hMo 8) 800 sMread_j162, wRowI K (fun _ => hMo 17) 101 sMkind, wRowI K (fun _ => hMo 19) 101 sMwidth, wRow K (fun _ => hMo 23) 101 sMbase, wRowZ K (fun _ => hMo 26) 40000 sMbits]) H := hP
                  have hD : va_D A (fl [wMo K hMo q27, wRow K (fun _ => hMo 8) 800 sMread_j162, wRowI K (fun _ => hMo 17) 101 sMkind, wRowI K (fun _ => hMo 19) 101 sMwidth, wRow K (fun _ => hMo 23) 101 sMbase, wRowZ K (fun _ => hMo 26) 40000 sMbits]) := hD
                  exact J207 x6_j162 x7_j162 t0_j162 q27 sMread_j162 H locs ls hP hD hS (lv_sub hl [1, 2, 3, 4, 5, 6, 0] rfl) hf
        have J161 : ∀ (x6_j161 : Int32) (x7_j161 : Int64) (sMo_j161 : S_Mo) (sMread_j161 : (Nat → Int64)) (H : Heap) (locs : List Loc) (ls : Array Slot), va_P D vwCl (fl [wMo K hMo sMo_j161, wRow K (fun _ => hMo 8) 800 sMread_j161, wRowI K (fun _ => hMo 17) 101 sMkind, wRowI K (fun _ => hMo 19) 101 sMwidth, wRow K (fun _ => hMo 23) 101 sMbase, wRowZ K (fun _ => hMo 26) 40000 sMbits]) H → va_D A (fl [wMo K hMo sMo_j161, wRow K (fun _ => hMo 8) 800 sMread_j161, wRowI K (fun _ => hMo 17) 101 sMkind, wRowI K (fun _ => hMo 19) 101 sMwidth, wRow K (fun _ => hMo 23) 101 sMbase, wRowZ K (fun _ => hMo 26) 40000 sMbits]) → va_S A s.heap H locs → lv_has ls 10 [(0, .ref (hMo 0)), (1, .int x1_L107), (2, .long x2_L107), (4, .int x4_L107), (6, .int x6_j161), (7, .long x7_j161)] → Mod_takeAll_j161 fu sMkind sMwidth sMbase sMbits (fun v0 v1 v2 => Mod_takeAll_L107 fu sMkind sMwidth sMbase sMbits x1_L107 x2_L107 x4_L107 n_107 v0 v1 v2) x1_L107 x2_L107 x4_L107 x6_j161 x7_j161 sMo_j161 sMread_j161 = some ((sMo', sMread')) → W p l e rm_Mod_takeAll s m ([.ref (hMo 0), .int a0] : List Value).toArray below meth c H locs 0 0 (Qv below ([.ref (hMo 0), .int a0] : List Value).toArray s D K A (fl [wMo K hMo sMo', wRow K (fun _ => hMo 8) 800 sMread', wRowI K (fun _ => hMo 17) 101 sMkind, wRowI K (fun _ => hMo 19) 101 sMwidth, wRow K (fun _ => hMo 23) 101 sMbase, wRowZ K (fun _ => hMo 26) 40000 sMbits])) (F0 m 161 ls []) := by
          intro x6_j161 x7_j161 sMo_j161 sMread_j161 H locs ls hP hD hS hl hf
          refine lv_iconst (v := 0) (pc := 161) hx hb d_Mod_takeAll_161 (by decide) ?_
          exact J162 x6_j161 x7_j161 0 sMo_j161 sMread_j161 H locs ls hP hD hS (lv_sub hl [0, 1, 2, 3, 4, 5] rfl) hf
        have J139 : ∀ (x6_j139 : Int32) (t0_j139 : Int64) (sMo_j139 : S_Mo) (sMread_j139 : (Nat → Int64)) (H : Heap) (locs : List Loc) (ls : Array Slot), va_P D vwCl (fl [wMo K hMo sMo_j139, wRow K (fun _ => hMo 8) 800 sMread_j139, wRowI K (fun _ => hMo 17) 101 sMkind, wRowI K (fun _ => hMo 19) 101 sMwidth, wRow K (fun _ => hMo 23) 101 sMbase, wRowZ K (fun _ => hMo 26) 40000 sMbits]) H → va_D A (fl [wMo K hMo sMo_j139, wRow K (fun _ => hMo 8) 800 sMread_j139, wRowI K (fun _ => hMo 17) 101 sMkind, wRowI K (fun _ => hMo 19) 101 sMwidth, wRow K (fun _ => hMo 23) 101 sMbase, wRowZ K (fun _ => hMo 26) 40000 sMbits]) → va_S A s.heap H locs → lv_has ls 10 [(0, .ref (hMo 0)), (1, .int x1_L107), (2, .long x2_L107), (4, .int x4_L107), (6, .int x6_j139)] → Mod_takeAll_j139 fu sMkind sMwidth sMbase sMbits (fun v0 v1 v2 => Mod_takeAll_L107 fu sMkind sMwidth sMbase sMbits x1_L107 x2_L107 x4_L107 n_107 v0 v1 v2) x1_L107 x2_L107 x4_L107 x6_j139 t0_j139 sMo_j139 sMread_j139 = some ((sMo', sMread')) → W p l e rm_Mod_takeAll s m ([.ref (hMo 0), .int a0] : List Value).toArray below meth c H locs 0 0 (Qv below ([.ref (hMo 0), .int a0] : List Value).toArray s D K A (fl [wMo K hMo sMo', wRow K (fun _ => hMo 8) 800 sMread', wRowI K (fun _ => hMo 17) 101 sMkind, wRowI K (fun _ => hMo 19) 101 sMwidth, wRow K (fun _ => hMo 23) 101 sMbase, wRowZ K (fun _ => hMo 26) 40000 sMbits])) (F0 m 139 ls [.long t0_j139]) := by
          intro x6_j139 t0_j139 sMo_j139 sMread_j139 H locs ls hP hD hS hl hf
          refine lv_lstore (lv' := [(7, .long t0_j139), (0, .ref (hMo 0)), (1, .int x1_L107), (2, .long x2_L107), (4, .int x4_L107), (6, .int x6_j139)]) (pc := 139) hx hb d_Mod_takeAll_139 hl (by decide) rfl (fun ls hl => ?_)
          refine lv_iload (pc := 141) hx hb d_Mod_takeAll_141 (lv_at hl 4 rfl) ?_
          refine lv_if_le (tgt := 161) (pc := 143) hx hb d_Mod_takeAll_143 (by decide) (fun c24 => ?_) (fun c24 => ?_)
          · replace hf := o_t c24 hf
            exact J161 x6_j139 t0_j139 sMo_j139 sMread_j139 H locs ls hP hD hS (lv_sub hl [1, 2, 3, 4, 5, 0] rfl) hf
          · replace hf := o_f c24 hf
            refine lv_lload (pc := 146) hx hb d_Mod_takeAll_146 (lv_at hl 0 rfl) ?_
            refine lv_iload (pc := 148) hx hb d_Mod_takeAll_148 (lv_at hl 4 rfl) ?_
            obtain ⟨q22, hq22, hf⟩ := o_bd_e hf
            refine fi_l (pc := 150) (va_runS (As := [.int x4_L107]) (rest := [.long t0_j139]) ⟨hx, hb, hml, hown, hts⟩ ((c_Mod_most l D K x4_L107 q22 hq22) _) (cwS 1 hts (gS tw_1437 tw_1438 tw_12 tw_1439) rfl rfl rfl (by decide +kernel) ⟨by decide, by decide⟩) ⟨mPre_blind, (mPre_fl hK hF hA hP hD hS [] rfl rfl)⟩ rfl rfl hl.1 rfl (lv_room (Nat.le_of_ble_eq_true rfl)) d_Mod_takeAll_150 ⟨Nat.zero_le _, Nat.zero_le _⟩) hA hP hD hS [] rfl rfl (fun H locs hP hD hS => ?_)
            have hP : va_P D vwCl (fl [wMo K hMo sMo_j139, wRow K (fun _ => hMo 8) 800 sMread_j139, wRowI K (fun _ => hMo 17) 101 sMkind, wRowI K (fun _ => hMo 19) 101 sMwidth, wRow K (fun _ => hMo 23) 101 sMbase, wRowZ K (fun _ => hMo 26) 40000 sMbits]) H := hP
            have hD : va_D A (fl [wMo K hMo sMo_j139, wRow K (fun _ => hMo 8) 800 sMread_j139, wRowI K (fun _ => hMo 17) 101 sMkind, wRowI K (fun _ => hMo 19) 101 sMwidth, wRow K (fun _ => hMo 23) 101 sMbase, wRowZ K (fun _ => hMo 26) 40000 sMbits]) := hD
            refine lc_ne (tgt := 161) (pc := 153) hx hb d_Mod_takeAll_153 d_Mod_takeAll_154 (by decide) (fun c23 => ?_) (fun c23 => ?_)
            · replace hf := o_f c23 hf
              exact J161 x6_j139 t0_j139 sMo_j139 sMread_j139 H locs ls hP hD hS (lv_sub hl [1, 2, 3, 4, 5, 0] rfl) hf
            · replace hf := o_t c23 hf
              refine lv_iconst (v := 1) (pc := 157) hx hb d_Mod_takeAll_157 (by decide) ?_
              refine lv_goto (tgt := 162) (pc := 158) hx hb d_Mod_takeAll_158 (by decide) ?_
              exact J162 x6_j139 t0_j139 1 sMo_j139 sMread_j139 H locs ls hP hD hS (lv_sub hl [1, 2, 3, 4, 5, 0] rfl) hf
        refine lv_iload (pc := 107) hx hb d_Mod_takeAll_107 (lv_at hl 4 rfl) ?_
        refine lv_aload_n (pc := 109) hx hb d_Mod_takeAll_109 rfl (lv_at hl 0 rfl) ?_
        refine va_get (D := D) (ci := 10) (v := .int (Mo_subsets sMo_L107)) (C := R_Mod) (T := T_Mod) (N := 61) (pc := 110) hx hb hts (fun w h => List.mem_cons_of_mem _ (in_Mod w h)) hown hK hP _ (fl_at 0 0 rfl rfl) rfl 37 (by decide) (hts _ (List.mem_cons_of_mem _ tw_1130)) (fun _ h9 => h9) rfl d_Mod_takeAll_110 ?_
        refine lv_icmp_ge (tgt := 245) (pc := 113) hx hb d_Mod_takeAll_113 (by decide) (fun c21 => ?_) (fun c21 => ?_)
        · replace hf := o_t c21 hf
          cases hf
          exact ret_v hx hb hr hlocks hK hP hS d_Mod_takeAll_245
        · replace hf := o_f c21 hf
          refine lv_aload_n (pc := 116) hx hb d_Mod_takeAll_116 rfl (lv_at hl 0 rfl) ?_
          refine va_get (D := D) (ci := 10) (v := .int (Mo_fault sMo_L107)) (C := R_Mod) (T := T_Mod) (N := 61) (pc := 117) hx hb hts (fun w h => List.mem_cons_of_mem _ (in_Mod w h)) hown hK hP _ (fl_at 0 0 rfl rfl) rfl 8 (by decide) (hts _ (List.mem_cons_of_mem _ tw_1101)) (fun _ h9 => h9) rfl d_Mod_takeAll_117 ?_
          refine lv_if_ne (tgt := 245) (pc := 120) hx hb d_Mod_takeAll_120 (by decide) (fun c20 => ?_) (fun c20 => ?_)
          · replace hf := o_f c20 hf
            cases hf
            exact ret_v hx hb hr hlocks hK hP hS d_Mod_takeAll_245
          · replace hf := o_t c20 hf
            refine lv_iload (pc := 123) hx hb d_Mod_takeAll_123 (lv_at hl 3 rfl) ?_
            refine lv_if_ne (tgt := 132) (pc := 125) hx hb d_Mod_takeAll_125 (by decide) (fun c19 => ?_) (fun c19 => ?_)
            · replace hf := o_f c19 hf
              refine lv_aload_n (pc := 132) hx hb d_Mod_takeAll_132 rfl (lv_at hl 0 rfl) ?_
              refine lv_iload (pc := 133) hx hb d_Mod_takeAll_133 (lv_at hl 3 rfl) ?_
              refine lv_iload_n (pc := 135) hx hb d_Mod_takeAll_135 rfl (lv_at hl 1 rfl) ?_
              obtain ⟨q18, hq18, hf⟩ := o_bd_e hf
              refine fi_l (pc := 136) (va_runV (As := [.int x4_L107, .int x1_L107]) (rest := []) ⟨hx, hb, hml, hown, hts⟩ ((c_Mod_take l D K fu hMo sMo_L107 sMbits x4_L107 x1_L107 q18.1 q18.2 hq18) _) (cwV 2 hts (gV tw_1432 tw_1434 tp_60 tw_12 tw_1435) rfl rfl rfl (by decide +kernel) ⟨by decide, by decide⟩) ⟨mPre_blind, va_recv hK hP (ci := 10) rfl (fl_at 0 0 rfl rfl), (mPre_fl hK hF hA hP hD hS [0, 5] rfl rfl)⟩ rfl rfl hl.1 rfl (lv_room (Nat.le_of_ble_eq_true rfl)) d_Mod_takeAll_136 ⟨Nat.zero_le _, Nat.zero_le _⟩) hA hP hD hS [0, 5] rfl rfl (fun H locs hP hD hS => ?_)
              have hP : va_P D vwCl (fl [wMo K hMo q18.2, wRow K (fun _ => hMo 8) 800 sMread_L107, wRowI K (fun _ => hMo 17) 101 sMkind, wRowI K (fun _ => hMo 19) 101 sMwidth, wRow K (fun _ => hMo 23) 101 sMbase, wRowZ K (fun _ => hMo 26) 40000 sMbits]) H := hP
              have hD : va_D A (fl [wMo K hMo q18.2, wRow K (fun _ => hMo 8) 800 sMread_L107, wRowI K (fun _ => hMo 17) 101 sMkind, wRowI K (fun _ => hMo 19) 101 sMwidth, wRow K (fun _ => hMo 23) 101 sMbase, wRowZ K (fun _ => hMo 26) 40000 sMbits]) := hD
              exact J139 x6_L107 q18.1 q18.2 sMread_L107 H locs ls hP hD hS (lv_sub hl [0, 1, 2, 3, 4] rfl) hf
            · replace hf := o_t c19 hf
              refine lv_lconst (v := 0) (pc := 128) hx hb d_Mod_takeAll_128 (by decide) ?_
              refine lv_goto (tgt := 139) (pc := 129) hx hb d_Mod_takeAll_129 (by decide) ?_
              exact J139 x6_L107 0 sMo_L107 sMread_L107 H locs ls hP hD hS (lv_sub hl [0, 1, 2, 3, 4] rfl) hf
    exact L107 x1_j104 x2_j104 x4_j104 fu 0 sMo_j104 sMread_j104 H locs ls hP hD hS (lv_sub hl [1, 2, 3, 4, 0] rfl) hf
  have J97 : ∀ (x1_j97 : Int32) (x2_j97 : Int64) (x4_j97 : Int32) (sMo_j97 : S_Mo) (sMread_j97 : (Nat → Int64)) (H : Heap) (locs : List Loc) (ls : Array Slot), va_P D vwCl (fl [wMo K hMo sMo_j97, wRow K (fun _ => hMo 8) 800 sMread_j97, wRowI K (fun _ => hMo 17) 101 sMkind, wRowI K (fun _ => hMo 19) 101 sMwidth, wRow K (fun _ => hMo 23) 101 sMbase, wRowZ K (fun _ => hMo 26) 40000 sMbits]) H → va_D A (fl [wMo K hMo sMo_j97, wRow K (fun _ => hMo 8) 800 sMread_j97, wRowI K (fun _ => hMo 17) 101 sMkind, wRowI K (fun _ => hMo 19) 101 sMwidth, wRow K (fun _ => hMo 23) 101 sMbase, wRowZ K (fun _ => hMo 26) 40000 sMbits]) → va_S A s.heap H locs → lv_has ls 10 [(0, .ref (hMo 0)), (1, .int x1_j97), (2, .long x2_j97), (4, .int x4_j97)] → Mod_takeAll_j97 fu sMkind sMwidth sMbase sMbits x1_j97 x2_j97 x4_j97 sMo_j97 sMread_j97 = some ((sMo', sMread')) → W p l e rm_Mod_takeAll s m ([.ref (hMo 0), .int a0] : List Value).toArray below meth c H locs 0 0 (Qv below ([.ref (hMo 0), .int a0] : List Value).toArray s D K A (fl [wMo K hMo sMo', wRow K (fun _ => hMo 8) 800 sMread', wRowI K (fun _ => hMo 17) 101 sMkind, wRowI K (fun _ => hMo 19) 101 sMwidth, wRow K (fun _ => hMo 23) 101 sMbase, wRowZ K (fun _ => hMo 26) 40000 sMbits])) (F0 m 97 ls []) := by
    intro x1_j97 x2_j97 x4_j97 sMo_j97 sMread_j97 H locs ls hP hD hS hl hf
    refine lv_aload_n (pc := 97) hx hb d_Mod_takeAll_97 rfl (lv_at hl 0 rfl) ?_
    refine lv_bipush (v := 12) (pc := 98) hx hb d_Mod_takeAll_98 (by decide) ?_
    refine lv_iload_n (pc := 100) hx hb d_Mod_takeAll_100 rfl (lv_at hl 1 rfl) ?_
    obtain ⟨q17, hq17, hf⟩ := o_bd_e hf
    refine fi_v (pc := 101) (va_runV (As := [.int 12, .int x1_j97]) (rest := []) ⟨hx, hb, hml, hown, hts⟩ ((c_Mod_wrongAt l D K hMo sMo_j97 12 x1_j97 q17 hq17) _) (cwV 2 hts (gV tw_1404 tw_1406 tp_53 tw_12 tw_1407) rfl rfl rfl (by decide +kernel) ⟨by decide, by decide⟩) ⟨mPre_blind, va_recv hK hP (ci := 10) rfl (fl_at 0 0 rfl rfl), (mPre_fl hK hF hA hP hD hS [0] rfl rfl)⟩ rfl rfl hl.1 rfl (lv_room (Nat.le_of_ble_eq_true rfl)) d_Mod_takeAll_101 ⟨Nat.zero_le _, Nat.zero_le _⟩) hA hP hD hS [0] rfl rfl (fun H locs hP hD hS => ?_)
    have hP : va_P D vwCl (fl [wMo K hMo q17, wRow K (fun _ => hMo 8) 800 sMread_j97, wRowI K (fun _ => hMo 17) 101 sMkind, wRowI K (fun _ => hMo 19) 101 sMwidth, wRow K (fun _ => hMo 23) 101 sMbase, wRowZ K (fun _ => hMo 26) 40000 sMbits]) H := hP
    have hD : va_D A (fl [wMo K hMo q17, wRow K (fun _ => hMo 8) 800 sMread_j97, wRowI K (fun _ => hMo 17) 101 sMkind, wRowI K (fun _ => hMo 19) 101 sMwidth, wRow K (fun _ => hMo 23) 101 sMbase, wRowZ K (fun _ => hMo 26) 40000 sMbits]) := hD
    exact J104 x1_j97 x2_j97 x4_j97 q17 sMread_j97 H locs ls hP hD hS (lv_sub hl [0, 1, 2, 3] rfl) hf
  have J73 : ∀ (x1_j73 : Int32) (x2_j73 : Int64) (x4_j73 : Int32) (sMo_j73 : S_Mo) (sMread_j73 : (Nat → Int64)) (H : Heap) (locs : List Loc) (ls : Array Slot), va_P D vwCl (fl [wMo K hMo sMo_j73, wRow K (fun _ => hMo 8) 800 sMread_j73, wRowI K (fun _ => hMo 17) 101 sMkind, wRowI K (fun _ => hMo 19) 101 sMwidth, wRow K (fun _ => hMo 23) 101 sMbase, wRowZ K (fun _ => hMo 26) 40000 sMbits]) H → va_D A (fl [wMo K hMo sMo_j73, wRow K (fun _ => hMo 8) 800 sMread_j73, wRowI K (fun _ => hMo 17) 101 sMkind, wRowI K (fun _ => hMo 19) 101 sMwidth, wRow K (fun _ => hMo 23) 101 sMbase, wRowZ K (fun _ => hMo 26) 40000 sMbits]) → va_S A s.heap H locs → lv_has ls 10 [(0, .ref (hMo 0)), (1, .int x1_j73), (2, .long x2_j73), (4, .int x4_j73)] → Mod_takeAll_j73 fu sMkind sMwidth sMbase sMbits x1_j73 x2_j73 x4_j73 sMo_j73 sMread_j73 = some ((sMo', sMread')) → W p l e rm_Mod_takeAll s m ([.ref (hMo 0), .int a0] : List Value).toArray below meth c H locs 0 0 (Qv below ([.ref (hMo 0), .int a0] : List Value).toArray s D K A (fl [wMo K hMo sMo', wRow K (fun _ => hMo 8) 800 sMread', wRowI K (fun _ => hMo 17) 101 sMkind, wRowI K (fun _ => hMo 19) 101 sMwidth, wRow K (fun _ => hMo 23) 101 sMbase, wRowZ K (fun _ => hMo 26) 40000 sMbits])) (F0 m 73 ls []) := by
    intro x1_j73 x2_j73 x4_j73 sMo_j73 sMread_j73 H locs ls hP hD hS hl hf
    refine lv_aload_n (pc := 73) hx hb d_Mod_takeAll_73 rfl (lv_at hl 0 rfl) ?_
    refine va_get (D := D) (ci := 10) (v := .ref (hMo 17)) (C := R_Mod) (T := T_Mod) (N := 61) (pc := 74) hx hb hts (fun w h => List.mem_cons_of_mem _ (in_Mod w h)) hown hK hP _ (fl_at 0 0 rfl rfl) rfl 23 (by decide) (hts _ (List.mem_cons_of_mem _ tw_1116)) (fun _ h9 => h9) rfl d_Mod_takeAll_74 ?_
    refine lv_iload_n (pc := 77) hx hb d_Mod_takeAll_77 rfl (lv_at hl 1 rfl) ?_
    obtain ⟨hi12, hf⟩ := o_gi_e hf
    refine va_iald (D := D) (pc := 78) hx hb hK hP _ 0 (fl_at 2 0 rfl rfl) rfl hi12 d_Mod_takeAll_78 ?_
    refine lv_iconst (v := 2) (pc := 79) hx hb d_Mod_takeAll_79 (by decide) ?_
    refine lv_icmp_ne (tgt := 104) (pc := 80) hx hb d_Mod_takeAll_80 (by decide) (fun c16 => ?_) (fun c16 => ?_)
    · replace hf := o_f c16 hf
      exact J104 x1_j73 x2_j73 x4_j73 sMo_j73 sMread_j73 H locs ls hP hD hS (lv_sub hl [0, 1, 2, 3] rfl) hf
    · replace hf := o_t c16 hf
      refine lv_lload_n (pc := 83) hx hb d_Mod_takeAll_83 rfl (lv_at hl 2 rfl) ?_
      refine lv_aload_n (pc := 84) hx hb d_Mod_takeAll_84 rfl (lv_at hl 0 rfl) ?_
      refine va_get (D := D) (ci := 10) (v := .ref (hMo 19)) (C := R_Mod) (T := T_Mod) (N := 61) (pc := 85) hx hb hts (fun w h => List.mem_cons_of_mem _ (in_Mod w h)) hown hK hP _ (fl_at 0 0 rfl rfl) rfl 25 (by decide) (hts _ (List.mem_cons_of_mem _ tw_1118)) (fun _ h9 => h9) rfl d_Mod_takeAll_85 ?_
      refine lv_iload_n (pc := 88) hx hb d_Mod_takeAll_88 rfl (lv_at hl 1 rfl) ?_
      obtain ⟨hi13, hf⟩ := o_gi_e hf
      refine va_iald (D := D) (pc := 89) hx hb hK hP _ 0 (fl_at 3 0 rfl rfl) rfl hi13 d_Mod_takeAll_89 ?_
      obtain ⟨q14, hq14, hf⟩ := o_bd_e hf
      refine fi_l (pc := 90) (va_runS (As := [.int (sMwidth (x1_j73 : Int32).toNatClampNeg)]) (rest := [.long x2_j73]) ⟨hx, hb, hml, hown, hts⟩ ((c_Mod_most l D K (sMwidth (x1_j73 : Int32).toNatClampNeg) q14 hq14) _) (cwS 1 hts (gS tw_1437 tw_1438 tw_12 tw_1439) rfl rfl rfl (by decide +kernel) ⟨by decide, by decide⟩) ⟨mPre_blind, (mPre_fl hK hF hA hP hD hS [] rfl rfl)⟩ rfl rfl hl.1 rfl (lv_room (Nat.le_of_ble_eq_true rfl)) d_Mod_takeAll_90 ⟨Nat.zero_le _, Nat.zero_le _⟩) hA hP hD hS [] rfl rfl (fun H locs hP hD hS => ?_)
      have hP : va_P D vwCl (fl [wMo K hMo sMo_j73, wRow K (fun _ => hMo 8) 800 sMread_j73, wRowI K (fun _ => hMo 17) 101 sMkind, wRowI K (fun _ => hMo 19) 101 sMwidth, wRow K (fun _ => hMo 23) 101 sMbase, wRowZ K (fun _ => hMo 26) 40000 sMbits]) H := hP
      have hD : va_D A (fl [wMo K hMo sMo_j73, wRow K (fun _ => hMo 8) 800 sMread_j73, wRowI K (fun _ => hMo 17) 101 sMkind, wRowI K (fun _ => hMo 19) 101 sMwidth, wRow K (fun _ => hMo 23) 101 sMbase, wRowZ K (fun _ => hMo 26) 40000 sMbits]) := hD
      refine lc_ne (tgt := 104) (pc := 93) hx hb d_Mod_takeAll_93 d_Mod_takeAll_94 (by decide) (fun c15 => ?_) (fun c15 => ?_)
      · replace hf := o_f c15 hf
        exact J104 x1_j73 x2_j73 x4_j73 sMo_j73 sMread_j73 H locs ls hP hD hS (lv_sub hl [0, 1, 2, 3] rfl) hf
      · replace hf := o_t c15 hf
        exact J97 x1_j73 x2_j73 x4_j73 sMo_j73 sMread_j73 H locs ls hP hD hS (lv_sub hl [0, 1, 2, 3] rfl) hf
  have J47 : ∀ (x1_j47 : Int32) (x2_j47 : Int64) (x4_j47 : Int32) (t0_j47 : Int32) (sMo_j47 : S_Mo) (sMread_j47 : (Nat → Int64)) (H : Heap) (locs : List Loc) (ls : Array Slot), va_P D vwCl (fl [wMo K hMo sMo_j47, wRow K (fun _ => hMo 8) 800 sMread_j47, wRowI K (fun _ => hMo 17) 101 sMkind, wRowI K (fun _ => hMo 19) 101 sMwidth, wRow K (fun _ => hMo 23) 101 sMbase, wRowZ K (fun _ => hMo 26) 40000 sMbits]) H → va_D A (fl [wMo K hMo sMo_j47, wRow K (fun _ => hMo 8) 800 sMread_j47, wRowI K (fun _ => hMo 17) 101 sMkind, wRowI K (fun _ => hMo 19) 101 sMwidth, wRow K (fun _ => hMo 23) 101 sMbase, wRowZ K (fun _ => hMo 26) 40000 sMbits]) → va_S A s.heap H locs → lv_has ls 10 [(0, .ref (hMo 0)), (1, .int x1_j47), (2, .long x2_j47), (4, .int x4_j47)] → Mod_takeAll_j47 fu sMkind sMwidth sMbase sMbits x1_j47 x2_j47 x4_j47 t0_j47 sMo_j47 sMread_j47 = some ((sMo', sMread')) → W p l e rm_Mod_takeAll s m ([.ref (hMo 0), .int a0] : List Value).toArray below meth c H locs 0 0 (Qv below ([.ref (hMo 0), .int a0] : List Value).toArray s D K A (fl [wMo K hMo sMo', wRow K (fun _ => hMo 8) 800 sMread', wRowI K (fun _ => hMo 17) 101 sMkind, wRowI K (fun _ => hMo 19) 101 sMwidth, wRow K (fun _ => hMo 23) 101 sMbase, wRowZ K (fun _ => hMo 26) 40000 sMbits])) (F0 m 47 ls [.int t0_j47]) := by
    intro x1_j47 x2_j47 x4_j47 t0_j47 sMo_j47 sMread_j47 H locs ls hP hD hS hl hf
    refine lv_istore (lv' := [(5, .int t0_j47), (0, .ref (hMo 0)), (1, .int x1_j47), (2, .long x2_j47), (4, .int x4_j47)]) (pc := 47) hx hb d_Mod_takeAll_47 hl (by decide) rfl (fun ls hl => ?_)
    refine lv_aload_n (pc := 49) hx hb d_Mod_takeAll_49 rfl (lv_at hl 1 rfl) ?_
    refine va_get (D := D) (ci := 10) (v := .int (Mo_fault sMo_j47)) (C := R_Mod) (T := T_Mod) (N := 61) (pc := 50) hx hb hts (fun w h => List.mem_cons_of_mem _ (in_Mod w h)) hown hK hP _ (fl_at 0 0 rfl rfl) rfl 8 (by decide) (hts _ (List.mem_cons_of_mem _ tw_1101)) (fun _ h9 => h9) rfl d_Mod_takeAll_50 ?_
    refine lv_if_ne (tgt := 104) (pc := 53) hx hb d_Mod_takeAll_53 (by decide) (fun c11 => ?_) (fun c11 => ?_)
    · replace hf := o_f c11 hf
      exact J104 x1_j47 x2_j47 x4_j47 sMo_j47 sMread_j47 H locs ls hP hD hS (lv_sub hl [1, 2, 3, 4] rfl) hf
    · replace hf := o_t c11 hf
      refine lv_iload (pc := 56) hx hb d_Mod_takeAll_56 (lv_at hl 4 rfl) ?_
      refine lv_bipush (v := 33) (pc := 58) hx hb d_Mod_takeAll_58 (by decide) ?_
      refine lv_icmp_gt (tgt := 97) (pc := 60) hx hb d_Mod_takeAll_60 (by decide) (fun c10 => ?_) (fun c10 => ?_)
      · replace hf := o_t c10 hf
        exact J97 x1_j47 x2_j47 x4_j47 sMo_j47 sMread_j47 H locs ls hP hD hS (lv_sub hl [1, 2, 3, 4] rfl) hf
      · replace hf := o_f c10 hf
        refine lv_iload (pc := 63) hx hb d_Mod_takeAll_63 (lv_at hl 0 rfl) ?_
        refine lv_if_eq (tgt := 73) (pc := 65) hx hb d_Mod_takeAll_65 (by decide) (fun c9 => ?_) (fun c9 => ?_)
        · replace hf := o_t c9 hf
          exact J73 x1_j47 x2_j47 x4_j47 sMo_j47 sMread_j47 H locs ls hP hD hS (lv_sub hl [1, 2, 3, 4] rfl) hf
        · replace hf := o_f c9 hf
          refine lv_iload (pc := 68) hx hb d_Mod_takeAll_68 (lv_at hl 4 rfl) ?_
          refine lv_if_gt (tgt := 97) (pc := 70) hx hb d_Mod_takeAll_70 (by decide) (fun c8 => ?_) (fun c8 => ?_)
          · replace hf := o_t c8 hf
            exact J97 x1_j47 x2_j47 x4_j47 sMo_j47 sMread_j47 H locs ls hP hD hS (lv_sub hl [1, 2, 3, 4] rfl) hf
          · replace hf := o_f c8 hf
            exact J73 x1_j47 x2_j47 x4_j47 sMo_j47 sMread_j47 H locs ls hP hD hS (lv_sub hl [1, 2, 3, 4] rfl) hf
  have J42 : ∀ (x1_j42 : Int32) (x2_j42 : Int64) (x4_j42 : Int32) (sMo_j42 : S_Mo) (sMread_j42 : (Nat → Int64)) (H : Heap) (locs : List Loc) (ls : Array Slot), va_P D vwCl (fl [wMo K hMo sMo_j42, wRow K (fun _ => hMo 8) 800 sMread_j42, wRowI K (fun _ => hMo 17) 101 sMkind, wRowI K (fun _ => hMo 19) 101 sMwidth, wRow K (fun _ => hMo 23) 101 sMbase, wRowZ K (fun _ => hMo 26) 40000 sMbits]) H → va_D A (fl [wMo K hMo sMo_j42, wRow K (fun _ => hMo 8) 800 sMread_j42, wRowI K (fun _ => hMo 17) 101 sMkind, wRowI K (fun _ => hMo 19) 101 sMwidth, wRow K (fun _ => hMo 23) 101 sMbase, wRowZ K (fun _ => hMo 26) 40000 sMbits]) → va_S A s.heap H locs → lv_has ls 10 [(0, .ref (hMo 0)), (1, .int x1_j42), (2, .long x2_j42), (4, .int x4_j42)] → Mod_takeAll_j42 fu sMkind sMwidth sMbase sMbits x1_j42 x2_j42 x4_j42 sMo_j42 sMread_j42 = some ((sMo', sMread')) → W p l e rm_Mod_takeAll s m ([.ref (hMo 0), .int a0] : List Value).toArray below meth c H locs 0 0 (Qv below ([.ref (hMo 0), .int a0] : List Value).toArray s D K A (fl [wMo K hMo sMo', wRow K (fun _ => hMo 8) 800 sMread', wRowI K (fun _ => hMo 17) 101 sMkind, wRowI K (fun _ => hMo 19) 101 sMwidth, wRow K (fun _ => hMo 23) 101 sMbase, wRowZ K (fun _ => hMo 26) 40000 sMbits])) (F0 m 42 ls []) := by
    intro x1_j42 x2_j42 x4_j42 sMo_j42 sMread_j42 H locs ls hP hD hS hl hf
    refine lv_iconst (v := 1) (pc := 42) hx hb d_Mod_takeAll_42 (by decide) ?_
    refine lv_goto (tgt := 47) (pc := 43) hx hb d_Mod_takeAll_43 (by decide) ?_
    exact J47 x1_j42 x2_j42 x4_j42 1 sMo_j42 sMread_j42 H locs ls hP hD hS (lv_sub hl [0, 1, 2, 3] rfl) hf
  refine lv_aload_n (pc := 0) hx hb d_Mod_takeAll_0 rfl (lv_at hl 0 rfl) ?_
  refine lv_aload_n (pc := 1) hx hb d_Mod_takeAll_1 rfl (lv_at hl 0 rfl) ?_
  refine va_get (D := D) (ci := 10) (v := .ref (hMo 19)) (C := R_Mod) (T := T_Mod) (N := 61) (pc := 2) hx hb hts (fun w h => List.mem_cons_of_mem _ (in_Mod w h)) hown hK hP _ (fl_at 0 0 rfl rfl) rfl 25 (by decide) (hts _ (List.mem_cons_of_mem _ tw_1118)) (fun _ h9 => h9) rfl d_Mod_takeAll_2 ?_
  refine lv_iload_n (pc := 5) hx hb d_Mod_takeAll_5 rfl (lv_at hl 1 rfl) ?_
  obtain ⟨hi1, hf⟩ := o_gi_e hf
  refine va_iald (D := D) (pc := 6) hx hb hK hP _ 0 (fl_at 3 0 rfl rfl) rfl hi1 d_Mod_takeAll_6 ?_
  refine lv_iload_n (pc := 7) hx hb d_Mod_takeAll_7 rfl (lv_at hl 1 rfl) ?_
  obtain ⟨q2, hq2, hf⟩ := o_bd_e hf
  refine fi_l (pc := 8) (va_runV (As := [.int (sMwidth (a0 : Int32).toNatClampNeg), .int a0]) (rest := []) ⟨hx, hb, hml, hown, hts⟩ ((c_Mod_take l D K fu hMo sMo sMbits (sMwidth (a0 : Int32).toNatClampNeg) a0 q2.1 q2.2 hq2) _) (cwV 2 hts (gV tw_1432 tw_1434 tp_60 tw_12 tw_1435) rfl rfl rfl (by decide +kernel) ⟨by decide, by decide⟩) ⟨mPre_blind, va_recv hK hP (ci := 10) rfl (fl_at 0 0 rfl rfl), (mPre_fl hK hF hA hP hD hS [0, 5] rfl rfl)⟩ rfl rfl hl.1 rfl (lv_room (Nat.le_of_ble_eq_true rfl)) d_Mod_takeAll_8 ⟨Nat.zero_le _, Nat.zero_le _⟩) hA hP hD hS [0, 5] rfl rfl (fun H locs hP hD hS => ?_)
  have hP : va_P D vwCl (fl [wMo K hMo q2.2, wRow K (fun _ => hMo 8) 800 sMread, wRowI K (fun _ => hMo 17) 101 sMkind, wRowI K (fun _ => hMo 19) 101 sMwidth, wRow K (fun _ => hMo 23) 101 sMbase, wRowZ K (fun _ => hMo 26) 40000 sMbits]) H := hP
  have hD : va_D A (fl [wMo K hMo q2.2, wRow K (fun _ => hMo 8) 800 sMread, wRowI K (fun _ => hMo 17) 101 sMkind, wRowI K (fun _ => hMo 19) 101 sMwidth, wRow K (fun _ => hMo 23) 101 sMbase, wRowZ K (fun _ => hMo 26) 40000 sMbits]) := hD
  refine lv_lstore_n (lv' := [(2, .long q2.1), (0, .ref (hMo 0)), (1, .int a0)]) (pc := 11) hx hb d_Mod_takeAll_11 rfl hl (by decide) rfl (fun ls hl => ?_)
  refine lv_aload_n (pc := 12) hx hb d_Mod_takeAll_12 rfl (lv_at hl 1 rfl) ?_
  refine lv_bipush (v := 6) (pc := 13) hx hb d_Mod_takeAll_13 (by decide) ?_
  refine lv_iload_n (pc := 15) hx hb d_Mod_takeAll_15 rfl (lv_at hl 2 rfl) ?_
  obtain ⟨q3, hq3, hf⟩ := o_bd_e hf
  refine fi_l (pc := 16) (va_runV (As := [.int 6, .int a0]) (rest := []) ⟨hx, hb, hml, hown, hts⟩ ((c_Mod_take l D K fu hMo q2.2 sMbits 6 a0 q3.1 q3.2 hq3) _) (cwV 2 hts (gV tw_1432 tw_1434 tp_60 tw_12 tw_1435) rfl rfl rfl (by decide +kernel) ⟨by decide, by decide⟩) ⟨mPre_blind, va_recv hK hP (ci := 10) rfl (fl_at 0 0 rfl rfl), (mPre_fl hK hF hA hP hD hS [0, 5] rfl rfl)⟩ rfl rfl hl.1 rfl (lv_room (Nat.le_of_ble_eq_true rfl)) d_Mod_takeAll_16 ⟨Nat.zero_le _, Nat.zero_le _⟩) hA hP hD hS [0, 5] rfl rfl (fun H locs hP hD hS => ?_)
  have hP : va_P D vwCl (fl [wMo K hMo q3.2, wRow K (fun _ => hMo 8) 800 sMread, wRowI K (fun _ => hMo 17) 101 sMkind, wRowI K (fun _ => hMo 19) 101 sMwidth, wRow K (fun _ => hMo 23) 101 sMbase, wRowZ K (fun _ => hMo 26) 40000 sMbits]) H := hP
  have hD : va_D A (fl [wMo K hMo q3.2, wRow K (fun _ => hMo 8) 800 sMread, wRowI K (fun _ => hMo 17) 101 sMkind, wRowI K (fun _ => hMo 19) 101 sMwidth, wRow K (fun _ => hMo 23) 101 sMbase, wRowZ K (fun _ => hMo 26) 40000 sMbits]) := hD
  refine lv_l2i (pc := 19) hx hb d_Mod_takeAll_19 rfl ?_
  refine lv_istore (lv' := [(4, .int ((q3.1 : Int64).toInt32)), (2, .long q2.1), (0, .ref (hMo 0)), (1, .int a0)]) (pc := 20) hx hb d_Mod_takeAll_20 hl (by decide) rfl (fun ls hl => ?_)
  refine lv_aload_n (pc := 22) hx hb d_Mod_takeAll_22 rfl (lv_at hl 2 rfl) ?_
  refine va_get (D := D) (ci := 10) (v := .ref (hMo 17)) (C := R_Mod) (T := T_Mod) (N := 61) (pc := 23) hx hb hts (fun w h => List.mem_cons_of_mem _ (in_Mod w h)) hown hK hP _ (fl_at 0 0 rfl rfl) rfl 23 (by decide) (hts _ (List.mem_cons_of_mem _ tw_1116)) (fun _ h9 => h9) rfl d_Mod_takeAll_23 ?_
  refine lv_iload_n (pc := 26) hx hb d_Mod_takeAll_26 rfl (lv_at hl 3 rfl) ?_
  obtain ⟨hi4, hf⟩ := o_gi_e hf
  refine va_iald (D := D) (pc := 27) hx hb hK hP _ 0 (fl_at 2 0 rfl rfl) rfl hi4 d_Mod_takeAll_27 ?_
  refine lv_iconst (v := 2) (pc := 28) hx hb d_Mod_takeAll_28 (by decide) ?_
  refine lv_icmp_eq (tgt := 42) (pc := 29) hx hb d_Mod_takeAll_29 (by decide) (fun c7 => ?_) (fun c7 => ?_)
  · replace hf := o_t c7 hf
    exact J42 a0 q2.1 ((q3.1 : Int64).toInt32) q3.2 sMread H locs ls hP hD hS (lv_sub hl [2, 3, 1, 0] rfl) hf
  · replace hf := o_f c7 hf
    refine lv_aload_n (pc := 32) hx hb d_Mod_takeAll_32 rfl (lv_at hl 2 rfl) ?_
    refine va_get (D := D) (ci := 10) (v := .ref (hMo 17)) (C := R_Mod) (T := T_Mod) (N := 61) (pc := 33) hx hb hts (fun w h => List.mem_cons_of_mem _ (in_Mod w h)) hown hK hP _ (fl_at 0 0 rfl rfl) rfl 23 (by decide) (hts _ (List.mem_cons_of_mem _ tw_1116)) (fun _ h9 => h9) rfl d_Mod_takeAll_33 ?_
    refine lv_iload_n (pc := 36) hx hb d_Mod_takeAll_36 rfl (lv_at hl 3 rfl) ?_
    obtain ⟨hi5, hf⟩ := o_gi_e hf
    refine va_iald (D := D) (pc := 37) hx hb hK hP _ 0 (fl_at 2 0 rfl rfl) rfl hi5 d_Mod_takeAll_37 ?_
    refine lv_iconst (v := 3) (pc := 38) hx hb d_Mod_takeAll_38 (by decide) ?_
    refine lv_icmp_ne (tgt := 46) (pc := 39) hx hb d_Mod_takeAll_39 (by decide) (fun c6 => ?_) (fun c6 => ?_)
    · replace hf := o_f c6 hf
      refine lv_iconst (v := 0) (pc := 46) hx hb d_Mod_takeAll_46 (by decide) ?_
      exact J47 a0 q2.1 ((q3.1 : Int64).toInt32) 0 q3.2 sMread H locs ls hP hD hS (lv_sub hl [2, 3, 1, 0] rfl) hf
    · replace hf := o_t c6 hf
      exact J42 a0 q2.1 ((q3.1 : Int64).toInt32) q3.2 sMread H locs ls hP hD hS (lv_sub hl [2, 3, 1, 0] rfl) hf
