def Mod_put_j23 (x1_j23 : Int32) (x2_j23 : Int32) (x3_j23 : Int64) (t1_j23 : Int32) (sMo_j23 : S_Mo) (sMvalues_j23 : (Nat → Int64)) : Option (S_Mo × (Nat → Int64)) := o_lt (Mo_set_thrown sMo_j23 t1_j23) fun sMo_5 => (if (Mo_thrown sMo_5) = 0 then o_gd (o_in ((100 * x1_j23) + x2_j23) 800) (o_lt (vp_updL sMvalues_j23 ((100 * x1_j23) + x2_j23 : Int32).toNatClampNeg x3_j23) fun sMvalues_7 => (some ((sMo_5, sMvalues_7)))) else some ((sMo_5, sMvalues_j23)))
def Mod_put_j22 (x1_j22 : Int32) (x2_j22 : Int32) (x3_j22 : Int64) (sMo_j22 : S_Mo) (sMvalues_j22 : (Nat → Int64)) : Option (S_Mo × (Nat → Int64)) := Mod_put_j23 x1_j22 x2_j22 x3_j22 1 sMo_j22 sMvalues_j22
def Mod_put (a0 : Int32) (a1 : Int32) (a2 : Int64) (sMo : S_Mo) (sMvalues : (Nat → Int64)) : Option (S_Mo × (Nat → Int64)) := o_bd (Mod_isSubset a0) fun q1 => (if q1 = 0 then Mod_put_j22 a0 a1 a2 sMo sMvalues else if a1 < 0 then Mod_put_j22 a0 a1 a2 sMo sMvalues else if 100 ≤ a1 then Mod_put_j22 a0 a1 a2 sMo sMvalues else Mod_put_j23 a0 a1 a2 0 sMo sMvalues)
abbrev rm_Mod_put : Room := { frames := 1, cells := 0, slots := 0, locals := 20 }
set_option maxHeartbeats 4000000 in
set_option maxRecDepth 100000 in
theorem c_Mod_put (l : Launch) (D : va_G) (K : Nat → ClassId) (hMo : Nat → Nat) (sMo : S_Mo) (sMvalues : (Nat → Int64)) (a0 : Int32) (a1 : Int32) (a2 : Int64) (sMo' : S_Mo) (sMvalues' : (Nat → Int64)) (hf : Mod_put a0 a1 a2 sMo sMvalues = some ((sMo', sMvalues'))) : mv l D K y_Mod_put ws_Mod_put rm_Mod_put [.ref (hMo 0), .int a0, .int a1, .long a2] (fl [wMo K hMo sMo, wRow K (fun _ => hMo 7) 800 sMvalues]) (fl [wMo K hMo sMo', wRow K (fun _ => hMo 7) 800 sMvalues']) := by
  refine mv_of (cc := b_Mod_put) (maxL := 5) (own := "ObsMessagesModel") (by decide) rfl rfl (Nat.le_of_ble_eq_true rfl) ?_
  intro p e s m below meth c A ls hC hP hD hS hl
  obtain ⟨hx, hb, hml, hown, hts, hr, hlocks, hK, hF, hA⟩ := hC
  have hP : va_P D vwCl (fl [wMo K hMo sMo, wRow K (fun _ => hMo 7) 800 sMvalues]) s.heap := hP
  have hl : lv_has ls 5 [(0, .ref (hMo 0)), (1, .int a0), (2, .int a1), (3, .long a2)] := hl
  suffices hW : ∀ (H : Heap) (locs : List Loc), va_P D vwCl (fl [wMo K hMo sMo, wRow K (fun _ => hMo 7) 800 sMvalues]) H → va_S A s.heap H locs → W p l e rm_Mod_put s m ([.ref (hMo 0), .int a0, .int a1, .long a2] : List Value).toArray below meth c H locs 0 0 (Qv below ([.ref (hMo 0), .int a0, .int a1, .long a2] : List Value).toArray s D K A (fl [wMo K hMo sMo', wRow K (fun _ => hMo 7) 800 sMvalues'])) (F0 m 0 ls []) from hW s.heap [] hP hS
  clear hP hS
  intro H locs hP hS
  have J23 : ∀ (x1_j23 : Int32) (x2_j23 : Int32) (x3_j23 : Int64) (t1_j23 : Int32) (sMo_j23 : S_Mo) (sMvalues_j23 : (Nat → Int64)) (H : Heap) (locs : List Loc) (ls : Array Slot), va_P D vwCl (fl [wMo K hMo sMo_j23, wRow K (fun _ => hMo 7) 800 sMvalues_j23]) H → va_D A (fl [wMo K hMo sMo_j23, wRow K (fun _ => hMo 7) 800 sMvalues_j23]) → va_S A s.heap H locs → lv_has ls 5 [(0, .ref (hMo 0)), (1, .int x1_j23), (2, .int x2_j23), (3, .long x3_j23)] → Mod_put_j23 x1_j23 x2_j23 x3_j23 t1_j23 sMo_j23 sMvalues_j23 = some ((sMo', sMvalues')) → W p l e rm_Mod_put s m ([.ref (hMo 0), .int a0, .int a1, .long a2] : List Value).toArray below meth c H locs 0 0 (Qv below ([.ref (hMo 0), .int a0, .int a1, .long a2] : List Value).toArray s D K A (fl [wMo K hMo sMo', wRow K (fun _ => hMo 7) 800 sMvalues'])) (F0 m 23 ls [.int t1_j23, .ref (hMo 0)]) := by
    intro x1_j23 x2_j23 x3_j23 t1_j23 sMo_j23 sMvalues_j23 H locs ls hP hD hS hl hf
    refine va_put (D := D) (ci := 10) (v := .int t1_j23) (ty := .int) (C := R_Mod) (T := T_Mod) (N := 61) (pc := 23) hx hb hts (fun w h => List.mem_cons_of_mem _ (in_Mod w h)) ty_Mod ty_Mod_ok nm_Mod hown hK hP hD hS _ (fl_at 0 0 rfl rfl) rfl 0 (by decide) (hts _ (List.mem_cons_of_mem _ tw_1093)) (fun _ h9 => h9) rfl (by decide +kernel) rfl rfl (Nat.le_of_ble_eq_true rfl) d_Mod_put_23 (fun H locs hP hD hS => ?_)
    obtain ⟨sMo_5, esMo_5, hf⟩ := o_lt_e hf
    have hP : va_P D vwCl (fl [wMo K hMo sMo_5, wRow K (fun _ => hMo 7) 800 sMvalues_j23]) H := by rw [esMo_5]; exact fl_P 0 0 rfl (Nat.le_of_ble_eq_true rfl) rfl rfl hP
    have hD : va_D A (fl [wMo K hMo sMo_5, wRow K (fun _ => hMo 7) 800 sMvalues_j23]) := by rw [esMo_5]; exact fl_D 0 0 rfl (Nat.le_of_ble_eq_true rfl) rfl rfl hD
    refine lv_aload_n (pc := 26) hx hb d_Mod_put_26 rfl (lv_at hl 0 rfl) ?_
    refine va_get (D := D) (ci := 10) (v := .int (Mo_thrown sMo_5)) (C := R_Mod) (T := T_Mod) (N := 61) (pc := 27) hx hb hts (fun w h => List.mem_cons_of_mem _ (in_Mod w h)) hown hK hP _ (fl_at 0 0 rfl rfl) rfl 0 (by decide) (hts _ (List.mem_cons_of_mem _ tw_1093)) (fun _ h9 => h9) rfl d_Mod_put_27 ?_
    refine lv_if_ne (tgt := 45) (pc := 30) hx hb d_Mod_put_30 (by decide) (fun c8 => ?_) (fun c8 => ?_)
    · replace hf := o_f c8 hf
      cases hf
      exact ret_v hx hb hr hlocks hK hP hS d_Mod_put_45
    · replace hf := o_t c8 hf
      refine lv_aload_n (pc := 33) hx hb d_Mod_put_33 rfl (lv_at hl 0 rfl) ?_
      refine va_get (D := D) (ci := 10) (v := .ref (hMo 7)) (C := R_Mod) (T := T_Mod) (N := 61) (pc := 34) hx hb hts (fun w h => List.mem_cons_of_mem _ (in_Mod w h)) hown hK hP _ (fl_at 0 0 rfl rfl) rfl 10 (by decide) (hts _ (List.mem_cons_of_mem _ tw_1103)) (fun _ h9 => h9) rfl d_Mod_put_34 ?_
      refine lv_bipush (v := 100) (pc := 37) hx hb d_Mod_put_37 (by decide) ?_
      refine lv_iload_n (pc := 39) hx hb d_Mod_put_39 rfl (lv_at hl 1 rfl) ?_
      refine lv_imul (pc := 40) hx hb d_Mod_put_40 ?_
      refine lv_iload_n (pc := 41) hx hb d_Mod_put_41 rfl (lv_at hl 2 rfl) ?_
      refine lv_iadd (pc := 42) hx hb d_Mod_put_42 ?_
      refine lv_lload_n (pc := 43) hx hb d_Mod_put_43 rfl (lv_at hl 3 rfl) ?_
      obtain ⟨hi6, hf⟩ := o_gi_e hf
      refine va_last (D := D) (pc := 44) hx hb hK hP hD hS _ 1 (fl_at 1 0 rfl rfl) rfl hi6 d_Mod_put_44 (fun H locs hP hD hS => ?_)
      obtain ⟨sMvalues_7, esMvalues_7, hf⟩ := o_lt_e hf
      have hP : va_P D vwCl (fl [wMo K hMo sMo_5, wRow K (fun _ => hMo 7) 800 sMvalues_7]) H := by rw [esMvalues_7]; exact fl_P 1 0 rfl (Nat.le_of_ble_eq_true rfl) rfl rfl hP
      have hD : va_D A (fl [wMo K hMo sMo_5, wRow K (fun _ => hMo 7) 800 sMvalues_7]) := by rw [esMvalues_7]; exact fl_D 1 0 rfl (Nat.le_of_ble_eq_true rfl) rfl rfl hD
      cases hf
      exact ret_v hx hb hr hlocks hK hP hS d_Mod_put_45
  have J22 : ∀ (x1_j22 : Int32) (x2_j22 : Int32) (x3_j22 : Int64) (sMo_j22 : S_Mo) (sMvalues_j22 : (Nat → Int64)) (H : Heap) (locs : List Loc) (ls : Array Slot), va_P D vwCl (fl [wMo K hMo sMo_j22, wRow K (fun _ => hMo 7) 800 sMvalues_j22]) H → va_D A (fl [wMo K hMo sMo_j22, wRow K (fun _ => hMo 7) 800 sMvalues_j22]) → va_S A s.heap H locs → lv_has ls 5 [(0, .ref (hMo 0)), (1, .int x1_j22), (2, .int x2_j22), (3, .long x3_j22)] → Mod_put_j22 x1_j22 x2_j22 x3_j22 sMo_j22 sMvalues_j22 = some ((sMo', sMvalues')) → W p l e rm_Mod_put s m ([.ref (hMo 0), .int a0, .int a1, .long a2] : List Value).toArray below meth c H locs 0 0 (Qv below ([.ref (hMo 0), .int a0, .int a1, .long a2] : List Value).toArray s D K A (fl [wMo K hMo sMo', wRow K (fun _ => hMo 7) 800 sMvalues'])) (F0 m 22 ls [.ref (hMo 0)]) := by
    intro x1_j22 x2_j22 x3_j22 sMo_j22 sMvalues_j22 H locs ls hP hD hS hl hf
    refine lv_iconst (v := 1) (pc := 22) hx hb d_Mod_put_22 (by decide) ?_
    exact J23 x1_j22 x2_j22 x3_j22 1 sMo_j22 sMvalues_j22 H locs ls hP hD hS (lv_sub hl [0, 1, 2, 3] rfl) hf
  refine lv_aload_n (pc := 0) hx hb d_Mod_put_0 rfl (lv_at hl 0 rfl) ?_
  refine lv_iload_n (pc := 1) hx hb d_Mod_put_1 rfl (lv_at hl 1 rfl) ?_
  obtain ⟨q1, hq1, hf⟩ := o_bd_e hf
  refine fi_i (pc := 2) (va_runS (As := [.int a0]) (rest := [.ref (hMo 0)]) ⟨hx, hb, hml, hown, hts⟩ ((c_Mod_isSubset l D K a0 q1 hq1) _) (cwS 1 hts (gS tw_1385 tw_1386 tw_12 tw_1387) rfl rfl rfl (by decide +kernel) ⟨by decide, by decide⟩) ⟨mPre_blind, (mPre_fl hK hF hA hP hD hS [] rfl rfl)⟩ rfl rfl hl.1 rfl (lv_room (Nat.le_of_ble_eq_true rfl)) d_Mod_put_2 ⟨Nat.zero_le _, Nat.zero_le _⟩) hA hP hD hS [] rfl rfl (fun H locs hP hD hS => ?_)
  have hP : va_P D vwCl (fl [wMo K hMo sMo, wRow K (fun _ => hMo 7) 800 sMvalues]) H := hP
  have hD : va_D A (fl [wMo K hMo sMo, wRow K (fun _ => hMo 7) 800 sMvalues]) := hD
  refine lv_if_eq (tgt := 22) (pc := 5) hx hb d_Mod_put_5 (by decide) (fun c4 => ?_) (fun c4 => ?_)
  · replace hf := o_t c4 hf
    exact J22 a0 a1 a2 sMo sMvalues H locs ls hP hD hS (lv_sub hl [0, 1, 2, 3] rfl) hf
  · replace hf := o_f c4 hf
    refine lv_iload_n (pc := 8) hx hb d_Mod_put_8 rfl (lv_at hl 2 rfl) ?_
    refine lv_if_lt (tgt := 22) (pc := 9) hx hb d_Mod_put_9 (by decide) (fun c3 => ?_) (fun c3 => ?_)
    · replace hf := o_t c3 hf
      exact J22 a0 a1 a2 sMo sMvalues H locs ls hP hD hS (lv_sub hl [0, 1, 2, 3] rfl) hf
    · replace hf := o_f c3 hf
      refine lv_iload_n (pc := 12) hx hb d_Mod_put_12 rfl (lv_at hl 2 rfl) ?_
      refine lv_bipush (v := 100) (pc := 13) hx hb d_Mod_put_13 (by decide) ?_
      refine lv_icmp_ge (tgt := 22) (pc := 15) hx hb d_Mod_put_15 (by decide) (fun c2 => ?_) (fun c2 => ?_)
      · replace hf := o_t c2 hf
        exact J22 a0 a1 a2 sMo sMvalues H locs ls hP hD hS (lv_sub hl [0, 1, 2, 3] rfl) hf
      · replace hf := o_f c2 hf
        refine lv_iconst (v := 0) (pc := 18) hx hb d_Mod_put_18 (by decide) ?_
        refine lv_goto (tgt := 23) (pc := 19) hx hb d_Mod_put_19 (by decide) ?_
        exact J23 a0 a1 a2 0 sMo sMvalues H locs ls hP hD hS (lv_sub hl [0, 1, 2, 3] rfl) hf
def Mod_get_j23 (sMvalues : (Nat → Int64)) (x1_j23 : Int32) (x2_j23 : Int32) (t1_j23 : Int32) (sMo_j23 : S_Mo) : Option (Int64 × S_Mo) := o_lt (Mo_set_thrown sMo_j23 t1_j23) fun sMo_5 => (if (Mo_thrown sMo_5) = 0 then o_gd (o_in ((100 * x1_j23) + x2_j23) 800) (some ((sMvalues ((100 * x1_j23) + x2_j23 : Int32).toNatClampNeg, sMo_5))) else some ((0, sMo_5)))
def Mod_get_j22 (sMvalues : (Nat → Int64)) (x1_j22 : Int32) (x2_j22 : Int32) (sMo_j22 : S_Mo) : Option (Int64 × S_Mo) := Mod_get_j23 sMvalues x1_j22 x2_j22 1 sMo_j22
def Mod_get (sMvalues : (Nat → Int64)) (a0 : Int32) (a1 : Int32) (sMo : S_Mo) : Option (Int64 × S_Mo) := o_bd (Mod_isSubset a0) fun q1 => (if q1 = 0 then Mod_get_j22 sMvalues a0 a1 sMo else if a1 < 0 then Mod_get_j22 sMvalues a0 a1 sMo else if 100 ≤ a1 then Mod_get_j22 sMvalues a0 a1 sMo else Mod_get_j23 sMvalues a0 a1 0 sMo)
abbrev rm_Mod_get : Room := { frames := 1, cells := 0, slots := 0, locals := 20 }
set_option maxHeartbeats 4000000 in
set_option maxRecDepth 100000 in
theorem c_Mod_get (l : Launch) (D : va_G) (K : Nat → ClassId) (hMo : Nat → Nat) (sMo : S_Mo) (sMvalues : (Nat → Int64)) (a0 : Int32) (a1 : Int32) (r : Int64) (sMo' : S_Mo) (hf : Mod_get sMvalues a0 a1 sMo = some ((r, sMo'))) : ml l D K y_Mod_get ws_Mod_get rm_Mod_get [.ref (hMo 0), .int a0, .int a1] (fl [wMo K hMo sMo, wRow K (fun _ => hMo 7) 800 sMvalues]) (fl [wMo K hMo sMo', wRow K (fun _ => hMo 7) 800 sMvalues]) r := by
  refine ml_of (cc := b_Mod_get) (maxL := 3) (own := "ObsMessagesModel") (by decide) rfl rfl (Nat.le_of_ble_eq_true rfl) ?_
  intro p e s m below meth c A ls hC hP hD hS hl
  obtain ⟨hx, hb, hml, hown, hts, hr, hlocks, hK, hF, hA⟩ := hC
  have hP : va_P D vwCl (fl [wMo K hMo sMo, wRow K (fun _ => hMo 7) 800 sMvalues]) s.heap := hP
  have hl : lv_has ls 3 [(0, .ref (hMo 0)), (1, .int a0), (2, .int a1)] := hl
  suffices hW : ∀ (H : Heap) (locs : List Loc), va_P D vwCl (fl [wMo K hMo sMo, wRow K (fun _ => hMo 7) 800 sMvalues]) H → va_S A s.heap H locs → W p l e rm_Mod_get s m ([.ref (hMo 0), .int a0, .int a1] : List Value).toArray below meth c H locs 0 0 (Ql below ([.ref (hMo 0), .int a0, .int a1] : List Value).toArray s D K A (fl [wMo K hMo sMo', wRow K (fun _ => hMo 7) 800 sMvalues]) r) (F0 m 0 ls []) from hW s.heap [] hP hS
  clear hP hS
  intro H locs hP hS
  have J23 : ∀ (x1_j23 : Int32) (x2_j23 : Int32) (t1_j23 : Int32) (sMo_j23 : S_Mo) (H : Heap) (locs : List Loc) (ls : Array Slot), va_P D vwCl (fl [wMo K hMo sMo_j23, wRow K (fun _ => hMo 7) 800 sMvalues]) H → va_D A (fl [wMo K hMo sMo_j23, wRow K (fun _ => hMo 7) 800 sMvalues]) → va_S A s.heap H locs → lv_has ls 3 [(0, .ref (hMo 0)), (1, .int x1_j23), (2, .int x2_j23)] → Mod_get_j23 sMvalues x1_j23 x2_j23 t1_j23 sMo_j23 = some ((r, sMo')) → W p l e rm_Mod_get s m ([.ref (hMo 0), .int a0, .int a1] : List Value).toArray below meth c H locs 0 0 (Ql below ([.ref (hMo 0), .int a0, .int a1] : List Value).toArray s D K A (fl [wMo K hMo sMo', wRow K (fun _ => hMo 7) 800 sMvalues]) r) (F0 m 23 ls [.int t1_j23, .ref (hMo 0)]) := by
    intro x1_j23 x2_j23 t1_j23 sMo_j23 H locs ls hP hD hS hl hf
    refine va_put (D := D) (ci := 10) (v := .int t1_j23) (ty := .int) (C := R_Mod) (T := T_Mod) (N := 61) (pc := 23) hx hb hts (fun w h => List.mem_cons_of_mem _ (in_Mod w h)) ty_Mod ty_Mod_ok nm_Mod hown hK hP hD hS _ (fl_at 0 0 rfl rfl) rfl 0 (by decide) (hts _ (List.mem_cons_of_mem _ tw_1093)) (fun _ h9 => h9) rfl (by decide +kernel) rfl rfl (Nat.le_of_ble_eq_true rfl) d_Mod_get_23 (fun H locs hP hD hS => ?_)
    obtain ⟨sMo_5, esMo_5, hf⟩ := o_lt_e hf
    have hP : va_P D vwCl (fl [wMo K hMo sMo_5, wRow K (fun _ => hMo 7) 800 sMvalues]) H := by rw [esMo_5]; exact fl_P 0 0 rfl (Nat.le_of_ble_eq_true rfl) rfl rfl hP
    have hD : va_D A (fl [wMo K hMo sMo_5, wRow K (fun _ => hMo 7) 800 sMvalues]) := by rw [esMo_5]; exact fl_D 0 0 rfl (Nat.le_of_ble_eq_true rfl) rfl rfl hD
    refine lv_aload_n (pc := 26) hx hb d_Mod_get_26 rfl (lv_at hl 0 rfl) ?_
    refine va_get (D := D) (ci := 10) (v := .int (Mo_thrown sMo_5)) (C := R_Mod) (T := T_Mod) (N := 61) (pc := 27) hx hb hts (fun w h => List.mem_cons_of_mem _ (in_Mod w h)) hown hK hP _ (fl_at 0 0 rfl rfl) rfl 0 (by decide) (hts _ (List.mem_cons_of_mem _ tw_1093)) (fun _ h9 => h9) rfl d_Mod_get_27 ?_
    refine lv_if_ne (tgt := 47) (pc := 30) hx hb d_Mod_get_30 (by decide) (fun c7 => ?_) (fun c7 => ?_)
    · replace hf := o_f c7 hf
      refine lv_lconst (v := 0) (pc := 47) hx hb d_Mod_get_47 (by decide) ?_
      cases hf
      exact ret_l hx hb hr hlocks hK hP hS d_Mod_get_48
    · replace hf := o_t c7 hf
      refine lv_aload_n (pc := 33) hx hb d_Mod_get_33 rfl (lv_at hl 0 rfl) ?_
      refine va_get (D := D) (ci := 10) (v := .ref (hMo 7)) (C := R_Mod) (T := T_Mod) (N := 61) (pc := 34) hx hb hts (fun w h => List.mem_cons_of_mem _ (in_Mod w h)) hown hK hP _ (fl_at 0 0 rfl rfl) rfl 10 (by decide) (hts _ (List.mem_cons_of_mem _ tw_1103)) (fun _ h9 => h9) rfl d_Mod_get_34 ?_
      refine lv_bipush (v := 100) (pc := 37) hx hb d_Mod_get_37 (by decide) ?_
      refine lv_iload_n (pc := 39) hx hb d_Mod_get_39 rfl (lv_at hl 1 rfl) ?_
      refine lv_imul (pc := 40) hx hb d_Mod_get_40 ?_
      refine lv_iload_n (pc := 41) hx hb d_Mod_get_41 rfl (lv_at hl 2 rfl) ?_
      refine lv_iadd (pc := 42) hx hb d_Mod_get_42 ?_
      obtain ⟨hi6, hf⟩ := o_gi_e hf
      refine va_lald (D := D) (pc := 43) hx hb hK hP _ 1 (fl_at 1 0 rfl rfl) rfl hi6 d_Mod_get_43 ?_
      refine lv_goto (tgt := 48) (pc := 44) hx hb d_Mod_get_44 (by decide) ?_
      cases hf
      exact ret_l hx hb hr hlocks hK hP hS d_Mod_get_48
  have J22 : ∀ (x1_j22 : Int32) (x2_j22 : Int32) (sMo_j22 : S_Mo) (H : Heap) (locs : List Loc) (ls : Array Slot), va_P D vwCl (fl [wMo K hMo sMo_j22, wRow K (fun _ => hMo 7) 800 sMvalues]) H → va_D A (fl [wMo K hMo sMo_j22, wRow K (fun _ => hMo 7) 800 sMvalues]) → va_S A s.heap H locs → lv_has ls 3 [(0, .ref (hMo 0)), (1, .int x1_j22), (2, .int x2_j22)] → Mod_get_j22 sMvalues x1_j22 x2_j22 sMo_j22 = some ((r, sMo')) → W p l e rm_Mod_get s m ([.ref (hMo 0), .int a0, .int a1] : List Value).toArray below meth c H locs 0 0 (Ql below ([.ref (hMo 0), .int a0, .int a1] : List Value).toArray s D K A (fl [wMo K hMo sMo', wRow K (fun _ => hMo 7) 800 sMvalues]) r) (F0 m 22 ls [.ref (hMo 0)]) := by
    intro x1_j22 x2_j22 sMo_j22 H locs ls hP hD hS hl hf
    refine lv_iconst (v := 1) (pc := 22) hx hb d_Mod_get_22 (by decide) ?_
    exact J23 x1_j22 x2_j22 1 sMo_j22 H locs ls hP hD hS (lv_sub hl [0, 1, 2] rfl) hf
  refine lv_aload_n (pc := 0) hx hb d_Mod_get_0 rfl (lv_at hl 0 rfl) ?_
  refine lv_iload_n (pc := 1) hx hb d_Mod_get_1 rfl (lv_at hl 1 rfl) ?_
  obtain ⟨q1, hq1, hf⟩ := o_bd_e hf
  refine fi_i (pc := 2) (va_runS (As := [.int a0]) (rest := [.ref (hMo 0)]) ⟨hx, hb, hml, hown, hts⟩ ((c_Mod_isSubset l D K a0 q1 hq1) _) (cwS 1 hts (gS tw_1385 tw_1386 tw_12 tw_1387) rfl rfl rfl (by decide +kernel) ⟨by decide, by decide⟩) ⟨mPre_blind, (mPre_fl hK hF hA hP hD hS [] rfl rfl)⟩ rfl rfl hl.1 rfl (lv_room (Nat.le_of_ble_eq_true rfl)) d_Mod_get_2 ⟨Nat.zero_le _, Nat.zero_le _⟩) hA hP hD hS [] rfl rfl (fun H locs hP hD hS => ?_)
  have hP : va_P D vwCl (fl [wMo K hMo sMo, wRow K (fun _ => hMo 7) 800 sMvalues]) H := hP
  have hD : va_D A (fl [wMo K hMo sMo, wRow K (fun _ => hMo 7) 800 sMvalues]) := hD
  refine lv_if_eq (tgt := 22) (pc := 5) hx hb d_Mod_get_5 (by decide) (fun c4 => ?_) (fun c4 => ?_)
  · replace hf := o_t c4 hf
    exact J22 a0 a1 sMo H locs ls hP hD hS (lv_sub hl [0, 1, 2] rfl) hf
  · replace hf := o_f c4 hf
    refine lv_iload_n (pc := 8) hx hb d_Mod_get_8 rfl (lv_at hl 2 rfl) ?_
    refine lv_if_lt (tgt := 22) (pc := 9) hx hb d_Mod_get_9 (by decide) (fun c3 => ?_) (fun c3 => ?_)
    · replace hf := o_t c3 hf
      exact J22 a0 a1 sMo H locs ls hP hD hS (lv_sub hl [0, 1, 2] rfl) hf
    · replace hf := o_f c3 hf
      refine lv_iload_n (pc := 12) hx hb d_Mod_get_12 rfl (lv_at hl 2 rfl) ?_
      refine lv_bipush (v := 100) (pc := 13) hx hb d_Mod_get_13 (by decide) ?_
      refine lv_icmp_ge (tgt := 22) (pc := 15) hx hb d_Mod_get_15 (by decide) (fun c2 => ?_) (fun c2 => ?_)
      · replace hf := o_t c2 hf
        exact J22 a0 a1 sMo H locs ls hP hD hS (lv_sub hl [0, 1, 2] rfl) hf
      · replace hf := o_f c2 hf
        refine lv_iconst (v := 0) (pc := 18) hx hb d_Mod_get_18 (by decide) ?_
        refine lv_goto (tgt := 23) (pc := 19) hx hb d_Mod_get_19 (by decide) ?_
        exact J23 a0 a1 0 sMo H locs ls hP hD hS (lv_sub hl [0, 1, 2] rfl) hf
def Mod_lay_j34 (fu : Nat) (kc_5 : Int32 → S_Mo → (Nat → Int32) → Option (S_Mo × (Nat → Int32))) (x1_L5 : Int64) (x4_j34 : Int32) (t1_j34 : Int32) (t2_j34 : Int32) (sMo_j34 : S_Mo) (sMbits_j34 : (Nat → Int32)) : Option (S_Mo × (Nat → Int32)) := o_gd (o_in t1_j34 40000) (o_lt (upd sMbits_j34 (t1_j34 : Int32).toNatClampNeg (vp_nar .boolean t2_j34)) fun sMbits_4 => (o_lt (Mo_set_many sMo_j34 ((Mo_many sMo_j34) + 1)) fun sMo_5 => (kc_5 (x4_j34 + (-1)) sMo_5 sMbits_4)))
def Mod_lay_L5 (fu : Nat) (x1_L5 : Int64) : Nat → Int32 → S_Mo → (Nat → Int32) → Option (S_Mo × (Nat → Int32))
  | 0, _, _, _ => none
  | n + 1, x4_L5, sMo_L5, sMbits_L5 => if x4_L5 < 0 then some ((sMo_L5, sMbits_L5)) else if ((x1_L5 >>> ((x4_L5 : Int32).toInt64 &&& 63)) &&& 1) = 1 then Mod_lay_j34 fu (fun v0 v1 v2 => Mod_lay_L5 fu x1_L5 n v0 v1 v2) x1_L5 x4_L5 (Mo_many sMo_L5) 1 sMo_L5 sMbits_L5 else Mod_lay_j34 fu (fun v0 v1 v2 => Mod_lay_L5 fu x1_L5 n v0 v1 v2) x1_L5 x4_L5 (Mo_many sMo_L5) 0 sMo_L5 sMbits_L5
def Mod_lay (fu : Nat) (a0 : Int64) (a1 : Int32) (sMo : S_Mo) (sMbits : (Nat → Int32)) : Option (S_Mo × (Nat → Int32)) := Mod_lay_L5 fu a0 fu (a1 - 1) sMo sMbits
abbrev rm_Mod_lay : Room := { frames := 0, cells := 0, slots := 0, locals := 0 }
set_option maxHeartbeats 4000000 in
set_option maxRecDepth 100000 in
theorem c_Mod_lay (l : Launch) (D : va_G) (K : Nat → ClassId) (fu : Nat) (hMo : Nat → Nat) (sMo : S_Mo) (sMbits : (Nat → Int32)) (a0 : Int64) (a1 : Int32) (sMo' : S_Mo) (sMbits' : (Nat → Int32)) (hf : Mod_lay fu a0 a1 sMo sMbits = some ((sMo', sMbits'))) : mv l D K y_Mod_lay ws_Mod_lay rm_Mod_lay [.ref (hMo 0), .long a0, .int a1] (fl [wMo K hMo sMo, wRowZ K (fun _ => hMo 26) 40000 sMbits]) (fl [wMo K hMo sMo', wRowZ K (fun _ => hMo 26) 40000 sMbits']) := by
  refine mv_of (cc := b_Mod_lay) (maxL := 5) (own := "ObsMessagesModel") (by decide) rfl rfl (Nat.le_of_ble_eq_true rfl) ?_
  intro p e s m below meth c A ls hC hP hD hS hl
  obtain ⟨hx, hb, hml, hown, hts, hr, hlocks, hK, hF, hA⟩ := hC
  have hP : va_P D vwCl (fl [wMo K hMo sMo, wRowZ K (fun _ => hMo 26) 40000 sMbits]) s.heap := hP
  have hl : lv_has ls 5 [(0, .ref (hMo 0)), (1, .long a0), (3, .int a1)] := hl
  suffices hW : ∀ (H : Heap) (locs : List Loc), va_P D vwCl (fl [wMo K hMo sMo, wRowZ K (fun _ => hMo 26) 40000 sMbits]) H → va_S A s.heap H locs → W p l e rm_Mod_lay s m ([.ref (hMo 0), .long a0, .int a1] : List Value).toArray below meth c H locs 0 0 (Qv below ([.ref (hMo 0), .long a0, .int a1] : List Value).toArray s D K A (fl [wMo K hMo sMo', wRowZ K (fun _ => hMo 26) 40000 sMbits'])) (F0 m 0 ls []) from hW s.heap [] hP hS
  clear hP hS
  intro H locs hP hS
  refine lv_iload_n (pc := 0) hx hb d_Mod_lay_0 rfl (lv_at hl 2 rfl) ?_
  refine lv_iconst (v := 1) (pc := 1) hx hb d_Mod_lay_1 (by decide) ?_
  refine lv_isub (pc := 2) hx hb d_Mod_lay_2 ?_
  refine lv_istore (lv' := [(4, .int (a1 - 1)), (0, .ref (hMo 0)), (1, .long a0), (3, .int a1)]) (pc := 3) hx hb d_Mod_lay_3 hl (by decide) rfl (fun ls hl => ?_)
  have L5 : ∀ (x1_L5 : Int64) (n : Nat) (x4_L5 : Int32) (sMo_L5 : S_Mo) (sMbits_L5 : (Nat → Int32)) (H : Heap) (locs : List Loc) (ls : Array Slot), va_P D vwCl (fl [wMo K hMo sMo_L5, wRowZ K (fun _ => hMo 26) 40000 sMbits_L5]) H → va_D A (fl [wMo K hMo sMo_L5, wRowZ K (fun _ => hMo 26) 40000 sMbits_L5]) → va_S A s.heap H locs → lv_has ls 5 [(0, .ref (hMo 0)), (1, .long x1_L5), (4, .int x4_L5)] → Mod_lay_L5 fu x1_L5 n x4_L5 sMo_L5 sMbits_L5 = some ((sMo', sMbits')) → W p l e rm_Mod_lay s m ([.ref (hMo 0), .long a0, .int a1] : List Value).toArray below meth c H locs 0 0 (Qv below ([.ref (hMo 0), .long a0, .int a1] : List Value).toArray s D K A (fl [wMo K hMo sMo', wRowZ K (fun _ => hMo 26) 40000 sMbits'])) (F0 m 5 ls []) := by
    intro x1_L5 n
    induction n with
    | zero =>
      intro x4_L5 sMo_L5 sMbits_L5 H locs ls hP hD hS hl hf
      exact absurd hf (fun h => nomatch h)
    | succ n_5 ih_5 =>
      intro x4_L5 sMo_L5 sMbits_L5 H locs ls hP hD hS hl hf
      have J34 : ∀ (x4_j34 : Int32) (t1_j34 : Int32) (t2_j34 : Int32) (sMo_j34 : S_Mo) (sMbits_j34 : (Nat → Int32)) (H : Heap) (locs : List Loc) (ls : Array Slot), va_P D vwCl (fl [wMo K hMo sMo_j34, wRowZ K (fun _ => hMo 26) 40000 sMbits_j34]) H → va_D A (fl [wMo K hMo sMo_j34, wRowZ K (fun _ => hMo 26) 40000 sMbits_j34]) → va_S A s.heap H locs → lv_has ls 5 [(0, .ref (hMo 0)), (1, .long x1_L5), (4, .int x4_j34)] → Mod_lay_j34 fu (fun v0 v1 v2 => Mod_lay_L5 fu x1_L5 n_5 v0 v1 v2) x1_L5 x4_j34 t1_j34 t2_j34 sMo_j34 sMbits_j34 = some ((sMo', sMbits')) → W p l e rm_Mod_lay s m ([.ref (hMo 0), .long a0, .int a1] : List Value).toArray below meth c H locs 0 0 (Qv below ([.ref (hMo 0), .long a0, .int a1] : List Value).toArray s D K A (fl [wMo K hMo sMo', wRowZ K (fun _ => hMo 26) 40000 sMbits'])) (F0 m 34 ls [.int t2_j34, .int t1_j34, .ref (hMo 26)]) := by
        intro x4_j34 t1_j34 t2_j34 sMo_j34 sMbits_j34 H locs ls hP hD hS hl hf
        obtain ⟨hi3, hf⟩ := o_gi_e hf
        refine va_zast (D := D) (pc := 34) hx hb hK hP hD hS _ 3 (fl_at 1 0 rfl rfl) rfl hi3 d_Mod_lay_34 (fun H locs hP hD hS => ?_)
        obtain ⟨sMbits_4, esMbits_4, hf⟩ := o_lt_e hf
        have hP : va_P D vwCl (fl [wMo K hMo sMo_j34, wRowZ K (fun _ => hMo 26) 40000 sMbits_4]) H := by rw [esMbits_4]; exact fl_P 1 0 rfl (Nat.le_of_ble_eq_true rfl) rfl rfl hP
        have hD : va_D A (fl [wMo K hMo sMo_j34, wRowZ K (fun _ => hMo 26) 40000 sMbits_4]) := by rw [esMbits_4]; exact fl_D 1 0 rfl (Nat.le_of_ble_eq_true rfl) rfl rfl hD
        refine lv_aload_n (pc := 35) hx hb d_Mod_lay_35 rfl (lv_at hl 0 rfl) ?_
        refine lv_dup (pc := 36) hx hb d_Mod_lay_36 rfl ?_
        refine va_get (D := D) (ci := 10) (v := .int (Mo_many sMo_j34)) (C := R_Mod) (T := T_Mod) (N := 61) (pc := 37) hx hb hts (fun w h => List.mem_cons_of_mem _ (in_Mod w h)) hown hK hP _ (fl_at 0 0 rfl rfl) rfl 40 (by decide) (hts _ (List.mem_cons_of_mem _ tw_1133)) (fun _ h9 => h9) rfl d_Mod_lay_37 ?_
        refine lv_iconst (v := 1) (pc := 40) hx hb d_Mod_lay_40 (by decide) ?_
        refine lv_iadd (pc := 41) hx hb d_Mod_lay_41 ?_
        refine va_put (D := D) (ci := 10) (v := .int ((Mo_many sMo_j34) + 1)) (ty := .int) (C := R_Mod) (T := T_Mod) (N := 61) (pc := 42) hx hb hts (fun w h => List.mem_cons_of_mem _ (in_Mod w h)) ty_Mod ty_Mod_ok nm_Mod hown hK hP hD hS _ (fl_at 0 0 rfl rfl) rfl 40 (by decide) (hts _ (List.mem_cons_of_mem _ tw_1133)) (fun _ h9 => h9) rfl (by decide +kernel) rfl rfl (Nat.le_of_ble_eq_true rfl) d_Mod_lay_42 (fun H locs hP hD hS => ?_)
        obtain ⟨sMo_5, esMo_5, hf⟩ := o_lt_e hf
        have hP : va_P D vwCl (fl [wMo K hMo sMo_5, wRowZ K (fun _ => hMo 26) 40000 sMbits_4]) H := by rw [esMo_5]; exact fl_P 0 0 rfl (Nat.le_of_ble_eq_true rfl) rfl rfl hP
        have hD : va_D A (fl [wMo K hMo sMo_5, wRowZ K (fun _ => hMo 26) 40000 sMbits_4]) := by rw [esMo_5]; exact fl_D 0 0 rfl (Nat.le_of_ble_eq_true rfl) rfl rfl hD
        refine lv_iinc (v := x4_j34 + (-1)) (lv' := [(4, .int (x4_j34 + (-1))), (0, .ref (hMo 0)), (1, .long x1_L5)]) (pc := 45) hx hb d_Mod_lay_45 hl (k := 2) rfl rfl (by decide) rfl (fun ls hl => ?_)
        refine lv_goto (tgt := 5) (pc := 48) hx hb d_Mod_lay_48 (by decide) ?_
        exact ih_5 (x4_j34 + (-1)) sMo_5 sMbits_4 H locs ls hP hD hS (lv_sub hl [1, 2, 0] rfl) hf
      refine lv_iload (pc := 5) hx hb d_Mod_lay_5 (lv_at hl 2 rfl) ?_
      refine lv_if_lt (tgt := 51) (pc := 7) hx hb d_Mod_lay_7 (by decide) (fun c2 => ?_) (fun c2 => ?_)
      · replace hf := o_t c2 hf
        cases hf
        exact ret_v hx hb hr hlocks hK hP hS d_Mod_lay_51
      · replace hf := o_f c2 hf
        refine lv_aload_n (pc := 10) hx hb d_Mod_lay_10 rfl (lv_at hl 0 rfl) ?_
        refine va_get (D := D) (ci := 10) (v := .ref (hMo 26)) (C := R_Mod) (T := T_Mod) (N := 61) (pc := 11) hx hb hts (fun w h => List.mem_cons_of_mem _ (in_Mod w h)) hown hK hP _ (fl_at 0 0 rfl rfl) rfl 38 (by decide) (hts _ (List.mem_cons_of_mem _ tw_1131)) (fun _ h9 => h9) rfl d_Mod_lay_11 ?_
        refine lv_aload_n (pc := 14) hx hb d_Mod_lay_14 rfl (lv_at hl 0 rfl) ?_
        refine va_get (D := D) (ci := 10) (v := .int (Mo_many sMo_L5)) (C := R_Mod) (T := T_Mod) (N := 61) (pc := 15) hx hb hts (fun w h => List.mem_cons_of_mem _ (in_Mod w h)) hown hK hP _ (fl_at 0 0 rfl rfl) rfl 40 (by decide) (hts _ (List.mem_cons_of_mem _ tw_1133)) (fun _ h9 => h9) rfl d_Mod_lay_15 ?_
        refine lv_lload_n (pc := 18) hx hb d_Mod_lay_18 rfl (lv_at hl 1 rfl) ?_
        refine lv_iload (pc := 19) hx hb d_Mod_lay_19 (lv_at hl 2 rfl) ?_
        refine lv_lshr (pc := 21) hx hb d_Mod_lay_21 rfl ?_
        refine lv_lconst (v := 1) (pc := 22) hx hb d_Mod_lay_22 (by decide) ?_
        refine lv_land (pc := 23) hx hb d_Mod_lay_23 ?_
        refine lv_lconst (v := 1) (pc := 24) hx hb d_Mod_lay_24 (by decide) ?_
        refine lc_ne (tgt := 33) (pc := 25) hx hb d_Mod_lay_25 d_Mod_lay_26 (by decide) (fun c1 => ?_) (fun c1 => ?_)
        · replace hf := o_f c1 hf
          refine lv_iconst (v := 0) (pc := 33) hx hb d_Mod_lay_33 (by decide) ?_
          exact J34 x4_L5 (Mo_many sMo_L5) 0 sMo_L5 sMbits_L5 H locs ls hP hD hS (lv_sub hl [0, 1, 2] rfl) hf
        · replace hf := o_t c1 hf
          refine lv_iconst (v := 1) (pc := 29) hx hb d_Mod_lay_29 (by decide) ?_
          refine lv_goto (tgt := 34) (pc := 30) hx hb d_Mod_lay_30 (by decide) ?_
          exact J34 x4_L5 (Mo_many sMo_L5) 1 sMo_L5 sMbits_L5 H locs ls hP hD hS (lv_sub hl [0, 1, 2] rfl) hf
  exact L5 a0 fu (a1 - 1) sMo sMbits H locs ls hP hD hS (lv_sub hl [1, 2, 0] rfl) hf
def Mod_keepFirst_L10 (fu : Nat) (sMkind : (Nat → Int32)) (sMwidth : (Nat → Int32)) (sMscale : (Nat → Int32)) (sMbase : (Nat → Int64)) (sMo_L10 : S_Mo) : Nat → Int32 → (Nat → Int32) → (Nat → Int32) → (Nat → Int32) → (Nat → Int64) → Option (S_Mo × (Nat → Int32) × (Nat → Int32) × (Nat → Int32) × (Nat → Int64))
  | 0, _, _, _, _, _ => none
  | n + 1, x1_L10, sMfirstKind_L10, sMfirstWidth_L10, sMfirstScale_L10, sMfirstBase_L10 => if (Mo_fields sMo_L10) ≤ x1_L10 then some ((sMo_L10, sMfirstKind_L10, sMfirstWidth_L10, sMfirstScale_L10, sMfirstBase_L10)) else o_gd (o_in x1_L10 101) (o_gd (o_in x1_L10 101) (o_lt (upd sMfirstKind_L10 (x1_L10 : Int32).toNatClampNeg (sMkind (x1_L10 : Int32).toNatClampNeg)) fun sMfirstKind_4 => (o_gd (o_in x1_L10 101) (o_gd (o_in x1_L10 101) (o_lt (upd sMfirstWidth_L10 (x1_L10 : Int32).toNatClampNeg (sMwidth (x1_L10 : Int32).toNatClampNeg)) fun sMfirstWidth_7 => (o_gd (o_in x1_L10 101) (o_gd (o_in x1_L10 101) (o_lt (upd sMfirstScale_L10 (x1_L10 : Int32).toNatClampNeg (sMscale (x1_L10 : Int32).toNatClampNeg)) fun sMfirstScale_10 => (o_gd (o_in x1_L10 101) (o_gd (o_in x1_L10 101) (o_lt (vp_updL sMfirstBase_L10 (x1_L10 : Int32).toNatClampNeg (sMbase (x1_L10 : Int32).toNatClampNeg)) fun sMfirstBase_13 => (Mod_keepFirst_L10 fu sMkind sMwidth sMscale sMbase sMo_L10 n (x1_L10 + 1) sMfirstKind_4 sMfirstWidth_7 sMfirstScale_10 sMfirstBase_13))))))))))))
def Mod_keepFirst (fu : Nat) (sMkind : (Nat → Int32)) (sMwidth : (Nat → Int32)) (sMscale : (Nat → Int32)) (sMbase : (Nat → Int64)) (sMo : S_Mo) (sMfirstKind : (Nat → Int32)) (sMfirstWidth : (Nat → Int32)) (sMfirstScale : (Nat → Int32)) (sMfirstBase : (Nat → Int64)) : Option (S_Mo × (Nat → Int32) × (Nat → Int32) × (Nat → Int32) × (Nat → Int64)) := o_lt (Mo_set_firstFields sMo (Mo_fields sMo)) fun sMo_1 => (Mod_keepFirst_L10 fu sMkind sMwidth sMscale sMbase sMo_1 fu 0 sMfirstKind sMfirstWidth sMfirstScale sMfirstBase)
abbrev rm_Mod_keepFirst : Room := { frames := 0, cells := 0, slots := 0, locals := 0 }
set_option maxHeartbeats 4000000 in
set_option maxRecDepth 100000 in
theorem c_Mod_keepFirst (l : Launch) (D : va_G) (K : Nat → ClassId) (fu : Nat) (hMo : Nat → Nat) (sMo : S_Mo) (sMkind : (Nat → Int32)) (sMwidth : (Nat → Int32)) (sMscale : (Nat → Int32)) (sMbase : (Nat → Int64)) (sMfirstKind : (Nat → Int32)) (sMfirstWidth : (Nat → Int32)) (sMfirstScale : (Nat → Int32)) (sMfirstBase : (Nat → Int64)) (sMo' : S_Mo) (sMfirstKind' : (Nat → Int32)) (sMfirstWidth' : (Nat → Int32)) (sMfirstScale' : (Nat → Int32)) (sMfirstBase' : (Nat → Int64)) (hf : Mod_keepFirst fu sMkind sMwidth sMscale sMbase sMo sMfirstKind sMfirstWidth sMfirstScale sMfirstBase = some ((sMo', sMfirstKind', sMfirstWidth', sMfirstScale', sMfirstBase'))) : mv l D K y_Mod_keepFirst ws_Mod_keepFirst rm_Mod_keepFirst [.ref (hMo 0)] (fl [wMo K hMo sMo, wRowI K (fun _ => hMo 17) 101 sMkind, wRowI K (fun _ => hMo 19) 101 sMwidth, wRowI K (fun _ => hMo 20) 101 sMscale, wRow K (fun _ => hMo 23) 101 sMbase, wRowI K (fun _ => hMo 29) 101 sMfirstKind, wRowI K (fun _ => hMo 30) 101 sMfirstWidth, wRowI K (fun _ => hMo 31) 101 sMfirstScale, wRow K (fun _ => hMo 32) 101 sMfirstBase]) (fl [wMo K hMo sMo', wRowI K (fun _ => hMo 17) 101 sMkind, wRowI K (fun _ => hMo 19) 101 sMwidth, wRowI K (fun _ => hMo 20) 101 sMscale, wRow K (fun _ => hMo 23) 101 sMbase, wRowI K (fun _ => hMo 29) 101 sMfirstKind', wRowI K (fun _ => hMo 30) 101 sMfirstWidth', wRowI K (fun _ => hMo 31) 101 sMfirstScale', wRow K (fun _ => hMo 32) 101 sMfirstBase']) := by
  refine mv_of (cc := b_Mod_keepFirst) (maxL := 2) (own := "ObsMessagesModel") (by decide) rfl rfl (Nat.le_of_ble_eq_true rfl) ?_
  intro p e s m below meth c A ls hC hP hD hS hl
  obtain ⟨hx, hb, hml, hown, hts, hr, hlocks, hK, hF, hA⟩ := hC
  have hP : va_P D vwCl (fl [wMo K hMo sMo, wRowI K (fun _ => hMo 17) 101 sMkind, wRowI K (fun _ => hMo 19) 101 sMwidth, wRowI K (fun _ => hMo 20) 101 sMscale, wRow K (fun _ => hMo 23) 101 sMbase, wRowI K (fun _ => hMo 29) 101 sMfirstKind, wRowI K (fun _ => hMo 30) 101 sMfirstWidth, wRowI K (fun _ => hMo 31) 101 sMfirstScale, wRow K (fun _ => hMo 32) 101 sMfirstBase]) s.heap := hP
  have hl : lv_has ls 2 [(0, .ref (hMo 0))] := hl
  suffices hW : ∀ (H : Heap) (locs : List Loc), va_P D vwCl (fl [wMo K hMo sMo, wRowI K (fun _ => hMo 17) 101 sMkind, wRowI K (fun _ => hMo 19) 101 sMwidth, wRowI K (fun _ => hMo 20) 101 sMscale, wRow K (fun _ => hMo 23) 101 sMbase, wRowI K (fun _ => hMo 29) 101 sMfirstKind, wRowI K (fun _ => hMo 30) 101 sMfirstWidth, wRowI K (fun _ => hMo 31) 101 sMfirstScale, wRow K (fun _ => hMo 32) 101 sMfirstBase]) H → va_S A s.heap H locs → W p l e rm_Mod_keepFirst s m ([.ref (hMo 0)] : List Value).toArray below meth c H locs 0 0 (Qv below ([.ref (hMo 0)] : List Value).toArray s D K A (fl [wMo K hMo sMo', wRowI K (fun _ => hMo 17) 101 sMkind, wRowI K (fun _ => hMo 19) 101 sMwidth, wRowI K (fun _ => hMo 20) 101 sMscale, wRow K (fun _ => hMo 23) 101 sMbase, wRowI K (fun _ => hMo 29) 101 sMfirstKind', wRowI K (fun _ => hMo 30) 101 sMfirstWidth', wRowI K (fun _ => hMo 31) 101 sMfirstScale', wRow K (fun _ => hMo 32) 101 sMfirstBase'])) (F0 m 0 ls []) from hW s.heap [] hP hS
  clear hP hS
  intro H locs hP hS
  refine lv_aload_n (pc := 0) hx hb d_Mod_keepFirst_0 rfl (lv_at hl 0 rfl) ?_
  refine lv_aload_n (pc := 1) hx hb d_Mod_keepFirst_1 rfl (lv_at hl 0 rfl) ?_
  refine va_get (D := D) (ci := 10) (v := .int (Mo_fields sMo)) (C := R_Mod) (T := T_Mod) (N := 61) (pc := 2) hx hb hts (fun w h => List.mem_cons_of_mem _ (in_Mod w h)) hown hK hP _ (fl_at 0 0 rfl rfl) rfl 22 (by decide) (hts _ (List.mem_cons_of_mem _ tw_1115)) (fun _ h9 => h9) rfl d_Mod_keepFirst_2 ?_
  refine va_put (D := D) (ci := 10) (v := .int (Mo_fields sMo)) (ty := .int) (C := R_Mod) (T := T_Mod) (N := 61) (pc := 5) hx hb hts (fun w h => List.mem_cons_of_mem _ (in_Mod w h)) ty_Mod ty_Mod_ok nm_Mod hown hK hP hD hS _ (fl_at 0 0 rfl rfl) rfl 52 (by decide) (hts _ (List.mem_cons_of_mem _ tw_1145)) (fun _ h9 => h9) rfl (by decide +kernel) rfl rfl (Nat.le_of_ble_eq_true rfl) d_Mod_keepFirst_5 (fun H locs hP hD hS => ?_)
  obtain ⟨sMo_1, esMo_1, hf⟩ := o_lt_e hf
  have hP : va_P D vwCl (fl [wMo K hMo sMo_1, wRowI K (fun _ => hMo 17) 101 sMkind, wRowI K (fun _ => hMo 19) 101 sMwidth, wRowI K (fun _ => hMo 20) 101 sMscale, wRow K (fun _ => hMo 23) 101 sMbase, wRowI K (fun _ => hMo 29) 101 sMfirstKind, wRowI K (fun _ => hMo 30) 101 sMfirstWidth, wRowI K (fun _ => hMo 31) 101 sMfirstScale, wRow K (fun _ => hMo 32) 101 sMfirstBase]) H := by rw [esMo_1]; exact fl_P 0 0 rfl (Nat.le_of_ble_eq_true rfl) rfl rfl hP
  have hD : va_D A (fl [wMo K hMo sMo_1, wRowI K (fun _ => hMo 17) 101 sMkind, wRowI K (fun _ => hMo 19) 101 sMwidth, wRowI K (fun _ => hMo 20) 101 sMscale, wRow K (fun _ => hMo 23) 101 sMbase, wRowI K (fun _ => hMo 29) 101 sMfirstKind, wRowI K (fun _ => hMo 30) 101 sMfirstWidth, wRowI K (fun _ => hMo 31) 101 sMfirstScale, wRow K (fun _ => hMo 32) 101 sMfirstBase]) := by rw [esMo_1]; exact fl_D 0 0 rfl (Nat.le_of_ble_eq_true rfl) rfl rfl hD
  refine lv_iconst (v := 0) (pc := 8) hx hb d_Mod_keepFirst_8 (by decide) ?_
  refine lv_istore_n (lv' := [(1, .int 0), (0, .ref (hMo 0))]) (pc := 9) hx hb d_Mod_keepFirst_9 rfl hl (by decide) rfl (fun ls hl => ?_)
  have L10 : ∀ (sMo_L10 : S_Mo) (n : Nat) (x1_L10 : Int32) (sMfirstKind_L10 : (Nat → Int32)) (sMfirstWidth_L10 : (Nat → Int32)) (sMfirstScale_L10 : (Nat → Int32)) (sMfirstBase_L10 : (Nat → Int64)) (H : Heap) (locs : List Loc) (ls : Array Slot), va_P D vwCl (fl [wMo K hMo sMo_L10, wRowI K (fun _ => hMo 17) 101 sMkind, wRowI K (fun _ => hMo 19) 101 sMwidth, wRowI K (fun _ => hMo 20) 101 sMscale, wRow K (fun _ => hMo 23) 101 sMbase, wRowI K (fun _ => hMo 29) 101 sMfirstKind_L10, wRowI K (fun _ => hMo 30) 101 sMfirstWidth_L10, wRowI K (fun _ => hMo 31) 101 sMfirstScale_L10, wRow K (fun _ => hMo 32) 101 sMfirstBase_L10]) H → va_D A (fl [wMo K hMo sMo_L10, wRowI K (fun _ => hMo 17) 101 sMkind, wRowI K (fun _ => hMo 19) 101 sMwidth, wRowI K (fun _ => hMo 20) 101 sMscale, wRow K (fun _ => hMo 23) 101 sMbase, wRowI K (fun _ => hMo 29) 101 sMfirstKind_L10, wRowI K (fun _ => hMo 30) 101 sMfirstWidth_L10, wRowI K (fun _ => hMo 31) 101 sMfirstScale_L10, wRow K (fun _ => hMo 32) 101 sMfirstBase_L10]) → va_S A s.heap H locs → lv_has ls 2 [(0, .ref (hMo 0)), (1, .int x1_L10)] → Mod_keepFirst_L10 fu sMkind sMwidth sMscale sMbase sMo_L10 n x1_L10 sMfirstKind_L10 sMfirstWidth_L10 sMfirstScale_L10 sMfirstBase_L10 = some ((sMo', sMfirstKind', sMfirstWidth', sMfirstScale', sMfirstBase')) → W p l e rm_Mod_keepFirst s m ([.ref (hMo 0)] : List Value).toArray below meth c H locs 0 0 (Qv below ([.ref (hMo 0)] : List Value).toArray s D K A (fl [wMo K hMo sMo', wRowI K (fun _ => hMo 17) 101 sMkind, wRowI K (fun _ => hMo 19) 101 sMwidth, wRowI K (fun _ => hMo 20) 101 sMscale, wRow K (fun _ => hMo 23) 101 sMbase, wRowI K (fun _ => hMo 29) 101 sMfirstKind', wRowI K (fun _ => hMo 30) 101 sMfirstWidth', wRowI K (fun _ => hMo 31) 101 sMfirstScale', wRow K (fun _ => hMo 32) 101 sMfirstBase'])) (F0 m 10 ls []) := by
    intro sMo_L10 n
    induction n with
    | zero =>
      intro x1_L10 sMfirstKind_L10 sMfirstWidth_L10 sMfirstScale_L10 sMfirstBase_L10 H locs ls hP hD hS hl hf
      exact absurd hf (fun h => nomatch h)
    | succ n_10 ih_10 =>
      intro x1_L10 sMfirstKind_L10 sMfirstWidth_L10 sMfirstScale_L10 sMfirstBase_L10 H locs ls hP hD hS hl hf
      refine lv_iload_n (pc := 10) hx hb d_Mod_keepFirst_10 rfl (lv_at hl 1 rfl) ?_
      refine lv_aload_n (pc := 11) hx hb d_Mod_keepFirst_11 rfl (lv_at hl 0 rfl) ?_
      refine va_get (D := D) (ci := 10) (v := .int (Mo_fields sMo_L10)) (C := R_Mod) (T := T_Mod) (N := 61) (pc := 12) hx hb hts (fun w h => List.mem_cons_of_mem _ (in_Mod w h)) hown hK hP _ (fl_at 0 0 rfl rfl) rfl 22 (by decide) (hts _ (List.mem_cons_of_mem _ tw_1115)) (fun _ h9 => h9) rfl d_Mod_keepFirst_12 ?_
      refine lv_icmp_ge (tgt := 72) (pc := 15) hx hb d_Mod_keepFirst_15 (by decide) (fun c14 => ?_) (fun c14 => ?_)
      · replace hf := o_t c14 hf
        cases hf
        exact ret_v hx hb hr hlocks hK hP hS d_Mod_keepFirst_72
      · replace hf := o_f c14 hf
        refine lv_aload_n (pc := 18) hx hb d_Mod_keepFirst_18 rfl (lv_at hl 0 rfl) ?_
        refine va_get (D := D) (ci := 10) (v := .ref (hMo 29)) (C := R_Mod) (T := T_Mod) (N := 61) (pc := 19) hx hb hts (fun w h => List.mem_cons_of_mem _ (in_Mod w h)) hown hK hP _ (fl_at 0 0 rfl rfl) rfl 48 (by decide) (hts _ (List.mem_cons_of_mem _ tw_1141)) (fun _ h9 => h9) rfl d_Mod_keepFirst_19 ?_
        refine lv_iload_n (pc := 22) hx hb d_Mod_keepFirst_22 rfl (lv_at hl 1 rfl) ?_
        refine lv_aload_n (pc := 23) hx hb d_Mod_keepFirst_23 rfl (lv_at hl 0 rfl) ?_
        refine va_get (D := D) (ci := 10) (v := .ref (hMo 17)) (C := R_Mod) (T := T_Mod) (N := 61) (pc := 24) hx hb hts (fun w h => List.mem_cons_of_mem _ (in_Mod w h)) hown hK hP _ (fl_at 0 0 rfl rfl) rfl 23 (by decide) (hts _ (List.mem_cons_of_mem _ tw_1116)) (fun _ h9 => h9) rfl d_Mod_keepFirst_24 ?_
        refine lv_iload_n (pc := 27) hx hb d_Mod_keepFirst_27 rfl (lv_at hl 1 rfl) ?_
        obtain ⟨hi2, hf⟩ := o_gi_e hf
        refine va_iald (D := D) (pc := 28) hx hb hK hP _ 0 (fl_at 1 0 rfl rfl) rfl hi2 d_Mod_keepFirst_28 ?_
        obtain ⟨hi3, hf⟩ := o_gi_e hf
        refine va_iast (D := D) (pc := 29) hx hb hK hP hD hS _ 0 (fl_at 5 0 rfl rfl) rfl hi3 d_Mod_keepFirst_29 (fun H locs hP hD hS => ?_)
        obtain ⟨sMfirstKind_4, esMfirstKind_4, hf⟩ := o_lt_e hf
        have hP : va_P D vwCl (fl [wMo K hMo sMo_L10, wRowI K (fun _ => hMo 17) 101 sMkind, wRowI K (fun _ => hMo 19) 101 sMwidth, wRowI K (fun _ => hMo 20) 101 sMscale, wRow K (fun _ => hMo 23) 101 sMbase, wRowI K (fun _ => hMo 29) 101 sMfirstKind_4, wRowI K (fun _ => hMo 30) 101 sMfirstWidth_L10, wRowI K (fun _ => hMo 31) 101 sMfirstScale_L10, wRow K (fun _ => hMo 32) 101 sMfirstBase_L10]) H := by rw [esMfirstKind_4]; exact fl_P 5 0 rfl (Nat.le_of_ble_eq_true rfl) rfl rfl hP
        have hD : va_D A (fl [wMo K hMo sMo_L10, wRowI K (fun _ => hMo 17) 101 sMkind, wRowI K (fun _ => hMo 19) 101 sMwidth, wRowI K (fun _ => hMo 20) 101 sMscale, wRow K (fun _ => hMo 23) 101 sMbase, wRowI K (fun _ => hMo 29) 101 sMfirstKind_4, wRowI K (fun _ => hMo 30) 101 sMfirstWidth_L10, wRowI K (fun _ => hMo 31) 101 sMfirstScale_L10, wRow K (fun _ => hMo 32) 101 sMfirstBase_L10]) := by rw [esMfirstKind_4]; exact fl_D 5 0 rfl (Nat.le_of_ble_eq_true rfl) rfl rfl hD
        refine lv_aload_n (pc := 30) hx hb d_Mod_keepFirst_30 rfl (lv_at hl 0 rfl) ?_
        refine va_get (D := D) (ci := 10) (v := .ref (hMo 30)) (C := R_Mod) (T := T_Mod) (N := 61) (pc := 31) hx hb hts (fun w h => List.mem_cons_of_mem _ (in_Mod w h)) hown hK hP _ (fl_at 0 0 rfl rfl) rfl 49 (by decide) (hts _ (List.mem_cons_of_mem _ tw_1142)) (fun _ h9 => h9) rfl d_Mod_keepFirst_31 ?_
        refine lv_iload_n (pc := 34) hx hb d_Mod_keepFirst_34 rfl (lv_at hl 1 rfl) ?_
        refine lv_aload_n (pc := 35) hx hb d_Mod_keepFirst_35 rfl (lv_at hl 0 rfl) ?_
        refine va_get (D := D) (ci := 10) (v := .ref (hMo 19)) (C := R_Mod) (T := T_Mod) (N := 61) (pc := 36) hx hb hts (fun w h => List.mem_cons_of_mem _ (in_Mod w h)) hown hK hP _ (fl_at 0 0 rfl rfl) rfl 25 (by decide) (hts _ (List.mem_cons_of_mem _ tw_1118)) (fun _ h9 => h9) rfl d_Mod_keepFirst_36 ?_
        refine lv_iload_n (pc := 39) hx hb d_Mod_keepFirst_39 rfl (lv_at hl 1 rfl) ?_
        obtain ⟨hi5, hf⟩ := o_gi_e hf
        refine va_iald (D := D) (pc := 40) hx hb hK hP _ 0 (fl_at 2 0 rfl rfl) rfl hi5 d_Mod_keepFirst_40 ?_
        obtain ⟨hi6, hf⟩ := o_gi_e hf
        refine va_iast (D := D) (pc := 41) hx hb hK hP hD hS _ 0 (fl_at 6 0 rfl rfl) rfl hi6 d_Mod_keepFirst_41 (fun H locs hP hD hS => ?_)
        obtain ⟨sMfirstWidth_7, esMfirstWidth_7, hf⟩ := o_lt_e hf
        have hP : va_P D vwCl (fl [wMo K hMo sMo_L10, wRowI K (fun _ => hMo 17) 101 sMkind, wRowI K (fun _ => hMo 19) 101 sMwidth, wRowI K (fun _ => hMo 20) 101 sMscale, wRow K (fun _ => hMo 23) 101 sMbase, wRowI K (fun _ => hMo 29) 101 sMfirstKind_4, wRowI K (fun _ => hMo 30) 101 sMfirstWidth_7, wRowI K (fun _ => hMo 31) 101 sMfirstScale_L10, wRow K (fun _ => hMo 32) 101 sMfirstBase_L10]) H := by rw [esMfirstWidth_7]; exact fl_P 6 0 rfl (Nat.le_of_ble_eq_true rfl) rfl rfl hP
        have hD : va_D A (fl [wMo K hMo sMo_L10, wRowI K (fun _ => hMo 17) 101 sMkind, wRowI K (fun _ => hMo 19) 101 sMwidth, wRowI K (fun _ => hMo 20) 101 sMscale, wRow K (fun _ => hMo 23) 101 sMbase, wRowI K (fun _ => hMo 29) 101 sMfirstKind_4, wRowI K (fun _ => hMo 30) 101 sMfirstWidth_7, wRowI K (fun _ => hMo 31) 101 sMfirstScale_L10, wRow K (fun _ => hMo 32) 101 sMfirstBase_L10]) := by rw [esMfirstWidth_7]; exact fl_D 6 0 rfl (Nat.le_of_ble_eq_true rfl) rfl rfl hD
        refine lv_aload_n (pc := 42) hx hb d_Mod_keepFirst_42 rfl (lv_at hl 0 rfl) ?_
        refine va_get (D := D) (ci := 10) (v := .ref (hMo 31)) (C := R_Mod) (T := T_Mod) (N := 61) (pc := 43) hx hb hts (fun w h => List.mem_cons_of_mem _ (in_Mod w h)) hown hK hP _ (fl_at 0 0 rfl rfl) rfl 50 (by decide) (hts _ (List.mem_cons_of_mem _ tw_1143)) (fun _ h9 => h9) rfl d_Mod_keepFirst_43 ?_
        refine lv_iload_n (pc := 46) hx hb d_Mod_keepFirst_46 rfl (lv_at hl 1 rfl) ?_
        refine lv_aload_n (pc := 47) hx hb d_Mod_keepFirst_47 rfl (lv_at hl 0 rfl) ?_
        refine va_get (D := D) (ci := 10) (v := .ref (hMo 20)) (C := R_Mod) (T := T_Mod) (N := 61) (pc := 48) hx hb hts (fun w h => List.mem_cons_of_mem _ (in_Mod w h)) hown hK hP _ (fl_at 0 0 rfl rfl) rfl 26 (by decide) (hts _ (List.mem_cons_of_mem _ tw_1119)) (fun _ h9 => h9) rfl d_Mod_keepFirst_48 ?_
        refine lv_iload_n (pc := 51) hx hb d_Mod_keepFirst_51 rfl (lv_at hl 1 rfl) ?_
        obtain ⟨hi8, hf⟩ := o_gi_e hf
        refine va_iald (D := D) (pc := 52) hx hb hK hP _ 0 (fl_at 3 0 rfl rfl) rfl hi8 d_Mod_keepFirst_52 ?_
        obtain ⟨hi9, hf⟩ := o_gi_e hf
        refine va_iast (D := D) (pc := 53) hx hb hK hP hD hS _ 0 (fl_at 7 0 rfl rfl) rfl hi9 d_Mod_keepFirst_53 (fun H locs hP hD hS => ?_)
        obtain ⟨sMfirstScale_10, esMfirstScale_10, hf⟩ := o_lt_e hf
        have hP : va_P D vwCl (fl [wMo K hMo sMo_L10, wRowI K (fun _ => hMo 17) 101 sMkind, wRowI K (fun _ => hMo 19) 101 sMwidth, wRowI K (fun _ => hMo 20) 101 sMscale, wRow K (fun _ => hMo 23) 101 sMbase, wRowI K (fun _ => hMo 29) 101 sMfirstKind_4, wRowI K (fun _ => hMo 30) 101 sMfirstWidth_7, wRowI K (fun _ => hMo 31) 101 sMfirstScale_10, wRow K (fun _ => hMo 32) 101 sMfirstBase_L10]) H := by rw [esMfirstScale_10]; exact fl_P 7 0 rfl (Nat.le_of_ble_eq_true rfl) rfl rfl hP
        have hD : va_D A (fl [wMo K hMo sMo_L10, wRowI K (fun _ => hMo 17) 101 sMkind, wRowI K (fun _ => hMo 19) 101 sMwidth, wRowI K (fun _ => hMo 20) 101 sMscale, wRow K (fun _ => hMo 23) 101 sMbase, wRowI K (fun _ => hMo 29) 101 sMfirstKind_4, wRowI K (fun _ => hMo 30) 101 sMfirstWidth_7, wRowI K (fun _ => hMo 31) 101 sMfirstScale_10, wRow K (fun _ => hMo 32) 101 sMfirstBase_L10]) := by rw [esMfirstScale_10]; exact fl_D 7 0 rfl (Nat.le_of_ble_eq_true rfl) rfl rfl hD
        refine lv_aload_n (pc := 54) hx hb d_Mod_keepFirst_54 rfl (lv_at hl 0 rfl) ?_
        refine va_get (D := D) (ci := 10) (v := .ref (hMo 32)) (C := R_Mod) (T := T_Mod) (N := 61) (pc := 55) hx hb hts (fun w h => List.mem_cons_of_mem _ (in_Mod w h)) hown hK hP _ (fl_at 0 0 rfl rfl) rfl 51 (by decide) (hts _ (List.mem_cons_of_mem _ tw_1144)) (fun _ h9 => h9) rfl d_Mod_keepFirst_55 ?_
        refine lv_iload_n (pc := 58) hx hb d_Mod_keepFirst_58 rfl (lv_at hl 1 rfl) ?_
        refine lv_aload_n (pc := 59) hx hb d_Mod_keepFirst_59 rfl (lv_at hl 0 rfl) ?_
        refine va_get (D := D) (ci := 10) (v := .ref (hMo 23)) (C := R_Mod) (T := T_Mod) (N := 61) (pc := 60) hx hb hts (fun w h => List.mem_cons_of_mem _ (in_Mod w h)) hown hK hP _ (fl_at 0 0 rfl rfl) rfl 29 (by decide) (hts _ (List.mem_cons_of_mem _ tw_1122)) (fun _ h9 => h9) rfl d_Mod_keepFirst_60 ?_
        refine lv_iload_n (pc := 63) hx hb d_Mod_keepFirst_63 rfl (lv_at hl 1 rfl) ?_
        obtain ⟨hi11, hf⟩ := o_gi_e hf
        refine va_lald (D := D) (pc := 64) hx hb hK hP _ 1 (fl_at 4 0 rfl rfl) rfl hi11 d_Mod_keepFirst_64 ?_
        obtain ⟨hi12, hf⟩ := o_gi_e hf
        refine va_last (D := D) (pc := 65) hx hb hK hP hD hS _ 1 (fl_at 8 0 rfl rfl) rfl hi12 d_Mod_keepFirst_65 (fun H locs hP hD hS => ?_)
        obtain ⟨sMfirstBase_13, esMfirstBase_13, hf⟩ := o_lt_e hf
        have hP : va_P D vwCl (fl [wMo K hMo sMo_L10, wRowI K (fun _ => hMo 17) 101 sMkind, wRowI K (fun _ => hMo 19) 101 sMwidth, wRowI K (fun _ => hMo 20) 101 sMscale, wRow K (fun _ => hMo 23) 101 sMbase, wRowI K (fun _ => hMo 29) 101 sMfirstKind_4, wRowI K (fun _ => hMo 30) 101 sMfirstWidth_7, wRowI K (fun _ => hMo 31) 101 sMfirstScale_10, wRow K (fun _ => hMo 32) 101 sMfirstBase_13]) H := by rw [esMfirstBase_13]; exact fl_P 8 0 rfl (Nat.le_of_ble_eq_true rfl) rfl rfl hP
        have hD : va_D A (fl [wMo K hMo sMo_L10, wRowI K (fun _ => hMo 17) 101 sMkind, wRowI K (fun _ => hMo 19) 101 sMwidth, wRowI K (fun _ => hMo 20) 101 sMscale, wRow K (fun _ => hMo 23) 101 sMbase, wRowI K (fun _ => hMo 29) 101 sMfirstKind_4, wRowI K (fun _ => hMo 30) 101 sMfirstWidth_7, wRowI K (fun _ => hMo 31) 101 sMfirstScale_10, wRow K (fun _ => hMo 32) 101 sMfirstBase_13]) := by rw [esMfirstBase_13]; exact fl_D 8 0 rfl (Nat.le_of_ble_eq_true rfl) rfl rfl hD
        refine lv_iinc (v := x1_L10 + 1) (lv' := [(1, .int (x1_L10 + 1)), (0, .ref (hMo 0))]) (pc := 66) hx hb d_Mod_keepFirst_66 hl (k := 1) rfl rfl (by decide) rfl (fun ls hl => ?_)
        refine lv_goto (tgt := 10) (pc := 69) hx hb d_Mod_keepFirst_69 (by decide) ?_
        exact ih_10 (x1_L10 + 1) sMfirstKind_4 sMfirstWidth_7 sMfirstScale_10 sMfirstBase_13 H locs ls hP hD hS (lv_sub hl [1, 0] rfl) hf
  exact L10 sMo_1 fu 0 sMfirstKind sMfirstWidth sMfirstScale sMfirstBase H locs ls hP hD hS (lv_sub hl [1, 0] rfl) hf
def Mod_isLike_j25 (sMo : S_Mo) (sMvalues : (Nat → Int64)) (sMkind : (Nat → Int32)) (sMwidth : (Nat → Int32)) (sMscale : (Nat → Int32)) (sMbase : (Nat → Int64)) (sMfirstKind : (Nat → Int32)) (sMfirstWidth : (Nat → Int32)) (sMfirstScale : (Nat → Int32)) (sMfirstBase : (Nat → Int64)) (x1_j25 : Int32) (t0_j25 : Int32) : Option (Int32) := o_gd (o_in x1_j25 101) (o_gd (o_in x1_j25 101) (if (sMkind (x1_j25 : Int32).toNatClampNeg) = (sMfirstKind (x1_j25 : Int32).toNatClampNeg) then o_gd (o_in x1_j25 101) (o_gd (o_in x1_j25 101) (if (sMwidth (x1_j25 : Int32).toNatClampNeg) = (sMfirstWidth (x1_j25 : Int32).toNatClampNeg) then o_gd (o_in x1_j25 101) (o_gd (o_in x1_j25 101) (if (sMscale (x1_j25 : Int32).toNatClampNeg) = (sMfirstScale (x1_j25 : Int32).toNatClampNeg) then o_gd (o_in x1_j25 101) (o_gd (o_in x1_j25 101) (if (sMbase (x1_j25 : Int32).toNatClampNeg) = (sMfirstBase (x1_j25 : Int32).toNatClampNeg) then if t0_j25 = 0 then some 1 else o_gd (o_in ((100 * (Mo_subset sMo)) + x1_j25) 800) (o_gd (o_in x1_j25 800) (if (sMvalues ((100 * (Mo_subset sMo)) + x1_j25 : Int32).toNatClampNeg) = (sMvalues (x1_j25 : Int32).toNatClampNeg) then some 1 else some 0)) else some 0)) else some 0)) else some 0)) else some 0))
def Mod_isLike_j20 (sMo : S_Mo) (sMvalues : (Nat → Int64)) (sMkind : (Nat → Int32)) (sMwidth : (Nat → Int32)) (sMscale : (Nat → Int32)) (sMbase : (Nat → Int64)) (sMfirstKind : (Nat → Int32)) (sMfirstWidth : (Nat → Int32)) (sMfirstScale : (Nat → Int32)) (sMfirstBase : (Nat → Int64)) (x1_j20 : Int32) : Option (Int32) := Mod_isLike_j25 sMo sMvalues sMkind sMwidth sMscale sMbase sMfirstKind sMfirstWidth sMfirstScale sMfirstBase x1_j20 1
def Mod_isLike (sMo : S_Mo) (sMvalues : (Nat → Int64)) (sMkind : (Nat → Int32)) (sMwidth : (Nat → Int32)) (sMscale : (Nat → Int32)) (sMbase : (Nat → Int64)) (sMfirstKind : (Nat → Int32)) (sMfirstWidth : (Nat → Int32)) (sMfirstScale : (Nat → Int32)) (sMfirstBase : (Nat → Int64)) (a0 : Int32) : Option (Int32) := o_gd (o_in a0 101) (if (sMkind (a0 : Int32).toNatClampNeg) = 2 then Mod_isLike_j20 sMo sMvalues sMkind sMwidth sMscale sMbase sMfirstKind sMfirstWidth sMfirstScale sMfirstBase a0 else o_gd (o_in a0 101) (if (sMkind (a0 : Int32).toNatClampNeg) = 3 then Mod_isLike_j20 sMo sMvalues sMkind sMwidth sMscale sMbase sMfirstKind sMfirstWidth sMfirstScale sMfirstBase a0 else Mod_isLike_j25 sMo sMvalues sMkind sMwidth sMscale sMbase sMfirstKind sMfirstWidth sMfirstScale sMfirstBase a0 0))
abbrev rm_Mod_isLike : Room := { frames := 0, cells := 0, slots := 0, locals := 0 }
set_option maxHeartbeats 4000000 in
set_option maxRecDepth 100000 in
theorem c_Mod_isLike (l : Launch) (D : va_G) (K : Nat → ClassId) (hMo : Nat → Nat) (sMo : S_Mo) (sMvalues : (Nat → Int64)) (sMkind : (Nat → Int32)) (sMwidth : (Nat → Int32)) (sMscale : (Nat → Int32)) (sMbase : (Nat → Int64)) (sMfirstKind : (Nat → Int32)) (sMfirstWidth : (Nat → Int32)) (sMfirstScale : (Nat → Int32)) (sMfirstBase : (Nat → Int64)) (a0 : Int32) (r : Int32) (hf : Mod_isLike sMo sMvalues sMkind sMwidth sMscale sMbase sMfirstKind sMfirstWidth sMfirstScale sMfirstBase a0 = some r) : mi l D K y_Mod_isLike ws_Mod_isLike rm_Mod_isLike [.ref (hMo 0), .int a0] (fl [wMo K hMo sMo, wRow K (fun _ => hMo 7) 800 sMvalues, wRowI K (fun _ => hMo 17) 101 sMkind, wRowI K (fun _ => hMo 19) 101 sMwidth, wRowI K (fun _ => hMo 20) 101 sMscale, wRow K (fun _ => hMo 23) 101 sMbase, wRowI K (fun _ => hMo 29) 101 sMfirstKind, wRowI K (fun _ => hMo 30) 101 sMfirstWidth, wRowI K (fun _ => hMo 31) 101 sMfirstScale, wRow K (fun _ => hMo 32) 101 sMfirstBase]) (fl [wMo K hMo sMo, wRow K (fun _ => hMo 7) 800 sMvalues, wRowI K (fun _ => hMo 17) 101 sMkind, wRowI K (fun _ => hMo 19) 101 sMwidth, wRowI K (fun _ => hMo 20) 101 sMscale, wRow K (fun _ => hMo 23) 101 sMbase, wRowI K (fun _ => hMo 29) 101 sMfirstKind, wRowI K (fun _ => hMo 30) 101 sMfirstWidth, wRowI K (fun _ => hMo 31) 101 sMfirstScale, wRow K (fun _ => hMo 32) 101 sMfirstBase]) r := by
  refine mi_of (cc := b_Mod_isLike) (maxL := 3) (own := "ObsMessagesModel") (by decide) rfl rfl (Nat.le_of_ble_eq_true rfl) ?_
  intro p e s m below meth c A ls hC hP hD hS hl
  obtain ⟨hx, hb, hml, hown, hts, hr, hlocks, hK, hF, hA⟩ := hC
  have hP : va_P D vwCl (fl [wMo K hMo sMo, wRow K (fun _ => hMo 7) 800 sMvalues, wRowI K (fun _ => hMo 17) 101 sMkind, wRowI K (fun _ => hMo 19) 101 sMwidth, wRowI K (fun _ => hMo 20) 101 sMscale, wRow K (fun _ => hMo 23) 101 sMbase, wRowI K (fun _ => hMo 29) 101 sMfirstKind, wRowI K (fun _ => hMo 30) 101 sMfirstWidth, wRowI K (fun _ => hMo 31) 101 sMfirstScale, wRow K (fun _ => hMo 32) 101 sMfirstBase]) s.heap := hP
  have hl : lv_has ls 3 [(0, .ref (hMo 0)), (1, .int a0)] := hl
  suffices hW : ∀ (H : Heap) (locs : List Loc), va_P D vwCl (fl [wMo K hMo sMo, wRow K (fun _ => hMo 7) 800 sMvalues, wRowI K (fun _ => hMo 17) 101 sMkind, wRowI K (fun _ => hMo 19) 101 sMwidth, wRowI K (fun _ => hMo 20) 101 sMscale, wRow K (fun _ => hMo 23) 101 sMbase, wRowI K (fun _ => hMo 29) 101 sMfirstKind, wRowI K (fun _ => hMo 30) 101 sMfirstWidth, wRowI K (fun _ => hMo 31) 101 sMfirstScale, wRow K (fun _ => hMo 32) 101 sMfirstBase]) H → va_S A s.heap H locs → W p l e rm_Mod_isLike s m ([.ref (hMo 0), .int a0] : List Value).toArray below meth c H locs 0 0 (Qi below ([.ref (hMo 0), .int a0] : List Value).toArray s D K A (fl [wMo K hMo sMo, wRow K (fun _ => hMo 7) 800 sMvalues, wRowI K (fun _ => hMo 17) 101 sMkind, wRowI K (fun _ => hMo 19) 101 sMwidth, wRowI K (fun _ => hMo 20) 101 sMscale, wRow K (fun _ => hMo 23) 101 sMbase, wRowI K (fun _ => hMo 29) 101 sMfirstKind, wRowI K (fun _ => hMo 30) 101 sMfirstWidth, wRowI K (fun _ => hMo 31) 101 sMfirstScale, wRow K (fun _ => hMo 32) 101 sMfirstBase]) r) (F0 m 0 ls []) from hW s.heap [] hP hS
  clear hP hS
  intro H locs hP hS
  have J25 : ∀ (x1_j25 : Int32) (t0_j25 : Int32) (H : Heap) (locs : List Loc) (ls : Array Slot), va_P D vwCl (fl [wMo K hMo sMo, wRow K (fun _ => hMo 7) 800 sMvalues, wRowI K (fun _ => hMo 17) 101 sMkind, wRowI K (fun _ => hMo 19) 101 sMwidth, wRowI K (fun _ => hMo 20) 101 sMscale, wRow K (fun _ => hMo 23) 101 sMbase, wRowI K (fun _ => hMo 29) 101 sMfirstKind, wRowI K (fun _ => hMo 30) 101 sMfirstWidth, wRowI K (fun _ => hMo 31) 101 sMfirstScale, wRow K (fun _ => hMo 32) 101 sMfirstBase]) H → va_D A (fl [wMo K hMo sMo, wRow K (fun _ => hMo 7) 800 sMvalues, wRowI K (fun _ => hMo 17) 101 sMkind, wRowI K (fun _ => hMo 19) 101 sMwidth, wRowI K (fun _ => hMo 20) 101 sMscale, wRow K (fun _ => hMo 23) 101 sMbase, wRowI K (fun _ => hMo 29) 101 sMfirstKind, wRowI K (fun _ => hMo 30) 101 sMfirstWidth, wRowI K (fun _ => hMo 31) 101 sMfirstScale, wRow K (fun _ => hMo 32) 101 sMfirstBase]) → va_S A s.heap H locs → lv_has ls 3 [(0, .ref (hMo 0)), (1, .int x1_j25)] → Mod_isLike_j25 sMo sMvalues sMkind sMwidth sMscale sMbase sMfirstKind sMfirstWidth sMfirstScale sMfirstBase x1_j25 t0_j25 = some r → W p l e rm_Mod_isLike s m ([.ref (hMo 0), .int a0] : List Value).toArray below meth c H locs 0 0 (Qi below ([.ref (hMo 0), .int a0] : List Value).toArray s D K A (fl [wMo K hMo sMo, wRow K (fun _ => hMo 7) 800 sMvalues, wRowI K (fun _ => hMo 17) 101 sMkind, wRowI K (fun _ => hMo 19) 101 sMwidth, wRowI K (fun _ => hMo 20) 101 sMscale, wRow K (fun _ => hMo 23) 101 sMbase, wRowI K (fun _ => hMo 29) 101 sMfirstKind, wRowI K (fun _ => hMo 30) 101 sMfirstWidth, wRowI K (fun _ => hMo 31) 101 sMfirstScale, wRow K (fun _ => hMo 32) 101 sMfirstBase]) r) (F0 m 25 ls [.int t0_j25]) := by
    intro x1_j25 t0_j25 H locs ls hP hD hS hl hf
    refine lv_istore_n (lv' := [(2, .int t0_j25), (0, .ref (hMo 0)), (1, .int x1_j25)]) (pc := 25) hx hb d_Mod_isLike_25 rfl hl (by decide) rfl (fun ls hl => ?_)
    refine lv_aload_n (pc := 26) hx hb d_Mod_isLike_26 rfl (lv_at hl 1 rfl) ?_
    refine va_get (D := D) (ci := 10) (v := .ref (hMo 17)) (C := R_Mod) (T := T_Mod) (N := 61) (pc := 27) hx hb hts (fun w h => List.mem_cons_of_mem _ (in_Mod w h)) hown hK hP _ (fl_at 0 0 rfl rfl) rfl 23 (by decide) (hts _ (List.mem_cons_of_mem _ tw_1116)) (fun _ h9 => h9) rfl d_Mod_isLike_27 ?_
    refine lv_iload_n (pc := 30) hx hb d_Mod_isLike_30 rfl (lv_at hl 2 rfl) ?_
    obtain ⟨hi5, hf⟩ := o_gi_e hf
    refine va_iald (D := D) (pc := 31) hx hb hK hP _ 0 (fl_at 2 0 rfl rfl) rfl hi5 d_Mod_isLike_31 ?_
    refine lv_aload_n (pc := 32) hx hb d_Mod_isLike_32 rfl (lv_at hl 1 rfl) ?_
    refine va_get (D := D) (ci := 10) (v := .ref (hMo 29)) (C := R_Mod) (T := T_Mod) (N := 61) (pc := 33) hx hb hts (fun w h => List.mem_cons_of_mem _ (in_Mod w h)) hown hK hP _ (fl_at 0 0 rfl rfl) rfl 48 (by decide) (hts _ (List.mem_cons_of_mem _ tw_1141)) (fun _ h9 => h9) rfl d_Mod_isLike_33 ?_
    refine lv_iload_n (pc := 36) hx hb d_Mod_isLike_36 rfl (lv_at hl 2 rfl) ?_
    obtain ⟨hi6, hf⟩ := o_gi_e hf
    refine va_iald (D := D) (pc := 37) hx hb hK hP _ 0 (fl_at 6 0 rfl rfl) rfl hi6 d_Mod_isLike_37 ?_
    refine lv_icmp_ne (tgt := 119) (pc := 38) hx hb d_Mod_isLike_38 (by decide) (fun c20 => ?_) (fun c20 => ?_)
    · replace hf := o_f c20 hf
      refine lv_iconst (v := 0) (pc := 119) hx hb d_Mod_isLike_119 (by decide) ?_
      cases hf
      exact ret_z hx hb hr hlocks hK hP hS rfl d_Mod_isLike_120
    · replace hf := o_t c20 hf
      refine lv_aload_n (pc := 41) hx hb d_Mod_isLike_41 rfl (lv_at hl 1 rfl) ?_
      refine va_get (D := D) (ci := 10) (v := .ref (hMo 19)) (C := R_Mod) (T := T_Mod) (N := 61) (pc := 42) hx hb hts (fun w h => List.mem_cons_of_mem _ (in_Mod w h)) hown hK hP _ (fl_at 0 0 rfl rfl) rfl 25 (by decide) (hts _ (List.mem_cons_of_mem _ tw_1118)) (fun _ h9 => h9) rfl d_Mod_isLike_42 ?_
      refine lv_iload_n (pc := 45) hx hb d_Mod_isLike_45 rfl (lv_at hl 2 rfl) ?_
      obtain ⟨hi7, hf⟩ := o_gi_e hf
      refine va_iald (D := D) (pc := 46) hx hb hK hP _ 0 (fl_at 3 0 rfl rfl) rfl hi7 d_Mod_isLike_46 ?_
      refine lv_aload_n (pc := 47) hx hb d_Mod_isLike_47 rfl (lv_at hl 1 rfl) ?_
      refine va_get (D := D) (ci := 10) (v := .ref (hMo 30)) (C := R_Mod) (T := T_Mod) (N := 61) (pc := 48) hx hb hts (fun w h => List.mem_cons_of_mem _ (in_Mod w h)) hown hK hP _ (fl_at 0 0 rfl rfl) rfl 49 (by decide) (hts _ (List.mem_cons_of_mem _ tw_1142)) (fun _ h9 => h9) rfl d_Mod_isLike_48 ?_
      refine lv_iload_n (pc := 51) hx hb d_Mod_isLike_51 rfl (lv_at hl 2 rfl) ?_
      obtain ⟨hi8, hf⟩ := o_gi_e hf
      refine va_iald (D := D) (pc := 52) hx hb hK hP _ 0 (fl_at 7 0 rfl rfl) rfl hi8 d_Mod_isLike_52 ?_
      refine lv_icmp_ne (tgt := 119) (pc := 53) hx hb d_Mod_isLike_53 (by decide) (fun c19 => ?_) (fun c19 => ?_)
      · replace hf := o_f c19 hf
        refine lv_iconst (v := 0) (pc := 119) hx hb d_Mod_isLike_119 (by decide) ?_
        cases hf
        exact ret_z hx hb hr hlocks hK hP hS rfl d_Mod_isLike_120
      · replace hf := o_t c19 hf
        refine lv_aload_n (pc := 56) hx hb d_Mod_isLike_56 rfl (lv_at hl 1 rfl) ?_
        refine va_get (D := D) (ci := 10) (v := .ref (hMo 20)) (C := R_Mod) (T := T_Mod) (N := 61) (pc := 57) hx hb hts (fun w h => List.mem_cons_of_mem _ (in_Mod w h)) hown hK hP _ (fl_at 0 0 rfl rfl) rfl 26 (by decide) (hts _ (List.mem_cons_of_mem _ tw_1119)) (fun _ h9 => h9) rfl d_Mod_isLike_57 ?_
        refine lv_iload_n (pc := 60) hx hb d_Mod_isLike_60 rfl (lv_at hl 2 rfl) ?_
        obtain ⟨hi9, hf⟩ := o_gi_e hf
        refine va_iald (D := D) (pc := 61) hx hb hK hP _ 0 (fl_at 4 0 rfl rfl) rfl hi9 d_Mod_isLike_61 ?_
        refine lv_aload_n (pc := 62) hx hb d_Mod_isLike_62 rfl (lv_at hl 1 rfl) ?_
        refine va_get (D := D) (ci := 10) (v := .ref (hMo 31)) (C := R_Mod) (T := T_Mod) (N := 61) (pc := 63) hx hb hts (fun w h => List.mem_cons_of_mem _ (in_Mod w h)) hown hK hP _ (fl_at 0 0 rfl rfl) rfl 50 (by decide) (hts _ (List.mem_cons_of_mem _ tw_1143)) (fun _ h9 => h9) rfl d_Mod_isLike_63 ?_
        refine lv_iload_n (pc := 66) hx hb d_Mod_isLike_66 rfl (lv_at hl 2 rfl) ?_
        obtain ⟨hi10, hf⟩ := o_gi_e hf
        refine va_iald (D := D) (pc := 67) hx hb hK hP _ 0 (fl_at 8 0 rfl rfl) rfl hi10 d_Mod_isLike_67 ?_
        refine lv_icmp_ne (tgt := 119) (pc := 68) hx hb d_Mod_isLike_68 (by decide) (fun c18 => ?_) (fun c18 => ?_)
        · replace hf := o_f c18 hf
          refine lv_iconst (v := 0) (pc := 119) hx hb d_Mod_isLike_119 (by decide) ?_
          cases hf
          exact ret_z hx hb hr hlocks hK hP hS rfl d_Mod_isLike_120
        · replace hf := o_t c18 hf
          refine lv_aload_n (pc := 71) hx hb d_Mod_isLike_71 rfl (lv_at hl 1 rfl) ?_
          refine va_get (D := D) (ci := 10) (v := .ref (hMo 23)) (C := R_Mod) (T := T_Mod) (N := 61) (pc := 72) hx hb hts (fun w h => List.mem_cons_of_mem _ (in_Mod w h)) hown hK hP _ (fl_at 0 0 rfl rfl) rfl 29 (by decide) (hts _ (List.mem_cons_of_mem _ tw_1122)) (fun _ h9 => h9) rfl d_Mod_isLike_72 ?_
          refine lv_iload_n (pc := 75) hx hb d_Mod_isLike_75 rfl (lv_at hl 2 rfl) ?_
          obtain ⟨hi11, hf⟩ := o_gi_e hf
          refine va_lald (D := D) (pc := 76) hx hb hK hP _ 1 (fl_at 5 0 rfl rfl) rfl hi11 d_Mod_isLike_76 ?_
          refine lv_aload_n (pc := 77) hx hb d_Mod_isLike_77 rfl (lv_at hl 1 rfl) ?_
          refine va_get (D := D) (ci := 10) (v := .ref (hMo 32)) (C := R_Mod) (T := T_Mod) (N := 61) (pc := 78) hx hb hts (fun w h => List.mem_cons_of_mem _ (in_Mod w h)) hown hK hP _ (fl_at 0 0 rfl rfl) rfl 51 (by decide) (hts _ (List.mem_cons_of_mem _ tw_1144)) (fun _ h9 => h9) rfl d_Mod_isLike_78 ?_
          refine lv_iload_n (pc := 81) hx hb d_Mod_isLike_81 rfl (lv_at hl 2 rfl) ?_
          obtain ⟨hi12, hf⟩ := o_gi_e hf
          refine va_lald (D := D) (pc := 82) hx hb hK hP _ 1 (fl_at 9 0 rfl rfl) rfl hi12 d_Mod_isLike_82 ?_
          refine lc_ne (tgt := 119) (pc := 83) hx hb d_Mod_isLike_83 d_Mod_isLike_84 (by decide) (fun c17 => ?_) (fun c17 => ?_)
          · replace hf := o_f c17 hf
            refine lv_iconst (v := 0) (pc := 119) hx hb d_Mod_isLike_119 (by decide) ?_
            cases hf
            exact ret_z hx hb hr hlocks hK hP hS rfl d_Mod_isLike_120
          · replace hf := o_t c17 hf
            refine lv_iload_n (pc := 87) hx hb d_Mod_isLike_87 rfl (lv_at hl 0 rfl) ?_
            refine lv_if_eq (tgt := 115) (pc := 88) hx hb d_Mod_isLike_88 (by decide) (fun c16 => ?_) (fun c16 => ?_)
            · replace hf := o_t c16 hf
              refine lv_iconst (v := 1) (pc := 115) hx hb d_Mod_isLike_115 (by decide) ?_
              refine lv_goto (tgt := 120) (pc := 116) hx hb d_Mod_isLike_116 (by decide) ?_
              cases hf
              exact ret_z hx hb hr hlocks hK hP hS rfl d_Mod_isLike_120
            · replace hf := o_f c16 hf
              refine lv_aload_n (pc := 91) hx hb d_Mod_isLike_91 rfl (lv_at hl 1 rfl) ?_
              refine va_get (D := D) (ci := 10) (v := .ref (hMo 7)) (C := R_Mod) (T := T_Mod) (N := 61) (pc := 92) hx hb hts (fun w h => List.mem_cons_of_mem _ (in_Mod w h)) hown hK hP _ (fl_at 0 0 rfl rfl) rfl 10 (by decide) (hts _ (List.mem_cons_of_mem _ tw_1103)) (fun _ h9 => h9) rfl d_Mod_isLike_92 ?_
              refine lv_bipush (v := 100) (pc := 95) hx hb d_Mod_isLike_95 (by decide) ?_
              refine lv_aload_n (pc := 97) hx hb d_Mod_isLike_97 rfl (lv_at hl 1 rfl) ?_
              refine va_get (D := D) (ci := 10) (v := .int (Mo_subset sMo)) (C := R_Mod) (T := T_Mod) (N := 61) (pc := 98) hx hb hts (fun w h => List.mem_cons_of_mem _ (in_Mod w h)) hown hK hP _ (fl_at 0 0 rfl rfl) rfl 36 (by decide) (hts _ (List.mem_cons_of_mem _ tw_1129)) (fun _ h9 => h9) rfl d_Mod_isLike_98 ?_
              refine lv_imul (pc := 101) hx hb d_Mod_isLike_101 ?_
              refine lv_iload_n (pc := 102) hx hb d_Mod_isLike_102 rfl (lv_at hl 2 rfl) ?_
              refine lv_iadd (pc := 103) hx hb d_Mod_isLike_103 ?_
              obtain ⟨hi13, hf⟩ := o_gi_e hf
              refine va_lald (D := D) (pc := 104) hx hb hK hP _ 1 (fl_at 1 0 rfl rfl) rfl hi13 d_Mod_isLike_104 ?_
              refine lv_aload_n (pc := 105) hx hb d_Mod_isLike_105 rfl (lv_at hl 1 rfl) ?_
              refine va_get (D := D) (ci := 10) (v := .ref (hMo 7)) (C := R_Mod) (T := T_Mod) (N := 61) (pc := 106) hx hb hts (fun w h => List.mem_cons_of_mem _ (in_Mod w h)) hown hK hP _ (fl_at 0 0 rfl rfl) rfl 10 (by decide) (hts _ (List.mem_cons_of_mem _ tw_1103)) (fun _ h9 => h9) rfl d_Mod_isLike_106 ?_
              refine lv_iload_n (pc := 109) hx hb d_Mod_isLike_109 rfl (lv_at hl 2 rfl) ?_
              obtain ⟨hi14, hf⟩ := o_gi_e hf
              refine va_lald (D := D) (pc := 110) hx hb hK hP _ 1 (fl_at 1 0 rfl rfl) rfl hi14 d_Mod_isLike_110 ?_
              refine lc_ne (tgt := 119) (pc := 111) hx hb d_Mod_isLike_111 d_Mod_isLike_112 (by decide) (fun c15 => ?_) (fun c15 => ?_)
              · replace hf := o_f c15 hf
                refine lv_iconst (v := 0) (pc := 119) hx hb d_Mod_isLike_119 (by decide) ?_
                cases hf
                exact ret_z hx hb hr hlocks hK hP hS rfl d_Mod_isLike_120
              · replace hf := o_t c15 hf
                refine lv_iconst (v := 1) (pc := 115) hx hb d_Mod_isLike_115 (by decide) ?_
                refine lv_goto (tgt := 120) (pc := 116) hx hb d_Mod_isLike_116 (by decide) ?_
                cases hf
                exact ret_z hx hb hr hlocks hK hP hS rfl d_Mod_isLike_120
  have J20 : ∀ (x1_j20 : Int32) (H : Heap) (locs : List Loc) (ls : Array Slot), va_P D vwCl (fl [wMo K hMo sMo, wRow K (fun _ => hMo 7) 800 sMvalues, wRowI K (fun _ => hMo 17) 101 sMkind, wRowI K (fun _ => hMo 19) 101 sMwidth, wRowI K (fun _ => hMo 20) 101 sMscale, wRow K (fun _ => hMo 23) 101 sMbase, wRowI K (fun _ => hMo 29) 101 sMfirstKind, wRowI K (fun _ => hMo 30) 101 sMfirstWidth, wRowI K (fun _ => hMo 31) 101 sMfirstScale, wRow K (fun _ => hMo 32) 101 sMfirstBase]) H → va_D A (fl [wMo K hMo sMo, wRow K (fun _ => hMo 7) 800 sMvalues, wRowI K (fun _ => hMo 17) 101 sMkind, wRowI K (fun _ => hMo 19) 101 sMwidth, wRowI K (fun _ => hMo 20) 101 sMscale, wRow K (fun _ => hMo 23) 101 sMbase, wRowI K (fun _ => hMo 29) 101 sMfirstKind, wRowI K (fun _ => hMo 30) 101 sMfirstWidth, wRowI K (fun _ => hMo 31) 101 sMfirstScale, wRow K (fun _ => hMo 32) 101 sMfirstBase]) → va_S A s.heap H locs → lv_has ls 3 [(0, .ref (hMo 0)), (1, .int x1_j20)] → Mod_isLike_j20 sMo sMvalues sMkind sMwidth sMscale sMbase sMfirstKind sMfirstWidth sMfirstScale sMfirstBase x1_j20 = some r → W p l e rm_Mod_isLike s m ([.ref (hMo 0), .int a0] : List Value).toArray below meth c H locs 0 0 (Qi below ([.ref (hMo 0), .int a0] : List Value).toArray s D K A (fl [wMo K hMo sMo, wRow K (fun _ => hMo 7) 800 sMvalues, wRowI K (fun _ => hMo 17) 101 sMkind, wRowI K (fun _ => hMo 19) 101 sMwidth, wRowI K (fun _ => hMo 20) 101 sMscale, wRow K (fun _ => hMo 23) 101 sMbase, wRowI K (fun _ => hMo 29) 101 sMfirstKind, wRowI K (fun _ => hMo 30) 101 sMfirstWidth, wRowI K (fun _ => hMo 31) 101 sMfirstScale, wRow K (fun _ => hMo 32) 101 sMfirstBase]) r) (F0 m 20 ls []) := by
    intro x1_j20 H locs ls hP hD hS hl hf
    refine lv_iconst (v := 1) (pc := 20) hx hb d_Mod_isLike_20 (by decide) ?_
    refine lv_goto (tgt := 25) (pc := 21) hx hb d_Mod_isLike_21 (by decide) ?_
    exact J25 x1_j20 1 H locs ls hP hD hS (lv_sub hl [0, 1] rfl) hf
  refine lv_aload_n (pc := 0) hx hb d_Mod_isLike_0 rfl (lv_at hl 0 rfl) ?_
  refine va_get (D := D) (ci := 10) (v := .ref (hMo 17)) (C := R_Mod) (T := T_Mod) (N := 61) (pc := 1) hx hb hts (fun w h => List.mem_cons_of_mem _ (in_Mod w h)) hown hK hP _ (fl_at 0 0 rfl rfl) rfl 23 (by decide) (hts _ (List.mem_cons_of_mem _ tw_1116)) (fun _ h9 => h9) rfl d_Mod_isLike_1 ?_
  refine lv_iload_n (pc := 4) hx hb d_Mod_isLike_4 rfl (lv_at hl 1 rfl) ?_
  obtain ⟨hi1, hf⟩ := o_gi_e hf
  refine va_iald (D := D) (pc := 5) hx hb hK hP _ 0 (fl_at 2 0 rfl rfl) rfl hi1 d_Mod_isLike_5 ?_
  refine lv_iconst (v := 2) (pc := 6) hx hb d_Mod_isLike_6 (by decide) ?_
  refine lv_icmp_eq (tgt := 20) (pc := 7) hx hb d_Mod_isLike_7 (by decide) (fun c4 => ?_) (fun c4 => ?_)
  · replace hf := o_t c4 hf
    exact J20 a0 H locs ls hP hD hS (lv_sub hl [0, 1] rfl) hf
  · replace hf := o_f c4 hf
    refine lv_aload_n (pc := 10) hx hb d_Mod_isLike_10 rfl (lv_at hl 0 rfl) ?_
    refine va_get (D := D) (ci := 10) (v := .ref (hMo 17)) (C := R_Mod) (T := T_Mod) (N := 61) (pc := 11) hx hb hts (fun w h => List.mem_cons_of_mem _ (in_Mod w h)) hown hK hP _ (fl_at 0 0 rfl rfl) rfl 23 (by decide) (hts _ (List.mem_cons_of_mem _ tw_1116)) (fun _ h9 => h9) rfl d_Mod_isLike_11 ?_
    refine lv_iload_n (pc := 14) hx hb d_Mod_isLike_14 rfl (lv_at hl 1 rfl) ?_
    obtain ⟨hi2, hf⟩ := o_gi_e hf
    refine va_iald (D := D) (pc := 15) hx hb hK hP _ 0 (fl_at 2 0 rfl rfl) rfl hi2 d_Mod_isLike_15 ?_
    refine lv_iconst (v := 3) (pc := 16) hx hb d_Mod_isLike_16 (by decide) ?_
    refine lv_icmp_ne (tgt := 24) (pc := 17) hx hb d_Mod_isLike_17 (by decide) (fun c3 => ?_) (fun c3 => ?_)
    · replace hf := o_f c3 hf
      refine lv_iconst (v := 0) (pc := 24) hx hb d_Mod_isLike_24 (by decide) ?_
      exact J25 a0 0 H locs ls hP hD hS (lv_sub hl [0, 1] rfl) hf
    · replace hf := o_t c3 hf
      exact J20 a0 H locs ls hP hD hS (lv_sub hl [0, 1] rfl) hf
def Mod_compare_L22 (fu : Nat) (sMthere : (Nat → Int32)) (sMscales : (Nat → Int32)) (sMreferences : (Nat → Int32)) (sMwidths : (Nat → Int32)) (sMlists : (Nat → Int32)) (sMlengths : (Nat → Int32)) (sMvalues : (Nat → Int64)) (sMbits : (Nat → Int32)) (sMfirstKind : (Nat → Int32)) (sMfirstWidth : (Nat → Int32)) (sMfirstScale : (Nat → Int32)) (sMfirstBase : (Nat → Int64)) (x1_L2 : Int32) (x2_L22 : Int32) (sMo_L22 : S_Mo) (sMread_L22 : (Nat → Int64)) (sMlist_L22 : (Nat → Int32)) (sMnext_L22 : (Nat → Int32)) (sMend_L22 : (Nat → Int32)) (sMbegin_L22 : (Nat → Int32)) (sMleft_L22 : (Nat → Int32)) (sMturn_L22 : (Nat → Int32)) (sMfoundOps_L22 : (Nat → Int32)) (sMops_L22 : (Nat → Int32)) (sMkind_L22 : (Nat → Int32)) (sMcode_L22 : (Nat → Int32)) (sMwidth_L22 : (Nat → Int32)) (sMscale_L22 : (Nat → Int32)) (sMlink_L22 : (Nat → Int32)) (sMrepeat_L22 : (Nat → Int32)) (sMbase_L22 : (Nat → Int64)) (sMelementAt_L22 : (Nat → Int32)) (sMpointAt_L22 : (Nat → Int32)) (ke_22 : Int32 → Option (S_Mo × (Nat → Int64) × (Nat → Int32) × (Nat → Int32) × (Nat → Int32) × (Nat → Int32) × (Nat → Int32) × (Nat → Int32) × (Nat → Int32) × (Nat → Int32) × (Nat → Int32) × (Nat → Int32) × (Nat → Int32) × (Nat → Int32) × (Nat → Int32) × (Nat → Int32) × (Nat → Int64) × (Nat → Int32) × (Nat → Int32))) : Nat → Int32 → Option (S_Mo × (Nat → Int64) × (Nat → Int32) × (Nat → Int32) × (Nat → Int32) × (Nat → Int32) × (Nat → Int32) × (Nat → Int32) × (Nat → Int32) × (Nat → Int32) × (Nat → Int32) × (Nat → Int32) × (Nat → Int32) × (Nat → Int32) × (Nat → Int32) × (Nat → Int32) × (Nat → Int64) × (Nat → Int32) × (Nat → Int32))
  | 0, _ => none
  | n + 1, x3_L22 => if (Mo_fields sMo_L22) ≤ x3_L22 then ke_22 x3_L22 else if (Mo_firstFields sMo_L22) ≤ x3_L22 then ke_22 x3_L22 else o_bd (Mod_isLike sMo_L22 sMvalues sMkind_L22 sMwidth_L22 sMscale_L22 sMbase_L22 sMfirstKind sMfirstWidth sMfirstScale sMfirstBase x3_L22) fun q2 => (if q2 = 0 then ke_22 x3_L22 else Mod_compare_L22 fu sMthere sMscales sMreferences sMwidths sMlists sMlengths sMvalues sMbits sMfirstKind sMfirstWidth sMfirstScale sMfirstBase x1_L2 x2_L22 sMo_L22 sMread_L22 sMlist_L22 sMnext_L22 sMend_L22 sMbegin_L22 sMleft_L22 sMturn_L22 sMfoundOps_L22 sMops_L22 sMkind_L22 sMcode_L22 sMwidth_L22 sMscale_L22 sMlink_L22 sMrepeat_L22 sMbase_L22 sMelementAt_L22 sMpointAt_L22 ke_22 n (x3_L22 + 1))
def Mod_compare_j75 (fu : Nat) (sMthere : (Nat → Int32)) (sMscales : (Nat → Int32)) (sMreferences : (Nat → Int32)) (sMwidths : (Nat → Int32)) (sMlists : (Nat → Int32)) (sMlengths : (Nat → Int32)) (sMvalues : (Nat → Int64)) (sMbits : (Nat → Int32)) (sMfirstKind : (Nat → Int32)) (sMfirstWidth : (Nat → Int32)) (sMfirstScale : (Nat → Int32)) (sMfirstBase : (Nat → Int64)) (kc_2 : Int32 → S_Mo → (Nat → Int64) → (Nat → Int32) → (Nat → Int32) → (Nat → Int32) → (Nat → Int32) → (Nat → Int32) → (Nat → Int32) → (Nat → Int32) → (Nat → Int32) → (Nat → Int32) → (Nat → Int32) → (Nat → Int32) → (Nat → Int32) → (Nat → Int32) → (Nat → Int32) → (Nat → Int64) → (Nat → Int32) → (Nat → Int32) → Option (S_Mo × (Nat → Int64) × (Nat → Int32) × (Nat → Int32) × (Nat → Int32) × (Nat → Int32) × (Nat → Int32) × (Nat → Int32) × (Nat → Int32) × (Nat → Int32) × (Nat → Int32) × (Nat → Int32) × (Nat → Int32) × (Nat → Int32) × (Nat → Int32) × (Nat → Int32) × (Nat → Int64) × (Nat → Int32) × (Nat → Int32))) (x1_L2 : Int32) (x2_j75 : Int32) (sMo_j75 : S_Mo) (sMread_j75 : (Nat → Int64)) (sMlist_j75 : (Nat → Int32)) (sMnext_j75 : (Nat → Int32)) (sMend_j75 : (Nat → Int32)) (sMbegin_j75 : (Nat → Int32)) (sMleft_j75 : (Nat → Int32)) (sMturn_j75 : (Nat → Int32)) (sMfoundOps_j75 : (Nat → Int32)) (sMops_j75 : (Nat → Int32)) (sMkind_j75 : (Nat → Int32)) (sMcode_j75 : (Nat → Int32)) (sMwidth_j75 : (Nat → Int32)) (sMscale_j75 : (Nat → Int32)) (sMlink_j75 : (Nat → Int32)) (sMrepeat_j75 : (Nat → Int32)) (sMbase_j75 : (Nat → Int64)) (sMelementAt_j75 : (Nat → Int32)) (sMpointAt_j75 : (Nat → Int32)) : Option (S_Mo × (Nat → Int64) × (Nat → Int32) × (Nat → Int32) × (Nat → Int32) × (Nat → Int32) × (Nat → Int32) × (Nat → Int32) × (Nat → Int32) × (Nat → Int32) × (Nat → Int32) × (Nat → Int32) × (Nat → Int32) × (Nat → Int32) × (Nat → Int32) × (Nat → Int32) × (Nat → Int64) × (Nat → Int32) × (Nat → Int32)) := kc_2 (x2_j75 + 1) sMo_j75 sMread_j75 sMlist_j75 sMnext_j75 sMend_j75 sMbegin_j75 sMleft_j75 sMturn_j75 sMfoundOps_j75 sMops_j75 sMkind_j75 sMcode_j75 sMwidth_j75 sMscale_j75 sMlink_j75 sMrepeat_j75 sMbase_j75 sMelementAt_j75 sMpointAt_j75
def Mod_compare_j68 (fu : Nat) (sMthere : (Nat → Int32)) (sMscales : (Nat → Int32)) (sMreferences : (Nat → Int32)) (sMwidths : (Nat → Int32)) (sMlists : (Nat → Int32)) (sMlengths : (Nat → Int32)) (sMvalues : (Nat → Int64)) (sMbits : (Nat → Int32)) (sMfirstKind : (Nat → Int32)) (sMfirstWidth : (Nat → Int32)) (sMfirstScale : (Nat → Int32)) (sMfirstBase : (Nat → Int64)) (kc_2 : Int32 → S_Mo → (Nat → Int64) → (Nat → Int32) → (Nat → Int32) → (Nat → Int32) → (Nat → Int32) → (Nat → Int32) → (Nat → Int32) → (Nat → Int32) → (Nat → Int32) → (Nat → Int32) → (Nat → Int32) → (Nat → Int32) → (Nat → Int32) → (Nat → Int32) → (Nat → Int32) → (Nat → Int64) → (Nat → Int32) → (Nat → Int32) → Option (S_Mo × (Nat → Int64) × (Nat → Int32) × (Nat → Int32) × (Nat → Int32) × (Nat → Int32) × (Nat → Int32) × (Nat → Int32) × (Nat → Int32) × (Nat → Int32) × (Nat → Int32) × (Nat → Int32) × (Nat → Int32) × (Nat → Int32) × (Nat → Int32) × (Nat → Int32) × (Nat → Int64) × (Nat → Int32) × (Nat → Int32))) (x1_L2 : Int32) (x2_j68 : Int32) (x3_j68 : Int32) (sMo_j68 : S_Mo) (sMread_j68 : (Nat → Int64)) (sMlist_j68 : (Nat → Int32)) (sMnext_j68 : (Nat → Int32)) (sMend_j68 : (Nat → Int32)) (sMbegin_j68 : (Nat → Int32)) (sMleft_j68 : (Nat → Int32)) (sMturn_j68 : (Nat → Int32)) (sMfoundOps_j68 : (Nat → Int32)) (sMops_j68 : (Nat → Int32)) (sMkind_j68 : (Nat → Int32)) (sMcode_j68 : (Nat → Int32)) (sMwidth_j68 : (Nat → Int32)) (sMscale_j68 : (Nat → Int32)) (sMlink_j68 : (Nat → Int32)) (sMrepeat_j68 : (Nat → Int32)) (sMbase_j68 : (Nat → Int64)) (sMelementAt_j68 : (Nat → Int32)) (sMpointAt_j68 : (Nat → Int32)) : Option (S_Mo × (Nat → Int64) × (Nat → Int32) × (Nat → Int32) × (Nat → Int32) × (Nat → Int32) × (Nat → Int32) × (Nat → Int32) × (Nat → Int32) × (Nat → Int32) × (Nat → Int32) × (Nat → Int32) × (Nat → Int32) × (Nat → Int32) × (Nat → Int32) × (Nat → Int32) × (Nat → Int64) × (Nat → Int32) × (Nat → Int32)) := o_bd (Mod_wrongAt 10 x3_j68 sMo_j68) fun q10 => (Mod_compare_j75 fu sMthere sMscales sMreferences sMwidths sMlists sMlengths sMvalues sMbits sMfirstKind sMfirstWidth sMfirstScale sMfirstBase kc_2 x1_L2 x2_j68 q10 sMread_j68 sMlist_j68 sMnext_j68 sMend_j68 sMbegin_j68 sMleft_j68 sMturn_j68 sMfoundOps_j68 sMops_j68 sMkind_j68 sMcode_j68 sMwidth_j68 sMscale_j68 sMlink_j68 sMrepeat_j68 sMbase_j68 sMelementAt_j68 sMpointAt_j68)
def Mod_compare_j52 (fu : Nat) (sMthere : (Nat → Int32)) (sMscales : (Nat → Int32)) (sMreferences : (Nat → Int32)) (sMwidths : (Nat → Int32)) (sMlists : (Nat → Int32)) (sMlengths : (Nat → Int32)) (sMvalues : (Nat → Int64)) (sMbits : (Nat → Int32)) (sMfirstKind : (Nat → Int32)) (sMfirstWidth : (Nat → Int32)) (sMfirstScale : (Nat → Int32)) (sMfirstBase : (Nat → Int64)) (kc_2 : Int32 → S_Mo → (Nat → Int64) → (Nat → Int32) → (Nat → Int32) → (Nat → Int32) → (Nat → Int32) → (Nat → Int32) → (Nat → Int32) → (Nat → Int32) → (Nat → Int32) → (Nat → Int32) → (Nat → Int32) → (Nat → Int32) → (Nat → Int32) → (Nat → Int32) → (Nat → Int32) → (Nat → Int64) → (Nat → Int32) → (Nat → Int32) → Option (S_Mo × (Nat → Int64) × (Nat → Int32) × (Nat → Int32) × (Nat → Int32) × (Nat → Int32) × (Nat → Int32) × (Nat → Int32) × (Nat → Int32) × (Nat → Int32) × (Nat → Int32) × (Nat → Int32) × (Nat → Int32) × (Nat → Int32) × (Nat → Int32) × (Nat → Int32) × (Nat → Int64) × (Nat → Int32) × (Nat → Int32))) (x1_L2 : Int32) (x2_j52 : Int32) (x3_j52 : Int32) (sMo_j52 : S_Mo) (sMread_j52 : (Nat → Int64)) (sMlist_j52 : (Nat → Int32)) (sMnext_j52 : (Nat → Int32)) (sMend_j52 : (Nat → Int32)) (sMbegin_j52 : (Nat → Int32)) (sMleft_j52 : (Nat → Int32)) (sMturn_j52 : (Nat → Int32)) (sMfoundOps_j52 : (Nat → Int32)) (sMops_j52 : (Nat → Int32)) (sMkind_j52 : (Nat → Int32)) (sMcode_j52 : (Nat → Int32)) (sMwidth_j52 : (Nat → Int32)) (sMscale_j52 : (Nat → Int32)) (sMlink_j52 : (Nat → Int32)) (sMrepeat_j52 : (Nat → Int32)) (sMbase_j52 : (Nat → Int64)) (sMelementAt_j52 : (Nat → Int32)) (sMpointAt_j52 : (Nat → Int32)) : Option (S_Mo × (Nat → Int64) × (Nat → Int32) × (Nat → Int32) × (Nat → Int32) × (Nat → Int32) × (Nat → Int32) × (Nat → Int32) × (Nat → Int32) × (Nat → Int32) × (Nat → Int32) × (Nat → Int32) × (Nat → Int32) × (Nat → Int32) × (Nat → Int32) × (Nat → Int32) × (Nat → Int64) × (Nat → Int32) × (Nat → Int32)) := if x3_j52 < (Mo_fields sMo_j52) then Mod_compare_j68 fu sMthere sMscales sMreferences sMwidths sMlists sMlengths sMvalues sMbits sMfirstKind sMfirstWidth sMfirstScale sMfirstBase kc_2 x1_L2 x2_j52 x3_j52 sMo_j52 sMread_j52 sMlist_j52 sMnext_j52 sMend_j52 sMbegin_j52 sMleft_j52 sMturn_j52 sMfoundOps_j52 sMops_j52 sMkind_j52 sMcode_j52 sMwidth_j52 sMscale_j52 sMlink_j52 sMrepeat_j52 sMbase_j52 sMelementAt_j52 sMpointAt_j52 else if (Mo_firstFields sMo_j52) ≤ x3_j52 then Mod_compare_j75 fu sMthere sMscales sMreferences sMwidths sMlists sMlengths sMvalues sMbits sMfirstKind sMfirstWidth sMfirstScale sMfirstBase kc_2 x1_L2 x2_j52 sMo_j52 sMread_j52 sMlist_j52 sMnext_j52 sMend_j52 sMbegin_j52 sMleft_j52 sMturn_j52 sMfoundOps_j52 sMops_j52 sMkind_j52 sMcode_j52 sMwidth_j52 sMscale_j52 sMlink_j52 sMrepeat_j52 sMbase_j52 sMelementAt_j52 sMpointAt_j52 else Mod_compare_j68 fu sMthere sMscales sMreferences sMwidths sMlists sMlengths sMvalues sMbits sMfirstKind sMfirstWidth sMfirstScale sMfirstBase kc_2 x1_L2 x2_j52 x3_j52 sMo_j52 sMread_j52 sMlist_j52 sMnext_j52 sMend_j52 sMbegin_j52 sMleft_j52 sMturn_j52 sMfoundOps_j52 sMops_j52 sMkind_j52 sMcode_j52 sMwidth_j52 sMscale_j52 sMlink_j52 sMrepeat_j52 sMbase_j52 sMelementAt_j52 sMpointAt_j52
def Mod_compare_L2 (fu : Nat) (sMthere : (Nat → Int32)) (sMscales : (Nat → Int32)) (sMreferences : (Nat → Int32)) (sMwidths : (Nat → Int32)) (sMlists : (Nat → Int32)) (sMlengths : (Nat → Int32)) (sMvalues : (Nat → Int64)) (sMbits : (Nat → Int32)) (sMfirstKind : (Nat → Int32)) (sMfirstWidth : (Nat → Int32)) (sMfirstScale : (Nat → Int32)) (sMfirstBase : (Nat → Int64)) (x1_L2 : Int32) : Nat → Int32 → S_Mo → (Nat → Int64) → (Nat → Int32) → (Nat → Int32) → (Nat → Int32) → (Nat → Int32) → (Nat → Int32) → (Nat → Int32) → (Nat → Int32) → (Nat → Int32) → (Nat → Int32) → (Nat → Int32) → (Nat → Int32) → (Nat → Int32) → (Nat → Int32) → (Nat → Int32) → (Nat → Int64) → (Nat → Int32) → (Nat → Int32) → Option (S_Mo × (Nat → Int64) × (Nat → Int32) × (Nat → Int32) × (Nat → Int32) × (Nat → Int32) × (Nat → Int32) × (Nat → Int32) × (Nat → Int32) × (Nat → Int32) × (Nat → Int32) × (Nat → Int32) × (Nat → Int32) × (Nat → Int32) × (Nat → Int32) × (Nat → Int32) × (Nat → Int64) × (Nat → Int32) × (Nat → Int32))
  | 0, _, _, _, _, _, _, _, _, _, _, _, _, _, _, _, _, _, _, _, _ => none
  | n + 1, x2_L2, sMo_L2, sMread_L2, sMlist_L2, sMnext_L2, sMend_L2, sMbegin_L2, sMleft_L2, sMturn_L2, sMfoundOps_L2, sMops_L2, sMkind_L2, sMcode_L2, sMwidth_L2, sMscale_L2, sMlink_L2, sMrepeat_L2, sMbase_L2, sMelementAt_L2, sMpointAt_L2 => if x1_L2 ≤ x2_L2 then some ((sMo_L2, sMread_L2, sMlist_L2, sMnext_L2, sMend_L2, sMbegin_L2, sMleft_L2, sMturn_L2, sMfoundOps_L2, sMops_L2, sMkind_L2, sMcode_L2, sMwidth_L2, sMscale_L2, sMlink_L2, sMrepeat_L2, sMbase_L2, sMelementAt_L2, sMpointAt_L2)) else if (Mo_fault sMo_L2) = 0 then o_bd (Mod_walk fu sMthere sMscales sMreferences sMwidths sMlists sMlengths sMvalues sMbits x2_L2 1 sMo_L2 sMread_L2 sMlist_L2 sMnext_L2 sMend_L2 sMbegin_L2 sMleft_L2 sMturn_L2 sMfoundOps_L2 sMops_L2 sMkind_L2 sMcode_L2 sMwidth_L2 sMscale_L2 sMlink_L2 sMrepeat_L2 sMbase_L2 sMelementAt_L2 sMpointAt_L2) fun q1 => (Mod_compare_L22 fu sMthere sMscales sMreferences sMwidths sMlists sMlengths sMvalues sMbits sMfirstKind sMfirstWidth sMfirstScale sMfirstBase x1_L2 x2_L2 q1.1 q1.2.1 q1.2.2.1 q1.2.2.2.1 q1.2.2.2.2.1 q1.2.2.2.2.2.1 q1.2.2.2.2.2.2.1 q1.2.2.2.2.2.2.2.1 q1.2.2.2.2.2.2.2.2.1 q1.2.2.2.2.2.2.2.2.2.1 q1.2.2.2.2.2.2.2.2.2.2.1 q1.2.2.2.2.2.2.2.2.2.2.2.1 q1.2.2.2.2.2.2.2.2.2.2.2.2.1 q1.2.2.2.2.2.2.2.2.2.2.2.2.2.1 q1.2.2.2.2.2.2.2.2.2.2.2.2.2.2.1 q1.2.2.2.2.2.2.2.2.2.2.2.2.2.2.2.1 q1.2.2.2.2.2.2.2.2.2.2.2.2.2.2.2.2.1 q1.2.2.2.2.2.2.2.2.2.2.2.2.2.2.2.2.2.1 q1.2.2.2.2.2.2.2.2.2.2.2.2.2.2.2.2.2.2 (fun y3 => Mod_compare_j52 fu sMthere sMscales sMreferences sMwidths sMlists sMlengths sMvalues sMbits sMfirstKind sMfirstWidth sMfirstScale sMfirstBase (fun v0 v1 v2 v3 v4 v5 v6 v7 v8 v9 v10 v11 v12 v13 v14 v15 v16 v17 v18 v19 => Mod_compare_L2 fu sMthere sMscales sMreferences sMwidths sMlists sMlengths sMvalues sMbits sMfirstKind sMfirstWidth sMfirstScale sMfirstBase x1_L2 n v0 v1 v2 v3 v4 v5 v6 v7 v8 v9 v10 v11 v12 v13 v14 v15 v16 v17 v18 v19) x1_L2 x2_L2 y3 q1.1 q1.2.1 q1.2.2.1 q1.2.2.2.1 q1.2.2.2.2.1 q1.2.2.2.2.2.1 q1.2.2.2.2.2.2.1 q1.2.2.2.2.2.2.2.1 q1.2.2.2.2.2.2.2.2.1 q1.2.2.2.2.2.2.2.2.2.1 q1.2.2.2.2.2.2.2.2.2.2.1 q1.2.2.2.2.2.2.2.2.2.2.2.1 q1.2.2.2.2.2.2.2.2.2.2.2.2.1 q1.2.2.2.2.2.2.2.2.2.2.2.2.2.1 q1.2.2.2.2.2.2.2.2.2.2.2.2.2.2.1 q1.2.2.2.2.2.2.2.2.2.2.2.2.2.2.2.1 q1.2.2.2.2.2.2.2.2.2.2.2.2.2.2.2.2.1 q1.2.2.2.2.2.2.2.2.2.2.2.2.2.2.2.2.2.1 q1.2.2.2.2.2.2.2.2.2.2.2.2.2.2.2.2.2.2) fu 0) else some ((sMo_L2, sMread_L2, sMlist_L2, sMnext_L2, sMend_L2, sMbegin_L2, sMleft_L2, sMturn_L2, sMfoundOps_L2, sMops_L2, sMkind_L2, sMcode_L2, sMwidth_L2, sMscale_L2, sMlink_L2, sMrepeat_L2, sMbase_L2, sMelementAt_L2, sMpointAt_L2))
def Mod_compare (fu : Nat) (sMthere : (Nat → Int32)) (sMscales : (Nat → Int32)) (sMreferences : (Nat → Int32)) (sMwidths : (Nat → Int32)) (sMlists : (Nat → Int32)) (sMlengths : (Nat → Int32)) (sMvalues : (Nat → Int64)) (sMbits : (Nat → Int32)) (sMfirstKind : (Nat → Int32)) (sMfirstWidth : (Nat → Int32)) (sMfirstScale : (Nat → Int32)) (sMfirstBase : (Nat → Int64)) (a0 : Int32) (sMo : S_Mo) (sMread : (Nat → Int64)) (sMlist : (Nat → Int32)) (sMnext : (Nat → Int32)) (sMend : (Nat → Int32)) (sMbegin : (Nat → Int32)) (sMleft : (Nat → Int32)) (sMturn : (Nat → Int32)) (sMfoundOps : (Nat → Int32)) (sMops : (Nat → Int32)) (sMkind : (Nat → Int32)) (sMcode : (Nat → Int32)) (sMwidth : (Nat → Int32)) (sMscale : (Nat → Int32)) (sMlink : (Nat → Int32)) (sMrepeat : (Nat → Int32)) (sMbase : (Nat → Int64)) (sMelementAt : (Nat → Int32)) (sMpointAt : (Nat → Int32)) : Option (S_Mo × (Nat → Int64) × (Nat → Int32) × (Nat → Int32) × (Nat → Int32) × (Nat → Int32) × (Nat → Int32) × (Nat → Int32) × (Nat → Int32) × (Nat → Int32) × (Nat → Int32) × (Nat → Int32) × (Nat → Int32) × (Nat → Int32) × (Nat → Int32) × (Nat → Int32) × (Nat → Int64) × (Nat → Int32) × (Nat → Int32)) := Mod_compare_L2 fu sMthere sMscales sMreferences sMwidths sMlists sMlengths sMvalues sMbits sMfirstKind sMfirstWidth sMfirstScale sMfirstBase a0 fu 1 sMo sMread sMlist sMnext sMend sMbegin sMleft sMturn sMfoundOps sMops sMkind sMcode sMwidth sMscale sMlink sMrepeat sMbase sMelementAt sMpointAt
abbrev rm_Mod_compare : Room := { frames := 9, cells := 0, slots := 0, locals := 221 }
set_option maxHeartbeats 4000000 in
set_option maxRecDepth 100000 in
theorem c_Mod_compare (l : Launch) (D : va_G) (K : Nat → ClassId) (fu : Nat) (hMo : Nat → Nat) (sMo : S_Mo) (sMthere : (Nat → Int32)) (sMscales : (Nat → Int32)) (sMreferences : (Nat → Int32)) (sMwidths : (Nat → Int32)) (sMlists : (Nat → Int32)) (sMlengths : (Nat → Int32)) (sMvalues : (Nat → Int64)) (sMread : (Nat → Int64)) (sMlist : (Nat → Int32)) (sMnext : (Nat → Int32)) (sMend : (Nat → Int32)) (sMbegin : (Nat → Int32)) (sMleft : (Nat → Int32)) (sMturn : (Nat → Int32)) (sMfoundOps : (Nat → Int32)) (sMops : (Nat → Int32)) (sMkind : (Nat → Int32)) (sMcode : (Nat → Int32)) (sMwidth : (Nat → Int32)) (sMscale : (Nat → Int32)) (sMlink : (Nat → Int32)) (sMrepeat : (Nat → Int32)) (sMbase : (Nat → Int64)) (sMelementAt : (Nat → Int32)) (sMpointAt : (Nat → Int32)) (sMbits : (Nat → Int32)) (sMfirstKind : (Nat → Int32)) (sMfirstWidth : (Nat → Int32)) (sMfirstScale : (Nat → Int32)) (sMfirstBase : (Nat → Int64)) (a0 : Int32) (sMo' : S_Mo) (sMread' : (Nat → Int64)) (sMlist' : (Nat → Int32)) (sMnext' : (Nat → Int32)) (sMend' : (Nat → Int32)) (sMbegin' : (Nat → Int32)) (sMleft' : (Nat → Int32)) (sMturn' : (Nat → Int32)) (sMfoundOps' : (Nat → Int32)) (sMops' : (Nat → Int32)) (sMkind' : (Nat → Int32)) (sMcode' : (Nat → Int32)) (sMwidth' : (Nat → Int32)) (sMscale' : (Nat → Int32)) (sMlink' : (Nat → Int32)) (sMrepeat' : (Nat → Int32)) (sMbase' : (Nat → Int64)) (sMelementAt' : (Nat → Int32)) (sMpointAt' : (Nat → Int32)) (hf : Mod_compare fu sMthere sMscales sMreferences sMwidths sMlists sMlengths sMvalues sMbits sMfirstKind sMfirstWidth sMfirstScale sMfirstBase a0 sMo sMread sMlist sMnext sMend sMbegin sMleft sMturn sMfoundOps sMops sMkind sMcode sMwidth sMscale sMlink sMrepeat sMbase sMelementAt sMpointAt = some ((sMo', sMread', sMlist', sMnext', sMend', sMbegin', sMleft', sMturn', sMfoundOps', sMops', sMkind', sMcode', sMwidth', sMscale', sMlink', sMrepeat', sMbase', sMelementAt', sMpointAt'))) : mv l D K y_Mod_compare ws_Mod_compare rm_Mod_compare [.ref (hMo 0), .int a0] (fl [wMo K hMo sMo, wRowZ K (fun _ => hMo 1) 320 sMthere, wRowI K (fun _ => hMo 2) 320 sMscales, wRowI K (fun _ => hMo 3) 320 sMreferences, wRowI K (fun _ => hMo 4) 320 sMwidths, wRowI K (fun _ => hMo 5) 408 sMlists, wRowI K (fun _ => hMo 6) 17 sMlengths, wRow K (fun _ => hMo 7) 800 sMvalues, wRow K (fun _ => hMo 8) 800 sMread, wRowI K (fun _ => hMo 9) 90 sMlist, wRowI K (fun _ => hMo 10) 90 sMnext, wRowI K (fun _ => hMo 11) 90 sMend, wRowI K (fun _ => hMo 12) 90 sMbegin, wRowI K (fun _ => hMo 13) 90 sMleft, wRowI K (fun _ => hMo 14) 90 sMturn, wRowI K (fun _ => hMo 15) 360 sMfoundOps, wRowI K (fun _ => hMo 16) 4 sMops, wRowI K (fun _ => hMo 17) 101 sMkind, wRowI K (fun _ => hMo 18) 101 sMcode, wRowI K (fun _ => hMo 19) 101 sMwidth, wRowI K (fun _ => hMo 20) 101 sMscale, wRowI K (fun _ => hMo 21) 101 sMlink, wRowI K (fun _ => hMo 22) 101 sMrepeat, wRow K (fun _ => hMo 23) 101 sMbase, wRowI K (fun _ => hMo 24) 101 sMelementAt, wRowI K (fun _ => hMo 25) 101 sMpointAt, wRowZ K (fun _ => hMo 26) 40000 sMbits, wRowI K (fun _ => hMo 29) 101 sMfirstKind, wRowI K (fun _ => hMo 30) 101 sMfirstWidth, wRowI K (fun _ => hMo 31) 101 sMfirstScale, wRow K (fun _ => hMo 32) 101 sMfirstBase]) (fl [wMo K hMo sMo', wRowZ K (fun _ => hMo 1) 320 sMthere, wRowI K (fun _ => hMo 2) 320 sMscales, wRowI K (fun _ => hMo 3) 320 sMreferences, wRowI K (fun _ => hMo 4) 320 sMwidths, wRowI K (fun _ => hMo 5) 408 sMlists, wRowI K (fun _ => hMo 6) 17 sMlengths, wRow K (fun _ => hMo 7) 800 sMvalues, wRow K (fun _ => hMo 8) 800 sMread', wRowI K (fun _ => hMo 9) 90 sMlist', wRowI K (fun _ => hMo 10) 90 sMnext', wRowI K (fun _ => hMo 11) 90 sMend', wRowI K (fun _ => hMo 12) 90 sMbegin', wRowI K (fun _ => hMo 13) 90 sMleft', wRowI K (fun _ => hMo 14) 90 sMturn', wRowI K (fun _ => hMo 15) 360 sMfoundOps', wRowI K (fun _ => hMo 16) 4 sMops', wRowI K (fun _ => hMo 17) 101 sMkind', wRowI K (fun _ => hMo 18) 101 sMcode', wRowI K (fun _ => hMo 19) 101 sMwidth', wRowI K (fun _ => hMo 20) 101 sMscale', wRowI K (fun _ => hMo 21) 101 sMlink', wRowI K (fun _ => hMo 22) 101 sMrepeat', wRow K (fun _ => hMo 23) 101 sMbase', wRowI K (fun _ => hMo 24) 101 sMelementAt', wRowI K (fun _ => hMo 25) 101 sMpointAt', wRowZ K (fun _ => hMo 26) 40000 sMbits, wRowI K (fun _ => hMo 29) 101 sMfirstKind, wRowI K (fun _ => hMo 30) 101 sMfirstWidth, wRowI K (fun _ => hMo 31) 101 sMfirstScale, wRow K (fun _ => hMo 32) 101 sMfirstBase]) := by
  refine mv_of (cc := b_Mod_compare) (maxL := 4) (own := "ObsMessagesModel") (by decide) rfl rfl (Nat.le_of_ble_eq_true rfl) ?_
  intro p e s m below meth c A ls hC hP hD hS hl
  obtain ⟨hx, hb, hml, hown, hts, hr, hlocks, hK, hF, hA⟩ := hC
  have hP : va_P D vwCl (fl [wMo K hMo sMo, wRowZ K (fun _ => hMo 1) 320 sMthere, wRowI K (fun _ => hMo 2) 320 sMscales, wRowI K (fun _ => hMo 3) 320 sMreferences, wRowI K (fun _ => hMo 4) 320 sMwidths, wRowI K (fun _ => hMo 5) 408 sMlists, wRowI K (fun _ => hMo 6) 17 sMlengths, wRow K (fun _ => hMo 7) 800 sMvalues, wRow K (fun _ => hMo 8) 800 sMread, wRowI K (fun _ => hMo 9) 90 sMlist, wRowI K (fun _ => hMo 10) 90 sMnext, wRowI K (fun _ => hMo 11) 90 sMend, wRowI K (fun _ => hMo 12) 90 sMbegin, wRowI K (fun _ => hMo 13) 90 sMleft, wRowI K (fun _ => hMo 14) 90 sMturn, wRowI K (fun _ => hMo 15) 360 sMfoundOps, wRowI K (fun _ => hMo 16) 4 sMops, wRowI K (fun _ => hMo 17) 101 sMkind, wRowI K (fun _ => hMo 18) 101 sMcode, wRowI K (fun _ => hMo 19) 101 sMwidth, wRowI K (fun _ => hMo 20) 101 sMscale, wRowI K (fun _ => hMo 21) 101 sMlink, wRowI K (fun _ => hMo 22) 101 sMrepeat, wRow K (fun _ => hMo 23) 101 sMbase, wRowI K (fun _ => hMo 24) 101 sMelementAt, wRowI K (fun _ => hMo 25) 101 sMpointAt, wRowZ K (fun _ => hMo 26) 40000 sMbits, wRowI K (fun _ => hMo 29) 101 sMfirstKind, wRowI K (fun _ => hMo 30) 101 sMfirstWidth, wRowI K (fun _ => hMo 31) 101 sMfirstScale, wRow K (fun _ => hMo 32) 101 sMfirstBase]) s.heap := hP
  have hl : lv_has ls 4 [(0, .ref (hMo 0)), (1, .int a0)] := hl
  suffices hW : ∀ (H : Heap) (locs : List Loc), va_P D vwCl (fl [wMo K hMo sMo, wRowZ K (fun _ => hMo 1) 320 sMthere, wRowI K (fun _ => hMo 2) 320 sMscales, wRowI K (fun _ => hMo 3) 320 sMreferences, wRowI K (fun _ => hMo 4) 320 sMwidths, wRowI K (fun _ => hMo 5) 408 sMlists, wRowI K (fun _ => hMo 6) 17 sMlengths, wRow K (fun _ => hMo 7) 800 sMvalues, wRow K (fun _ => hMo 8) 800 sMread, wRowI K (fun _ => hMo 9) 90 sMlist, wRowI K (fun _ => hMo 10) 90 sMnext, wRowI K (fun _ => hMo 11) 90 sMend, wRowI K (fun _ => hMo 12) 90 sMbegin, wRowI K (fun _ => hMo 13) 90 sMleft, wRowI K (fun _ => hMo 14) 90 sMturn, wRowI K (fun _ => hMo 15) 360 sMfoundOps, wRowI K (fun _ => hMo 16) 4 sMops, wRowI K (fun _ => hMo 17) 101 sMkind, wRowI K (fun _ => hMo 18) 101 sMcode, wRowI K (fun _ => hMo 19) 101 sMwidth, wRowI K (fun _ => hMo 20) 101 sMscale, wRowI K (fun _ => hMo 21) 101 sMlink, wRowI K (fun _ => hMo 22) 101 sMrepeat, wRow K (fun _ => hMo 23) 101 sMbase, wRowI K (fun _ => hMo 24) 101 sMelementAt, wRowI K (fun _ => hMo 25) 101 sMpointAt, wRowZ K (fun _ => hMo 26) 40000 sMbits, wRowI K (fun _ => hMo 29) 101 sMfirstKind, wRowI K (fun _ => hMo 30) 101 sMfirstWidth, wRowI K (fun _ => hMo 31) 101 sMfirstScale, wRow K (fun _ => hMo 32) 101 sMfirstBase]) H → va_S A s.heap H locs → W p l e rm_Mod_compare s m ([.ref (hMo 0), .int a0] : List Value).toArray below meth c H locs 0 0 (Qv below ([.ref (hMo 0), .int a0] : List Value).toArray s D K A (fl [wMo K hMo sMo', wRowZ K (fun _ => hMo 1) 320 sMthere, wRowI K (fun _ => hMo 2) 320 sMscales, wRowI K (fun _ => hMo 3) 320 sMreferences, wRowI K (fun _ => hMo 4) 320 sMwidths, wRowI K (fun _ => hMo 5) 408 sMlists, wRowI K (fun _ => hMo 6) 17 sMlengths, wRow K (fun _ => hMo 7) 800 sMvalues, wRow K (fun _ => hMo 8) 800 sMread', wRowI K (fun _ => hMo 9) 90 sMlist', wRowI K (fun _ => hMo 10) 90 sMnext', wRowI K (fun _ => hMo 11) 90 sMend', wRowI K (fun _ => hMo 12) 90 sMbegin', wRowI K (fun _ => hMo 13) 90 sMleft', wRowI K (fun _ => hMo 14) 90 sMturn', wRowI K (fun _ => hMo 15) 360 sMfoundOps', wRowI K (fun _ => hMo 16) 4 sMops', wRowI K (fun _ => hMo 17) 101 sMkind', wRowI K (fun _ => hMo 18) 101 sMcode', wRowI K (fun _ => hMo 19) 101 sMwidth', wRowI K (fun _ => hMo 20) 101 sMscale', wRowI K (fun _ => hMo 21) 101 sMlink', wRowI K (fun _ => hMo 22) 101 sMrepeat', wRow K (fun _ => hMo 23) 101 sMbase', wRowI K (fun _ => hMo 24) 101 sMelementAt', wRowI K (fun _ => hMo 25) 101 sMpointAt', wRowZ K (fun _ => hMo 26) 40000 sMbits, wRowI K (fun _ => hMo 29) 101 sMfirstKind, wRowI K (fun _ => hMo 30) 101 sMfirstWidth, wRowI K (fun _ => hMo 31) 101 sMfirstScale, wRow K (fun _ => hMo 32) 101 sMfirstBase])) (F0 m 0 ls []) from hW s.heap [] hP hS
  clear hP hS
  intro H locs hP hS
  refine lv_iconst (v := 1) (pc := 0) hx hb d_Mod_compare_0 (by decide) ?_
  refine lv_istore_n (lv' := [(2, .int 1), (0, .ref (hMo 0)), (1, .int a0)]) (pc := 1) hx hb d_Mod_compare_1 rfl hl (by decide) rfl (fun ls hl => ?_)
  have L2 : ∀ (x1_L2 : Int32) (n : Nat) (x2_L2 : Int32) (sMo_L2 : S_Mo) (sMread_L2 : (Nat → Int64)) (sMlist_L2 : (Nat → Int32)) (sMnext_L2 : (Nat → Int32)) (sMend_L2 : (Nat → Int32)) (sMbegin_L2 : (Nat → Int32)) (sMleft_L2 : (Nat → Int32)) (sMturn_L2 : (Nat → Int32)) (sMfoundOps_L2 : (Nat → Int32)) (sMops_L2 : (Nat → Int32)) (sMkind_L2 : (Nat → Int32)) (sMcode_L2 : (Nat → Int32)) (sMwidth_L2 : (Nat → Int32)) (sMscale_L2 : (Nat → Int32)) (sMlink_L2 : (Nat → Int32)) (sMrepeat_L2 : (Nat → Int32)) (sMbase_L2 : (Nat → Int64)) (sMelementAt_L2 : (Nat → Int32)) (sMpointAt_L2 : (Nat → Int32)) (H : Heap) (locs : List Loc) (ls : Array Slot), va_P D vwCl (fl [wMo K hMo sMo_L2, wRowZ K (fun _ => hMo 1) 320 sMthere, wRowI K (fun _ => hMo 2) 320 sMscales, wRowI K (fun _ => hMo 3) 320 sMreferences, wRowI K (fun _ => hMo 4) 320 sMwidths, wRowI K (fun _ => hMo 5) 408 sMlists, wRowI K (fun _ => hMo 6) 17 sMlengths, wRow K (fun _ => hMo 7) 800 sMvalues, wRow K (fun _ => hMo 8) 800 sMread_L2, wRowI K (fun _ => hMo 9) 90 sMlist_L2, wRowI K (fun _ => hMo 10) 90 sMnext_L2, wRowI K (fun _ => hMo 11) 90 sMend_L2, wRowI K (fun _ => hMo 12) 90 sMbegin_L2, wRowI K (fun _ => hMo 13) 90 sMleft_L2, wRowI K (fun _ => hMo 14) 90 sMturn_L2, wRowI K (fun _ => hMo 15) 360 sMfoundOps_L2, wRowI K (fun _ => hMo 16) 4 sMops_L2, wRowI K (fun _ => hMo 17) 101 sMkind_L2, wRowI K (fun _ => hMo 18) 101 sMcode_L2, wRowI K (fun _ => hMo 19) 101 sMwidth_L2, wRowI K (fun _ => hMo 20) 101 sMscale_L2, wRowI K (fun _ => hMo 21) 101 sMlink_L2, wRowI K (fun _ => hMo 22) 101 sMrepeat_L2, wRow K (fun _ => hMo 23) 101 sMbase_L2, wRowI K (fun _ => hMo 24) 101 sMelementAt_L2, wRowI K (fun _ => hMo 25) 101 sMpointAt_L2, wRowZ K (fun _ => hMo 26) 40000 sMbits, wRowI K (fun _ => hMo 29) 101 sMfirstKind, wRowI K (fun _ => hMo 30) 101 sMfirstWidth, wRowI K (fun _ => hMo 31) 101 sMfirstScale, wRow K (fun _ => hMo 32) 101 sMfirstBase]) H → va_D A (fl [wMo K hMo sMo_L2, wRowZ K (fun _ => hMo 1) 320 sMthere, wRowI K (fun _ => hMo 2) 320 sMscales, wRowI K (fun _ => hMo 3) 320 sMreferences, wRowI K (fun _ => hMo 4) 320 sMwidths, wRowI K (fun _ => hMo 5) 408 sMlists, wRowI K (fun _ => hMo 6) 17 sMlengths, wRow K (fun _ => hMo 7) 800 sMvalues, wRow K (fun _ => hMo 8) 800 sMread_L2, wRowI K (fun _ => hMo 9) 90 sMlist_L2, wRowI K (fun _ => hMo 10) 90 sMnext_L2, wRowI K (fun _ => hMo 11) 90 sMend_L2, wRowI K (fun _ => hMo 12) 90 sMbegin_L2, wRowI K (fun _ => hMo 13) 90 sMleft_L2, wRowI K (fun _ => hMo 14) 90 sMturn_L2, wRowI K (fun _ => hMo 15) 360 sMfoundOps_L2, wRowI K (fun _ => hMo 16) 4 sMops_L2, wRowI K (fun _ => hMo 17) 101 sMkind_L2, wRowI K (fun _ => hMo 18) 101 sMcode_L2, wRowI K (fun _ => hMo 19) 101 sMwidth_L2, wRowI K (fun _ => hMo 20) 101 sMscale_L2, wRowI K (fun _ => hMo 21) 101 sMlink_L2, wRowI K (fun _ => hMo 22) 101 sMrepeat_L2, wRow K (fun _ => hMo 23) 101 sMbase_L2, wRowI K (fun _ => hMo 24) 101 sMelementAt_L2, wRowI K (fun _ => hMo 25) 101 sMpointAt_L2, wRowZ K (fun _ => hMo 26) 40000 sMbits, wRowI K (fun _ => hMo 29) 101 sMfirstKind, wRowI K (fun _ => hMo 30) 101 sMfirstWidth, wRowI K (fun _ => hMo 31) 101 sMfirstScale, wRow K (fun _ => hMo 32) 101 sMfirstBase]) → va_S A s.heap H locs → lv_has ls 4 [(0, .ref (hMo 0)), (1, .int x1_L2), (2, .int x2_L2)] → Mod_compare_L2 fu sMthere sMscales sMreferences sMwidths sMlists sMlengths sMvalues sMbits sMfirstKind sMfirstWidth sMfirstScale sMfirstBase x1_L2 n x2_L2 sMo_L2 sMread_L2 sMlist_L2 sMnext_L2 sMend_L2 sMbegin_L2 sMleft_L2 sMturn_L2 sMfoundOps_L2 sMops_L2 sMkind_L2 sMcode_L2 sMwidth_L2 sMscale_L2 sMlink_L2 sMrepeat_L2 sMbase_L2 sMelementAt_L2 sMpointAt_L2 = some ((sMo', sMread', sMlist', sMnext', sMend', sMbegin', sMleft', sMturn', sMfoundOps', sMops', sMkind', sMcode', sMwidth', sMscale', sMlink', sMrepeat', sMbase', sMelementAt', sMpointAt')) → W p l e rm_Mod_compare s m ([.ref (hMo 0), .int a0] : List Value).toArray below meth c H locs 0 0 (Qv below ([.ref (hMo 0), .int a0] : List Value).toArray s D K A (fl [wMo K hMo sMo', wRowZ K (fun _ => hMo 1) 320 sMthere, wRowI K (fun _ => hMo 2) 320 sMscales, wRowI K (fun _ => hMo 3) 320 sMreferences, wRowI K (fun _ => hMo 4) 320 sMwidths, wRowI K (fun _ => hMo 5) 408 sMlists, wRowI K (fun _ => hMo 6) 17 sMlengths, wRow K (fun _ => hMo 7) 800 sMvalues, wRow K (fun _ => hMo 8) 800 sMread', wRowI K (fun _ => hMo 9) 90 sMlist', wRowI K (fun _ => hMo 10) 90 sMnext', wRowI K (fun _ => hMo 11) 90 sMend', wRowI K (fun _ => hMo 12) 90 sMbegin', wRowI K (fun _ => hMo 13) 90 sMleft', wRowI K (fun _ => hMo 14) 90 sMturn', wRowI K (fun _ => hMo 15) 360 sMfoundOps', wRowI K (fun _ => hMo 16) 4 sMops', wRowI K (fun _ => hMo 17) 101 sMkind', wRowI K (fun _ => hMo 18) 101 sMcode', wRowI K (fun _ => hMo 19) 101 sMwidth', wRowI K (fun _ => hMo 20) 101 sMscale', wRowI K (fun _ => hMo 21) 101 sMlink', wRowI K (fun _ => hMo 22) 101 sMrepeat', wRow K (fun _ => hMo 23) 101 sMbase', wRowI K (fun _ => hMo 24) 101 sMelementAt', wRowI K (fun _ => hMo 25) 101 sMpointAt', wRowZ K (fun _ => hMo 26) 40000 sMbits, wRowI K (fun _ => hMo 29) 101 sMfirstKind, wRowI K (fun _ => hMo 30) 101 sMfirstWidth, wRowI K (fun _ => hMo 31) 101 sMfirstScale, wRow K (fun _ => hMo 32) 101 sMfirstBase])) (F0 m 2 ls []) := by
    intro x1_L2 n
    induction n with
    | zero =>
      intro x2_L2 sMo_L2 sMread_L2 sMlist_L2 sMnext_L2 sMend_L2 sMbegin_L2 sMleft_L2 sMturn_L2 sMfoundOps_L2 sMops_L2 sMkind_L2 sMcode_L2 sMwidth_L2 sMscale_L2 sMlink_L2 sMrepeat_L2 sMbase_L2 sMelementAt_L2 sMpointAt_L2 H locs ls hP hD hS hl hf
      exact absurd hf (fun h => nomatch h)
    | succ n_2 ih_2 =>
      intro x2_L2 sMo_L2 sMread_L2 sMlist_L2 sMnext_L2 sMend_L2 sMbegin_L2 sMleft_L2 sMturn_L2 sMfoundOps_L2 sMops_L2 sMkind_L2 sMcode_L2 sMwidth_L2 sMscale_L2 sMlink_L2 sMrepeat_L2 sMbase_L2 sMelementAt_L2 sMpointAt_L2 H locs ls hP hD hS hl hf
      have J75 : ∀ (x2_j75 : Int32) (sMo_j75 : S_Mo) (sMread_j75 : (Nat → Int64)) (sMlist_j75 : (Nat → Int32)) (sMnext_j75 : (Nat → Int32)) (sMend_j75 : (Nat → Int32)) (sMbegin_j75 : (Nat → Int32)) (sMleft_j75 : (Nat → Int32)) (sMturn_j75 : (Nat → Int32)) (sMfoundOps_j75 : (Nat → Int32)) (sMops_j75 : (Nat → Int32)) (sMkind_j75 : (Nat → Int32)) (sMcode_j75 : (Nat → Int32)) (sMwidth_j75 : (Nat → Int32)) (sMscale_j75 : (Nat → Int32)) (sMlink_j75 : (Nat → Int32)) (sMrepeat_j75 : (Nat → Int32)) (sMbase_j75 : (Nat → Int64)) (sMelementAt_j75 : (Nat → Int32)) (sMpointAt_j75 : (Nat → Int32)) (H : Heap) (locs : List Loc) (ls : Array Slot), va_P D vwCl (fl [wMo K hMo sMo_j75, wRowZ K (fun _ => hMo 1) 320 sMthere, wRowI K (fun _ => hMo 2) 320 sMscales, wRowI K (fun _ => hMo 3) 320 sMreferences, wRowI K (fun _ => hMo 4) 320 sMwidths, wRowI K (fun _ => hMo 5) 408 sMlists, wRowI K (fun _ => hMo 6) 17 sMlengths, wRow K (fun _ => hMo 7) 800 sMvalues, wRow K (fun _ => hMo 8) 800 sMread_j75, wRowI K (fun _ => hMo 9) 90 sMlist_j75, wRowI K (fun _ => hMo 10) 90 sMnext_j75, wRowI K (fun _ => hMo 11) 90 sMend_j75, wRowI K (fun _ => hMo 12) 90 sMbegin_j75, wRowI K (fun _ => hMo 13) 90 sMleft_j75, wRowI K (fun _ => hMo 14) 90 sMturn_j75, wRowI K (fun _ => hMo 15) 360 sMfoundOps_j75, wRowI K (fun _ => hMo 16) 4 sMops_j75, wRowI K (fun _ => hMo 17) 101 sMkind_j75, wRowI K (fun _ => hMo 18) 101 sMcode_j75, wRowI K (fun _ => hMo 19) 101 sMwidth_j75, wRowI K (fun _ => hMo 20) 101 sMscale_j75, wRowI K (fun _ => hMo 21) 101 sMlink_j75, wRowI K (fun _ => hMo 22) 101 sMrepeat_j75, wRow K (fun _ => hMo 23) 101 sMbase_j75, wRowI K (fun _ => hMo 24) 101 sMelementAt_j75, wRowI K (fun _ => hMo 25) 101 sMpointAt_j75, wRowZ K (fun _ => hMo 26) 40000 sMbits, wRowI K (fun _ => hMo 29) 101 sMfirstKind, wRowI K (fun _ => hMo 30) 101 sMfirstWidth, wRowI K (fun _ => hMo 31) 101 sMfirstScale, wRow K (fun _ => hMo 32) 101 sMfirstBase]) H → va_D A (fl [wMo K hMo sMo_j75, wRowZ K (fun _ => hMo 1) 320 sMthere, wRowI K (fun _ => hMo 2) 320 sMscales, wRowI K (fun _ => hMo 3) 320 sMreferences, wRowI K (fun _ => hMo 4) 320 sMwidths, wRowI K (fun _ => hMo 5) 408 sMlists, wRowI K (fun _ => hMo 6) 17 sMlengths, wRow K (fun _ => hMo 7) 800 sMvalues, wRow K (fun _ => hMo 8) 800 sMread_j75, wRowI K (fun _ => hMo 9) 90 sMlist_j75, wRowI K (fun _ => hMo 10) 90 sMnext_j75, wRowI K (fun _ => hMo 11) 90 sMend_j75, wRowI K (fun _ => hMo 12) 90 sMbegin_j75, wRowI K (fun _ => hMo 13) 90 sMleft_j75, wRowI K (fun _ => hMo 14) 90 sMturn_j75, wRowI K (fun _ => hMo 15) 360 sMfoundOps_j75, wRowI K (fun _ => hMo 16) 4 sMops_j75, wRowI K (fun _ => hMo 17) 101 sMkind_j75, wRowI K (fun _ => hMo 18) 101 sMcode_j75, wRowI K (fun _ => hMo 19) 101 sMwidth_j75, wRowI K (fun _ => hMo 20) 101 sMscale_j75, wRowI K (fun _ => hMo 21) 101 sMlink_j75, wRowI K (fun _ => hMo 22) 101 sMrepeat_j75, wRow K (fun _ => hMo 23) 101 sMbase_j75, wRowI K (fun _ => hMo 24) 101 sMelementAt_j75, wRowI K (fun _ => hMo 25) 101 sMpointAt_j75, wRowZ K (fun _ => hMo 26) 40000 sMbits, wRowI K (fun _ => hMo 29) 101 sMfirstKind, wRowI K (fun _ => hMo 30) 101 sMfirstWidth, wRowI K (fun _ => hMo 31) 101 sMfirstScale, wRow K (fun _ => hMo 32) 101 sMfirstBase]) → va_S A s.heap H locs → lv_has ls 4 [(0, .ref (hMo 0)), (1, .int x1_L2), (2, .int x2_j75)] → Mod_compare_j75 fu sMthere sMscales sMreferences sMwidths sMlists sMlengths sMvalues sMbits sMfirstKind sMfirstWidth sMfirstScale sMfirstBase (fun v0 v1 v2 v3 v4 v5 v6 v7 v8 v9 v10 v11 v12 v13 v14 v15 v16 v17 v18 v19 => Mod_compare_L2 fu sMthere sMscales sMreferences sMwidths sMlists sMlengths sMvalues sMbits sMfirstKind sMfirstWidth sMfirstScale sMfirstBase x1_L2 n_2 v0 v1 v2 v3 v4 v5 v6 v7 v8 v9 v10 v11 v12 v13 v14 v15 v16 v17 v18 v19) x1_L2 x2_j75 sMo_j75 sMread_j75 sMlist_j75 sMnext_j75 sMend_j75 sMbegin_j75 sMleft_j75 sMturn_j75 sMfoundOps_j75 sMops_j75 sMkind_j75 sMcode_j75 sMwidth_j75 sMscale_j75 sMlink_j75 sMrepeat_j75 sMbase_j75 sMelementAt_j75 sMpointAt_j75 = some ((sMo', sMread', sMlist', sMnext', sMend', sMbegin', sMleft', sMturn', sMfoundOps', sMops', sMkind', sMcode', sMwidth', sMscale', sMlink', sMrepeat', sMbase', sMelementAt', sMpointAt')) → W p l e rm_Mod_compare s m ([.ref (hMo 0), .int a0] : List Value).toArray below meth c H locs 0 0 (Qv below ([.ref (hMo 0), .int a0] : List Value).toArray s D K A (fl [wMo K hMo sMo', wRowZ K (fun _ => hMo 1) 320 sMthere, wRowI K (fun _ => hMo 2) 320 sMscales, wRowI K (fun _ => hMo 3) 320 sMreferences, wRowI K (fun _ => hMo 4) 320 sMwidths, wRowI K (fun _ => hMo 5) 408 sMlists, wRowI K (fun _ => hMo 6) 17 sMlengths, wRow K (fun _ => hMo 7) 800 sMvalues, wRow K (fun _ => hMo 8) 800 sMread', wRowI K (fun _ => hMo 9) 90 sMlist', wRowI K (fun _ => hMo 10) 90 sMnext', wRowI K (fun _ => hMo 11) 90 sMend', wRowI K (fun _ => hMo 12) 90 sMbegin', wRowI K (fun _ => hMo 13) 90 sMleft', wRowI K (fun _ => hMo 14) 90 sMturn', wRowI K (fun _ => hMo 15) 360 sMfoundOps', wRowI K (fun _ => hMo 16) 4 sMops', wRowI K (fun _ => hMo 17) 101 sMkind', wRowI K (fun _ => hMo 18) 101 sMcode', wRowI K (fun _ => hMo 19) 101 sMwidth', wRowI K (fun _ => hMo 20) 101 sMscale', wRowI K (fun _ => hMo 21) 101 sMlink', wRowI K (fun _ => hMo 22) 101 sMrepeat', wRow K (fun _ => hMo 23) 101 sMbase', wRowI K (fun _ => hMo 24) 101 sMelementAt', wRowI K (fun _ => hMo 25) 101 sMpointAt', wRowZ K (fun _ => hMo 26) 40000 sMbits, wRowI K (fun _ => hMo 29) 101 sMfirstKind, wRowI K (fun _ => hMo 30) 101 sMfirstWidth, wRowI K (fun _ => hMo 31) 101 sMfirstScale, wRow K (fun _ => hMo 32) 101 sMfirstBase])) (F0 m 75 ls []) := by
        intro x2_j75 sMo_j75 sMread_j75 sMlist_j75 sMnext_j75 sMend_j75 sMbegin_j75 sMleft_j75 sMturn_j75 sMfoundOps_j75 sMops_j75 sMkind_j75 sMcode_j75 sMwidth_j75 sMscale_j75 sMlink_j75 sMrepeat_j75 sMbase_j75 sMelementAt_j75 sMpointAt_j75 H locs ls hP hD hS hl hf
        refine lv_iinc (v := x2_j75 + 1) (lv' := [(2, .int (x2_j75 + 1)), (0, .ref (hMo 0)), (1, .int x1_L2)]) (pc := 75) hx hb d_Mod_compare_75 hl (k := 2) rfl rfl (by decide) rfl (fun ls hl => ?_)
        refine lv_goto (tgt := 2) (pc := 78) hx hb d_Mod_compare_78 (by decide) ?_
        exact ih_2 (x2_j75 + 1) sMo_j75 sMread_j75 sMlist_j75 sMnext_j75 sMend_j75 sMbegin_j75 sMleft_j75 sMturn_j75 sMfoundOps_j75 sMops_j75 sMkind_j75 sMcode_j75 sMwidth_j75 sMscale_j75 sMlink_j75 sMrepeat_j75 sMbase_j75 sMelementAt_j75 sMpointAt_j75 H locs ls hP hD hS (lv_sub hl [1, 2, 0] rfl) hf
      have J68 : ∀ (x2_j68 : Int32) (x3_j68 : Int32) (sMo_j68 : S_Mo) (sMread_j68 : (Nat → Int64)) (sMlist_j68 : (Nat → Int32)) (sMnext_j68 : (Nat → Int32)) (sMend_j68 : (Nat → Int32)) (sMbegin_j68 : (Nat → Int32)) (sMleft_j68 : (Nat → Int32)) (sMturn_j68 : (Nat → Int32)) (sMfoundOps_j68 : (Nat → Int32)) (sMops_j68 : (Nat → Int32)) (sMkind_j68 : (Nat → Int32)) (sMcode_j68 : (Nat → Int32)) (sMwidth_j68 : (Nat → Int32)) (sMscale_j68 : (Nat → Int32)) (sMlink_j68 : (Nat → Int32)) (sMrepeat_j68 : (Nat → Int32)) (sMbase_j68 : (Nat → Int64)) (sMelementAt_j68 : (Nat → Int32)) (sMpointAt_j68 : (Nat → Int32)) (H : Heap) (locs : List Loc) (ls : Array Slot), va_P D vwCl (fl [wMo K hMo sMo_j68, wRowZ K (fun _ => hMo 1) 320 sMthere, wRowI K (fun _ => hMo 2) 320 sMscales, wRowI K (fun _ => hMo 3) 320 sMreferences, wRowI K (fun _ => hMo 4) 320 sMwidths, wRowI K (fun _ => hMo 5) 408 sMlists, wRowI K (fun _ => hMo 6) 17 sMlengths, wRow K (fun _ => hMo 7) 800 sMvalues, wRow K (fun _ => hMo 8) 800 sMread_j68, wRowI K (fun _ => hMo 9) 90 sMlist_j68, wRowI K (fun _ => hMo 10) 90 sMnext_j68, wRowI K (fun _ => hMo 11) 90 sMend_j68, wRowI K (fun _ => hMo 12) 90 sMbegin_j68, wRowI K (fun _ => hMo 13) 90 sMleft_j68, wRowI K (fun _ => hMo 14) 90 sMturn_j68, wRowI K (fun _ => hMo 15) 360 sMfoundOps_j68, wRowI K (fun _ => hMo 16) 4 sMops_j68, wRowI K (fun _ => hMo 17) 101 sMkind_j68, wRowI K (fun _ => hMo 18) 101 sMcode_j68, wRowI K (fun _ => hMo 19) 101 sMwidth_j68, wRowI K (fun _ => hMo 20) 101 sMscale_j68, wRowI K (fun _ => hMo 21) 101 sMlink_j68, wRowI K (fun _ => hMo 22) 101 sMrepeat_j68, wRow K (fun _ => hMo 23) 101 sMbase_j68, wRowI K (fun _ => hMo 24) 101 sMelementAt_j68, wRowI K (fun _ => hMo 25) 101 sMpointAt_j68, wRowZ K (fun _ => hMo 26) 40000 sMbits, wRowI K (fun _ => hMo 29) 101 sMfirstKind, wRowI K (fun _ => hMo 30) 101 sMfirstWidth, wRowI K (fun _ => hMo 31) 101 sMfirstScale, wRow K (fun _ => hMo 32) 101 sMfirstBase]) H → va_D A (fl [wMo K hMo sMo_j68, wRowZ K (fun _ => hMo 1) 320 sMthere, wRowI K (fun _ => hMo 2) 320 sMscales, wRowI K (fun _ => hMo 3) 320 sMreferences, wRowI K (fun _ => hMo 4) 320 sMwidths, wRowI K (fun _ => hMo 5) 408 sMlists, wRowI K (fun _ => hMo 6) 17 sMlengths, wRow K (fun _ => hMo 7) 800 sMvalues, wRow K (fun _ => hMo 8) 800 sMread_j68, wRowI K (fun _ => hMo 9) 90 sMlist_j68, wRowI K (fun _ => hMo 10) 90 sMnext_j68, wRowI K (fun _ => hMo 11) 90 sMend_j68, wRowI K (fun _ => hMo 12) 90 sMbegin_j68, wRowI K (fun _ => hMo 13) 90 sMleft_j68, wRowI K (fun _ => hMo 14) 90 sMturn_j68, wRowI K (fun _ => hMo 15) 360 sMfoundOps_j68, wRowI K (fun _ => hMo 16) 4 sMops_j68, wRowI K (fun _ => hMo 17) 101 sMkind_j68, wRowI K (fun _ => hMo 18) 101 sMcode_j68, wRowI K (fun _ => hMo 19) 101 sMwidth_j68, wRowI K (fun _ => hMo 20) 101 sMscale_j68, wRowI K (fun _ => hMo 21) 101 sMlink_j68, wRowI K (fun _ => hMo 22) 101 sMrepeat_j68, wRow K (fun _ => hMo 23) 101 sMbase_j68, wRowI K (fun _ => hMo 24) 101 sMelementAt_j68, wRowI K (fun _ => hMo 25) 101 sMpointAt_j68, wRowZ K (fun _ => hMo 26) 40000 sMbits, wRowI K (fun _ => hMo 29) 101 sMfirstKind, wRowI K (fun _ => hMo 30) 101 sMfirstWidth, wRowI K (fun _ => hMo 31) 101 sMfirstScale, wRow K (fun _ => hMo 32) 101 sMfirstBase]) → va_S A s.heap H locs → lv_has ls 4 [(0, .ref (hMo 0)), (1, .int x1_L2), (2, .int x2_j68), (3, .int x3_j68)] → Mod_compare_j68 fu sMthere sMscales sMreferences sMwidths sMlists sMlengths sMvalues sMbits sMfirstKind sMfirstWidth sMfirstScale sMfirstBase (fun v0 v1 v2 v3 v4 v5 v6 v7 v8 v9 v10 v11 v12 v13 v14 v15 v16 v17 v18 v19 => Mod_compare_L2 fu sMthere sMscales sMreferences sMwidths sMlists sMlengths sMvalues sMbits sMfirstKind sMfirstWidth sMfirstScale sMfirstBase x1_L2 n_2 v0 v1 v2 v3 v4 v5 v6 v7 v8 v9 v10 v11 v12 v13 v14 v15 v16 v17 v18 v19) x1_L2 x2_j68 x3_j68 sMo_j68 sMread_j68 sMlist_j68 sMnext_j68 sMend_j68 sMbegin_j68 sMleft_j68 sMturn_j68 sMfoundOps_j68 sMops_j68 sMkind_j68 sMcode_j68 sMwidth_j68 sMscale_j68 sMlink_j68 sMrepeat_j68 sMbase_j68 sMelementAt_j68 sMpointAt_j68 = some ((sMo', sMread', sMlist', sMnext', sMend', sMbegin', sMleft', sMturn', sMfoundOps', sMops', sMkind', sMcode', sMwidth', sMscale', sMlink', sMrepeat', sMbase', sMelementAt', sMpointAt')) → W p l e rm_Mod_compare s m ([.ref (hMo 0), .int a0] : List Value).toArray below meth c H locs 0 0 (Qv below ([.ref (hMo 0), .int a0] : List Value).toArray s D K A (fl [wMo K hMo sMo', wRowZ K (fun _ => hMo 1) 320 sMthere, wRowI K (fun _ => hMo 2) 320 sMscales, wRowI K (fun _ => hMo 3) 320 sMreferences, wRowI K (fun _ => hMo 4) 320 sMwidths, wRowI K (fun _ => hMo 5) 408 sMlists, wRowI K (fun _ => hMo 6) 17 sMlengths, wRow K (fun _ => hMo 7) 800 sMvalues, wRow K (fun _ => hMo 8) 800 sMread', wRowI K (fun _ => hMo 9) 90 sMlist', wRowI K (fun _ => hMo 10) 90 sMnext', wRowI K (fun _ => hMo 11) 90 sMend', wRowI K (fun _ => hMo 12) 90 sMbegin', wRowI K (fun _ => hMo 13) 90 sMleft', wRowI K (fun _ => hMo 14) 90 sMturn', wRowI K (fun _ => hMo 15) 360 sMfoundOps', wRowI K (fun _ => hMo 16) 4 sMops', wRowI K (fun _ => hMo 17) 101 sMkind', wRowI K (fun _ => hMo 18) 101 sMcode', wRowI K (fun _ => hMo 19) 101 sMwidth', wRowI K (fun _ => hMo 20) 101 sMscale', wRowI K (fun _ => hMo 21) 101 sMlink', wRowI K (fun _ => hMo 22) 101 sMrepeat', wRow K (fun _ => hMo 23) 101 sMbase', wRowI K (fun _ => hMo 24) 101 sMelementAt', wRowI K (fun _ => hMo 25) 101 sMpointAt', wRowZ K (fun _ => hMo 26) 40000 sMbits, wRowI K (fun _ => hMo 29) 101 sMfirstKind, wRowI K (fun _ => hMo 30) 101 sMfirstWidth, wRowI K (fun _ => hMo 31) 101 sMfirstScale, wRow K (fun _ => hMo 32) 101 sMfirstBase])) (F0 m 68 ls []) := by
        intro x2_j68 x3_j68 sMo_j68 sMread_j68 sMlist_j68 sMnext_j68 sMend_j68 sMbegin_j68 sMleft_j68 sMturn_j68 sMfoundOps_j68 sMops_j68 sMkind_j68 sMcode_j68 sMwidth_j68 sMscale_j68 sMlink_j68 sMrepeat_j68 sMbase_j68 sMelementAt_j68 sMpointAt_j68 H locs ls hP hD hS hl hf
        refine lv_aload_n (pc := 68) hx hb d_Mod_compare_68 rfl (lv_at hl 0 rfl) ?_
        refine lv_bipush (v := 10) (pc := 69) hx hb d_Mod_compare_69 (by decide) ?_
        refine lv_iload_n (pc := 71) hx hb d_Mod_compare_71 rfl (lv_at hl 3 rfl) ?_
        obtain ⟨q10, hq10, hf⟩ := o_bd_e hf
        refine fi_v (pc := 72) (va_runV (As := [.int 10, .int x3_j68]) (rest := []) ⟨hx, hb, hml, hown, hts⟩ ((c_Mod_wrongAt l D K hMo sMo_j68 10 x3_j68 q10 hq10) _) (cwV 2 hts (gV tw_1404 tw_1406 tp_53 tw_12 tw_1407) rfl rfl rfl (by decide +kernel) ⟨by decide, by decide⟩) ⟨mPre_blind, va_recv hK hP (ci := 10) rfl (fl_at 0 0 rfl rfl), (mPre_fl hK hF hA hP hD hS [0] rfl rfl)⟩ rfl rfl hl.1 rfl (lv_room (Nat.le_of_ble_eq_true rfl)) d_Mod_compare_72 ⟨Nat.zero_le _, Nat.zero_le _⟩) hA hP hD hS [0] rfl rfl (fun H locs hP hD hS => ?_)
        have hP : va_P D vwCl (fl [wMo K hMo q10, wRowZ K (fun _ => hMo 1) 320 sMthere, wRowI K (fun _ => hMo 2) 320 sMscales, wRowI K (fun _ => hMo 3) 320 sMreferences, wRowI K (fun _ => hMo 4) 320 sMwidths, wRowI K (fun _ => hMo 5) 408 sMlists, wRowI K (fun _ => hMo 6) 17 sMlengths, wRow K (fun _ => hMo 7) 800 sMvalues, wRow K (fun _ => hMo 8) 800 sMread_j68, wRowI K (fun _ => hMo 9) 90 sMlist_j68, wRowI K (fun _ => hMo 10) 90 sMnext_j68, wRowI K (fun _ => hMo 11) 90 sMend_j68, wRowI K (fun _ => hMo 12) 90 sMbegin_j68, wRowI K (fun _ => hMo 13) 90 sMleft_j68, wRowI K (fun _ => hMo 14) 90 sMturn_j68, wRowI K (fun _ => hMo 15) 360 sMfoundOps_j68, wRowI K (fun _ => hMo 16) 4 sMops_j68, wRowI K (fun _ => hMo 17) 101 sMkind_j68, wRowI K (fun _ => hMo 18) 101 sMcode_j68, wRowI K (fun _ => hMo 19) 101 sMwidth_j68, wRowI K (fun _ => hMo 20) 101 sMscale_j68, wRowI K (fun _ => hMo 21) 101 sMlink_j68, wRowI K (fun _ => hMo 22) 101 sMrepeat_j68, wRow K (fun _ => hMo 23) 101 sMbase_j68, wRowI K (fun _ => hMo 24) 101 sMelementAt_j68, wRowI K (fun _ => hMo 25) 101 sMpointAt_j68, wRowZ K (fun _ => hMo 26) 40000 sMbits, wRowI K (fun _ => hMo 29) 101 sMfirstKind, wRowI K (fun _ => hMo 30) 101 sMfirstWidth, wRowI K (fun _ => hMo 31) 101 sMfirstScale, wRow K (fun _ => hMo 32) 101 sMfirstBase]) H := hP
        have hD : va_D A (fl [wMo K hMo q10, wRowZ K (fun _ => hMo 1) 320 sMthere, wRowI K (fun _ => hMo 2) 320 sMscales, wRowI K (fun _ => hMo 3) 320 sMreferences, wRowI K (fun _ => hMo 4) 320 sMwidths, wRowI K (fun _ => hMo 5) 408 sMlists, wRowI K (fun _ => hMo 6) 17 sMlengths, wRow K (fun _ => hMo 7) 800 sMvalues, wRow K (fun _ => hMo 8) 800 sMread_j68, wRowI K (fun _ => hMo 9) 90 sMlist_j68, wRowI K (fun _ => hMo 10) 90 sMnext_j68, wRowI K (fun _ => hMo 11) 90 sMend_j68, wRowI K (fun _ => hMo 12) 90 sMbegin_j68, wRowI K (fun _ => hMo 13) 90 sMleft_j68, wRowI K (fun _ => hMo 14) 90 sMturn_j68, wRowI K (fun _ => hMo 15) 360 sMfoundOps_j68, wRowI K (fun _ => hMo 16) 4 sMops_j68, wRowI K (fun _ => hMo 17) 101 sMkind_j68, wRowI K (fun _ => hMo 18) 101 sMcode_j68, wRowI K (fun _ => hMo 19) 101 sMwidth_j68, wRowI K (fun _ => hMo 20) 101 sMscale_j68, wRowI K (fun _ => hMo 21) 101 sMlink_j68, wRowI K (fun _ => hMo 22) 101 sMrepeat_j68, wRow K (fun _ => hMo 23) 101 sMbase_j68, wRowI K (fun _ => hMo 24) 101 sMelementAt_j68, wRowI K (fun _ => hMo 25) 101 sMpointAt_j68, wRowZ K (fun _ => hMo 26) 40000 sMbits, wRowI K (fun _ => hMo 29) 101 sMfirstKind, wRowI K (fun _ => hMo 30) 101 sMfirstWidth, wRowI K (fun _ => hMo 31) 101 sMfirstScale, wRow K (fun _ => hMo 32) 101 sMfirstBase]) := hD
        exact J75 x2_j68 q10 sMread_j68 sMlist_j68 sMnext_j68 sMend_j68 sMbegin_j68 sMleft_j68 sMturn_j68 sMfoundOps_j68 sMops_j68 sMkind_j68 sMcode_j68 sMwidth_j68 sMscale_j68 sMlink_j68 sMrepeat_j68 sMbase_j68 sMelementAt_j68 sMpointAt_j68 H locs ls hP hD hS (lv_sub hl [0, 1, 2] rfl) hf
      have J52 : ∀ (x2_j52 : Int32) (x3_j52 : Int32) (sMo_j52 : S_Mo) (sMread_j52 : (Nat → Int64)) (sMlist_j52 : (Nat → Int32)) (sMnext_j52 : (Nat → Int32)) (sMend_j52 : (Nat → Int32)) (sMbegin_j52 : (Nat → Int32)) (sMleft_j52 : (Nat → Int32)) (sMturn_j52 : (Nat → Int32)) (sMfoundOps_j52 : (Nat → Int32)) (sMops_j52 : (Nat → Int32)) (sMkind_j52 : (Nat → Int32)) (sMcode_j52 : (Nat → Int32)) (sMwidth_j52 : (Nat → Int32)) (sMscale_j52 : (Nat → Int32)) (sMlink_j52 : (Nat → Int32)) (sMrepeat_j52 : (Nat → Int32)) (sMbase_j52 : (Nat → Int64)) (sMelementAt_j52 : (Nat → Int32)) (sMpointAt_j52 : (Nat → Int32)) (H : Heap) (locs : List Loc) (ls : Array Slot), va_P D vwCl (fl [wMo K hMo sMo_j52, wRowZ K (fun _ => hMo 1) 320 sMthere, wRowI K (fun _ => hMo 2) 320 sMscales, wRowI K (fun _ => hMo 3) 320 sMreferences, wRowI K (fun _ => hMo 4) 320 sMwidths, wRowI K (fun _ => hMo 5) 408 sMlists, wRowI K (fun _ => hMo 6) 17 sMlengths, wRow K (fun _ => hMo 7) 800 sMvalues, wRow K (fun _ => hMo 8) 800 sMread_j52, wRowI K (fun _ => hMo 9) 90 sMlist_j52, wRowI K (fun _ => hMo 10) 90 sMnext_j52, wRowI K (fun _ => hMo 11) 90 sMend_j52, wRowI K (fun _ => hMo 12) 90 sMbegin_j52, wRowI K (fun _ => hMo 13) 90 sMleft_j52, wRowI K (fun _ => hMo 14) 90 sMturn_j52, wRowI K (fun _ => hMo 15) 360 sMfoundOps_j52, wRowI K (fun _ => hMo 16) 4 sMops_j52, wRowI K (fun _ => hMo 17) 101 sMkind_j52, wRowI K (fun _ => hMo 18) 101 sMcode_j52, wRowI K (fun _ => hMo 19) 101 sMwidth_j52, wRowI K (fun _ => hMo 20) 101 sMscale_j52, wRowI K (fun _ => hMo 21) 101 sMlink_j52, wRowI K (fun _ => hMo 22) 101 sMrepeat_j52, wRow K (fun _ => hMo 23) 101 sMbase_j52, wRowI K (fun _ => hMo 24) 101 sMelementAt_j52, wRowI K (fun _ => hMo 25) 101 sMpointAt_j52, wRowZ K (fun _ => hMo 26) 40000 sMbits, wRowI K (fun _ => hMo 29) 101 sMfirstKind, wRowI K (fun _ => hMo 30) 101 sMfirstWidth, wRowI K (fun _ => hMo 31) 101 sMfirstScale, wRow K (fun _ => hMo 32) 101 sMfirstBase]) H → va_D A (fl [wMo K hMo sMo_j52, wRowZ K (fun _ => hMo 1) 320 sMthere, wRowI K (fun _ => hMo 2) 320 sMscales, wRowI K (fun _ => hMo 3) 320 sMreferences, wRowI K (fun _ => hMo 4) 320 sMwidths, wRowI K (fun _ => hMo 5) 408 sMlists, wRowI K (fun _ => hMo 6) 17 sMlengths, wRow K (fun _ => hMo 7) 800 sMvalues, wRow K (fun _ => hMo 8) 800 sMread_j52, wRowI K (fun _ => hMo 9) 90 sMlist_j52, wRowI K (fun _ => hMo 10) 90 sMnext_j52, wRowI K (fun _ => hMo 11) 90 sMend_j52, wRowI K (fun _ => hMo 12) 90 sMbegin_j52, wRowI K (fun _ => hMo 13) 90 sMleft_j52, wRowI K (fun _ => hMo 14) 90 sMturn_j52, wRowI K (fun _ => hMo 15) 360 sMfoundOps_j52, wRowI K (fun _ => hMo 16) 4 sMops_j52, wRowI K (fun _ => hMo 17) 101 sMkind_j52, wRowI K (fun _ => hMo 18) 101 sMcode_j52, wRowI K (fun _ => hMo 19) 101 sMwidth_j52, wRowI K (fun _ => hMo 20) 101 sMscale_j52, wRowI K (fun _ => hMo 21) 101 sMlink_j52, wRowI K (fun _ => hMo 22) 101 sMrepeat_j52, wRow K (fun _ => hMo 23) 101 sMbase_j52, wRowI K (fun _ => hMo 24) 101 sMelementAt_j52, wRowI K (fun _ => hMo 25) 101 sMpointAt_j52, wRowZ K (fun _ => hMo 26) 40000 sMbits, wRowI K (fun _ => hMo 29) 101 sMfirstKind, wRowI K (fun _ => hMo 30) 101 sMfirstWidth, wRowI K (fun _ => hMo 31) 101 sMfirstScale, wRow K (fun _ => hMo 32) 101 sMfirstBase]) → va_S A s.heap H locs → lv_has ls 4 [(0, .ref (hMo 0)), (1, .int x1_L2), (2, .int x2_j52), (3, .int x3_j52)] → Mod_compare_j52 fu sMthere sMscales sMreferences sMwidths sMlists sMlengths sMvalues sMbits sMfirstKind sMfirstWidth sMfirstScale sMfirstBase (fun v0 v1 v2 v3 v4 v5 v6 v7 v8 v9 v10 v11 v12 v13 v14 v15 v16 v17 v18 v19 => Mod_compare_L2 fu sMthere sMscales sMreferences sMwidths sMlists sMlengths sMvalues sMbits sMfirstKind sMfirstWidth sMfirstScale sMfirstBase x1_L2 n_2 v0 v1 v2 v3 v4 v5 v6 v7 v8 v9 v10 v11 v12 v13 v14 v15 v16 v17 v18 v19) x1_L2 x2_j52 x3_j52 sMo_j52 sMread_j52 sMlist_j52 sMnext_j52 sMend_j52 sMbegin_j52 sMleft_j52 sMturn_j52 sMfoundOps_j52 sMops_j52 sMkind_j52 sMcode_j52 sMwidth_j52 sMscale_j52 sMlink_j52 sMrepeat_j52 sMbase_j52 sMelementAt_j52 sMpointAt_j52 = some ((sMo', sMread', sMlist', sMnext', sMend', sMbegin', sMleft', sMturn', sMfoundOps', sMops', sMkind', sMcode', sMwidth', sMscale', sMlink', sMrepeat', sMbase', sMelementAt', sMpointAt')) → W p l e rm_Mod_compare s m ([.ref (hMo 0), .int a0] : List Value).toArray below meth c H locs 0 0 (Qv below ([.ref (hMo 0), .int a0] : List Value).toArray s D K A (fl [wMo K hMo sMo', wRowZ K (fun _ => hMo 1) 320 sMthere, wRowI K (fun _ => hMo 2) 320 sMscales, wRowI K (fun _ => hMo 3) 320 sMreferences, wRowI K (fun _ => hMo 4) 320 sMwidths, wRowI K (fun _ => hMo 5) 408 sMlists, wRowI K (fun _ => hMo 6) 17 sMlengths, wRow K (fun _ => hMo 7) 800 sMvalues, wRow K (fun _ => hMo 8) 800 sMread', wRowI K (fun _ => hMo 9) 90 sMlist', wRowI K (fun _ => hMo 10) 90 sMnext', wRowI K (fun _ => hMo 11) 90 sMend', wRowI K (fun _ => hMo 12) 90 sMbegin', wRowI K (fun _ => hMo 13) 90 sMleft', wRowI K (fun _ => hMo 14) 90 sMturn', wRowI K (fun _ => hMo 15) 360 sMfoundOps', wRowI K (fun _ => hMo 16) 4 sMops', wRowI K (fun _ => hMo 17) 101 sMkind', wRowI K (fun _ => hMo 18) 101 sMcode', wRowI K (fun _ => hMo 19) 101 sMwidth', wRowI K (fun _ => hMo 20) 101 sMscale', wRowI K (fun _ => hMo 21) 101 sMlink', wRowI K (fun _ => hMo 22) 101 sMrepeat', wRow K (fun _ => hMo 23) 101 sMbase', wRowI K (fun _ => hMo 24) 101 sMelementAt', wRowI K (fun _ => hMo 25) 101 sMpointAt', wRowZ K (fun _ => hMo 26) 40000 sMbits, wRowI K (fun _ => hMo 29) 101 sMfirstKind, wRowI K (fun _ => hMo 30) 101 sMfirstWidth, wRowI K (fun _ => hMo 31) 101 sMfirstScale, wRow K (fun _ => hMo 32) 101 sMfirstBase])) (F0 m 52 ls []) := by
        intro x2_j52 x3_j52 sMo_j52 sMread_j52 sMlist_j52 sMnext_j52 sMend_j52 sMbegin_j52 sMleft_j52 sMturn_j52 sMfoundOps_j52 sMops_j52 sMkind_j52 sMcode_j52 sMwidth_j52 sMscale_j52 sMlink_j52 sMrepeat_j52 sMbase_j52 sMelementAt_j52 sMpointAt_j52 H locs ls hP hD hS hl hf
        refine lv_iload_n (pc := 52) hx hb d_Mod_compare_52 rfl (lv_at hl 3 rfl) ?_
        refine lv_aload_n (pc := 53) hx hb d_Mod_compare_53 rfl (lv_at hl 0 rfl) ?_
        refine va_get (D := D) (ci := 10) (v := .int (Mo_fields sMo_j52)) (C := R_Mod) (T := T_Mod) (N := 61) (pc := 54) hx hb hts (fun w h => List.mem_cons_of_mem _ (in_Mod w h)) hown hK hP _ (fl_at 0 0 rfl rfl) rfl 22 (by decide) (hts _ (List.mem_cons_of_mem _ tw_1115)) (fun _ h9 => h9) rfl d_Mod_compare_54 ?_
        refine lv_icmp_lt (tgt := 68) (pc := 57) hx hb d_Mod_compare_57 (by decide) (fun c9 => ?_) (fun c9 => ?_)
        · replace hf := o_t c9 hf
          exact J68 x2_j52 x3_j52 sMo_j52 sMread_j52 sMlist_j52 sMnext_j52 sMend_j52 sMbegin_j52 sMleft_j52 sMturn_j52 sMfoundOps_j52 sMops_j52 sMkind_j52 sMcode_j52 sMwidth_j52 sMscale_j52 sMlink_j52 sMrepeat_j52 sMbase_j52 sMelementAt_j52 sMpointAt_j52 H locs ls hP hD hS (lv_sub hl [0, 1, 2, 3] rfl) hf
        · replace hf := o_f c9 hf
          refine lv_iload_n (pc := 60) hx hb d_Mod_compare_60 rfl (lv_at hl 3 rfl) ?_
          refine lv_aload_n (pc := 61) hx hb d_Mod_compare_61 rfl (lv_at hl 0 rfl) ?_
          refine va_get (D := D) (ci := 10) (v := .int (Mo_firstFields sMo_j52)) (C := R_Mod) (T := T_Mod) (N := 61) (pc := 62) hx hb hts (fun w h => List.mem_cons_of_mem _ (in_Mod w h)) hown hK hP _ (fl_at 0 0 rfl rfl) rfl 52 (by decide) (hts _ (List.mem_cons_of_mem _ tw_1145)) (fun _ h9 => h9) rfl d_Mod_compare_62 ?_
          refine lv_icmp_ge (tgt := 75) (pc := 65) hx hb d_Mod_compare_65 (by decide) (fun c8 => ?_) (fun c8 => ?_)
          · replace hf := o_t c8 hf
            exact J75 x2_j52 sMo_j52 sMread_j52 sMlist_j52 sMnext_j52 sMend_j52 sMbegin_j52 sMleft_j52 sMturn_j52 sMfoundOps_j52 sMops_j52 sMkind_j52 sMcode_j52 sMwidth_j52 sMscale_j52 sMlink_j52 sMrepeat_j52 sMbase_j52 sMelementAt_j52 sMpointAt_j52 H locs ls hP hD hS (lv_sub hl [0, 1, 2] rfl) hf
          · replace hf := o_f c8 hf
            exact J68 x2_j52 x3_j52 sMo_j52 sMread_j52 sMlist_j52 sMnext_j52 sMend_j52 sMbegin_j52 sMleft_j52 sMturn_j52 sMfoundOps_j52 sMops_j52 sMkind_j52 sMcode_j52 sMwidth_j52 sMscale_j52 sMlink_j52 sMrepeat_j52 sMbase_j52 sMelementAt_j52 sMpointAt_j52 H locs ls hP hD hS (lv_sub hl [0, 1, 2, 3] rfl) hf
      refine lv_iload_n (pc := 2) hx hb d_Mod_compare_2 rfl (lv_at hl 2 rfl) ?_
      refine lv_iload_n (pc := 3) hx hb d_Mod_compare_3 rfl (lv_at hl 1 rfl) ?_
      refine lv_icmp_ge (tgt := 81) (pc := 4) hx hb d_Mod_compare_4 (by decide) (fun c7 => ?_) (fun c7 => ?_)
      · replace hf := o_t c7 hf
        cases hf
        exact ret_v hx hb hr hlocks hK hP hS d_Mod_compare_81
      · replace hf := o_f c7 hf
        refine lv_aload_n (pc := 7) hx hb d_Mod_compare_7 rfl (lv_at hl 0 rfl) ?_
        refine va_get (D := D) (ci := 10) (v := .int (Mo_fault sMo_L2)) (C := R_Mod) (T := T_Mod) (N := 61) (pc := 8) hx hb hts (fun w h => List.mem_cons_of_mem _ (in_Mod w h)) hown hK hP _ (fl_at 0 0 rfl rfl) rfl 8 (by decide) (hts _ (List.mem_cons_of_mem _ tw_1101)) (fun _ h9 => h9) rfl d_Mod_compare_8 ?_
        refine lv_if_ne (tgt := 81) (pc := 11) hx hb d_Mod_compare_11 (by decide) (fun c6 => ?_) (fun c6 => ?_)
        · replace hf := o_f c6 hf
          cases hf
          exact ret_v hx hb hr hlocks hK hP hS d_Mod_compare_81
        · replace hf := o_t c6 hf
          refine lv_aload_n (pc := 14) hx hb d_Mod_compare_14 rfl (lv_at hl 0 rfl) ?_
          refine lv_iload_n (pc := 15) hx hb d_Mod_compare_15 rfl (lv_at hl 2 rfl) ?_
          refine lv_iconst (v := 1) (pc := 16) hx hb d_Mod_compare_16 (by decide) ?_
          obtain ⟨q1, hq1, hf⟩ := o_bd_e hf
          refine fi_v (pc := 17) (va_runV (As := [.int x2_L2, .int 1]) (rest := []) ⟨hx, hb, hml, hown, hts⟩ ((c_Mod_walk l D K fu hMo sMo_L2 sMthere sMscales sMreferences sMwidths sMlists sMlengths sMvalues sMread_L2 sMlist_L2 sMnext_L2 sMend_L2 sMbegin_L2 sMleft_L2 sMturn_L2 sMfoundOps_L2 sMops_L2 sMkind_L2 sMcode_L2 sMwidth_L2 sMscale_L2 sMlink_L2 sMrepeat_L2 sMbase_L2 sMelementAt_L2 sMpointAt_L2 sMbits x2_L2 1 q1.1 q1.2.1 q1.2.2.1 q1.2.2.2.1 q1.2.2.2.2.1 q1.2.2.2.2.2.1 q1.2.2.2.2.2.2.1 q1.2.2.2.2.2.2.2.1 q1.2.2.2.2.2.2.2.2.1 q1.2.2.2.2.2.2.2.2.2.1 q1.2.2.2.2.2.2.2.2.2.2.1 q1.2.2.2.2.2.2.2.2.2.2.2.1 q1.2.2.2.2.2.2.2.2.2.2.2.2.1 q1.2.2.2.2.2.2.2.2.2.2.2.2.2.1 q1.2.2.2.2.2.2.2.2.2.2.2.2.2.2.1 q1.2.2.2.2.2.2.2.2.2.2.2.2.2.2.2.1 q1.2.2.2.2.2.2.2.2.2.2.2.2.2.2.2.2.1 q1.2.2.2.2.2.2.2.2.2.2.2.2.2.2.2.2.2.1 q1.2.2.2.2.2.2.2.2.2.2.2.2.2.2.2.2.2.2 hq1) _) (cwV 2 hts (gV tw_1396 tw_1398 tp_51 tw_12 tw_1399) rfl rfl rfl (by decide +kernel) ⟨by decide, by decide⟩) ⟨mPre_blind, va_recv hK hP (ci := 10) rfl (fl_at 0 0 rfl rfl), (mPre_fl hK hF hA hP hD hS [0, 1, 2, 3, 4, 5, 6, 7, 8, 9, 10, 11, 12, 13, 14, 15, 16, 17, 18, 19, 20, 21, 22, 23, 24, 25, 26] rfl rfl)⟩ rfl rfl hl.1 rfl (lv_room (Nat.le_of_ble_eq_true rfl)) d_Mod_compare_17 ⟨Nat.zero_le _, Nat.zero_le _⟩) hA hP hD hS [0, 1, 2, 3, 4, 5, 6, 7, 8, 9, 10, 11, 12, 13, 14, 15, 16, 17, 18, 19, 20, 21, 22, 23, 24, 25, 26] rfl rfl (fun H locs hP hD hS => ?_)
          have hP : va_P D vwCl (fl [wMo K hMo q1.1, wRowZ K (fun _ => hMo 1) 320 sMthere, wRowI K (fun _ => hMo 2) 320 sMscales, wRowI K (fun _ => hMo 3) 320 sMreferences, wRowI K (fun _ => hMo 4) 320 sMwidths, wRowI K (fun _ => hMo 5) 408 sMlists, wRowI K (fun _ => hMo 6) 17 sMlengths, wRow K (fun _ => hMo 7) 800 sMvalues, wRow K (fun _ => hMo 8) 800 q1.2.1, wRowI K (fun _ => hMo 9) 90 q1.2.2.1, wRowI K (fun _ => hMo 10) 90 q1.2.2.2.1, wRowI K (fun _ => hMo 11) 90 q1.2.2.2.2.1, wRowI K (fun _ => hMo 12) 90 q1.2.2.2.2.2.1, wRowI K (fun _ => hMo 13) 90 q1.2.2.2.2.2.2.1, wRowI K (fun _ => hMo 14) 90 q1.2.2.2.2.2.2.2.1, wRowI K (fun _ => hMo 15) 360 q1.2.2.2.2.2.2.2.2.1, wRowI K (fun _ => hMo 16) 4 q1.2.2.2.2.2.2.2.2.2.1, wRowI K (fun _ => hMo 17) 101 q1.2.2.2.2.2.2.2.2.2.2.1, wRowI K (fun _ => hMo 18) 101 q1.2.2.2.2.2.2.2.2.2.2.2.1, wRowI K (fun _ => hMo 19) 101 q1.2.2.2.2.2.2.2.2.2.2.2.2.1, wRowI K (fun _ => hMo 20) 101 q1.2.2.2.2.2.2.2.2.2.2.2.2.2.1, wRowI K (fun _ => hMo 21) 101 q1.2.2.2.2.2.2.2.2.2.2.2.2.2.2.1, wRowI K (fun _ => hMo 22) 101 q1.2.2.2.2.2.2.2.2.2.2.2.2.2.2.2.1, wRow K (fun _ => hMo 23) 101 q1.2.2.2.2.2.2.2.2.2.2.2.2.2.2.2.2.1, wRowI K (fun _ => hMo 24) 101 q1.2.2.2.2.2.2.2.2.2.2.2.2.2.2.2.2.2.1, wRowI K (fun _ => hMo 25) 101 q1.2.2.2.2.2.2.2.2.2.2.2.2.2.2.2.2.2.2, wRowZ K (fun _ => hMo 26) 40000 sMbits, wRowI K (fun _ => hMo 29) 101 sMfirstKind, wRowI K (fun _ => hMo 30) 101 sMfirstWidth, wRowI K (fun _ => hMo 31) 101 sMfirstScale, wRow K (fun _ => hMo 32) 101 sMfirstBase]) H := hP
          have hD : va_D A (fl [wMo K hMo q1.1, wRowZ K (fun _ => hMo 1) 320 sMthere, wRowI K (fun _ => hMo 2) 320 sMscales, wRowI K (fun _ => hMo 3) 320 sMreferences, wRowI K (fun _ => hMo 4) 320 sMwidths, wRowI K (fun _ => hMo 5) 408 sMlists, wRowI K (fun _ => hMo 6) 17 sMlengths, wRow K (fun _ => hMo 7) 800 sMvalues, wRow K (fun _ => hMo 8) 800 q1.2.1, wRowI K (fun _ => hMo 9) 90 q1.2.2.1, wRowI K (fun _ => hMo 10) 90 q1.2.2.2.1, wRowI K (fun _ => hMo 11) 90 q1.2.2.2.2.1, wRowI K (fun _ => hMo 12) 90 q1.2.2.2.2.2.1, wRowI K (fun _ => hMo 13) 90 q1.2.2.2.2.2.2.1, wRowI K (fun _ => hMo 14) 90 q1.2.2.2.2.2.2.2.1, wRowI K (fun _ => hMo 15) 360 q1.2.2.2.2.2.2.2.2.1, wRowI K (fun _ => hMo 16) 4 q1.2.2.2.2.2.2.2.2.2.1, wRowI K (fun _ => hMo 17) 101 q1.2.2.2.2.2.2.2.2.2.2.1, wRowI K (fun _ => hMo 18) 101 q1.2.2.2.2.2.2.2.2.2.2.2.1, wRowI K (fun _ => hMo 19) 101 q1.2.2.2.2.2.2.2.2.2.2.2.2.1, wRowI K (fun _ => hMo 20) 101 q1.2.2.2.2.2.2.2.2.2.2.2.2.2.1, wRowI K (fun _ => hMo 21) 101 q1.2.2.2.2.2.2.2.2.2.2.2.2.2.2.1, wRowI K (fun _ => hMo 22) 101 q1.2.2.2.2.2.2.2.2.2.2.2.2.2.2.2.1, wRow K (fun _ => hMo 23) 101 q1.2.2.2.2.2.2.2.2.2.2.2.2.2.2.2.2.1, wRowI K (fun _ => hMo 24) 101 q1.2.2.2.2.2.2.2.2.2.2.2.2.2.2.2.2.2.1, wRowI K (fun _ => hMo 25) 101 q1.2.2.2.2.2.2.2.2.2.2.2.2.2.2.2.2.2.2, wRowZ K (fun _ => hMo 26) 40000 sMbits, wRowI K (fun _ => hMo 29) 101 sMfirstKind, wRowI K (fun _ => hMo 30) 101 sMfirstWidth, wRowI K (fun _ => hMo 31) 101 sMfirstScale, wRow K (fun _ => hMo 32) 101 sMfirstBase]) := hD
          refine lv_iconst (v := 0) (pc := 20) hx hb d_Mod_compare_20 (by decide) ?_
          refine lv_istore_n (lv' := [(3, .int 0), (0, .ref (hMo 0)), (1, .int x1_L2), (2, .int x2_L2)]) (pc := 21) hx hb d_Mod_compare_21 rfl hl (by decide) rfl (fun ls hl => ?_)
          have L22 : ∀ (x2_L22 : Int32) (sMo_L22 : S_Mo) (sMread_L22 : (Nat → Int64)) (sMlist_L22 : (Nat → Int32)) (sMnext_L22 : (Nat → Int32)) (sMend_L22 : (Nat → Int32)) (sMbegin_L22 : (Nat → Int32)) (sMleft_L22 : (Nat → Int32)) (sMturn_L22 : (Nat → Int32)) (sMfoundOps_L22 : (Nat → Int32)) (sMops_L22 : (Nat → Int32)) (sMkind_L22 : (Nat → Int32)) (sMcode_L22 : (Nat → Int32)) (sMwidth_L22 : (Nat → Int32)) (sMscale_L22 : (Nat → Int32)) (sMlink_L22 : (Nat → Int32)) (sMrepeat_L22 : (Nat → Int32)) (sMbase_L22 : (Nat → Int64)) (sMelementAt_L22 : (Nat → Int32)) (sMpointAt_L22 : (Nat → Int32)) (n : Nat) (x3_L22 : Int32) (H : Heap) (locs : List Loc) (ls : Array Slot), va_P D vwCl (fl [wMo K hMo sMo_L22, wRowZ K (fun _ => hMo 1) 320 sMthere, wRowI K (fun _ => hMo 2) 320 sMscales, wRowI K (fun _ => hMo 3) 320 sMreferences, wRowI K (fun _ => hMo 4) 320 sMwidths, wRowI K (fun _ => hMo 5) 408 sMlists, wRowI K (fun _ => hMo 6) 17 sMlengths, wRow K (fun _ => hMo 7) 800 sMvalues, wRow K (fun _ => hMo 8) 800 sMread_L22, wRowI K (fun _ => hMo 9) 90 sMlist_L22, wRowI K (fun _ => hMo 10) 90 sMnext_L22, wRowI K (fun _ => hMo 11) 90 sMend_L22, wRowI K (fun _ => hMo 12) 90 sMbegin_L22, wRowI K (fun _ => hMo 13) 90 sMleft_L22, wRowI K (fun _ => hMo 14) 90 sMturn_L22, wRowI K (fun _ => hMo 15) 360 sMfoundOps_L22, wRowI K (fun _ => hMo 16) 4 sMops_L22, wRowI K (fun _ => hMo 17) 101 sMkind_L22, wRowI K (fun _ => hMo 18) 101 sMcode_L22, wRowI K (fun _ => hMo 19) 101 sMwidth_L22, wRowI K (fun _ => hMo 20) 101 sMscale_L22, wRowI K (fun _ => hMo 21) 101 sMlink_L22, wRowI K (fun _ => hMo 22) 101 sMrepeat_L22, wRow K (fun _ => hMo 23) 101 sMbase_L22, wRowI K (fun _ => hMo 24) 101 sMelementAt_L22, wRowI K (fun _ => hMo 25) 101 sMpointAt_L22, wRowZ K (fun _ => hMo 26) 40000 sMbits, wRowI K (fun _ => hMo 29) 101 sMfirstKind, wRowI K (fun _ => hMo 30) 101 sMfirstWidth, wRowI K (fun _ => hMo 31) 101 sMfirstScale, wRow K (fun _ => hMo 32) 101 sMfirstBase]) H → va_D A (fl [wMo K hMo sMo_L22, wRowZ K (fun _ => hMo 1) 320 sMthere, wRowI K (fun _ => hMo 2) 320 sMscales, wRowI K (fun _ => hMo 3) 320 sMreferences, wRowI K (fun _ => hMo 4) 320 sMwidths, wRowI K (fun _ => hMo 5) 408 sMlists, wRowI K (fun _ => hMo 6) 17 sMlengths, wRow K (fun _ => hMo 7) 800 sMvalues, wRow K (fun _ => hMo 8) 800 sMread_L22, wRowI K (fun _ => hMo 9) 90 sMlist_L22, wRowI K (fun _ => hMo 10) 90 sMnext_L22, wRowI K (fun _ => hMo 11) 90 sMend_L22, wRowI K (fun _ => hMo 12) 90 sMbegin_L22, wRowI K (fun _ => hMo 13) 90 sMleft_L22, wRowI K (fun _ => hMo 14) 90 sMturn_L22, wRowI K (fun _ => hMo 15) 360 sMfoundOps_L22, wRowI K (fun _ => hMo 16) 4 sMops_L22, wRowI K (fun _ => hMo 17) 101 sMkind_L22, wRowI K (fun _ => hMo 18) 101 sMcode_L22, wRowI K (fun _ => hMo 19) 101 sMwidth_L22, wRowI K (fun _ => hMo 20) 101 sMscale_L22, wRowI K (fun _ => hMo 21) 101 sMlink_L22, wRowI K (fun _ => hMo 22) 101 sMrepeat_L22, wRow K (fun _ => hMo 23) 101 sMbase_L22, wRowI K (fun _ => hMo 24) 101 sMelementAt_L22, wRowI K (fun _ => hMo 25) 101 sMpointAt_L22, wRowZ K (fun _ => hMo 26) 40000 sMbits, wRowI K (fun _ => hMo 29) 101 sMfirstKind, wRowI K (fun _ => hMo 30) 101 sMfirstWidth, wRowI K (fun _ => hMo 31) 101 sMfirstScale, wRow K (fun _ => hMo 32) 101 sMfirstBase]) → va_S A s.heap H locs → lv_has ls 4 [(0, .ref (hMo 0)), (1, .int x1_L2), (2, .int x2_L22), (3, .int x3_L22)] → Mod_compare_L22 fu sMthere sMscales sMreferences sMwidths sMlists sMlengths sMvalues sMbits sMfirstKind sMfirstWidth sMfirstScale sMfirstBase x1_L2 x2_L22 sMo_L22 sMread_L22 sMlist_L22 sMnext_L22 sMend_L22 sMbegin_L22 sMleft_L22 sMturn_L22 sMfoundOps_L22 sMops_L22 sMkind_L22 sMcode_L22 sMwidth_L22 sMscale_L22 sMlink_L22 sMrepeat_L22 sMbase_L22 sMelementAt_L22 sMpointAt_L22 (fun y3 => Mod_compare_j52 fu sMthere sMscales sMreferences sMwidths sMlists sMlengths sMvalues sMbits sMfirstKind sMfirstWidth sMfirstScale sMfirstBase (fun v0 v1 v2 v3 v4 v5 v6 v7 v8 v9 v10 v11 v12 v13 v14 v15 v16 v17 v18 v19 => Mod_compare_L2 fu sMthere sMscales sMreferences sMwidths sMlists sMlengths sMvalues sMbits sMfirstKind sMfirstWidth sMfirstScale sMfirstBase x1_L2 n_2 v0 v1 v2 v3 v4 v5 v6 v7 v8 v9 v10 v11 v12 v13 v14 v15 v16 v17 v18 v19) x1_L2 x2_L22 y3 sMo_L22 sMread_L22 sMlist_L22 sMnext_L22 sMend_L22 sMbegin_L22 sMleft_L22 sMturn_L22 sMfoundOps_L22 sMops_L22 sMkind_L22 sMcode_L22 sMwidth_L22 sMscale_L22 sMlink_L22 sMrepeat_L22 sMbase_L22 sMelementAt_L22 sMpointAt_L22) n x3_L22 = some ((sMo', sMread', sMlist', sMnext', sMend', sMbegin', sMleft', sMturn', sMfoundOps', sMops', sMkind', sMcode', sMwidth', sMscale', sMlink', sMrepeat', sMbase', sMelementAt', sMpointAt')) → W p l e rm_Mod_compare s m ([.ref (hMo 0), .int a0] : List Value).toArray below meth c H locs 0 0 (Qv below ([.ref (hMo 0), .int a0] : List Value).toArray s D K A (fl [wMo K hMo sMo', wRowZ K (fun _ => hMo 1) 320 sMthere, wRowI K (fun _ => hMo 2) 320 sMscales, wRowI K (fun _ => hMo 3) 320 sMreferences, wRowI K (fun _ => hMo 4) 320 sMwidths, wRowI K (fun _ => hMo 5) 408 sMlists, wRowI K (fun _ => hMo 6) 17 sMlengths, wRow K (fun _ => hMo 7) 800 sMvalues, wRow K (fun _ => hMo 8) 800 sMread', wRowI K (fun _ => hMo 9) 90 sMlist', wRowI K (fun _ => hMo 10) 90 sMnext', wRowI K (fun _ => hMo 11) 90 sMend', wRowI K (fun _ => hMo 12) 90 sMbegin', wRowI K (fun _ => hMo 13) 90 sMleft', wRowI K (fun _ => hMo 14) 90 sMturn', wRowI K (fun _ => hMo 15) 360 sMfoundOps', wRowI K (fun _ => hMo 16) 4 sMops', wRowI K (fun _ => hMo 17) 101 sMkind', wRowI K (fun _ => hMo 18) 101 sMcode', wRowI K (fun _ => hMo 19) 101 sMwidth', wRowI K (fun _ => hMo 20) 101 sMscale', wRowI K (fun _ => hMo 21) 101 sMlink', wRowI K (fun _ => hMo 22) 101 sMrepeat', wRow K (fun _ => hMo 23) 101 sMbase', wRowI K (fun _ => hMo 24) 101 sMelementAt', wRowI K (fun _ => hMo 25) 101 sMpointAt', wRowZ K (fun _ => hMo 26) 40000 sMbits, wRowI K (fun _ => hMo 29) 101 sMfirstKind, wRowI K (fun _ => hMo 30) 101 sMfirstWidth, wRowI K (fun _ => hMo 31) 101 sMfirstScale, wRow K (fun _ => hMo 32) 101 sMfirstBase])) (F0 m 22 ls []) := by
            intro x2_L22 sMo_L22 sMread_L22 sMlist_L22 sMnext_L22 sMend_L22 sMbegin_L22 sMleft_L22 sMturn_L22 sMfoundOps_L22 sMops_L22 sMkind_L22 sMcode_L22 sMwidth_L22 sMscale_L22 sMlink_L22 sMrepeat_L22 sMbase_L22 sMelementAt_L22 sMpointAt_L22 n
            induction n with
            | zero =>
              intro x3_L22 H locs ls hP hD hS hl hf
              exact absurd hf (fun h => nomatch h)
            | succ n_22 ih_22 =>
              intro x3_L22 H locs ls hP hD hS hl hf
              refine lv_iload_n (pc := 22) hx hb d_Mod_compare_22 rfl (lv_at hl 3 rfl) ?_
              refine lv_aload_n (pc := 23) hx hb d_Mod_compare_23 rfl (lv_at hl 0 rfl) ?_
              refine va_get (D := D) (ci := 10) (v := .int (Mo_fields sMo_L22)) (C := R_Mod) (T := T_Mod) (N := 61) (pc := 24) hx hb hts (fun w h => List.mem_cons_of_mem _ (in_Mod w h)) hown hK hP _ (fl_at 0 0 rfl rfl) rfl 22 (by decide) (hts _ (List.mem_cons_of_mem _ tw_1115)) (fun _ h9 => h9) rfl d_Mod_compare_24 ?_
              refine lv_icmp_ge (tgt := 52) (pc := 27) hx hb d_Mod_compare_27 (by decide) (fun c5 => ?_) (fun c5 => ?_)
              · replace hf := o_t c5 hf
                exact J52 x2_L22 x3_L22 sMo_L22 sMread_L22 sMlist_L22 sMnext_L22 sMend_L22 sMbegin_L22 sMleft_L22 sMturn_L22 sMfoundOps_L22 sMops_L22 sMkind_L22 sMcode_L22 sMwidth_L22 sMscale_L22 sMlink_L22 sMrepeat_L22 sMbase_L22 sMelementAt_L22 sMpointAt_L22 H locs ls hP hD hS (lv_sub hl [0, 1, 2, 3] rfl) hf
              · replace hf := o_f c5 hf
                refine lv_iload_n (pc := 30) hx hb d_Mod_compare_30 rfl (lv_at hl 3 rfl) ?_
                refine lv_aload_n (pc := 31) hx hb d_Mod_compare_31 rfl (lv_at hl 0 rfl) ?_
                refine va_get (D := D) (ci := 10) (v := .int (Mo_firstFields sMo_L22)) (C := R_Mod) (T := T_Mod) (N := 61) (pc := 32) hx hb hts (fun w h => List.mem_cons_of_mem _ (in_Mod w h)) hown hK hP _ (fl_at 0 0 rfl rfl) rfl 52 (by decide) (hts _ (List.mem_cons_of_mem _ tw_1145)) (fun _ h9 => h9) rfl d_Mod_compare_32 ?_
                refine lv_icmp_ge (tgt := 52) (pc := 35) hx hb d_Mod_compare_35 (by decide) (fun c4 => ?_) (fun c4 => ?_)
                · replace hf := o_t c4 hf
                  exact J52 x2_L22 x3_L22 sMo_L22 sMread_L22 sMlist_L22 sMnext_L22 sMend_L22 sMbegin_L22 sMleft_L22 sMturn_L22 sMfoundOps_L22 sMops_L22 sMkind_L22 sMcode_L22 sMwidth_L22 sMscale_L22 sMlink_L22 sMrepeat_L22 sMbase_L22 sMelementAt_L22 sMpointAt_L22 H locs ls hP hD hS (lv_sub hl [0, 1, 2, 3] rfl) hf
                · replace hf := o_f c4 hf
                  refine lv_aload_n (pc := 38) hx hb d_Mod_compare_38 rfl (lv_at hl 0 rfl) ?_
                  refine lv_iload_n (pc := 39) hx hb d_Mod_compare_39 rfl (lv_at hl 3 rfl) ?_
                  obtain ⟨q2, hq2, hf⟩ := o_bd_e hf
                  refine fi_i (pc := 40) (va_runV (As := [.int x3_L22]) (rest := []) ⟨hx, hb, hml, hown, hts⟩ ((c_Mod_isLike l D K hMo sMo_L22 sMvalues sMkind_L22 sMwidth_L22 sMscale_L22 sMbase_L22 sMfirstKind sMfirstWidth sMfirstScale sMfirstBase x3_L22 q2 hq2) _) (cwV 1 hts (gV tw_1489 tw_1491 tp_69 tw_12 tw_1492) rfl rfl rfl (by decide +kernel) ⟨by decide, by decide⟩) ⟨mPre_blind, va_recv hK hP (ci := 10) rfl (fl_at 0 0 rfl rfl), (mPre_fl hK hF hA hP hD hS [0, 7, 17, 19, 20, 23, 27, 28, 29, 30] rfl rfl)⟩ rfl rfl hl.1 rfl (lv_room (Nat.le_of_ble_eq_true rfl)) d_Mod_compare_40 ⟨Nat.zero_le _, Nat.zero_le _⟩) hA hP hD hS [0, 7, 17, 19, 20, 23, 27, 28, 29, 30] rfl rfl (fun H locs hP hD hS => ?_)
                  have hP : va_P D vwCl (fl [wMo K hMo sMo_L22, wRowZ K (fun _ => hMo 1) 320 sMthere, wRowI K (fun _ => hMo 2) 320 sMscales, wRowI K (fun _ => hMo 3) 320 sMreferences, wRowI K (fun _ => hMo 4) 320 sMwidths, wRowI K (fun _ => hMo 5) 408 sMlists, wRowI K (fun _ => hMo 6) 17 sMlengths, wRow K (fun _ => hMo 7) 800 sMvalues, wRow K (fun _ => hMo 8) 800 sMread_L22, wRowI K (fun _ => hMo 9) 90 sMlist_L22, wRowI K (fun _ => hMo 10) 90 sMnext_L22, wRowI K (fun _ => hMo 11) 90 sMend_L22, wRowI K (fun _ => hMo 12) 90 sMbegin_L22, wRowI K (fun _ => hMo 13) 90 sMleft_L22, wRowI K (fun _ => hMo 14) 90 sMturn_L22, wRowI K (fun _ => hMo 15) 360 sMfoundOps_L22, wRowI K (fun _ => hMo 16) 4 sMops_L22, wRowI K (fun _ => hMo 17) 101 sMkind_L22, wRowI K (fun _ => hMo 18) 101 sMcode_L22, wRowI K (fun _ => hMo 19) 101 sMwidth_L22, wRowI K (fun _ => hMo 20) 101 sMscale_L22, wRowI K (fun _ => hMo 21) 101 sMlink_L22, wRowI K (fun _ => hMo 22) 101 sMrepeat_L22, wRow K (fun _ => hMo 23) 101 sMbase_L22, wRowI K (fun _ => hMo 24) 101 sMelementAt_L22, wRowI K (fun _ => hMo 25) 101 sMpointAt_L22, wRowZ K (fun _ => hMo 26) 40000 sMbits, wRowI K (fun _ => hMo 29) 101 sMfirstKind, wRowI K (fun _ => hMo 30) 101 sMfirstWidth, wRowI K (fun _ => hMo 31) 101 sMfirstScale, wRow K (fun _ => hMo 32) 101 sMfirstBase]) H := hP
                  have hD : va_D A (fl [wMo K hMo sMo_L22, wRowZ K (fun _ => hMo 1) 320 sMthere, wRowI K (fun _ => hMo 2) 320 sMscales, wRowI K (fun _ => hMo 3) 320 sMreferences, wRowI K (fun _ => hMo 4) 320 sMwidths, wRowI K (fun _ => hMo 5) 408 sMlists, wRowI K (fun _ => hMo 6) 17 sMlengths, wRow K (fun _ => hMo 7) 800 sMvalues, wRow K (fun _ => hMo 8) 800 sMread_L22, wRowI K (fun _ => hMo 9) 90 sMlist_L22, wRowI K (fun _ => hMo 10) 90 sMnext_L22, wRowI K (fun _ => hMo 11) 90 sMend_L22, wRowI K (fun _ => hMo 12) 90 sMbegin_L22, wRowI K (fun _ => hMo 13) 90 sMleft_L22, wRowI K (fun _ => hMo 14) 90 sMturn_L22, wRowI K (fun _ => hMo 15) 360 sMfoundOps_L22, wRowI K (fun _ => hMo 16) 4 sMops_L22, wRowI K (fun _ => hMo 17) 101 sMkind_L22, wRowI K (fun _ => hMo 18) 101 sMcode_L22, wRowI K (fun _ => hMo 19) 101 sMwidth_L22, wRowI K (fun _ => hMo 20) 101 sMscale_L22, wRowI K (fun _ => hMo 21) 101 sMlink_L22, wRowI K (fun _ => hMo 22) 101 sMrepeat_L22, wRow K (fun _ => hMo 23) 101 sMbase_L22, wRowI K (fun _ => hMo 24) 101 sMelementAt_L22, wRowI K (fun _ => hMo 25) 101 sMpointAt_L22, wRowZ K (fun _ => hMo 26) 40000 sMbits, wRowI K (fun _ => hMo 29) 101 sMfirstKind, wRowI K (fun _ => hMo 30) 101 sMfirstWidth, wRowI K (fun _ => hMo 31) 101 sMfirstScale, wRow K (fun _ => hMo 32) 101 sMfirstBase]) := hD
                  refine lv_if_eq (tgt := 52) (pc := 43) hx hb d_Mod_compare_43 (by decide) (fun c3 => ?_) (fun c3 => ?_)
                  · replace hf := o_t c3 hf
                    exact J52 x2_L22 x3_L22 sMo_L22 sMread_L22 sMlist_L22 sMnext_L22 sMend_L22 sMbegin_L22 sMleft_L22 sMturn_L22 sMfoundOps_L22 sMops_L22 sMkind_L22 sMcode_L22 sMwidth_L22 sMscale_L22 sMlink_L22 sMrepeat_L22 sMbase_L22 sMelementAt_L22 sMpointAt_L22 H locs ls hP hD hS (lv_sub hl [0, 1, 2, 3] rfl) hf
                  · replace hf := o_f c3 hf
                    refine lv_iinc (v := x3_L22 + 1) (lv' := [(3, .int (x3_L22 + 1)), (0, .ref (hMo 0)), (1, .int x1_L2), (2, .int x2_L22)]) (pc := 46) hx hb d_Mod_compare_46 hl (k := 3) rfl rfl (by decide) rfl (fun ls hl => ?_)
                    refine lv_goto (tgt := 22) (pc := 49) hx hb d_Mod_compare_49 (by decide) ?_
                    exact ih_22 (x3_L22 + 1) H locs ls hP hD hS (lv_sub hl [1, 2, 3, 0] rfl) hf
          exact L22 x2_L2 q1.1 q1.2.1 q1.2.2.1 q1.2.2.2.1 q1.2.2.2.2.1 q1.2.2.2.2.2.1 q1.2.2.2.2.2.2.1 q1.2.2.2.2.2.2.2.1 q1.2.2.2.2.2.2.2.2.1 q1.2.2.2.2.2.2.2.2.2.1 q1.2.2.2.2.2.2.2.2.2.2.1 q1.2.2.2.2.2.2.2.2.2.2.2.1 q1.2.2.2.2.2.2.2.2.2.2.2.2.1 q1.2.2.2.2.2.2.2.2.2.2.2.2.2.1 q1.2.2.2.2.2.2.2.2.2.2.2.2.2.2.1 q1.2.2.2.2.2.2.2.2.2.2.2.2.2.2.2.1 q1.2.2.2.2.2.2.2.2.2.2.2.2.2.2.2.2.1 q1.2.2.2.2.2.2.2.2.2.2.2.2.2.2.2.2.2.1 q1.2.2.2.2.2.2.2.2.2.2.2.2.2.2.2.2.2.2 fu 0 H locs ls hP hD hS (lv_sub hl [1, 2, 3, 0] rfl) hf
  exact L2 a0 fu 1 sMo sMread sMlist sMnext sMend sMbegin sMleft sMturn sMfoundOps sMops sMkind sMcode sMwidth sMscale sMlink sMrepeat sMbase sMelementAt sMpointAt H locs ls hP hD hS (lv_sub hl [1, 2, 0] rfl) hf
def Mod_layPacked_j128 (fu : Nat) (sMvalues : (Nat → Int64)) (sMkind : (Nat → Int32)) (sMwidth : (Nat → Int32)) (sMbase : (Nat → Int64)) (kc_19 : Int64 → Int64 → Int32 → Int32 → Option (S_Mo × (Nat → Int32))) (ke_19 : Int64 → Int64 → Int32 → Option (S_Mo × (Nat → Int32))) (x1_L19 : Int32) (x2_L19 : Int32) (sMo_L19 : S_Mo) (sMbits_L19 : (Nat → Int32)) (x3_j128 : Int64) (x7_j128 : Int32) (x8_j128 : Int32) (t0_j128 : Int64) : Option (S_Mo × (Nat → Int32)) := kc_19 x3_j128 t0_j128 x7_j128 (x8_j128 + 1)
def Mod_layPacked_j126 (fu : Nat) (sMvalues : (Nat → Int64)) (sMkind : (Nat → Int32)) (sMwidth : (Nat → Int32)) (sMbase : (Nat → Int64)) (kc_19 : Int64 → Int64 → Int32 → Int32 → Option (S_Mo × (Nat → Int32))) (ke_19 : Int64 → Int64 → Int32 → Option (S_Mo × (Nat → Int32))) (x1_L19 : Int32) (x2_L19 : Int32) (sMo_L19 : S_Mo) (sMbits_L19 : (Nat → Int32)) (x3_j126 : Int64) (x5_j126 : Int64) (x7_j126 : Int32) (x8_j126 : Int32) : Option (S_Mo × (Nat → Int32)) := Mod_layPacked_j128 fu sMvalues sMkind sMwidth sMbase kc_19 ke_19 x1_L19 x2_L19 sMo_L19 sMbits_L19 x3_j126 x7_j126 x8_j126 x5_j126
def Mod_layPacked_j107 (fu : Nat) (sMvalues : (Nat → Int64)) (sMkind : (Nat → Int32)) (sMwidth : (Nat → Int32)) (sMbase : (Nat → Int64)) (kc_19 : Int64 → Int64 → Int32 → Int32 → Option (S_Mo × (Nat → Int32))) (ke_19 : Int64 → Int64 → Int32 → Option (S_Mo × (Nat → Int32))) (x1_L19 : Int32) (x2_L19 : Int32) (sMo_L19 : S_Mo) (sMbits_L19 : (Nat → Int32)) (x5_j107 : Int64) (x7_j107 : Int32) (x8_j107 : Int32) (x11_j107 : Int64) (x13_j107 : Int32) (t0_j107 : Int64) : Option (S_Mo × (Nat → Int32)) := if x13_j107 = 0 then if x11_j107 ≤ x5_j107 then Mod_layPacked_j126 fu sMvalues sMkind sMwidth sMbase kc_19 ke_19 x1_L19 x2_L19 sMo_L19 sMbits_L19 t0_j107 x5_j107 x7_j107 x8_j107 else Mod_layPacked_j128 fu sMvalues sMkind sMwidth sMbase kc_19 ke_19 x1_L19 x2_L19 sMo_L19 sMbits_L19 t0_j107 x7_j107 x8_j107 x11_j107 else Mod_layPacked_j126 fu sMvalues sMkind sMwidth sMbase kc_19 ke_19 x1_L19 x2_L19 sMo_L19 sMbits_L19 t0_j107 x5_j107 x7_j107 x8_j107
def Mod_layPacked_j106 (fu : Nat) (sMvalues : (Nat → Int64)) (sMkind : (Nat → Int32)) (sMwidth : (Nat → Int32)) (sMbase : (Nat → Int64)) (kc_19 : Int64 → Int64 → Int32 → Int32 → Option (S_Mo × (Nat → Int32))) (ke_19 : Int64 → Int64 → Int32 → Option (S_Mo × (Nat → Int32))) (x1_L19 : Int32) (x2_L19 : Int32) (sMo_L19 : S_Mo) (sMbits_L19 : (Nat → Int32)) (x3_j106 : Int64) (x5_j106 : Int64) (x7_j106 : Int32) (x8_j106 : Int32) (x11_j106 : Int64) (x13_j106 : Int32) : Option (S_Mo × (Nat → Int32)) := Mod_layPacked_j107 fu sMvalues sMkind sMwidth sMbase kc_19 ke_19 x1_L19 x2_L19 sMo_L19 sMbits_L19 x5_j106 x7_j106 x8_j106 x11_j106 x13_j106 x3_j106
def Mod_layPacked_j86 (fu : Nat) (sMvalues : (Nat → Int64)) (sMkind : (Nat → Int32)) (sMwidth : (Nat → Int32)) (sMbase : (Nat → Int64)) (kc_19 : Int64 → Int64 → Int32 → Int32 → Option (S_Mo × (Nat → Int32))) (ke_19 : Int64 → Int64 → Int32 → Option (S_Mo × (Nat → Int32))) (x1_L19 : Int32) (x2_L19 : Int32) (sMo_L19 : S_Mo) (sMbits_L19 : (Nat → Int32)) (x3_j86 : Int64) (x5_j86 : Int64) (x8_j86 : Int32) (x11_j86 : Int64) (x13_j86 : Int32) (t0_j86 : Int32) (t1_j86 : Int32) : Option (S_Mo × (Nat → Int32)) := if x13_j86 = 0 then if x3_j86 ≤ x11_j86 then Mod_layPacked_j106 fu sMvalues sMkind sMwidth sMbase kc_19 ke_19 x1_L19 x2_L19 sMo_L19 sMbits_L19 x3_j86 x5_j86 (t0_j86 + t1_j86) x8_j86 x11_j86 x13_j86 else Mod_layPacked_j107 fu sMvalues sMkind sMwidth sMbase kc_19 ke_19 x1_L19 x2_L19 sMo_L19 sMbits_L19 x5_j86 (t0_j86 + t1_j86) x8_j86 x11_j86 x13_j86 x11_j86 else Mod_layPacked_j106 fu sMvalues sMkind sMwidth sMbase kc_19 ke_19 x1_L19 x2_L19 sMo_L19 sMbits_L19 x3_j86 x5_j86 (t0_j86 + t1_j86) x8_j86 x11_j86 x13_j86
def Mod_layPacked_j72 (fu : Nat) (sMvalues : (Nat → Int64)) (sMkind : (Nat → Int32)) (sMwidth : (Nat → Int32)) (sMbase : (Nat → Int64)) (kc_19 : Int64 → Int64 → Int32 → Int32 → Option (S_Mo × (Nat → Int32))) (ke_19 : Int64 → Int64 → Int32 → Option (S_Mo × (Nat → Int32))) (x1_L19 : Int32) (x2_L19 : Int32) (sMo_L19 : S_Mo) (sMbits_L19 : (Nat → Int32)) (x3_j72 : Int64) (x5_j72 : Int64) (x7_j72 : Int32) (x8_j72 : Int32) (x11_j72 : Int64) (t0_j72 : Int32) : Option (S_Mo × (Nat → Int32)) := if t0_j72 = 0 then Mod_layPacked_j86 fu sMvalues sMkind sMwidth sMbase kc_19 ke_19 x1_L19 x2_L19 sMo_L19 sMbits_L19 x3_j72 x5_j72 x8_j72 x11_j72 t0_j72 x7_j72 0 else Mod_layPacked_j86 fu sMvalues sMkind sMwidth sMbase kc_19 ke_19 x1_L19 x2_L19 sMo_L19 sMbits_L19 x3_j72 x5_j72 x8_j72 x11_j72 t0_j72 x7_j72 1
def Mod_layPacked_j71 (fu : Nat) (sMvalues : (Nat → Int64)) (sMkind : (Nat → Int32)) (sMwidth : (Nat → Int32)) (sMbase : (Nat → Int64)) (kc_19 : Int64 → Int64 → Int32 → Int32 → Option (S_Mo × (Nat → Int32))) (ke_19 : Int64 → Int64 → Int32 → Option (S_Mo × (Nat → Int32))) (x1_L19 : Int32) (x2_L19 : Int32) (sMo_L19 : S_Mo) (sMbits_L19 : (Nat → Int32)) (x3_j71 : Int64) (x5_j71 : Int64) (x7_j71 : Int32) (x8_j71 : Int32) (x11_j71 : Int64) : Option (S_Mo × (Nat → Int32)) := Mod_layPacked_j72 fu sMvalues sMkind sMwidth sMbase kc_19 ke_19 x1_L19 x2_L19 sMo_L19 sMbits_L19 x3_j71 x5_j71 x7_j71 x8_j71 x11_j71 0
def Mod_layPacked_L19 (fu : Nat) (sMvalues : (Nat → Int64)) (sMkind : (Nat → Int32)) (sMwidth : (Nat → Int32)) (sMbase : (Nat → Int64)) (x1_L19 : Int32) (x2_L19 : Int32) (sMo_L19 : S_Mo) (sMbits_L19 : (Nat → Int32)) (ke_19 : Int64 → Int64 → Int32 → Option (S_Mo × (Nat → Int32))) : Nat → Int64 → Int64 → Int32 → Int32 → Option (S_Mo × (Nat → Int32))
  | 0, _, _, _, _ => none
  | n + 1, x3_L19, x5_L19, x7_L19, x8_L19 => if x2_L19 ≤ x8_L19 then ke_19 x3_L19 x5_L19 x7_L19 else o_gd (o_in ((100 * x8_L19) + x1_L19) 800) (o_lt (sMvalues ((100 * x8_L19) + x1_L19 : Int32).toNatClampNeg) fun u4 => (o_bd (Mod_raw sMo_L19 sMkind sMwidth sMbase x1_L19 u4) fun q5 => (if u4 = ((-9000000000000000000)) then o_gd (o_in x1_L19 101) (if (sMkind (x1_L19 : Int32).toNatClampNeg) = 3 then Mod_layPacked_j71 fu sMvalues sMkind sMwidth sMbase (fun v0 v1 v2 v3 => Mod_layPacked_L19 fu sMvalues sMkind sMwidth sMbase x1_L19 x2_L19 sMo_L19 sMbits_L19 ke_19 n v0 v1 v2 v3) ke_19 x1_L19 x2_L19 sMo_L19 sMbits_L19 x3_L19 x5_L19 x7_L19 x8_L19 q5 else Mod_layPacked_j72 fu sMvalues sMkind sMwidth sMbase (fun v0 v1 v2 v3 => Mod_layPacked_L19 fu sMvalues sMkind sMwidth sMbase x1_L19 x2_L19 sMo_L19 sMbits_L19 ke_19 n v0 v1 v2 v3) ke_19 x1_L19 x2_L19 sMo_L19 sMbits_L19 x3_L19 x5_L19 x7_L19 x8_L19 q5 1) else Mod_layPacked_j71 fu sMvalues sMkind sMwidth sMbase (fun v0 v1 v2 v3 => Mod_layPacked_L19 fu sMvalues sMkind sMwidth sMbase x1_L19 x2_L19 sMo_L19 sMbits_L19 ke_19 n v0 v1 v2 v3) ke_19 x1_L19 x2_L19 sMo_L19 sMbits_L19 x3_L19 x5_L19 x7_L19 x8_L19 q5)))
def Mod_layPacked_L183 (fu : Nat) (sMvalues : (Nat → Int64)) (sMkind : (Nat → Int32)) (sMwidth : (Nat → Int32)) (sMbase : (Nat → Int64)) (x1_L183 : Int32) (x2_L183 : Int32) (x3_L183 : Int64) (x5_L183 : Int64) (sMo_L183 : S_Mo) (sMbits_L183 : (Nat → Int32)) (ke_183 : Int32 → Option (S_Mo × (Nat → Int32))) : Nat → Int32 → Option (S_Mo × (Nat → Int32))
  | 0, _ => none
  | n + 1, x8_L183 => o_bd (Mod_most x8_L183) fun q20 => (if (x5_L183 - x3_L183) < q20 then ke_183 x8_L183 else Mod_layPacked_L183 fu sMvalues sMkind sMwidth sMbase x1_L183 x2_L183 x3_L183 x5_L183 sMo_L183 sMbits_L183 ke_183 n (x8_L183 + 1))
def Mod_layPacked_j272 (fu : Nat) (sMvalues : (Nat → Int64)) (sMkind : (Nat → Int32)) (sMwidth : (Nat → Int32)) (sMbase : (Nat → Int64)) (kc_214 : Int32 → S_Mo → (Nat → Int32) → Option (S_Mo × (Nat → Int32))) (x1_L214 : Int32) (x2_L214 : Int32) (x3_L214 : Int64) (x8_L214 : Int32) (x10_j272 : Int32) (t1_j272 : Int64) (sMo_j272 : S_Mo) (sMbits_j272 : (Nat → Int32)) : Option (S_Mo × (Nat → Int32)) := o_bd (Mod_lay fu t1_j272 x8_L214 sMo_j272 sMbits_j272) fun q31 => (kc_214 (x10_j272 + 1) q31.1 q31.2)
def Mod_layPacked_L214 (fu : Nat) (sMvalues : (Nat → Int64)) (sMkind : (Nat → Int32)) (sMwidth : (Nat → Int32)) (sMbase : (Nat → Int64)) (x1_L214 : Int32) (x2_L214 : Int32) (x3_L214 : Int64) (x8_L214 : Int32) : Nat → Int32 → S_Mo → (Nat → Int32) → Option (S_Mo × (Nat → Int32))
  | 0, _, _, _ => none
  | n + 1, x10_L214, sMo_L214, sMbits_L214 => if x2_L214 ≤ x10_L214 then some ((sMo_L214, sMbits_L214)) else if x8_L214 ≤ 0 then some ((sMo_L214, sMbits_L214)) else o_gd (o_in ((100 * x10_L214) + x1_L214) 800) (if (sMvalues ((100 * x10_L214) + x1_L214 : Int32).toNatClampNeg) = ((-9000000000000000000)) then o_bd (Mod_most x8_L214) fun q27 => (Mod_layPacked_j272 fu sMvalues sMkind sMwidth sMbase (fun v0 v1 v2 => Mod_layPacked_L214 fu sMvalues sMkind sMwidth sMbase x1_L214 x2_L214 x3_L214 x8_L214 n v0 v1 v2) x1_L214 x2_L214 x3_L214 x8_L214 x10_L214 q27 sMo_L214 sMbits_L214) else o_gd (o_in ((100 * x10_L214) + x1_L214) 800) (o_bd (Mod_raw sMo_L214 sMkind sMwidth sMbase x1_L214 (sMvalues ((100 * x10_L214) + x1_L214 : Int32).toNatClampNeg)) fun q26 => (Mod_layPacked_j272 fu sMvalues sMkind sMwidth sMbase (fun v0 v1 v2 => Mod_layPacked_L214 fu sMvalues sMkind sMwidth sMbase x1_L214 x2_L214 x3_L214 x8_L214 n v0 v1 v2) x1_L214 x2_L214 x3_L214 x8_L214 x10_L214 (q26 - x3_L214) sMo_L214 sMbits_L214)))
def Mod_layPacked_j202 (fu : Nat) (sMvalues : (Nat → Int64)) (sMkind : (Nat → Int32)) (sMwidth : (Nat → Int32)) (sMbase : (Nat → Int64)) (x1_j202 : Int32) (x2_j202 : Int32) (x3_j202 : Int64) (x8_j202 : Int32) (sMo_j202 : S_Mo) (sMbits_j202 : (Nat → Int32)) : Option (S_Mo × (Nat → Int32)) := o_bd (Mod_lay fu ((x8_j202 : Int32).toInt64) 6 sMo_j202 sMbits_j202) fun q23 => (Mod_layPacked_L214 fu sMvalues sMkind sMwidth sMbase x1_j202 x2_j202 x3_j202 x8_j202 fu 0 q23.1 q23.2)
def Mod_layPacked_j173 (fu : Nat) (sMvalues : (Nat → Int64)) (sMkind : (Nat → Int32)) (sMwidth : (Nat → Int32)) (sMbase : (Nat → Int64)) (x1_j173 : Int32) (x2_j173 : Int32) (x3_j173 : Int64) (x5_j173 : Int64) (x8_j173 : Int32) (t0_j173 : Int32) (sMo_j173 : S_Mo) (sMbits_j173 : (Nat → Int32)) : Option (S_Mo × (Nat → Int32)) := if t0_j173 = 0 then Mod_layPacked_L183 fu sMvalues sMkind sMwidth sMbase x1_j173 x2_j173 x3_j173 x5_j173 sMo_j173 sMbits_j173 (fun y8 => Mod_layPacked_j202 fu sMvalues sMkind sMwidth sMbase x1_j173 x2_j173 x3_j173 y8 sMo_j173 sMbits_j173) fu 1 else Mod_layPacked_j202 fu sMvalues sMkind sMwidth sMbase x1_j173 x2_j173 x3_j173 x8_j173 sMo_j173 sMbits_j173
def Mod_layPacked_j168 (fu : Nat) (sMvalues : (Nat → Int64)) (sMkind : (Nat → Int32)) (sMwidth : (Nat → Int32)) (sMbase : (Nat → Int64)) (x1_j168 : Int32) (x2_j168 : Int32) (x3_j168 : Int64) (x5_j168 : Int64) (x8_j168 : Int32) (sMo_j168 : S_Mo) (sMbits_j168 : (Nat → Int32)) : Option (S_Mo × (Nat → Int32)) := Mod_layPacked_j173 fu sMvalues sMkind sMwidth sMbase x1_j168 x2_j168 x3_j168 x5_j168 x8_j168 1 sMo_j168 sMbits_j168
def Mod_layPacked_j172 (fu : Nat) (sMvalues : (Nat → Int64)) (sMkind : (Nat → Int32)) (sMwidth : (Nat → Int32)) (sMbase : (Nat → Int64)) (x1_j172 : Int32) (x2_j172 : Int32) (x3_j172 : Int64) (x5_j172 : Int64) (x8_j172 : Int32) (sMo_j172 : S_Mo) (sMbits_j172 : (Nat → Int32)) : Option (S_Mo × (Nat → Int32)) := Mod_layPacked_j173 fu sMvalues sMkind sMwidth sMbase x1_j172 x2_j172 x3_j172 x5_j172 x8_j172 0 sMo_j172 sMbits_j172
def Mod_layPacked_j136 (fu : Nat) (sMvalues : (Nat → Int64)) (sMkind : (Nat → Int32)) (sMwidth : (Nat → Int32)) (sMbase : (Nat → Int64)) (x1_j136 : Int32) (x2_j136 : Int32) (x3_j136 : Int64) (x5_j136 : Int64) (x7_j136 : Int32) (sMo_j136 : S_Mo) (sMbits_j136 : (Nat → Int32)) : Option (S_Mo × (Nat → Int32)) := o_gd (o_in x1_j136 101) (o_bd (Mod_lay fu x3_j136 (sMwidth (x1_j136 : Int32).toNatClampNeg) sMo_j136 sMbits_j136) fun q16 => (if x7_j136 = x2_j136 then Mod_layPacked_j168 fu sMvalues sMkind sMwidth sMbase x1_j136 x2_j136 x3_j136 x5_j136 0 q16.1 q16.2 else if x7_j136 = 0 then if x3_j136 = x5_j136 then Mod_layPacked_j168 fu sMvalues sMkind sMwidth sMbase x1_j136 x2_j136 x3_j136 x5_j136 0 q16.1 q16.2 else Mod_layPacked_j172 fu sMvalues sMkind sMwidth sMbase x1_j136 x2_j136 x3_j136 x5_j136 0 q16.1 q16.2 else Mod_layPacked_j172 fu sMvalues sMkind sMwidth sMbase x1_j136 x2_j136 x3_j136 x5_j136 0 q16.1 q16.2))
def Mod_layPacked (fu : Nat) (sMvalues : (Nat → Int64)) (sMkind : (Nat → Int32)) (sMwidth : (Nat → Int32)) (sMbase : (Nat → Int64)) (a0 : Int32) (a1 : Int32) (sMo : S_Mo) (sMbits : (Nat → Int32)) : Option (S_Mo × (Nat → Int32)) := o_gd (o_in a0 101) (o_bd (Mod_most (sMwidth (a0 : Int32).toNatClampNeg)) fun q2 => (Mod_layPacked_L19 fu sMvalues sMkind sMwidth sMbase a0 a1 sMo sMbits (fun y3 y5 y7 => Mod_layPacked_j136 fu sMvalues sMkind sMwidth sMbase a0 a1 y3 y5 y7 sMo sMbits) fu q2 0 0 0))
abbrev rm_Mod_layPacked : Room := { frames := 2, cells := 0, slots := 0, locals := 43 }
set_option maxHeartbeats 4000000 in
set_option maxRecDepth 100000 in
theorem c_Mod_layPacked (l : Launch) (D : va_G) (K : Nat → ClassId) (fu : Nat) (hMo : Nat → Nat) (sMo : S_Mo) (sMvalues : (Nat → Int64)) (sMkind : (Nat → Int32)) (sMwidth : (Nat → Int32)) (sMbase : (Nat → Int64)) (sMbits : (Nat → Int32)) (a0 : Int32) (a1 : Int32) (sMo' : S_Mo) (sMbits' : (Nat → Int32)) (hf : Mod_layPacked fu sMvalues sMkind sMwidth sMbase a0 a1 sMo sMbits = some ((sMo', sMbits'))) : mv l D K y_Mod_layPacked ws_Mod_layPacked rm_Mod_layPacked [.ref (hMo 0), .int a0, .int a1] (fl [wMo K hMo sMo, wRow K (fun _ => hMo 7) 800 sMvalues, wRowI K (fun _ => hMo 17) 101 sMkind, wRowI K (fun _ => hMo 19) 101 sMwidth, wRow K (fun _ => hMo 23) 101 sMbase, wRowZ K (fun _ => hMo 26) 40000 sMbits]) (fl [wMo K hMo sMo', wRow K (fun _ => hMo 7) 800 sMvalues, wRowI K (fun _ => hMo 17) 101 sMkind, wRowI K (fun _ => hMo 19) 101 sMwidth, wRow K (fun _ => hMo 23) 101 sMbase, wRowZ K (fun _ => hMo 26) 40000 sMbits']) := by
  refine mv_of (cc := b_Mod_layPacked) (maxL := 14) (own := "ObsMessagesModel") (by decide) rfl rfl (Nat.le_of_ble_eq_true rfl) ?_
  intro p e s m below meth c A ls hC hP hD hS hl
  obtain ⟨hx, hb, hml, hown, hts, hr, hlocks, hK, hF, hA⟩ := hC
  have hP : va_P D vwCl (fl [wMo K hMo sMo, wRow K (fun _ => hMo 7) 800 sMvalues, wRowI K (fun _ => hMo 17) 101 sMkind, wRowI K (fun _ => hMo 19) 101 sMwidth, wRow K (fun _ => hMo 23) 101 sMbase, wRowZ K (fun _ => hMo 26) 40000 sMbits]) s.heap := hP
  have hl : lv_has ls 14 [(0, .ref (hMo 0)), (1, .int a0), (2, .int a1)] := hl
  suffices hW : ∀ (H : Heap) (locs : List Loc), va_P D vwCl (fl [wMo K hMo sMo, wRow K (fun _ => hMo 7) 800 sMvalues, wRowI K (fun _ => hMo 17) 101 sMkind, wRowI K (fun _ => hMo 19) 101 sMwidth, wRow K (fun _ => hMo 23) 101 sMbase, wRowZ K (fun _ => hMo 26) 40000 sMbits]) H → va_S A s.heap H locs → W p l e rm_Mod_layPacked s m ([.ref (hMo 0), .int a0, .int a1] : List Value).toArray below meth c H locs 0 0 (Qv below ([.ref (hMo 0), .int a0, .int a1] : List Value).toArray s D K A (fl [wMo K hMo sMo', wRow K (fun _ => hMo 7) 800 sMvalues, wRowI K (fun _ => hMo 17) 101 sMkind, wRowI K (fun _ => hMo 19) 101 sMwidth, wRow K (fun _ => hMo 23) 101 sMbase, wRowZ K (fun _ => hMo 26) 40000 sMbits'])) (F0 m 0 ls []) from hW s.heap [] hP hS
  clear hP hS
  intro H locs hP hS
  have J202 : ∀ (x1_j202 : Int32) (x2_j202 : Int32) (x3_j202 : Int64) (x8_j202 : Int32) (sMo_j202 : S_Mo) (sMbits_j202 : (Nat → Int32)) (H : Heap) (locs : List Loc) (ls : Array Slot), va_P D vwCl (fl [wMo K hMo sMo_j202, wRow K (fun _ => hMo 7) 800 sMvalues, wRowI K (fun _ => hMo 17) 101 sMkind, wRowI K (fun _ => hMo 19) 101 sMwidth, wRow K (fun _ => hMo 23) 101 sMbase, wRowZ K (fun _ => hMo 26) 40000 sMbits_j202]) H → va_D A (fl [wMo K hMo sMo_j202, wRow K (fun _ => hMo 7) 800 sMvalues, wRowI K (fun _ => hMo 17) 101 sMkind, wRowI K (fun _ => hMo 19) 101 sMwidth, wRow K (fun _ => hMo 23) 101 sMbase, wRowZ K (fun _ => hMo 26) 40000 sMbits_j202]) → va_S A s.heap H locs → lv_has ls 14 [(0, .ref (hMo 0)), (1, .int x1_j202), (2, .int x2_j202), (3, .long x3_j202), (8, .int x8_j202)] → Mod_layPacked_j202 fu sMvalues sMkind sMwidth sMbase x1_j202 x2_j202 x3_j202 x8_j202 sMo_j202 sMbits_j202 = some ((sMo', sMbits')) → W p l e rm_Mod_layPacked s m ([.ref (hMo 0), .int a0, .int a1] : List Value).toArray below meth c H locs 0 0 (Qv below ([.ref (hMo 0), .int a0, .int a1] : List Value).toArray s D K A (fl [wMo K hMo sMo', wRow K (fun _ => hMo 7) 800 sMvalues, wRowI K (fun _ => hMo 17) 101 sMkind, wRowI K (fun _ => hMo 19) 101 sMwidth, wRow K (fun _ => hMo 23) 101 sMbase, wRowZ K (fun _ => hMo 26) 40000 sMbits'])) (F0 m 202 ls []) := by
    intro x1_j202 x2_j202 x3_j202 x8_j202 sMo_j202 sMbits_j202 H locs ls hP hD hS hl hf
    refine lv_aload_n (pc := 202) hx hb d_Mod_layPacked_202 rfl (lv_at hl 0 rfl) ?_
    refine lv_iload (pc := 203) hx hb d_Mod_layPacked_203 (lv_at hl 4 rfl) ?_
    refine lv_i2l (pc := 205) hx hb d_Mod_layPacked_205 rfl ?_
    refine lv_bipush (v := 6) (pc := 206) hx hb d_Mod_layPacked_206 (by decide) ?_
    obtain ⟨q23, hq23, hf⟩ := o_bd_e hf
    refine fi_v (pc := 208) (va_runV (As := [.long ((x8_j202 : Int32).toInt64), .int 6]) (rest := []) ⟨hx, hb, hml, hown, hts⟩ ((c_Mod_lay l D K fu hMo sMo_j202 sMbits_j202 ((x8_j202 : Int32).toInt64) 6 q23.1 q23.2 hq23) _) (cwV 2 hts (gV tw_1481 tw_1483 tp_67 tw_12 tw_1484) rfl rfl rfl (by decide +kernel) ⟨by decide, by decide⟩) ⟨mPre_blind, va_recv hK hP (ci := 10) rfl (fl_at 0 0 rfl rfl), (mPre_fl hK hF hA hP hD hS [0, 5] rfl rfl)⟩ rfl rfl hl.1 rfl (lv_room (Nat.le_of_ble_eq_true rfl)) d_Mod_layPacked_208 ⟨Nat.zero_le _, Nat.zero_le _⟩) hA hP hD hS [0, 5] rfl rfl (fun H locs hP hD hS => ?_)
    have hP : va_P D vwCl (fl [wMo K hMo q23.1, wRow K (fun _ => hMo 7) 800 sMvalues, wRowI K (fun _ => hMo 17) 101 sMkind, wRowI K (fun _ => hMo 19) 101 sMwidth, wRow K (fun _ => hMo 23) 101 sMbase, wRowZ K (fun _ => hMo 26) 40000 q23.2]) H := hP
    have hD : va_D A (fl [wMo K hMo q23.1, wRow K (fun _ => hMo 7) 800 sMvalues, wRowI K (fun _ => hMo 17) 101 sMkind, wRowI K (fun _ => hMo 19) 101 sMwidth, wRow K (fun _ => hMo 23) 101 sMbase, wRowZ K (fun _ => hMo 26) 40000 q23.2]) := hD
    refine lv_iconst (v := 0) (pc := 211) hx hb d_Mod_layPacked_211 (by decide) ?_
    refine lv_istore (lv' := [(10, .int 0), (0, .ref (hMo 0)), (1, .int x1_j202), (2, .int x2_j202), (3, .long x3_j202), (8, .int x8_j202)]) (pc := 212) hx hb d_Mod_layPacked_212 hl (by decide) rfl (fun ls hl => ?_)
    have L214 : ∀ (x1_L214 : Int32) (x2_L214 : Int32) (x3_L214 : Int64) (x8_L214 : Int32) (n : Nat) (x10_L214 : Int32) (sMo_L214 : S_Mo) (sMbits_L214 : (Nat → Int32)) (H : Heap) (locs : List Loc) (ls : Array Slot), va_P D vwCl (fl [wMo K hMo sMo_L214, wRow K (fun _ => hMo 7) 800 sMvalues, wRowI K (fun _ => hMo 17) 101 sMkind, wRowI K (fun _ => hMo 19) 101 sMwidth, wRow K (fun _ => hMo 23) 101 sMbase, wRowZ K (fun _ => hMo 26) 40000 sMbits_L214]) H → va_D A (fl [wMo K hMo sMo_L214, wRow K (fun _ => hMo 7) 800 sMvalues, wRowI K (fun _ => hMo 17) 101 sMkind, wRowI K (fun _ => hMo 19) 101 sMwidth, wRow K (fun _ => hMo 23) 101 sMbase, wRowZ K (fun _ => hMo 26) 40000 sMbits_L214]) → va_S A s.heap H locs → lv_has ls 14 [(0, .ref (hMo 0)), (1, .int x1_L214), (2, .int x2_L214), (3, .long x3_L214), (8, .int x8_L214), (10, .int x10_L214)] → Mod_layPacked_L214 fu sMvalues sMkind sMwidth sMbase x1_L214 x2_L214 x3_L214 x8_L214 n x10_L214 sMo_L214 sMbits_L214 = some ((sMo', sMbits')) → W p l e rm_Mod_layPacked s m ([.ref (hMo 0), .int a0, .int a1] : List Value).toArray below meth c H locs 0 0 (Qv below ([.ref (hMo 0), .int a0, .int a1] : List Value).toArray s D K A (fl [wMo K hMo sMo', wRow K (fun _ => hMo 7) 800 sMvalues, wRowI K (fun _ => hMo 17) 101 sMkind, wRowI K (fun _ => hMo 19) 101 sMwidth, wRow K (fun _ => hMo 23) 101 sMbase, wRowZ K (fun _ => hMo 26) 40000 sMbits'])) (F0 m 214 ls []) := by
      intro x1_L214 x2_L214 x3_L214 x8_L214 n
      induction n with
      | zero =>
        intro x10_L214 sMo_L214 sMbits_L214 H locs ls hP hD hS hl hf
        exact absurd hf (fun h => nomatch h)
      | succ n_214 ih_214 =>
        intro x10_L214 sMo_L214 sMbits_L214 H locs ls hP hD hS hl hf
        have J272 : ∀ (x10_j272 : Int32) (t1_j272 : Int64) (sMo_j272 : S_Mo) (sMbits_j272 : (Nat → Int32)) (H : Heap) (locs : List Loc) (ls : Array Slot), va_P D vwCl (fl [wMo K hMo sMo_j272, wRow K (fun _ => hMo 7) 800 sMvalues, wRowI K (fun _ => hMo 17) 101 sMkind, wRowI K (fun _ => hMo 19) 101 sMwidth, wRow K (fun _ => hMo 23) 101 sMbase, wRowZ K (fun _ => hMo 26) 40000 sMbits_j272]) H → va_D A (fl [wMo K hMo sMo_j272, wRow K (fun _ => hMo 7) 800 sMvalues, wRowI K (fun _ => hMo 17) 101 sMkind, wRowI K (fun _ => hMo 19) 101 sMwidth, wRow K (fun _ => hMo 23) 101 sMbase, wRowZ K (fun _ => hMo 26) 40000 sMbits_j272]) → va_S A s.heap H locs → lv_has ls 14 [(0, .ref (hMo 0)), (1, .int x1_L214), (2, .int x2_L214), (3, .long x3_L214), (8, .int x8_L214), (10, .int x10_j272)] → Mod_layPacked_j272 fu sMvalues sMkind sMwidth sMbase (fun v0 v1 v2 => Mod_layPacked_L214 fu sMvalues sMkind sMwidth sMbase x1_L214 x2_L214 x3_L214 x8_L214 n_214 v0 v1 v2) x1_L214 x2_L214 x3_L214 x8_L214 x10_j272 t1_j272 sMo_j272 sMbits_j272 = some ((sMo', sMbits')) → W p l e rm_Mod_layPacked s m ([.ref (hMo 0), .int a0, .int a1] : List Value).toArray below meth c H locs 0 0 (Qv below ([.ref (hMo 0), .int a0, .int a1] : List Value).toArray s D K A (fl [wMo K hMo sMo', wRow K (fun _ => hMo 7) 800 sMvalues, wRowI K (fun _ => hMo 17) 101 sMkind, wRowI K (fun _ => hMo 19) 101 sMwidth, wRow K (fun _ => hMo 23) 101 sMbase, wRowZ K (fun _ => hMo 26) 40000 sMbits'])) (F0 m 272 ls [.long t1_j272, .ref (hMo 0)]) := by
          intro x10_j272 t1_j272 sMo_j272 sMbits_j272 H locs ls hP hD hS hl hf
          refine lv_iload (pc := 272) hx hb d_Mod_layPacked_272 (lv_at hl 4 rfl) ?_
          obtain ⟨q31, hq31, hf⟩ := o_bd_e hf
          refine fi_v (pc := 274) (va_runV (As := [.long t1_j272, .int x8_L214]) (rest := []) ⟨hx, hb, hml, hown, hts⟩ ((c_Mod_lay l D K fu hMo sMo_j272 sMbits_j272 t1_j272 x8_L214 q31.1 q31.2 hq31) _) (cwV 2 hts (gV tw_1481 tw_1483 tp_67 tw_12 tw_1484) rfl rfl rfl (by decide +kernel) ⟨by decide, by decide⟩) ⟨mPre_blind, va_recv hK hP (ci := 10) rfl (fl_at 0 0 rfl rfl), (mPre_fl hK hF hA hP hD hS [0, 5] rfl rfl)⟩ rfl rfl hl.1 rfl (lv_room (Nat.le_of_ble_eq_true rfl)) d_Mod_layPacked_274 ⟨Nat.zero_le _, Nat.zero_le _⟩) hA hP hD hS [0, 5] rfl rfl (fun H locs hP hD hS => ?_)
          have hP : va_P D vwCl (fl [wMo K hMo q31.1, wRow K (fun _ => hMo 7) 800 sMvalues, wRowI K (fun _ => hMo 17) 101 sMkind, wRowI K (fun _ => hMo 19) 101 sMwidth, wRow K (fun _ => hMo 23) 101 sMbase, wRowZ K (fun _ => hMo 26) 40000 q31.2]) H := hP
          have hD : va_D A (fl [wMo K hMo q31.1, wRow K (fun _ => hMo 7) 800 sMvalues, wRowI K (fun _ => hMo 17) 101 sMkind, wRowI K (fun _ => hMo 19) 101 sMwidth, wRow K (fun _ => hMo 23) 101 sMbase, wRowZ K (fun _ => hMo 26) 40000 q31.2]) := hD
          refine lv_iinc (v := x10_j272 + 1) (lv' := [(10, .int (x10_j272 + 1)), (0, .ref (hMo 0)), (1, .int x1_L214), (2, .int x2_L214), (3, .long x3_L214), (8, .int x8_L214)]) (pc := 277) hx hb d_Mod_layPacked_277 hl (k := 5) rfl rfl (by decide) rfl (fun ls hl => ?_)
          refine lv_goto (tgt := 214) (pc := 280) hx hb d_Mod_layPacked_280 (by decide) ?_
          exact ih_214 (x10_j272 + 1) q31.1 q31.2 H locs ls hP hD hS (lv_sub hl [1, 2, 3, 4, 5, 0] rfl) hf
        refine lv_iload (pc := 214) hx hb d_Mod_layPacked_214 (lv_at hl 5 rfl) ?_
        refine lv_iload_n (pc := 216) hx hb d_Mod_layPacked_216 rfl (lv_at hl 2 rfl) ?_
        refine lv_icmp_ge (tgt := 283) (pc := 217) hx hb d_Mod_layPacked_217 (by decide) (fun c30 => ?_) (fun c30 => ?_)
        · replace hf := o_t c30 hf
          cases hf
          exact ret_v hx hb hr hlocks hK hP hS d_Mod_layPacked_283
        · replace hf := o_f c30 hf
          refine lv_iload (pc := 220) hx hb d_Mod_layPacked_220 (lv_at hl 4 rfl) ?_
          refine lv_if_le (tgt := 283) (pc := 222) hx hb d_Mod_layPacked_222 (by decide) (fun c29 => ?_) (fun c29 => ?_)
          · replace hf := o_t c29 hf
            cases hf
            exact ret_v hx hb hr hlocks hK hP hS d_Mod_layPacked_283
          · replace hf := o_f c29 hf
            refine lv_aload_n (pc := 225) hx hb d_Mod_layPacked_225 rfl (lv_at hl 0 rfl) ?_
            refine lv_aload_n (pc := 226) hx hb d_Mod_layPacked_226 rfl (lv_at hl 0 rfl) ?_
            refine va_get (D := D) (ci := 10) (v := .ref (hMo 7)) (C := R_Mod) (T := T_Mod) (N := 61) (pc := 227) hx hb hts (fun w h => List.mem_cons_of_mem _ (in_Mod w h)) hown hK hP _ (fl_at 0 0 rfl rfl) rfl 10 (by decide) (hts _ (List.mem_cons_of_mem _ tw_1103)) (fun _ h9 => h9) rfl d_Mod_layPacked_227 ?_
            refine lv_bipush (v := 100) (pc := 230) hx hb d_Mod_layPacked_230 (by decide) ?_
            refine lv_iload (pc := 232) hx hb d_Mod_layPacked_232 (lv_at hl 5 rfl) ?_
            refine lv_imul (pc := 234) hx hb d_Mod_layPacked_234 ?_
            refine lv_iload_n (pc := 235) hx hb d_Mod_layPacked_235 rfl (lv_at hl 1 rfl) ?_
            refine lv_iadd (pc := 236) hx hb d_Mod_layPacked_236 ?_
            obtain ⟨hi24, hf⟩ := o_gi_e hf
            refine va_lald (D := D) (pc := 237) hx hb hK hP _ 1 (fl_at 1 0 rfl rfl) rfl hi24 d_Mod_layPacked_237 ?_
            refine lv_ldc2 (pc := 238) hx hb hown (hts _ (List.mem_cons_of_mem _ tw_1092)) d_Mod_layPacked_238 ?_
            refine lc_ne (tgt := 253) (pc := 241) hx hb d_Mod_layPacked_241 d_Mod_layPacked_242 (by decide) (fun c28 => ?_) (fun c28 => ?_)
            · replace hf := o_f c28 hf
              refine lv_aload_n (pc := 253) hx hb d_Mod_layPacked_253 rfl (lv_at hl 0 rfl) ?_
              refine lv_iload_n (pc := 254) hx hb d_Mod_layPacked_254 rfl (lv_at hl 1 rfl) ?_
              refine lv_aload_n (pc := 255) hx hb d_Mod_layPacked_255 rfl (lv_at hl 0 rfl) ?_
              refine va_get (D := D) (ci := 10) (v := .ref (hMo 7)) (C := R_Mod) (T := T_Mod) (N := 61) (pc := 256) hx hb hts (fun w h => List.mem_cons_of_mem _ (in_Mod w h)) hown hK hP _ (fl_at 0 0 rfl rfl) rfl 10 (by decide) (hts _ (List.mem_cons_of_mem _ tw_1103)) (fun _ h9 => h9) rfl d_Mod_layPacked_256 ?_
              refine lv_bipush (v := 100) (pc := 259) hx hb d_Mod_layPacked_259 (by decide) ?_
              refine lv_iload (pc := 261) hx hb d_Mod_layPacked_261 (lv_at hl 5 rfl) ?_
              refine lv_imul (pc := 263) hx hb d_Mod_layPacked_263 ?_
              refine lv_iload_n (pc := 264) hx hb d_Mod_layPacked_264 rfl (lv_at hl 1 rfl) ?_
              refine lv_iadd (pc := 265) hx hb d_Mod_layPacked_265 ?_
              obtain ⟨hi25, hf⟩ := o_gi_e hf
              refine va_lald (D := D) (pc := 266) hx hb hK hP _ 1 (fl_at 1 0 rfl rfl) rfl hi25 d_Mod_layPacked_266 ?_
              obtain ⟨q26, hq26, hf⟩ := o_bd_e hf
              refine fi_l (pc := 267) (va_runV (As := [.int x1_L214, .long (sMvalues ((100 * x10_L214) + x1_L214 : Int32).toNatClampNeg)]) (rest := [.ref (hMo 0)]) ⟨hx, hb, hml, hown, hts⟩ ((c_Mod_raw l D K hMo sMo_L214 sMkind sMwidth sMbase x1_L214 (sMvalues ((100 * x10_L214) + x1_L214 : Int32).toNatClampNeg) q26 hq26) _) (cwV 2 hts (gV tw_1477 tw_1479 tp_66 tw_12 tw_1480) rfl rfl rfl (by decide +kernel) ⟨by decide, by decide⟩) ⟨mPre_blind, va_recv hK hP (ci := 10) rfl (fl_at 0 0 rfl rfl), (mPre_fl hK hF hA hP hD hS [0, 2, 3, 4] rfl rfl)⟩ rfl rfl hl.1 rfl (lv_room (Nat.le_of_ble_eq_true rfl)) d_Mod_layPacked_267 ⟨Nat.zero_le _, Nat.zero_le _⟩) hA hP hD hS [0, 2, 3, 4] rfl rfl (fun H locs hP hD hS => ?_)
              have hP : va_P D vwCl (fl [wMo K hMo sMo_L214, wRow K (fun _ => hMo 7) 800 sMvalues, wRowI K (fun _ => hMo 17) 101 sMkind, wRowI K (fun _ => hMo 19) 101 sMwidth, wRow K (fun _ => hMo 23) 101 sMbase, wRowZ K (fun _ => hMo 26) 40000 sMbits_L214]) H := hP
              have hD : va_D A (fl [wMo K hMo sMo_L214, wRow K (fun _ => hMo 7) 800 sMvalues, wRowI K (fun _ => hMo 17) 101 sMkind, wRowI K (fun _ => hMo 19) 101 sMwidth, wRow K (fun _ => hMo 23) 101 sMbase, wRowZ K (fun _ => hMo 26) 40000 sMbits_L214]) := hD
              refine lv_lload_n (pc := 270) hx hb d_Mod_layPacked_270 rfl (lv_at hl 3 rfl) ?_
              refine lv_lsub (pc := 271) hx hb d_Mod_layPacked_271 ?_
              exact J272 x10_L214 (q26 - x3_L214) sMo_L214 sMbits_L214 H locs ls hP hD hS (lv_sub hl [0, 1, 2, 3, 4, 5] rfl) hf
            · replace hf := o_t c28 hf
              refine lv_iload (pc := 245) hx hb d_Mod_layPacked_245 (lv_at hl 4 rfl) ?_
              obtain ⟨q27, hq27, hf⟩ := o_bd_e hf
              refine fi_l (pc := 247) (va_runS (As := [.int x8_L214]) (rest := [.ref (hMo 0)]) ⟨hx, hb, hml, hown, hts⟩ ((c_Mod_most l D K x8_L214 q27 hq27) _) (cwS 1 hts (gS tw_1437 tw_1438 tw_12 tw_1439) rfl rfl rfl (by decide +kernel) ⟨by decide, by decide⟩) ⟨mPre_blind, (mPre_fl hK hF hA hP hD hS [] rfl rfl)⟩ rfl rfl hl.1 rfl (lv_room (Nat.le_of_ble_eq_true rfl)) d_Mod_layPacked_247 ⟨Nat.zero_le _, Nat.zero_le _⟩) hA hP hD hS [] rfl rfl (fun H locs hP hD hS => ?_)
              have hP : va_P D vwCl (fl [wMo K hMo sMo_L214, wRow K (fun _ => hMo 7) 800 sMvalues, wRowI K (fun _ => hMo 17) 101 sMkind, wRowI K (fun _ => hMo 19) 101 sMwidth, wRow K (fun _ => hMo 23) 101 sMbase, wRowZ K (fun _ => hMo 26) 40000 sMbits_L214]) H := hP
              have hD : va_D A (fl [wMo K hMo sMo_L214, wRow K (fun _ => hMo 7) 800 sMvalues, wRowI K (fun _ => hMo 17) 101 sMkind, wRowI K (fun _ => hMo 19) 101 sMwidth, wRow K (fun _ => hMo 23) 101 sMbase, wRowZ K (fun _ => hMo 26) 40000 sMbits_L214]) := hD
              refine lv_goto (tgt := 272) (pc := 250) hx hb d_Mod_layPacked_250 (by decide) ?_
              exact J272 x10_L214 q27 sMo_L214 sMbits_L214 H locs ls hP hD hS (lv_sub hl [0, 1, 2, 3, 4, 5] rfl) hf
    exact L214 x1_j202 x2_j202 x3_j202 x8_j202 fu 0 q23.1 q23.2 H locs ls hP hD hS (lv_sub hl [1, 2, 3, 4, 5, 0] rfl) hf
  have J173 : ∀ (x1_j173 : Int32) (x2_j173 : Int32) (x3_j173 : Int64) (x5_j173 : Int64) (x8_j173 : Int32) (t0_j173 : Int32) (sMo_j173 : S_Mo) (sMbits_j173 : (Nat → Int32)) (H : Heap) (locs : List Loc) (ls : Array Slot), va_P D vwCl (fl [wMo K hMo sMo_j173, wRow K (fun _ => hMo 7) 800 sMvalues, wRowI K (fun _ => hMo 17) 101 sMkind, wRowI K (fun _ => hMo 19) 101 sMwidth, wRow K (fun _ => hMo 23) 101 sMbase, wRowZ K (fun _ => hMo 26) 40000 sMbits_j173]) H → va_D A (fl [wMo K hMo sMo_j173, wRow K (fun _ => hMo 7) 800 sMvalues, wRowI K (fun _ => hMo 17) 101 sMkind, wRowI K (fun _ => hMo 19) 101 sMwidth, wRow K (fun _ => hMo 23) 101 sMbase, wRowZ K (fun _ => hMo 26) 40000 sMbits_j173]) → va_S A s.heap H locs → lv_has ls 14 [(0, .ref (hMo 0)), (1, .int x1_j173), (2, .int x2_j173), (3, .long x3_j173), (5, .long x5_j173), (8, .int x8_j173)] → Mod_layPacked_j173 fu sMvalues sMkind sMwidth sMbase x1_j173 x2_j173 x3_j173 x5_j173 x8_j173 t0_j173 sMo_j173 sMbits_j173 = some ((sMo', sMbits')) → W p l e rm_Mod_layPacked s m ([.ref (hMo 0), .int a0, .int a1] : List Value).toArray below meth c H locs 0 0 (Qv below ([.ref (hMo 0), .int a0, .int a1] : List Value).toArray s D K A (fl [wMo K hMo sMo', wRow K (fun _ => hMo 7) 800 sMvalues, wRowI K (fun _ => hMo 17) 101 sMkind, wRowI K (fun _ => hMo 19) 101 sMwidth, wRow K (fun _ => hMo 23) 101 sMbase, wRowZ K (fun _ => hMo 26) 40000 sMbits'])) (F0 m 173 ls [.int t0_j173]) := by
    intro x1_j173 x2_j173 x3_j173 x5_j173 x8_j173 t0_j173 sMo_j173 sMbits_j173 H locs ls hP hD hS hl hf
    refine lv_istore (lv' := [(9, .int t0_j173), (0, .ref (hMo 0)), (1, .int x1_j173), (2, .int x2_j173), (3, .long x3_j173), (5, .long x5_j173), (8, .int x8_j173)]) (pc := 173) hx hb d_Mod_layPacked_173 hl (by decide) rfl (fun ls hl => ?_)
    refine lv_iload (pc := 175) hx hb d_Mod_layPacked_175 (lv_at hl 0 rfl) ?_
    refine lv_if_ne (tgt := 202) (pc := 177) hx hb d_Mod_layPacked_177 (by decide) (fun c22 => ?_) (fun c22 => ?_)
    · replace hf := o_f c22 hf
      exact J202 x1_j173 x2_j173 x3_j173 x8_j173 sMo_j173 sMbits_j173 H locs ls hP hD hS (lv_sub hl [1, 2, 3, 4, 6] rfl) hf
    · replace hf := o_t c22 hf
      refine lv_iconst (v := 1) (pc := 180) hx hb d_Mod_layPacked_180 (by decide) ?_
      refine lv_istore (lv' := [(8, .int 1), (9, .int t0_j173), (0, .ref (hMo 0)), (1, .int x1_j173), (2, .int x2_j173), (3, .long x3_j173), (5, .long x5_j173)]) (pc := 181) hx hb d_Mod_layPacked_181 hl (by decide) rfl (fun ls hl => ?_)
      have L183 : ∀ (x1_L183 : Int32) (x2_L183 : Int32) (x3_L183 : Int64) (x5_L183 : Int64) (sMo_L183 : S_Mo) (sMbits_L183 : (Nat → Int32)) (n : Nat) (x8_L183 : Int32) (H : Heap) (locs : List Loc) (ls : Array Slot), va_P D vwCl (fl [wMo K hMo sMo_L183, wRow K (fun _ => hMo 7) 800 sMvalues, wRowI K (fun _ => hMo 17) 101 sMkind, wRowI K (fun _ => hMo 19) 101 sMwidth, wRow K (fun _ => hMo 23) 101 sMbase, wRowZ K (fun _ => hMo 26) 40000 sMbits_L183]) H → va_D A (fl [wMo K hMo sMo_L183, wRow K (fun _ => hMo 7) 800 sMvalues, wRowI K (fun _ => hMo 17) 101 sMkind, wRowI K (fun _ => hMo 19) 101 sMwidth, wRow K (fun _ => hMo 23) 101 sMbase, wRowZ K (fun _ => hMo 26) 40000 sMbits_L183]) → va_S A s.heap H locs → lv_has ls 14 [(0, .ref (hMo 0)), (1, .int x1_L183), (2, .int x2_L183), (3, .long x3_L183), (5, .long x5_L183), (8, .int x8_L183)] → Mod_layPacked_L183 fu sMvalues sMkind sMwidth sMbase x1_L183 x2_L183 x3_L183 x5_L183 sMo_L183 sMbits_L183 (fun y8 => Mod_layPacked_j202 fu sMvalues sMkind sMwidth sMbase x1_L183 x2_L183 x3_L183 y8 sMo_L183 sMbits_L183) n x8_L183 = some ((sMo', sMbits')) → W p l e rm_Mod_layPacked s m ([.ref (hMo 0), .int a0, .int a1] : List Value).toArray below meth c H locs 0 0 (Qv below ([.ref (hMo 0), .int a0, .int a1] : List Value).toArray s D K A (fl [wMo K hMo sMo', wRow K (fun _ => hMo 7) 800 sMvalues, wRowI K (fun _ => hMo 17) 101 sMkind, wRowI K (fun _ => hMo 19) 101 sMwidth, wRow K (fun _ => hMo 23) 101 sMbase, wRowZ K (fun _ => hMo 26) 40000 sMbits'])) (F0 m 183 ls []) := by
        intro x1_L183 x2_L183 x3_L183 x5_L183 sMo_L183 sMbits_L183 n
        induction n with
        | zero =>
          intro x8_L183 H locs ls hP hD hS hl hf
          exact absurd hf (fun h => nomatch h)
        | succ n_183 ih_183 =>
          intro x8_L183 H locs ls hP hD hS hl hf
          refine lv_iload (pc := 183) hx hb d_Mod_layPacked_183 (lv_at hl 5 rfl) ?_
          obtain ⟨q20, hq20, hf⟩ := o_bd_e hf
          refine fi_l (pc := 185) (va_runS (As := [.int x8_L183]) (rest := []) ⟨hx, hb, hml, hown, hts⟩ ((c_Mod_most l D K x8_L183 q20 hq20) _) (cwS 1 hts (gS tw_1437 tw_1438 tw_12 tw_1439) rfl rfl rfl (by decide +kernel) ⟨by decide, by decide⟩) ⟨mPre_blind, (mPre_fl hK hF hA hP hD hS [] rfl rfl)⟩ rfl rfl hl.1 rfl (lv_room (Nat.le_of_ble_eq_true rfl)) d_Mod_layPacked_185 ⟨Nat.zero_le _, Nat.zero_le _⟩) hA hP hD hS [] rfl rfl (fun H locs hP hD hS => ?_)
          have hP : va_P D vwCl (fl [wMo K hMo sMo_L183, wRow K (fun _ => hMo 7) 800 sMvalues, wRowI K (fun _ => hMo 17) 101 sMkind, wRowI K (fun _ => hMo 19) 101 sMwidth, wRow K (fun _ => hMo 23) 101 sMbase, wRowZ K (fun _ => hMo 26) 40000 sMbits_L183]) H := hP
          have hD : va_D A (fl [wMo K hMo sMo_L183, wRow K (fun _ => hMo 7) 800 sMvalues, wRowI K (fun _ => hMo 17) 101 sMkind, wRowI K (fun _ => hMo 19) 101 sMwidth, wRow K (fun _ => hMo 23) 101 sMbase, wRowZ K (fun _ => hMo 26) 40000 sMbits_L183]) := hD
          refine lv_lload (pc := 188) hx hb d_Mod_layPacked_188 (lv_at hl 4 rfl) ?_
          refine lv_lload_n (pc := 190) hx hb d_Mod_layPacked_190 rfl (lv_at hl 3 rfl) ?_
          refine lv_lsub (pc := 191) hx hb d_Mod_layPacked_191 ?_
          refine lc_gt (tgt := 202) (pc := 192) hx hb d_Mod_layPacked_192 d_Mod_layPacked_193 (by decide) (fun c21 => ?_) (fun c21 => ?_)
          · replace hf := o_t c21 hf
            exact J202 x1_L183 x2_L183 x3_L183 x8_L183 sMo_L183 sMbits_L183 H locs ls hP hD hS (lv_sub hl [0, 1, 2, 3, 5] rfl) hf
          · replace hf := o_f c21 hf
            refine lv_iinc (v := x8_L183 + 1) (lv' := [(8, .int (x8_L183 + 1)), (0, .ref (hMo 0)), (1, .int x1_L183), (2, .int x2_L183), (3, .long x3_L183), (5, .long x5_L183)]) (pc := 196) hx hb d_Mod_layPacked_196 hl (k := 5) rfl rfl (by decide) rfl (fun ls hl => ?_)
            refine lv_goto (tgt := 183) (pc := 199) hx hb d_Mod_layPacked_199 (by decide) ?_
            exact ih_183 (x8_L183 + 1) H locs ls hP hD hS (lv_sub hl [1, 2, 3, 4, 5, 0] rfl) hf
      exact L183 x1_j173 x2_j173 x3_j173 x5_j173 sMo_j173 sMbits_j173 fu 1 H locs ls hP hD hS (lv_sub hl [2, 3, 4, 5, 6, 0] rfl) hf
  have J172 : ∀ (x1_j172 : Int32) (x2_j172 : Int32) (x3_j172 : Int64) (x5_j172 : Int64) (x8_j172 : Int32) (sMo_j172 : S_Mo) (sMbits_j172 : (Nat → Int32)) (H : Heap) (locs : List Loc) (ls : Array Slot), va_P D vwCl (fl [wMo K hMo sMo_j172, wRow K (fun _ => hMo 7) 800 sMvalues, wRowI K (fun _ => hMo 17) 101 sMkind, wRowI K (fun _ => hMo 19) 101 sMwidth, wRow K (fun _ => hMo 23) 101 sMbase, wRowZ K (fun _ => hMo 26) 40000 sMbits_j172]) H → va_D A (fl [wMo K hMo sMo_j172, wRow K (fun _ => hMo 7) 800 sMvalues, wRowI K (fun _ => hMo 17) 101 sMkind, wRowI K (fun _ => hMo 19) 101 sMwidth, wRow K (fun _ => hMo 23) 101 sMbase, wRowZ K (fun _ => hMo 26) 40000 sMbits_j172]) → va_S A s.heap H locs → lv_has ls 14 [(0, .ref (hMo 0)), (1, .int x1_j172), (2, .int x2_j172), (3, .long x3_j172), (5, .long x5_j172), (8, .int x8_j172)] → Mod_layPacked_j172 fu sMvalues sMkind sMwidth sMbase x1_j172 x2_j172 x3_j172 x5_j172 x8_j172 sMo_j172 sMbits_j172 = some ((sMo', sMbits')) → W p l e rm_Mod_layPacked s m ([.ref (hMo 0), .int a0, .int a1] : List Value).toArray below meth c H locs 0 0 (Qv below ([.ref (hMo 0), .int a0, .int a1] : List Value).toArray s D K A (fl [wMo K hMo sMo', wRow K (fun _ => hMo 7) 800 sMvalues, wRowI K (fun _ => hMo 17) 101 sMkind, wRowI K (fun _ => hMo 19) 101 sMwidth, wRow K (fun _ => hMo 23) 101 sMbase, wRowZ K (fun _ => hMo 26) 40000 sMbits'])) (F0 m 172 ls []) := by
    intro x1_j172 x2_j172 x3_j172 x5_j172 x8_j172 sMo_j172 sMbits_j172 H locs ls hP hD hS hl hf
    refine lv_iconst (v := 0) (pc := 172) hx hb d_Mod_layPacked_172 (by decide) ?_
    exact J173 x1_j172 x2_j172 x3_j172 x5_j172 x8_j172 0 sMo_j172 sMbits_j172 H locs ls hP hD hS (lv_sub hl [0, 1, 2, 3, 4, 5] rfl) hf
  have J168 : ∀ (x1_j168 : Int32) (x2_j168 : Int32) (x3_j168 : Int64) (x5_j168 : Int64) (x8_j168 : Int32) (sMo_j168 : S_Mo) (sMbits_j168 : (Nat → Int32)) (H : Heap) (locs : List Loc) (ls : Array Slot), va_P D vwCl (fl [wMo K hMo sMo_j168, wRow K (fun _ => hMo 7) 800 sMvalues, wRowI K (fun _ => hMo 17) 101 sMkind, wRowI K (fun _ => hMo 19) 101 sMwidth, wRow K (fun _ => hMo 23) 101 sMbase, wRowZ K (fun _ => hMo 26) 40000 sMbits_j168]) H → va_D A (fl [wMo K hMo sMo_j168, wRow K (fun _ => hMo 7) 800 sMvalues, wRowI K (fun _ => hMo 17) 101 sMkind, wRowI K (fun _ => hMo 19) 101 sMwidth, wRow K (fun _ => hMo 23) 101 sMbase, wRowZ K (fun _ => hMo 26) 40000 sMbits_j168]) → va_S A s.heap H locs → lv_has ls 14 [(0, .ref (hMo 0)), (1, .int x1_j168), (2, .int x2_j168), (3, .long x3_j168), (5, .long x5_j168), (8, .int x8_j168)] → Mod_layPacked_j168 fu sMvalues sMkind sMwidth sMbase x1_j168 x2_j168 x3_j168 x5_j168 x8_j168 sMo_j168 sMbits_j168 = some ((sMo', sMbits')) → W p l e rm_Mod_layPacked s m ([.ref (hMo 0), .int a0, .int a1] : List Value).toArray below meth c H locs 0 0 (Qv below ([.ref (hMo 0), .int a0, .int a1] : List Value).toArray s D K A (fl [wMo K hMo sMo', wRow K (fun _ => hMo 7) 800 sMvalues, wRowI K (fun _ => hMo 17) 101 sMkind, wRowI K (fun _ => hMo 19) 101 sMwidth, wRow K (fun _ => hMo 23) 101 sMbase, wRowZ K (fun _ => hMo 26) 40000 sMbits'])) (F0 m 168 ls []) := by
    intro x1_j168 x2_j168 x3_j168 x5_j168 x8_j168 sMo_j168 sMbits_j168 H locs ls hP hD hS hl hf
    refine lv_iconst (v := 1) (pc := 168) hx hb d_Mod_layPacked_168 (by decide) ?_
    refine lv_goto (tgt := 173) (pc := 169) hx hb d_Mod_layPacked_169 (by decide) ?_
    exact J173 x1_j168 x2_j168 x3_j168 x5_j168 x8_j168 1 sMo_j168 sMbits_j168 H locs ls hP hD hS (lv_sub hl [0, 1, 2, 3, 4, 5] rfl) hf
  have J136 : ∀ (x1_j136 : Int32) (x2_j136 : Int32) (x3_j136 : Int64) (x5_j136 : Int64) (x7_j136 : Int32) (sMo_j136 : S_Mo) (sMbits_j136 : (Nat → Int32)) (H : Heap) (locs : List Loc) (ls : Array Slot), va_P D vwCl (fl [wMo K hMo sMo_j136, wRow K (fun _ => hMo 7) 800 sMvalues, wRowI K (fun _ => hMo 17) 101 sMkind, wRowI K (fun _ => hMo 19) 101 sMwidth, wRow K (fun _ => hMo 23) 101 sMbase, wRowZ K (fun _ => hMo 26) 40000 sMbits_j136]) H → va_D A (fl [wMo K hMo sMo_j136, wRow K (fun _ => hMo 7) 800 sMvalues, wRowI K (fun _ => hMo 17) 101 sMkind, wRowI K (fun _ => hMo 19) 101 sMwidth, wRow K (fun _ => hMo 23) 101 sMbase, wRowZ K (fun _ => hMo 26) 40000 sMbits_j136]) → va_S A s.heap H locs → lv_has ls 14 [(0, .ref (hMo 0)), (1, .int x1_j136), (2, .int x2_j136), (3, .long x3_j136), (5, .long x5_j136), (7, .int x7_j136)] → Mod_layPacked_j136 fu sMvalues sMkind sMwidth sMbase x1_j136 x2_j136 x3_j136 x5_j136 x7_j136 sMo_j136 sMbits_j136 = some ((sMo', sMbits')) → W p l e rm_Mod_layPacked s m ([.ref (hMo 0), .int a0, .int a1] : List Value).toArray below meth c H locs 0 0 (Qv below ([.ref (hMo 0), .int a0, .int a1] : List Value).toArray s D K A (fl [wMo K hMo sMo', wRow K (fun _ => hMo 7) 800 sMvalues, wRowI K (fun _ => hMo 17) 101 sMkind, wRowI K (fun _ => hMo 19) 101 sMwidth, wRow K (fun _ => hMo 23) 101 sMbase, wRowZ K (fun _ => hMo 26) 40000 sMbits'])) (F0 m 136 ls []) := by
    intro x1_j136 x2_j136 x3_j136 x5_j136 x7_j136 sMo_j136 sMbits_j136 H locs ls hP hD hS hl hf
    refine lv_aload_n (pc := 136) hx hb d_Mod_layPacked_136 rfl (lv_at hl 0 rfl) ?_
    refine lv_lload_n (pc := 137) hx hb d_Mod_layPacked_137 rfl (lv_at hl 3 rfl) ?_
    refine lv_aload_n (pc := 138) hx hb d_Mod_layPacked_138 rfl (lv_at hl 0 rfl) ?_
    refine va_get (D := D) (ci := 10) (v := .ref (hMo 19)) (C := R_Mod) (T := T_Mod) (N := 61) (pc := 139) hx hb hts (fun w h => List.mem_cons_of_mem _ (in_Mod w h)) hown hK hP _ (fl_at 0 0 rfl rfl) rfl 25 (by decide) (hts _ (List.mem_cons_of_mem _ tw_1118)) (fun _ h9 => h9) rfl d_Mod_layPacked_139 ?_
    refine lv_iload_n (pc := 142) hx hb d_Mod_layPacked_142 rfl (lv_at hl 1 rfl) ?_
    obtain ⟨hi15, hf⟩ := o_gi_e hf
    refine va_iald (D := D) (pc := 143) hx hb hK hP _ 0 (fl_at 3 0 rfl rfl) rfl hi15 d_Mod_layPacked_143 ?_
    obtain ⟨q16, hq16, hf⟩ := o_bd_e hf
    refine fi_v (pc := 144) (va_runV (As := [.long x3_j136, .int (sMwidth (x1_j136 : Int32).toNatClampNeg)]) (rest := []) ⟨hx, hb, hml, hown, hts⟩ ((c_Mod_lay l D K fu hMo sMo_j136 sMbits_j136 x3_j136 (sMwidth (x1_j136 : Int32).toNatClampNeg) q16.1 q16.2 hq16) _) (cwV 2 hts (gV tw_1481 tw_1483 tp_67 tw_12 tw_1484) rfl rfl rfl (by decide +kernel) ⟨by decide, by decide⟩) ⟨mPre_blind, va_recv hK hP (ci := 10) rfl (fl_at 0 0 rfl rfl), (mPre_fl hK hF hA hP hD hS [0, 5] rfl rfl)⟩ rfl rfl hl.1 rfl (lv_room (Nat.le_of_ble_eq_true rfl)) d_Mod_layPacked_144 ⟨Nat.zero_le _, Nat.zero_le _⟩) hA hP hD hS [0, 5] rfl rfl (fun H locs hP hD hS => ?_)
    have hP : va_P D vwCl (fl [wMo K hMo q16.1, wRow K (fun _ => hMo 7) 800 sMvalues, wRowI K (fun _ => hMo 17) 101 sMkind, wRowI K (fun _ => hMo 19) 101 sMwidth, wRow K (fun _ => hMo 23) 101 sMbase, wRowZ K (fun _ => hMo 26) 40000 q16.2]) H := hP
    have hD : va_D A (fl [wMo K hMo q16.1, wRow K (fun _ => hMo 7) 800 sMvalues, wRowI K (fun _ => hMo 17) 101 sMkind, wRowI K (fun _ => hMo 19) 101 sMwidth, wRow K (fun _ => hMo 23) 101 sMbase, wRowZ K (fun _ => hMo 26) 40000 q16.2]) := hD
    refine lv_iconst (v := 0) (pc := 147) hx hb d_Mod_layPacked_147 (by decide) ?_
    refine lv_istore (lv' := [(8, .int 0), (0, .ref (hMo 0)), (1, .int x1_j136), (2, .int x2_j136), (3, .long x3_j136), (5, .long x5_j136), (7, .int x7_j136)]) (pc := 148) hx hb d_Mod_layPacked_148 hl (by decide) rfl (fun ls hl => ?_)
    refine lv_iload (pc := 150) hx hb d_Mod_layPacked_150 (lv_at hl 6 rfl) ?_
    refine lv_iload_n (pc := 152) hx hb d_Mod_layPacked_152 rfl (lv_at hl 3 rfl) ?_
    refine lv_icmp_eq (tgt := 168) (pc := 153) hx hb d_Mod_layPacked_153 (by decide) (fun c19 => ?_) (fun c19 => ?_)
    · replace hf := o_t c19 hf
      exact J168 x1_j136 x2_j136 x3_j136 x5_j136 0 q16.1 q16.2 H locs ls hP hD hS (lv_sub hl [1, 2, 3, 4, 5, 0] rfl) hf
    · replace hf := o_f c19 hf
      refine lv_iload (pc := 156) hx hb d_Mod_layPacked_156 (lv_at hl 6 rfl) ?_
      refine lv_if_ne (tgt := 172) (pc := 158) hx hb d_Mod_layPacked_158 (by decide) (fun c18 => ?_) (fun c18 => ?_)
      · replace hf := o_f c18 hf
        exact J172 x1_j136 x2_j136 x3_j136 x5_j136 0 q16.1 q16.2 H locs ls hP hD hS (lv_sub hl [1, 2, 3, 4, 5, 0] rfl) hf
      · replace hf := o_t c18 hf
        refine lv_lload_n (pc := 161) hx hb d_Mod_layPacked_161 rfl (lv_at hl 4 rfl) ?_
        refine lv_lload (pc := 162) hx hb d_Mod_layPacked_162 (lv_at hl 5 rfl) ?_
        refine lc_ne (tgt := 172) (pc := 164) hx hb d_Mod_layPacked_164 d_Mod_layPacked_165 (by decide) (fun c17 => ?_) (fun c17 => ?_)
        · replace hf := o_f c17 hf
          exact J172 x1_j136 x2_j136 x3_j136 x5_j136 0 q16.1 q16.2 H locs ls hP hD hS (lv_sub hl [1, 2, 3, 4, 5, 0] rfl) hf
        · replace hf := o_t c17 hf
          exact J168 x1_j136 x2_j136 x3_j136 x5_j136 0 q16.1 q16.2 H locs ls hP hD hS (lv_sub hl [1, 2, 3, 4, 5, 0] rfl) hf
  refine lv_aload_n (pc := 0) hx hb d_Mod_layPacked_0 rfl (lv_at hl 0 rfl) ?_
  refine va_get (D := D) (ci := 10) (v := .ref (hMo 19)) (C := R_Mod) (T := T_Mod) (N := 61) (pc := 1) hx hb hts (fun w h => List.mem_cons_of_mem _ (in_Mod w h)) hown hK hP _ (fl_at 0 0 rfl rfl) rfl 25 (by decide) (hts _ (List.mem_cons_of_mem _ tw_1118)) (fun _ h9 => h9) rfl d_Mod_layPacked_1 ?_
  refine lv_iload_n (pc := 4) hx hb d_Mod_layPacked_4 rfl (lv_at hl 1 rfl) ?_
  obtain ⟨hi1, hf⟩ := o_gi_e hf
  refine va_iald (D := D) (pc := 5) hx hb hK hP _ 0 (fl_at 3 0 rfl rfl) rfl hi1 d_Mod_layPacked_5 ?_
  obtain ⟨q2, hq2, hf⟩ := o_bd_e hf
  refine fi_l (pc := 6) (va_runS (As := [.int (sMwidth (a0 : Int32).toNatClampNeg)]) (rest := []) ⟨hx, hb, hml, hown, hts⟩ ((c_Mod_most l D K (sMwidth (a0 : Int32).toNatClampNeg) q2 hq2) _) (cwS 1 hts (gS tw_1437 tw_1438 tw_12 tw_1439) rfl rfl rfl (by decide +kernel) ⟨by decide, by decide⟩) ⟨mPre_blind, (mPre_fl hK hF hA hP hD hS [] rfl rfl)⟩ rfl rfl hl.1 rfl (lv_room (Nat.le_of_ble_eq_true rfl)) d_Mod_layPacked_6 ⟨Nat.zero_le _, Nat.zero_le _⟩) hA hP hD hS [] rfl rfl (fun H locs hP hD hS => ?_)
  have hP : va_P D vwCl (fl [wMo K hMo sMo, wRow K (fun _ => hMo 7) 800 sMvalues, wRowI K (fun _ => hMo 17) 101 sMkind, wRowI K (fun _ => hMo 19) 101 sMwidth, wRow K (fun _ => hMo 23) 101 sMbase, wRowZ K (fun _ => hMo 26) 40000 sMbits]) H := hP
  have hD : va_D A (fl [wMo K hMo sMo, wRow K (fun _ => hMo 7) 800 sMvalues, wRowI K (fun _ => hMo 17) 101 sMkind, wRowI K (fun _ => hMo 19) 101 sMwidth, wRow K (fun _ => hMo 23) 101 sMbase, wRowZ K (fun _ => hMo 26) 40000 sMbits]) := hD
  refine lv_lstore_n (lv' := [(3, .long q2), (0, .ref (hMo 0)), (1, .int a0), (2, .int a1)]) (pc := 9) hx hb d_Mod_layPacked_9 rfl hl (by decide) rfl (fun ls hl => ?_)
  refine lv_lconst (v := 0) (pc := 10) hx hb d_Mod_layPacked_10 (by decide) ?_
  refine lv_lstore (lv' := [(5, .long 0), (3, .long q2), (0, .ref (hMo 0)), (1, .int a0), (2, .int a1)]) (pc := 11) hx hb d_Mod_layPacked_11 hl (by decide) rfl (fun ls hl => ?_)
  refine lv_iconst (v := 0) (pc := 13) hx hb d_Mod_layPacked_13 (by decide) ?_
  refine lv_istore (lv' := [(7, .int 0), (5, .long 0), (3, .long q2), (0, .ref (hMo 0)), (1, .int a0), (2, .int a1)]) (pc := 14) hx hb d_Mod_layPacked_14 hl (by decide) rfl (fun ls hl => ?_)
  refine lv_iconst (v := 0) (pc := 16) hx hb d_Mod_layPacked_16 (by decide) ?_
  refine lv_istore (lv' := [(8, .int 0), (7, .int 0), (5, .long 0), (3, .long q2), (0, .ref (hMo 0)), (1, .int a0), (2, .int a1)]) (pc := 17) hx hb d_Mod_layPacked_17 hl (by decide) rfl (fun ls hl => ?_)
  have L19 : ∀ (x1_L19 : Int32) (x2_L19 : Int32) (sMo_L19 : S_Mo) (sMbits_L19 : (Nat → Int32)) (n : Nat) (x3_L19 : Int64) (x5_L19 : Int64) (x7_L19 : Int32) (x8_L19 : Int32) (H : Heap) (locs : List Loc) (ls : Array Slot), va_P D vwCl (fl [wMo K hMo sMo_L19, wRow K (fun _ => hMo 7) 800 sMvalues, wRowI K (fun _ => hMo 17) 101 sMkind, wRowI K (fun _ => hMo 19) 101 sMwidth, wRow K (fun _ => hMo 23) 101 sMbase, wRowZ K (fun _ => hMo 26) 40000 sMbits_L19]) H → va_D A (fl [wMo K hMo sMo_L19, wRow K (fun _ => hMo 7) 800 sMvalues, wRowI K (fun _ => hMo 17) 101 sMkind, wRowI K (fun _ => hMo 19) 101 sMwidth, wRow K (fun _ => hMo 23) 101 sMbase, wRowZ K (fun _ => hMo 26) 40000 sMbits_L19]) → va_S A s.heap H locs → lv_has ls 14 [(0, .ref (hMo 0)), (1, .int x1_L19), (2, .int x2_L19), (3, .long x3_L19), (5, .long x5_L19), (7, .int x7_L19), (8, .int x8_L19)] → Mod_layPacked_L19 fu sMvalues sMkind sMwidth sMbase x1_L19 x2_L19 sMo_L19 sMbits_L19 (fun y3 y5 y7 => Mod_layPacked_j136 fu sMvalues sMkind sMwidth sMbase x1_L19 x2_L19 y3 y5 y7 sMo_L19 sMbits_L19) n x3_L19 x5_L19 x7_L19 x8_L19 = some ((sMo', sMbits')) → W p l e rm_Mod_layPacked s m ([.ref (hMo 0), .int a0, .int a1] : List Value).toArray below meth c H locs 0 0 (Qv below ([.ref (hMo 0), .int a0, .int a1] : List Value).toArray s D K A (fl [wMo K hMo sMo', wRow K (fun _ => hMo 7) 800 sMvalues, wRowI K (fun _ => hMo 17) 101 sMkind, wRowI K (fun _ => hMo 19) 101 sMwidth, wRow K (fun _ => hMo 23) 101 sMbase, wRowZ K (fun _ => hMo 26) 40000 sMbits'])) (F0 m 19 ls []) := by
    intro x1_L19 x2_L19 sMo_L19 sMbits_L19 n
    induction n with
    | zero =>
      intro x3_L19 x5_L19 x7_L19 x8_L19 H locs ls hP hD hS hl hf
      exact absurd hf (fun h => nomatch h)
    | succ n_19 ih_19 =>
      intro x3_L19 x5_L19 x7_L19 x8_L19 H locs ls hP hD hS hl hf
      have J128 : ∀ (x3_j128 : Int64) (x7_j128 : Int32) (x8_j128 : Int32) (t0_j128 : Int64) (H : Heap) (locs : List Loc) (ls : Array Slot), va_P D vwCl (fl [wMo K hMo sMo_L19, wRow K (fun _ => hMo 7) 800 sMvalues, wRowI K (fun _ => hMo 17) 101 sMkind, wRowI K (fun _ => hMo 19) 101 sMwidth, wRow K (fun _ => hMo 23) 101 sMbase, wRowZ K (fun _ => hMo 26) 40000 sMbits_L19]) H → va_D A (fl [wMo K hMo sMo_L19, wRow K (fun _ => hMo 7) 800 sMvalues, wRowI K (fun _ => hMo 17) 101 sMkind, wRowI K (fun _ => hMo 19) 101 sMwidth, wRow K (fun _ => hMo 23) 101 sMbase, wRowZ K (fun _ => hMo 26) 40000 sMbits_L19]) → va_S A s.heap H locs → lv_has ls 14 [(0, .ref (hMo 0)), (1, .int x1_L19), (2, .int x2_L19), (3, .long x3_j128), (7, .int x7_j128), (8, .int x8_j128)] → Mod_layPacked_j128 fu sMvalues sMkind sMwidth sMbase (fun v0 v1 v2 v3 => Mod_layPacked_L19 fu sMvalues sMkind sMwidth sMbase x1_L19 x2_L19 sMo_L19 sMbits_L19 (fun y3 y5 y7 => Mod_layPacked_j136 fu sMvalues sMkind sMwidth sMbase x1_L19 x2_L19 y3 y5 y7 sMo_L19 sMbits_L19) n_19 v0 v1 v2 v3) (fun y3 y5 y7 => Mod_layPacked_j136 fu sMvalues sMkind sMwidth sMbase x1_L19 x2_L19 y3 y5 y7 sMo_L19 sMbits_L19) x1_L19 x2_L19 sMo_L19 sMbits_L19 x3_j128 x7_j128 x8_j128 t0_j128 = some ((sMo', sMbits')) → W p l e rm_Mod_layPacked s m ([.ref (hMo 0), .int a0, .int a1] : List Value).toArray below meth c H locs 0 0 (Qv below ([.ref (hMo 0), .int a0, .int a1] : List Value).toArray s D K A (fl [wMo K hMo sMo', wRow K (fun _ => hMo 7) 800 sMvalues, wRowI K (fun _ => hMo 17) 101 sMkind, wRowI K (fun _ => hMo 19) 101 sMwidth, wRow K (fun _ => hMo 23) 101 sMbase, wRowZ K (fun _ => hMo 26) 40000 sMbits'])) (F0 m 128 ls [.long t0_j128]) := by
        intro x3_j128 x7_j128 x8_j128 t0_j128 H locs ls hP hD hS hl hf
        refine lv_lstore (lv' := [(5, .long t0_j128), (0, .ref (hMo 0)), (1, .int x1_L19), (2, .int x2_L19), (3, .long x3_j128), (7, .int x7_j128), (8, .int x8_j128)]) (pc := 128) hx hb d_Mod_layPacked_128 hl (by decide) rfl (fun ls hl => ?_)
        refine lv_iinc (v := x8_j128 + 1) (lv' := [(8, .int (x8_j128 + 1)), (5, .long t0_j128), (0, .ref (hMo 0)), (1, .int x1_L19), (2, .int x2_L19), (3, .long x3_j128), (7, .int x7_j128)]) (pc := 130) hx hb d_Mod_layPacked_130 hl (k := 6) rfl rfl (by decide) rfl (fun ls hl => ?_)
        refine lv_goto (tgt := 19) (pc := 133) hx hb d_Mod_layPacked_133 (by decide) ?_
        exact ih_19 x3_j128 t0_j128 x7_j128 (x8_j128 + 1) H locs ls hP hD hS (lv_sub hl [2, 3, 4, 5, 1, 6, 0] rfl) hf
      have J126 : ∀ (x3_j126 : Int64) (x5_j126 : Int64) (x7_j126 : Int32) (x8_j126 : Int32) (H : Heap) (locs : List Loc) (ls : Array Slot), va_P D vwCl (fl [wMo K hMo sMo_L19, wRow K (fun _ => hMo 7) 800 sMvalues, wRowI K (fun _ => hMo 17) 101 sMkind, wRowI K (fun _ => hMo 19) 101 sMwidth, wRow K (fun _ => hMo 23) 101 sMbase, wRowZ K (fun _ => hMo 26) 40000 sMbits_L19]) H → va_D A (fl [wMo K hMo sMo_L19, wRow K (fun _ => hMo 7) 800 sMvalues, wRowI K (fun _ => hMo 17) 101 sMkind, wRowI K (fun _ => hMo 19) 101 sMwidth, wRow K (fun _ => hMo 23) 101 sMbase, wRowZ K (fun _ => hMo 26) 40000 sMbits_L19]) → va_S A s.heap H locs → lv_has ls 14 [(0, .ref (hMo 0)), (1, .int x1_L19), (2, .int x2_L19), (3, .long x3_j126), (5, .long x5_j126), (7, .int x7_j126), (8, .int x8_j126)] → Mod_layPacked_j126 fu sMvalues sMkind sMwidth sMbase (fun v0 v1 v2 v3 => Mod_layPacked_L19 fu sMvalues sMkind sMwidth sMbase x1_L19 x2_L19 sMo_L19 sMbits_L19 (fun y3 y5 y7 => Mod_layPacked_j136 fu sMvalues sMkind sMwidth sMbase x1_L19 x2_L19 y3 y5 y7 sMo_L19 sMbits_L19) n_19 v0 v1 v2 v3) (fun y3 y5 y7 => Mod_layPacked_j136 fu sMvalues sMkind sMwidth sMbase x1_L19 x2_L19 y3 y5 y7 sMo_L19 sMbits_L19) x1_L19 x2_L19 sMo_L19 sMbits_L19 x3_j126 x5_j126 x7_j126 x8_j126 = some ((sMo', sMbits')) → W p l e rm_Mod_layPacked s m ([.ref (hMo 0), .int a0, .int a1] : List Value).toArray below meth c H locs 0 0 (Qv below ([.ref (hMo 0), .int a0, .int a1] : List Value).toArray s D K A (fl [wMo K hMo sMo', wRow K (fun _ => hMo 7) 800 sMvalues, wRowI K (fun _ => hMo 17) 101 sMkind, wRowI K (fun _ => hMo 19) 101 sMwidth, wRow K (fun _ => hMo 23) 101 sMbase, wRowZ K (fun _ => hMo 26) 40000 sMbits'])) (F0 m 126 ls []) := by
        intro x3_j126 x5_j126 x7_j126 x8_j126 H locs ls hP hD hS hl hf
        refine lv_lload (pc := 126) hx hb d_Mod_layPacked_126 (lv_at hl 4 rfl) ?_
        exact J128 x3_j126 x7_j126 x8_j126 x5_j126 H locs ls hP hD hS (lv_sub hl [0, 1, 2, 3, 5, 6] rfl) hf
      have J107 : ∀ (x5_j107 : Int64) (x7_j107 : Int32) (x8_j107 : Int32) (x11_j107 : Int64) (x13_j107 : Int32) (t0_j107 : Int64) (H : Heap) (locs : List Loc) (ls : Array Slot), va_P D vwCl (fl [wMo K hMo sMo_L19, wRow K (fun _ => hMo 7) 800 sMvalues, wRowI K (fun _ => hMo 17) 101 sMkind, wRowI K (fun _ => hMo 19) 101 sMwidth, wRow K (fun _ => hMo 23) 101 sMbase, wRowZ K (fun _ => hMo 26) 40000 sMbits_L19]) H → va_D A (fl [wMo K hMo sMo_L19, wRow K (fun _ => hMo 7) 800 sMvalues, wRowI K (fun _ => hMo 17) 101 sMkind, wRowI K (fun _ => hMo 19) 101 sMwidth, wRow K (fun _ => hMo 23) 101 sMbase, wRowZ K (fun _ => hMo 26) 40000 sMbits_L19]) → va_S A s.heap H locs → lv_has ls 14 [(0, .ref (hMo 0)), (1, .int x1_L19), (2, .int x2_L19), (5, .long x5_j107), (7, .int x7_j107), (8, .int x8_j107), (11, .long x11_j107), (13, .int x13_j107)] → Mod_layPacked_j107 fu sMvalues sMkind sMwidth sMbase (fun v0 v1 v2 v3 => Mod_layPacked_L19 fu sMvalues sMkind sMwidth sMbase x1_L19 x2_L19 sMo_L19 sMbits_L19 (fun y3 y5 y7 => Mod_layPacked_j136 fu sMvalues sMkind sMwidth sMbase x1_L19 x2_L19 y3 y5 y7 sMo_L19 sMbits_L19) n_19 v0 v1 v2 v3) (fun y3 y5 y7 => Mod_layPacked_j136 fu sMvalues sMkind sMwidth sMbase x1_L19 x2_L19 y3 y5 y7 sMo_L19 sMbits_L19) x1_L19 x2_L19 sMo_L19 sMbits_L19 x5_j107 x7_j107 x8_j107 x11_j107 x13_j107 t0_j107 = some ((sMo', sMbits')) → W p l e rm_Mod_layPacked s m ([.ref (hMo 0), .int a0, .int a1] : List Value).toArray below meth c H locs 0 0 (Qv below ([.ref (hMo 0), .int a0, .int a1] : List Value).toArray s D K A (fl [wMo K hMo sMo', wRow K (fun _ => hMo 7) 800 sMvalues, wRowI K (fun _ => hMo 17) 101 sMkind, wRowI K (fun _ => hMo 19) 101 sMwidth, wRow K (fun _ => hMo 23) 101 sMbase, wRowZ K (fun _ => hMo 26) 40000 sMbits'])) (F0 m 107 ls [.long t0_j107]) := by
        intro x5_j107 x7_j107 x8_j107 x11_j107 x13_j107 t0_j107 H locs ls hP hD hS hl hf
        refine lv_lstore_n (lv' := [(3, .long t0_j107), (0, .ref (hMo 0)), (1, .int x1_L19), (2, .int x2_L19), (5, .long x5_j107), (7, .int x7_j107), (8, .int x8_j107), (11, .long x11_j107), (13, .int x13_j107)]) (pc := 107) hx hb d_Mod_layPacked_107 rfl hl (by decide) rfl (fun ls hl => ?_)
        refine lv_iload (pc := 108) hx hb d_Mod_layPacked_108 (lv_at hl 8 rfl) ?_
        refine lv_if_ne (tgt := 126) (pc := 110) hx hb d_Mod_layPacked_110 (by decide) (fun c14 => ?_) (fun c14 => ?_)
        · replace hf := o_f c14 hf
          exact J126 t0_j107 x5_j107 x7_j107 x8_j107 H locs ls hP hD hS (lv_sub hl [1, 2, 3, 0, 4, 5, 6] rfl) hf
        · replace hf := o_t c14 hf
          refine lv_lload (pc := 113) hx hb d_Mod_layPacked_113 (lv_at hl 7 rfl) ?_
          refine lv_lload (pc := 115) hx hb d_Mod_layPacked_115 (lv_at hl 4 rfl) ?_
          refine lc_le (tgt := 126) (pc := 117) hx hb d_Mod_layPacked_117 d_Mod_layPacked_118 (by decide) (fun c13 => ?_) (fun c13 => ?_)
          · replace hf := o_t c13 hf
            exact J126 t0_j107 x5_j107 x7_j107 x8_j107 H locs ls hP hD hS (lv_sub hl [1, 2, 3, 0, 4, 5, 6] rfl) hf
          · replace hf := o_f c13 hf
            refine lv_lload (pc := 121) hx hb d_Mod_layPacked_121 (lv_at hl 7 rfl) ?_
            refine lv_goto (tgt := 128) (pc := 123) hx hb d_Mod_layPacked_123 (by decide) ?_
            exact J128 t0_j107 x7_j107 x8_j107 x11_j107 H locs ls hP hD hS (lv_sub hl [1, 2, 3, 0, 5, 6] rfl) hf
      have J106 : ∀ (x3_j106 : Int64) (x5_j106 : Int64) (x7_j106 : Int32) (x8_j106 : Int32) (x11_j106 : Int64) (x13_j106 : Int32) (H : Heap) (locs : List Loc) (ls : Array Slot), va_P D vwCl (fl [wMo K hMo sMo_L19, wRow K (fun _ => hMo 7) 800 sMvalues, wRowI K (fun _ => hMo 17) 101 sMkind, wRowI K (fun _ => hMo 19) 101 sMwidth, wRow K (fun _ => hMo 23) 101 sMbase, wRowZ K (fun _ => hMo 26) 40000 sMbits_L19]) H → va_D A (fl [wMo K hMo sMo_L19, wRow K (fun _ => hMo 7) 800 sMvalues, wRowI K (fun _ => hMo 17) 101 sMkind, wRowI K (fun _ => hMo 19) 101 sMwidth, wRow K (fun _ => hMo 23) 101 sMbase, wRowZ K (fun _ => hMo 26) 40000 sMbits_L19]) → va_S A s.heap H locs → lv_has ls 14 [(0, .ref (hMo 0)), (1, .int x1_L19), (2, .int x2_L19), (3, .long x3_j106), (5, .long x5_j106), (7, .int x7_j106), (8, .int x8_j106), (11, .long x11_j106), (13, .int x13_j106)] → Mod_layPacked_j106 fu sMvalues sMkind sMwidth sMbase (fun v0 v1 v2 v3 => Mod_layPacked_L19 fu sMvalues sMkind sMwidth sMbase x1_L19 x2_L19 sMo_L19 sMbits_L19 (fun y3 y5 y7 => Mod_layPacked_j136 fu sMvalues sMkind sMwidth sMbase x1_L19 x2_L19 y3 y5 y7 sMo_L19 sMbits_L19) n_19 v0 v1 v2 v3) (fun y3 y5 y7 => Mod_layPacked_j136 fu sMvalues sMkind sMwidth sMbase x1_L19 x2_L19 y3 y5 y7 sMo_L19 sMbits_L19) x1_L19 x2_L19 sMo_L19 sMbits_L19 x3_j106 x5_j106 x7_j106 x8_j106 x11_j106 x13_j106 = some ((sMo', sMbits')) → W p l e rm_Mod_layPacked s m ([.ref (hMo 0), .int a0, .int a1] : List Value).toArray below meth c H locs 0 0 (Qv below ([.ref (hMo 0), .int a0, .int a1] : List Value).toArray s D K A (fl [wMo K hMo sMo', wRow K (fun _ => hMo 7) 800 sMvalues, wRowI K (fun _ => hMo 17) 101 sMkind, wRowI K (fun _ => hMo 19) 101 sMwidth, wRow K (fun _ => hMo 23) 101 sMbase, wRowZ K (fun _ => hMo 26) 40000 sMbits'])) (F0 m 106 ls []) := by
        intro x3_j106 x5_j106 x7_j106 x8_j106 x11_j106 x13_j106 H locs ls hP hD hS hl hf
        refine lv_lload_n (pc := 106) hx hb d_Mod_layPacked_106 rfl (lv_at hl 3 rfl) ?_
        exact J107 x5_j106 x7_j106 x8_j106 x11_j106 x13_j106 x3_j106 H locs ls hP hD hS (lv_sub hl [0, 1, 2, 4, 5, 6, 7, 8] rfl) hf
      have J86 : ∀ (x3_j86 : Int64) (x5_j86 : Int64) (x8_j86 : Int32) (x11_j86 : Int64) (x13_j86 : Int32) (t0_j86 : Int32) (t1_j86 : Int32) (H : Heap) (locs : List Loc) (ls : Array Slot), va_P D vwCl (fl [wMo K hMo sMo_L19, wRow K (fun _ => hMo 7) 800 sMvalues, wRowI K (fun _ => hMo 17) 101 sMkind, wRowI K (fun _ => hMo 19) 101 sMwidth, wRow K (fun _ => hMo 23) 101 sMbase, wRowZ K (fun _ => hMo 26) 40000 sMbits_L19]) H → va_D A (fl [wMo K hMo sMo_L19, wRow K (fun _ => hMo 7) 800 sMvalues, wRowI K (fun _ => hMo 17) 101 sMkind, wRowI K (fun _ => hMo 19) 101 sMwidth, wRow K (fun _ => hMo 23) 101 sMbase, wRowZ K (fun _ => hMo 26) 40000 sMbits_L19]) → va_S A s.heap H locs → lv_has ls 14 [(0, .ref (hMo 0)), (1, .int x1_L19), (2, .int x2_L19), (3, .long x3_j86), (5, .long x5_j86), (8, .int x8_j86), (11, .long x11_j86), (13, .int x13_j86)] → Mod_layPacked_j86 fu sMvalues sMkind sMwidth sMbase (fun v0 v1 v2 v3 => Mod_layPacked_L19 fu sMvalues sMkind sMwidth sMbase x1_L19 x2_L19 sMo_L19 sMbits_L19 (fun y3 y5 y7 => Mod_layPacked_j136 fu sMvalues sMkind sMwidth sMbase x1_L19 x2_L19 y3 y5 y7 sMo_L19 sMbits_L19) n_19 v0 v1 v2 v3) (fun y3 y5 y7 => Mod_layPacked_j136 fu sMvalues sMkind sMwidth sMbase x1_L19 x2_L19 y3 y5 y7 sMo_L19 sMbits_L19) x1_L19 x2_L19 sMo_L19 sMbits_L19 x3_j86 x5_j86 x8_j86 x11_j86 x13_j86 t0_j86 t1_j86 = some ((sMo', sMbits')) → W p l e rm_Mod_layPacked s m ([.ref (hMo 0), .int a0, .int a1] : List Value).toArray below meth c H locs 0 0 (Qv below ([.ref (hMo 0), .int a0, .int a1] : List Value).toArray s D K A (fl [wMo K hMo sMo', wRow K (fun _ => hMo 7) 800 sMvalues, wRowI K (fun _ => hMo 17) 101 sMkind, wRowI K (fun _ => hMo 19) 101 sMwidth, wRow K (fun _ => hMo 23) 101 sMbase, wRowZ K (fun _ => hMo 26) 40000 sMbits'])) (F0 m 86 ls [.int t1_j86, .int t0_j86]) := by
        intro x3_j86 x5_j86 x8_j86 x11_j86 x13_j86 t0_j86 t1_j86 H locs ls hP hD hS hl hf
        refine lv_iadd (pc := 86) hx hb d_Mod_layPacked_86 ?_
        refine lv_istore (lv' := [(7, .int (t0_j86 + t1_j86)), (0, .ref (hMo 0)), (1, .int x1_L19), (2, .int x2_L19), (3, .long x3_j86), (5, .long x5_j86), (8, .int x8_j86), (11, .long x11_j86), (13, .int x13_j86)]) (pc := 87) hx hb d_Mod_layPacked_87 hl (by decide) rfl (fun ls hl => ?_)
        refine lv_iload (pc := 89) hx hb d_Mod_layPacked_89 (lv_at hl 8 rfl) ?_
        refine lv_if_ne (tgt := 106) (pc := 91) hx hb d_Mod_layPacked_91 (by decide) (fun c12 => ?_) (fun c12 => ?_)
        · replace hf := o_f c12 hf
          exact J106 x3_j86 x5_j86 (t0_j86 + t1_j86) x8_j86 x11_j86 x13_j86 H locs ls hP hD hS (lv_sub hl [1, 2, 3, 4, 5, 0, 6, 7, 8] rfl) hf
        · replace hf := o_t c12 hf
          refine lv_lload (pc := 94) hx hb d_Mod_layPacked_94 (lv_at hl 7 rfl) ?_
          refine lv_lload_n (pc := 96) hx hb d_Mod_layPacked_96 rfl (lv_at hl 4 rfl) ?_
          refine lc_ge (tgt := 106) (pc := 97) hx hb d_Mod_layPacked_97 d_Mod_layPacked_98 (by decide) (fun c11 => ?_) (fun c11 => ?_)
          · replace hf := o_t c11 hf
            exact J106 x3_j86 x5_j86 (t0_j86 + t1_j86) x8_j86 x11_j86 x13_j86 H locs ls hP hD hS (lv_sub hl [1, 2, 3, 4, 5, 0, 6, 7, 8] rfl) hf
          · replace hf := o_f c11 hf
            refine lv_lload (pc := 101) hx hb d_Mod_layPacked_101 (lv_at hl 7 rfl) ?_
            refine lv_goto (tgt := 107) (pc := 103) hx hb d_Mod_layPacked_103 (by decide) ?_
            exact J107 x5_j86 (t0_j86 + t1_j86) x8_j86 x11_j86 x13_j86 x11_j86 H locs ls hP hD hS (lv_sub hl [1, 2, 3, 5, 0, 6, 7, 8] rfl) hf
      have J72 : ∀ (x3_j72 : Int64) (x5_j72 : Int64) (x7_j72 : Int32) (x8_j72 : Int32) (x11_j72 : Int64) (t0_j72 : Int32) (H : Heap) (locs : List Loc) (ls : Array Slot), va_P D vwCl (fl [wMo K hMo sMo_L19, wRow K (fun _ => hMo 7) 800 sMvalues, wRowI K (fun _ => hMo 17) 101 sMkind, wRowI K (fun _ => hMo 19) 101 sMwidth, wRow K (fun _ => hMo 23) 101 sMbase, wRowZ K (fun _ => hMo 26) 40000 sMbits_L19]) H → va_D A (fl [wMo K hMo sMo_L19, wRow K (fun _ => hMo 7) 800 sMvalues, wRowI K (fun _ => hMo 17) 101 sMkind, wRowI K (fun _ => hMo 19) 101 sMwidth, wRow K (fun _ => hMo 23) 101 sMbase, wRowZ K (fun _ => hMo 26) 40000 sMbits_L19]) → va_S A s.heap H locs → lv_has ls 14 [(0, .ref (hMo 0)), (1, .int x1_L19), (2, .int x2_L19), (3, .long x3_j72), (5, .long x5_j72), (7, .int x7_j72), (8, .int x8_j72), (11, .long x11_j72)] → Mod_layPacked_j72 fu sMvalues sMkind sMwidth sMbase (fun v0 v1 v2 v3 => Mod_layPacked_L19 fu sMvalues sMkind sMwidth sMbase x1_L19 x2_L19 sMo_L19 sMbits_L19 (fun y3 y5 y7 => Mod_layPacked_j136 fu sMvalues sMkind sMwidth sMbase x1_L19 x2_L19 y3 y5 y7 sMo_L19 sMbits_L19) n_19 v0 v1 v2 v3) (fun y3 y5 y7 => Mod_layPacked_j136 fu sMvalues sMkind sMwidth sMbase x1_L19 x2_L19 y3 y5 y7 sMo_L19 sMbits_L19) x1_L19 x2_L19 sMo_L19 sMbits_L19 x3_j72 x5_j72 x7_j72 x8_j72 x11_j72 t0_j72 = some ((sMo', sMbits')) → W p l e rm_Mod_layPacked s m ([.ref (hMo 0), .int a0, .int a1] : List Value).toArray below meth c H locs 0 0 (Qv below ([.ref (hMo 0), .int a0, .int a1] : List Value).toArray s D K A (fl [wMo K hMo sMo', wRow K (fun _ => hMo 7) 800 sMvalues, wRowI K (fun _ => hMo 17) 101 sMkind, wRowI K (fun _ => hMo 19) 101 sMwidth, wRow K (fun _ => hMo 23) 101 sMbase, wRowZ K (fun _ => hMo 26) 40000 sMbits'])) (F0 m 72 ls [.int t0_j72]) := by
        intro x3_j72 x5_j72 x7_j72 x8_j72 x11_j72 t0_j72 H locs ls hP hD hS hl hf
        refine lv_istore (lv' := [(13, .int t0_j72), (0, .ref (hMo 0)), (1, .int x1_L19), (2, .int x2_L19), (3, .long x3_j72), (5, .long x5_j72), (7, .int x7_j72), (8, .int x8_j72), (11, .long x11_j72)]) (pc := 72) hx hb d_Mod_layPacked_72 hl (by decide) rfl (fun ls hl => ?_)
        refine lv_iload (pc := 74) hx hb d_Mod_layPacked_74 (lv_at hl 6 rfl) ?_
        refine lv_iload (pc := 76) hx hb d_Mod_layPacked_76 (lv_at hl 0 rfl) ?_
        refine lv_if_eq (tgt := 85) (pc := 78) hx hb d_Mod_layPacked_78 (by decide) (fun c10 => ?_) (fun c10 => ?_)
        · replace hf := o_t c10 hf
          refine lv_iconst (v := 0) (pc := 85) hx hb d_Mod_layPacked_85 (by decide) ?_
          exact J86 x3_j72 x5_j72 x8_j72 x11_j72 t0_j72 x7_j72 0 H locs ls hP hD hS (lv_sub hl [1, 2, 3, 4, 5, 7, 8, 0] rfl) hf
        · replace hf := o_f c10 hf
          refine lv_iconst (v := 1) (pc := 81) hx hb d_Mod_layPacked_81 (by decide) ?_
          refine lv_goto (tgt := 86) (pc := 82) hx hb d_Mod_layPacked_82 (by decide) ?_
          exact J86 x3_j72 x5_j72 x8_j72 x11_j72 t0_j72 x7_j72 1 H locs ls hP hD hS (lv_sub hl [1, 2, 3, 4, 5, 7, 8, 0] rfl) hf
      have J71 : ∀ (x3_j71 : Int64) (x5_j71 : Int64) (x7_j71 : Int32) (x8_j71 : Int32) (x11_j71 : Int64) (H : Heap) (locs : List Loc) (ls : Array Slot), va_P D vwCl (fl [wMo K hMo sMo_L19, wRow K (fun _ => hMo 7) 800 sMvalues, wRowI K (fun _ => hMo 17) 101 sMkind, wRowI K (fun _ => hMo 19) 101 sMwidth, wRow K (fun _ => hMo 23) 101 sMbase, wRowZ K (fun _ => hMo 26) 40000 sMbits_L19]) H → va_D A (fl [wMo K hMo sMo_L19, wRow K (fun _ => hMo 7) 800 sMvalues, wRowI K (fun _ => hMo 17) 101 sMkind, wRowI K (fun _ => hMo 19) 101 sMwidth, wRow K (fun _ => hMo 23) 101 sMbase, wRowZ K (fun _ => hMo 26) 40000 sMbits_L19]) → va_S A s.heap H locs → lv_has ls 14 [(0, .ref (hMo 0)), (1, .int x1_L19), (2, .int x2_L19), (3, .long x3_j71), (5, .long x5_j71), (7, .int x7_j71), (8, .int x8_j71), (11, .long x11_j71)] → Mod_layPacked_j71 fu sMvalues sMkind sMwidth sMbase (fun v0 v1 v2 v3 => Mod_layPacked_L19 fu sMvalues sMkind sMwidth sMbase x1_L19 x2_L19 sMo_L19 sMbits_L19 (fun y3 y5 y7 => Mod_layPacked_j136 fu sMvalues sMkind sMwidth sMbase x1_L19 x2_L19 y3 y5 y7 sMo_L19 sMbits_L19) n_19 v0 v1 v2 v3) (fun y3 y5 y7 => Mod_layPacked_j136 fu sMvalues sMkind sMwidth sMbase x1_L19 x2_L19 y3 y5 y7 sMo_L19 sMbits_L19) x1_L19 x2_L19 sMo_L19 sMbits_L19 x3_j71 x5_j71 x7_j71 x8_j71 x11_j71 = some ((sMo', sMbits')) → W p l e rm_Mod_layPacked s m ([.ref (hMo 0), .int a0, .int a1] : List Value).toArray below meth c H locs 0 0 (Qv below ([.ref (hMo 0), .int a0, .int a1] : List Value).toArray s D K A (fl [wMo K hMo sMo', wRow K (fun _ => hMo 7) 800 sMvalues, wRowI K (fun _ => hMo 17) 101 sMkind, wRowI K (fun _ => hMo 19) 101 sMwidth, wRow K (fun _ => hMo 23) 101 sMbase, wRowZ K (fun _ => hMo 26) 40000 sMbits'])) (F0 m 71 ls []) := by
        intro x3_j71 x5_j71 x7_j71 x8_j71 x11_j71 H locs ls hP hD hS hl hf
        refine lv_iconst (v := 0) (pc := 71) hx hb d_Mod_layPacked_71 (by decide) ?_
        exact J72 x3_j71 x5_j71 x7_j71 x8_j71 x11_j71 0 H locs ls hP hD hS (lv_sub hl [0, 1, 2, 3, 4, 5, 6, 7] rfl) hf
      refine lv_iload (pc := 19) hx hb d_Mod_layPacked_19 (lv_at hl 6 rfl) ?_
      refine lv_iload_n (pc := 21) hx hb d_Mod_layPacked_21 rfl (lv_at hl 2 rfl) ?_
      refine lv_icmp_ge (tgt := 136) (pc := 22) hx hb d_Mod_layPacked_22 (by decide) (fun c9 => ?_) (fun c9 => ?_)
      · replace hf := o_t c9 hf
        exact J136 x1_L19 x2_L19 x3_L19 x5_L19 x7_L19 sMo_L19 sMbits_L19 H locs ls hP hD hS (lv_sub hl [0, 1, 2, 3, 4, 5] rfl) hf
      · replace hf := o_f c9 hf
        refine lv_aload_n (pc := 25) hx hb d_Mod_layPacked_25 rfl (lv_at hl 0 rfl) ?_
        refine va_get (D := D) (ci := 10) (v := .ref (hMo 7)) (C := R_Mod) (T := T_Mod) (N := 61) (pc := 26) hx hb hts (fun w h => List.mem_cons_of_mem _ (in_Mod w h)) hown hK hP _ (fl_at 0 0 rfl rfl) rfl 10 (by decide) (hts _ (List.mem_cons_of_mem _ tw_1103)) (fun _ h9 => h9) rfl d_Mod_layPacked_26 ?_
        refine lv_bipush (v := 100) (pc := 29) hx hb d_Mod_layPacked_29 (by decide) ?_
        refine lv_iload (pc := 31) hx hb d_Mod_layPacked_31 (lv_at hl 6 rfl) ?_
        refine lv_imul (pc := 33) hx hb d_Mod_layPacked_33 ?_
        refine lv_iload_n (pc := 34) hx hb d_Mod_layPacked_34 rfl (lv_at hl 1 rfl) ?_
        refine lv_iadd (pc := 35) hx hb d_Mod_layPacked_35 ?_
        obtain ⟨hi3, hf⟩ := o_gi_e hf
        refine va_lald (D := D) (pc := 36) hx hb hK hP _ 1 (fl_at 1 0 rfl rfl) rfl hi3 d_Mod_layPacked_36 ?_
        refine lv_topl (fun u4 eu4 => ?_)
        replace hf := o_lt_a eu4 hf
        refine lv_lstore (lv' := [(9, .long u4), (0, .ref (hMo 0)), (1, .int x1_L19), (2, .int x2_L19), (3, .long x3_L19), (5, .long x5_L19), (7, .int x7_L19), (8, .int x8_L19)]) (pc := 37) hx hb d_Mod_layPacked_37 hl (by decide) rfl (fun ls hl => ?_)
        refine lv_aload_n (pc := 39) hx hb d_Mod_layPacked_39 rfl (lv_at hl 1 rfl) ?_
        refine lv_iload_n (pc := 40) hx hb d_Mod_layPacked_40 rfl (lv_at hl 2 rfl) ?_
        refine lv_lload (pc := 41) hx hb d_Mod_layPacked_41 (lv_at hl 0 rfl) ?_
        obtain ⟨q5, hq5, hf⟩ := o_bd_e hf
        refine fi_l (pc := 43) (va_runV (As := [.int x1_L19, .long u4]) (rest := []) ⟨hx, hb, hml, hown, hts⟩ ((c_Mod_raw l D K hMo sMo_L19 sMkind sMwidth sMbase x1_L19 u4 q5 hq5) _) (cwV 2 hts (gV tw_1477 tw_1479 tp_66 tw_12 tw_1480) rfl rfl rfl (by decide +kernel) ⟨by decide, by decide⟩) ⟨mPre_blind, va_recv hK hP (ci := 10) rfl (fl_at 0 0 rfl rfl), (mPre_fl hK hF hA hP hD hS [0, 2, 3, 4] rfl rfl)⟩ rfl rfl hl.1 rfl (lv_room (Nat.le_of_ble_eq_true rfl)) d_Mod_layPacked_43 ⟨Nat.zero_le _, Nat.zero_le _⟩) hA hP hD hS [0, 2, 3, 4] rfl rfl (fun H locs hP hD hS => ?_)
        have hP : va_P D vwCl (fl [wMo K hMo sMo_L19, wRow K (fun _ => hMo 7) 800 sMvalues, wRowI K (fun _ => hMo 17) 101 sMkind, wRowI K (fun _ => hMo 19) 101 sMwidth, wRow K (fun _ => hMo 23) 101 sMbase, wRowZ K (fun _ => hMo 26) 40000 sMbits_L19]) H := hP
        have hD : va_D A (fl [wMo K hMo sMo_L19, wRow K (fun _ => hMo 7) 800 sMvalues, wRowI K (fun _ => hMo 17) 101 sMkind, wRowI K (fun _ => hMo 19) 101 sMwidth, wRow K (fun _ => hMo 23) 101 sMbase, wRowZ K (fun _ => hMo 26) 40000 sMbits_L19]) := hD
        refine lv_lstore (lv' := [(11, .long q5), (9, .long u4), (0, .ref (hMo 0)), (1, .int x1_L19), (2, .int x2_L19), (3, .long x3_L19), (5, .long x5_L19), (7, .int x7_L19), (8, .int x8_L19)]) (pc := 46) hx hb d_Mod_layPacked_46 hl (by decide) rfl (fun ls hl => ?_)
        refine lv_lload (pc := 48) hx hb d_Mod_layPacked_48 (lv_at hl 1 rfl) ?_
        refine lv_ldc2 (pc := 50) hx hb hown (hts _ (List.mem_cons_of_mem _ tw_1092)) d_Mod_layPacked_50 ?_
        refine lc_ne (tgt := 71) (pc := 53) hx hb d_Mod_layPacked_53 d_Mod_layPacked_54 (by decide) (fun c8 => ?_) (fun c8 => ?_)
        · replace hf := o_f c8 hf
          exact J71 x3_L19 x5_L19 x7_L19 x8_L19 q5 H locs ls hP hD hS (lv_sub hl [2, 3, 4, 5, 6, 7, 8, 0] rfl) hf
        · replace hf := o_t c8 hf
          refine lv_aload_n (pc := 57) hx hb d_Mod_layPacked_57 rfl (lv_at hl 2 rfl) ?_
          refine va_get (D := D) (ci := 10) (v := .ref (hMo 17)) (C := R_Mod) (T := T_Mod) (N := 61) (pc := 58) hx hb hts (fun w h => List.mem_cons_of_mem _ (in_Mod w h)) hown hK hP _ (fl_at 0 0 rfl rfl) rfl 23 (by decide) (hts _ (List.mem_cons_of_mem _ tw_1116)) (fun _ h9 => h9) rfl d_Mod_layPacked_58 ?_
          refine lv_iload_n (pc := 61) hx hb d_Mod_layPacked_61 rfl (lv_at hl 3 rfl) ?_
          obtain ⟨hi6, hf⟩ := o_gi_e hf
          refine va_iald (D := D) (pc := 62) hx hb hK hP _ 0 (fl_at 2 0 rfl rfl) rfl hi6 d_Mod_layPacked_62 ?_
          refine lv_iconst (v := 3) (pc := 63) hx hb d_Mod_layPacked_63 (by decide) ?_
          refine lv_icmp_eq (tgt := 71) (pc := 64) hx hb d_Mod_layPacked_64 (by decide) (fun c7 => ?_) (fun c7 => ?_)
          · replace hf := o_t c7 hf
            exact J71 x3_L19 x5_L19 x7_L19 x8_L19 q5 H locs ls hP hD hS (lv_sub hl [2, 3, 4, 5, 6, 7, 8, 0] rfl) hf
          · replace hf := o_f c7 hf
            refine lv_iconst (v := 1) (pc := 67) hx hb d_Mod_layPacked_67 (by decide) ?_
            refine lv_goto (tgt := 72) (pc := 68) hx hb d_Mod_layPacked_68 (by decide) ?_
            exact J72 x3_L19 x5_L19 x7_L19 x8_L19 q5 1 H locs ls hP hD hS (lv_sub hl [2, 3, 4, 5, 6, 7, 8, 0] rfl) hf
  exact L19 a0 a1 sMo sMbits fu q2 0 0 0 H locs ls hP hD hS (lv_sub hl [4, 5, 6, 3, 2, 1, 0] rfl) hf
def Mod_byteAt_j130 (fu : Nat) (sMmade : (Nat → Int32)) (kc_95 : Int32 → Int32 → Option (Int32 × S_Mo)) (x1_L95 : Int32) (sMo_L95 : S_Mo) (x3_j130 : Int32) (t0_j130 : Int32) (t1_j130 : Int32) : Option (Int32 × S_Mo) := kc_95 (t0_j130 + t1_j130) (x3_j130 + 1)
def Mod_byteAt_j129 (fu : Nat) (sMmade : (Nat → Int32)) (kc_95 : Int32 → Int32 → Option (Int32 × S_Mo)) (x1_L95 : Int32) (sMo_L95 : S_Mo) (x3_j129 : Int32) (t0_j129 : Int32) : Option (Int32 × S_Mo) := Mod_byteAt_j130 fu sMmade kc_95 x1_L95 sMo_L95 x3_j129 t0_j129 0
def Mod_byteAt_L95 (fu : Nat) (sMmade : (Nat → Int32)) (x1_L95 : Int32) (sMo_L95 : S_Mo) : Nat → Int32 → Int32 → Option (Int32 × S_Mo)
  | 0, _, _ => none
  | n + 1, x2_L95, x3_L95 => if (8 * (x1_L95 - 3)) ≤ x3_L95 then some ((x2_L95, sMo_L95)) else if (Mo_madeMany sMo_L95) ≤ x3_L95 then Mod_byteAt_j129 fu sMmade (fun v0 v1 => Mod_byteAt_L95 fu sMmade x1_L95 sMo_L95 n v0 v1) x1_L95 sMo_L95 x3_L95 (2 * x2_L95) else o_gd (o_in x3_L95 40000) (if (sMmade (x3_L95 : Int32).toNatClampNeg) = 0 then Mod_byteAt_j129 fu sMmade (fun v0 v1 => Mod_byteAt_L95 fu sMmade x1_L95 sMo_L95 n v0 v1) x1_L95 sMo_L95 x3_L95 (2 * x2_L95) else Mod_byteAt_j130 fu sMmade (fun v0 v1 => Mod_byteAt_L95 fu sMmade x1_L95 sMo_L95 n v0 v1) x1_L95 sMo_L95 x3_L95 (2 * x2_L95) 1)
def Mod_byteAt (fu : Nat) (sMmade : (Nat → Int32)) (a0 : Int32) (sMo : S_Mo) : Option (Int32 × S_Mo) := o_lt (Mo_set_thrown sMo 0) fun sMo_1 => (if (Mo_written sMo_1) = 0 then some (((-1), sMo_1)) else if a0 < 0 then some (((-1), sMo_1)) else if a0 < (4 + (((Mo_madeMany sMo_1) + 7) / 8)) then if 4 ≤ a0 then Mod_byteAt_L95 fu sMmade a0 sMo_1 fu 0 (8 * (a0 - 4)) else if a0 = 0 then some ((Mo_madeKind sMo_1, sMo_1)) else if a0 = 1 then some ((Mo_madeSubsets sMo_1, sMo_1)) else if a0 = 2 then some (((Mo_madeMany sMo_1) >>> (8 &&& 31), sMo_1)) else some (((Mo_madeMany sMo_1) &&& 255, sMo_1)) else some (((-1), sMo_1)))
abbrev rm_Mod_byteAt : Room := { frames := 0, cells := 0, slots := 0, locals := 0 }
set_option maxHeartbeats 4000000 in
set_option maxRecDepth 100000 in
theorem c_Mod_byteAt (l : Launch) (D : va_G) (K : Nat → ClassId) (fu : Nat) (hMo : Nat → Nat) (sMo : S_Mo) (sMmade : (Nat → Int32)) (a0 : Int32) (r : Int32) (sMo' : S_Mo) (hf : Mod_byteAt fu sMmade a0 sMo = some ((r, sMo'))) : mi l D K y_Mod_byteAt ws_Mod_byteAt rm_Mod_byteAt [.ref (hMo 0), .int a0] (fl [wMo K hMo sMo, wRowZ K (fun _ => hMo 27) 40000 sMmade]) (fl [wMo K hMo sMo', wRowZ K (fun _ => hMo 27) 40000 sMmade]) r := by
  refine mi_of (cc := b_Mod_byteAt) (maxL := 4) (own := "ObsMessagesModel") (by decide) rfl rfl (Nat.le_of_ble_eq_true rfl) ?_
  intro p e s m below meth c A ls hC hP hD hS hl
  obtain ⟨hx, hb, hml, hown, hts, hr, hlocks, hK, hF, hA⟩ := hC
  have hP : va_P D vwCl (fl [wMo K hMo sMo, wRowZ K (fun _ => hMo 27) 40000 sMmade]) s.heap := hP
  have hl : lv_has ls 4 [(0, .ref (hMo 0)), (1, .int a0)] := hl
  suffices hW : ∀ (H : Heap) (locs : List Loc), va_P D vwCl (fl [wMo K hMo sMo, wRowZ K (fun _ => hMo 27) 40000 sMmade]) H → va_S A s.heap H locs → W p l e rm_Mod_byteAt s m ([.ref (hMo 0), .int a0] : List Value).toArray below meth c H locs 0 0 (Qi below ([.ref (hMo 0), .int a0] : List Value).toArray s D K A (fl [wMo K hMo sMo', wRowZ K (fun _ => hMo 27) 40000 sMmade]) r) (F0 m 0 ls []) from hW s.heap [] hP hS
  clear hP hS
  intro H locs hP hS
  refine lv_aload_n (pc := 0) hx hb d_Mod_byteAt_0 rfl (lv_at hl 0 rfl) ?_
  refine lv_iconst (v := 0) (pc := 1) hx hb d_Mod_byteAt_1 (by decide) ?_
  refine va_put (D := D) (ci := 10) (v := .int 0) (ty := .int) (C := R_Mod) (T := T_Mod) (N := 61) (pc := 2) hx hb hts (fun w h => List.mem_cons_of_mem _ (in_Mod w h)) ty_Mod ty_Mod_ok nm_Mod hown hK hP hD hS _ (fl_at 0 0 rfl rfl) rfl 0 (by decide) (hts _ (List.mem_cons_of_mem _ tw_1093)) (fun _ h9 => h9) rfl (by decide +kernel) rfl rfl (Nat.le_of_ble_eq_true rfl) d_Mod_byteAt_2 (fun H locs hP hD hS => ?_)
  obtain ⟨sMo_1, esMo_1, hf⟩ := o_lt_e hf
  have hP : va_P D vwCl (fl [wMo K hMo sMo_1, wRowZ K (fun _ => hMo 27) 40000 sMmade]) H := by rw [esMo_1]; exact fl_P 0 0 rfl (Nat.le_of_ble_eq_true rfl) rfl rfl hP
  have hD : va_D A (fl [wMo K hMo sMo_1, wRowZ K (fun _ => hMo 27) 40000 sMmade]) := by rw [esMo_1]; exact fl_D 0 0 rfl (Nat.le_of_ble_eq_true rfl) rfl rfl hD
  refine lv_aload_n (pc := 5) hx hb d_Mod_byteAt_5 rfl (lv_at hl 0 rfl) ?_
  refine va_get (D := D) (ci := 10) (v := .int (Mo_written sMo_1)) (C := R_Mod) (T := T_Mod) (N := 61) (pc := 6) hx hb hts (fun w h => List.mem_cons_of_mem _ (in_Mod w h)) hown hK hP _ (fl_at 0 0 rfl rfl) rfl 45 (by decide) (hts _ (List.mem_cons_of_mem _ tw_1138)) (fun _ h9 => h9) rfl d_Mod_byteAt_6 ?_
  refine lv_if_eq (tgt := 32) (pc := 9) hx hb d_Mod_byteAt_9 (by decide) (fun c12 => ?_) (fun c12 => ?_)
  · replace hf := o_t c12 hf
    refine lv_iconst (v := (-1)) (pc := 32) hx hb d_Mod_byteAt_32 (by decide) ?_
    cases hf
    exact ret_i hx hb hr hlocks hK hP hS d_Mod_byteAt_33
  · replace hf := o_f c12 hf
    refine lv_iload_n (pc := 12) hx hb d_Mod_byteAt_12 rfl (lv_at hl 1 rfl) ?_
    refine lv_if_lt (tgt := 32) (pc := 13) hx hb d_Mod_byteAt_13 (by decide) (fun c11 => ?_) (fun c11 => ?_)
    · replace hf := o_t c11 hf
      refine lv_iconst (v := (-1)) (pc := 32) hx hb d_Mod_byteAt_32 (by decide) ?_
      cases hf
      exact ret_i hx hb hr hlocks hK hP hS d_Mod_byteAt_33
    · replace hf := o_f c11 hf
      refine lv_iload_n (pc := 16) hx hb d_Mod_byteAt_16 rfl (lv_at hl 1 rfl) ?_
      refine lv_iconst (v := 4) (pc := 17) hx hb d_Mod_byteAt_17 (by decide) ?_
      refine lv_aload_n (pc := 18) hx hb d_Mod_byteAt_18 rfl (lv_at hl 0 rfl) ?_
      refine va_get (D := D) (ci := 10) (v := .int (Mo_madeMany sMo_1)) (C := R_Mod) (T := T_Mod) (N := 61) (pc := 19) hx hb hts (fun w h => List.mem_cons_of_mem _ (in_Mod w h)) hown hK hP _ (fl_at 0 0 rfl rfl) rfl 42 (by decide) (hts _ (List.mem_cons_of_mem _ tw_1135)) (fun _ h9 => h9) rfl d_Mod_byteAt_19 ?_
      refine lv_bipush (v := 7) (pc := 22) hx hb d_Mod_byteAt_22 (by decide) ?_
      refine lv_iadd (pc := 24) hx hb d_Mod_byteAt_24 ?_
      refine lv_bipush (v := 8) (pc := 25) hx hb d_Mod_byteAt_25 (by decide) ?_
      refine lv_idiv (pc := 27) hx hb d_Mod_byteAt_27 (by decide) ?_
      refine lv_iadd (pc := 28) hx hb d_Mod_byteAt_28 ?_
      refine lv_icmp_lt (tgt := 34) (pc := 29) hx hb d_Mod_byteAt_29 (by decide) (fun c10 => ?_) (fun c10 => ?_)
      · replace hf := o_t c10 hf
        refine lv_iload_n (pc := 34) hx hb d_Mod_byteAt_34 rfl (lv_at hl 1 rfl) ?_
        refine lv_iconst (v := 4) (pc := 35) hx hb d_Mod_byteAt_35 (by decide) ?_
        refine lv_icmp_ge (tgt := 86) (pc := 36) hx hb d_Mod_byteAt_36 (by decide) (fun c9 => ?_) (fun c9 => ?_)
        · replace hf := o_t c9 hf
          refine lv_iconst (v := 0) (pc := 86) hx hb d_Mod_byteAt_86 (by decide) ?_
          refine lv_istore_n (lv' := [(2, .int 0), (0, .ref (hMo 0)), (1, .int a0)]) (pc := 87) hx hb d_Mod_byteAt_87 rfl hl (by decide) rfl (fun ls hl => ?_)
          refine lv_bipush (v := 8) (pc := 88) hx hb d_Mod_byteAt_88 (by decide) ?_
          refine lv_iload_n (pc := 90) hx hb d_Mod_byteAt_90 rfl (lv_at hl 2 rfl) ?_
          refine lv_iconst (v := 4) (pc := 91) hx hb d_Mod_byteAt_91 (by decide) ?_
          refine lv_isub (pc := 92) hx hb d_Mod_byteAt_92 ?_
          refine lv_imul (pc := 93) hx hb d_Mod_byteAt_93 ?_
          refine lv_istore_n (lv' := [(3, .int (8 * (a0 - 4))), (2, .int 0), (0, .ref (hMo 0)), (1, .int a0)]) (pc := 94) hx hb d_Mod_byteAt_94 rfl hl (by decide) rfl (fun ls hl => ?_)
          have L95 : ∀ (x1_L95 : Int32) (sMo_L95 : S_Mo) (n : Nat) (x2_L95 : Int32) (x3_L95 : Int32) (H : Heap) (locs : List Loc) (ls : Array Slot), va_P D vwCl (fl [wMo K hMo sMo_L95, wRowZ K (fun _ => hMo 27) 40000 sMmade]) H → va_D A (fl [wMo K hMo sMo_L95, wRowZ K (fun _ => hMo 27) 40000 sMmade]) → va_S A s.heap H locs → lv_has ls 4 [(0, .ref (hMo 0)), (1, .int x1_L95), (2, .int x2_L95), (3, .int x3_L95)] → Mod_byteAt_L95 fu sMmade x1_L95 sMo_L95 n x2_L95 x3_L95 = some ((r, sMo')) → W p l e rm_Mod_byteAt s m ([.ref (hMo 0), .int a0] : List Value).toArray below meth c H locs 0 0 (Qi below ([.ref (hMo 0), .int a0] : List Value).toArray s D K A (fl [wMo K hMo sMo', wRowZ K (fun _ => hMo 27) 40000 sMmade]) r) (F0 m 95 ls []) := by
            intro x1_L95 sMo_L95 n
            induction n with
            | zero =>
              intro x2_L95 x3_L95 H locs ls hP hD hS hl hf
              exact absurd hf (fun h => nomatch h)
            | succ n_95 ih_95 =>
              intro x2_L95 x3_L95 H locs ls hP hD hS hl hf
              have J130 : ∀ (x3_j130 : Int32) (t0_j130 : Int32) (t1_j130 : Int32) (H : Heap) (locs : List Loc) (ls : Array Slot), va_P D vwCl (fl [wMo K hMo sMo_L95, wRowZ K (fun _ => hMo 27) 40000 sMmade]) H → va_D A (fl [wMo K hMo sMo_L95, wRowZ K (fun _ => hMo 27) 40000 sMmade]) → va_S A s.heap H locs → lv_has ls 4 [(0, .ref (hMo 0)), (1, .int x1_L95), (3, .int x3_j130)] → Mod_byteAt_j130 fu sMmade (fun v0 v1 => Mod_byteAt_L95 fu sMmade x1_L95 sMo_L95 n_95 v0 v1) x1_L95 sMo_L95 x3_j130 t0_j130 t1_j130 = some ((r, sMo')) → W p l e rm_Mod_byteAt s m ([.ref (hMo 0), .int a0] : List Value).toArray below meth c H locs 0 0 (Qi below ([.ref (hMo 0), .int a0] : List Value).toArray s D K A (fl [wMo K hMo sMo', wRowZ K (fun _ => hMo 27) 40000 sMmade]) r) (F0 m 130 ls [.int t1_j130, .int t0_j130]) := by
                intro x3_j130 t0_j130 t1_j130 H locs ls hP hD hS hl hf
                refine lv_iadd (pc := 130) hx hb d_Mod_byteAt_130 ?_
                refine lv_istore_n (lv' := [(2, .int (t0_j130 + t1_j130)), (0, .ref (hMo 0)), (1, .int x1_L95), (3, .int x3_j130)]) (pc := 131) hx hb d_Mod_byteAt_131 rfl hl (by decide) rfl (fun ls hl => ?_)
                refine lv_iinc (v := x3_j130 + 1) (lv' := [(3, .int (x3_j130 + 1)), (2, .int (t0_j130 + t1_j130)), (0, .ref (hMo 0)), (1, .int x1_L95)]) (pc := 132) hx hb d_Mod_byteAt_132 hl (k := 3) rfl rfl (by decide) rfl (fun ls hl => ?_)
                refine lv_goto (tgt := 95) (pc := 135) hx hb d_Mod_byteAt_135 (by decide) ?_
                exact ih_95 (t0_j130 + t1_j130) (x3_j130 + 1) H locs ls hP hD hS (lv_sub hl [2, 3, 1, 0] rfl) hf
              have J129 : ∀ (x3_j129 : Int32) (t0_j129 : Int32) (H : Heap) (locs : List Loc) (ls : Array Slot), va_P D vwCl (fl [wMo K hMo sMo_L95, wRowZ K (fun _ => hMo 27) 40000 sMmade]) H → va_D A (fl [wMo K hMo sMo_L95, wRowZ K (fun _ => hMo 27) 40000 sMmade]) → va_S A s.heap H locs → lv_has ls 4 [(0, .ref (hMo 0)), (1, .int x1_L95), (3, .int x3_j129)] → Mod_byteAt_j129 fu sMmade (fun v0 v1 => Mod_byteAt_L95 fu sMmade x1_L95 sMo_L95 n_95 v0 v1) x1_L95 sMo_L95 x3_j129 t0_j129 = some ((r, sMo')) → W p l e rm_Mod_byteAt s m ([.ref (hMo 0), .int a0] : List Value).toArray below meth c H locs 0 0 (Qi below ([.ref (hMo 0), .int a0] : List Value).toArray s D K A (fl [wMo K hMo sMo', wRowZ K (fun _ => hMo 27) 40000 sMmade]) r) (F0 m 129 ls [.int t0_j129]) := by
                intro x3_j129 t0_j129 H locs ls hP hD hS hl hf
                refine lv_iconst (v := 0) (pc := 129) hx hb d_Mod_byteAt_129 (by decide) ?_
                exact J130 x3_j129 t0_j129 0 H locs ls hP hD hS (lv_sub hl [0, 1, 2] rfl) hf
              refine lv_iload_n (pc := 95) hx hb d_Mod_byteAt_95 rfl (lv_at hl 3 rfl) ?_
              refine lv_bipush (v := 8) (pc := 96) hx hb d_Mod_byteAt_96 (by decide) ?_
              refine lv_iload_n (pc := 98) hx hb d_Mod_byteAt_98 rfl (lv_at hl 1 rfl) ?_
              refine lv_iconst (v := 3) (pc := 99) hx hb d_Mod_byteAt_99 (by decide) ?_
              refine lv_isub (pc := 100) hx hb d_Mod_byteAt_100 ?_
              refine lv_imul (pc := 101) hx hb d_Mod_byteAt_101 ?_
              refine lv_icmp_ge (tgt := 138) (pc := 102) hx hb d_Mod_byteAt_102 (by decide) (fun c5 => ?_) (fun c5 => ?_)
              · replace hf := o_t c5 hf
                refine lv_iload_n (pc := 138) hx hb d_Mod_byteAt_138 rfl (lv_at hl 2 rfl) ?_
                cases hf
                exact ret_i hx hb hr hlocks hK hP hS d_Mod_byteAt_139
              · replace hf := o_f c5 hf
                refine lv_iconst (v := 2) (pc := 105) hx hb d_Mod_byteAt_105 (by decide) ?_
                refine lv_iload_n (pc := 106) hx hb d_Mod_byteAt_106 rfl (lv_at hl 2 rfl) ?_
                refine lv_imul (pc := 107) hx hb d_Mod_byteAt_107 ?_
                refine lv_iload_n (pc := 108) hx hb d_Mod_byteAt_108 rfl (lv_at hl 3 rfl) ?_
                refine lv_aload_n (pc := 109) hx hb d_Mod_byteAt_109 rfl (lv_at hl 0 rfl) ?_
                refine va_get (D := D) (ci := 10) (v := .int (Mo_madeMany sMo_L95)) (C := R_Mod) (T := T_Mod) (N := 61) (pc := 110) hx hb hts (fun w h => List.mem_cons_of_mem _ (in_Mod w h)) hown hK hP _ (fl_at 0 0 rfl rfl) rfl 42 (by decide) (hts _ (List.mem_cons_of_mem _ tw_1135)) (fun _ h9 => h9) rfl d_Mod_byteAt_110 ?_
                refine lv_icmp_ge (tgt := 129) (pc := 113) hx hb d_Mod_byteAt_113 (by decide) (fun c4 => ?_) (fun c4 => ?_)
                · replace hf := o_t c4 hf
                  exact J129 x3_L95 (2 * x2_L95) H locs ls hP hD hS (lv_sub hl [0, 1, 3] rfl) hf
                · replace hf := o_f c4 hf
                  refine lv_aload_n (pc := 116) hx hb d_Mod_byteAt_116 rfl (lv_at hl 0 rfl) ?_
                  refine va_get (D := D) (ci := 10) (v := .ref (hMo 27)) (C := R_Mod) (T := T_Mod) (N := 61) (pc := 117) hx hb hts (fun w h => List.mem_cons_of_mem _ (in_Mod w h)) hown hK hP _ (fl_at 0 0 rfl rfl) rfl 39 (by decide) (hts _ (List.mem_cons_of_mem _ tw_1132)) (fun _ h9 => h9) rfl d_Mod_byteAt_117 ?_
                  refine lv_iload_n (pc := 120) hx hb d_Mod_byteAt_120 rfl (lv_at hl 3 rfl) ?_
                  obtain ⟨hi2, hf⟩ := o_gi_e hf
                  refine va_zald (D := D) (pc := 121) hx hb hK hP _ 3 (fl_at 1 0 rfl rfl) rfl hi2 d_Mod_byteAt_121 ?_
                  refine lv_if_eq (tgt := 129) (pc := 122) hx hb d_Mod_byteAt_122 (by decide) (fun c3 => ?_) (fun c3 => ?_)
                  · replace hf := o_t c3 hf
                    exact J129 x3_L95 (2 * x2_L95) H locs ls hP hD hS (lv_sub hl [0, 1, 3] rfl) hf
                  · replace hf := o_f c3 hf
                    refine lv_iconst (v := 1) (pc := 125) hx hb d_Mod_byteAt_125 (by decide) ?_
                    refine lv_goto (tgt := 130) (pc := 126) hx hb d_Mod_byteAt_126 (by decide) ?_
                    exact J130 x3_L95 (2 * x2_L95) 1 H locs ls hP hD hS (lv_sub hl [0, 1, 3] rfl) hf
          exact L95 a0 sMo_1 fu 0 (8 * (a0 - 4)) H locs ls hP hD hS (lv_sub hl [2, 3, 1, 0] rfl) hf
        · replace hf := o_f c9 hf
          refine lv_iload_n (pc := 39) hx hb d_Mod_byteAt_39 rfl (lv_at hl 1 rfl) ?_
          refine lv_if_ne (tgt := 50) (pc := 40) hx hb d_Mod_byteAt_40 (by decide) (fun c8 => ?_) (fun c8 => ?_)
          · replace hf := o_f c8 hf
            refine lv_iload_n (pc := 50) hx hb d_Mod_byteAt_50 rfl (lv_at hl 1 rfl) ?_
            refine lv_iconst (v := 1) (pc := 51) hx hb d_Mod_byteAt_51 (by decide) ?_
            refine lv_icmp_ne (tgt := 62) (pc := 52) hx hb d_Mod_byteAt_52 (by decide) (fun c7 => ?_) (fun c7 => ?_)
            · replace hf := o_f c7 hf
              refine lv_iload_n (pc := 62) hx hb d_Mod_byteAt_62 rfl (lv_at hl 1 rfl) ?_
              refine lv_iconst (v := 2) (pc := 63) hx hb d_Mod_byteAt_63 (by decide) ?_
              refine lv_icmp_ne (tgt := 77) (pc := 64) hx hb d_Mod_byteAt_64 (by decide) (fun c6 => ?_) (fun c6 => ?_)
              · replace hf := o_f c6 hf
                refine lv_aload_n (pc := 77) hx hb d_Mod_byteAt_77 rfl (lv_at hl 0 rfl) ?_
                refine va_get (D := D) (ci := 10) (v := .int (Mo_madeMany sMo_1)) (C := R_Mod) (T := T_Mod) (N := 61) (pc := 78) hx hb hts (fun w h => List.mem_cons_of_mem _ (in_Mod w h)) hown hK hP _ (fl_at 0 0 rfl rfl) rfl 42 (by decide) (hts _ (List.mem_cons_of_mem _ tw_1135)) (fun _ h9 => h9) rfl d_Mod_byteAt_78 ?_
                refine lv_sipush (v := 255) (pc := 81) hx hb d_Mod_byteAt_81 (by decide) ?_
                refine lv_iand (pc := 84) hx hb d_Mod_byteAt_84 ?_
                cases hf
                exact ret_i hx hb hr hlocks hK hP hS d_Mod_byteAt_85
              · replace hf := o_t c6 hf
                refine lv_aload_n (pc := 67) hx hb d_Mod_byteAt_67 rfl (lv_at hl 0 rfl) ?_
                refine va_get (D := D) (ci := 10) (v := .int (Mo_madeMany sMo_1)) (C := R_Mod) (T := T_Mod) (N := 61) (pc := 68) hx hb hts (fun w h => List.mem_cons_of_mem _ (in_Mod w h)) hown hK hP _ (fl_at 0 0 rfl rfl) rfl 42 (by decide) (hts _ (List.mem_cons_of_mem _ tw_1135)) (fun _ h9 => h9) rfl d_Mod_byteAt_68 ?_
                refine lv_bipush (v := 8) (pc := 71) hx hb d_Mod_byteAt_71 (by decide) ?_
                refine lv_ishr (pc := 73) hx hb d_Mod_byteAt_73 ?_
                refine lv_goto (tgt := 85) (pc := 74) hx hb d_Mod_byteAt_74 (by decide) ?_
                cases hf
                exact ret_i hx hb hr hlocks hK hP hS d_Mod_byteAt_85
            · replace hf := o_t c7 hf
              refine lv_aload_n (pc := 55) hx hb d_Mod_byteAt_55 rfl (lv_at hl 0 rfl) ?_
              refine va_get (D := D) (ci := 10) (v := .int (Mo_madeSubsets sMo_1)) (C := R_Mod) (T := T_Mod) (N := 61) (pc := 56) hx hb hts (fun w h => List.mem_cons_of_mem _ (in_Mod w h)) hown hK hP _ (fl_at 0 0 rfl rfl) rfl 44 (by decide) (hts _ (List.mem_cons_of_mem _ tw_1137)) (fun _ h9 => h9) rfl d_Mod_byteAt_56 ?_
              refine lv_goto (tgt := 85) (pc := 59) hx hb d_Mod_byteAt_59 (by decide) ?_
              cases hf
              exact ret_i hx hb hr hlocks hK hP hS d_Mod_byteAt_85
          · replace hf := o_t c8 hf
            refine lv_aload_n (pc := 43) hx hb d_Mod_byteAt_43 rfl (lv_at hl 0 rfl) ?_
            refine va_get (D := D) (ci := 10) (v := .int (Mo_madeKind sMo_1)) (C := R_Mod) (T := T_Mod) (N := 61) (pc := 44) hx hb hts (fun w h => List.mem_cons_of_mem _ (in_Mod w h)) hown hK hP _ (fl_at 0 0 rfl rfl) rfl 43 (by decide) (hts _ (List.mem_cons_of_mem _ tw_1136)) (fun _ h9 => h9) rfl d_Mod_byteAt_44 ?_
            refine lv_goto (tgt := 85) (pc := 47) hx hb d_Mod_byteAt_47 (by decide) ?_
            cases hf
            exact ret_i hx hb hr hlocks hK hP hS d_Mod_byteAt_85
      · replace hf := o_f c10 hf
        refine lv_iconst (v := (-1)) (pc := 32) hx hb d_Mod_byteAt_32 (by decide) ?_
        cases hf
        exact ret_i hx hb hr hlocks hK hP hS d_Mod_byteAt_33
def Mod_feed_L33 (fu : Nat) (x1_L33 : Int32) : Nat → Int32 → S_Mo → (Nat → Int32) → Option (Int32 × S_Mo × (Nat → Int32))
  | 0, _, _, _ => none
  | n + 1, x3_L33, sMo_L33, sMtape_L33 => if x3_L33 < 0 then some ((Mo_taped sMo_L33, sMo_L33, sMtape_L33)) else o_gd (o_in (Mo_taped sMo_L33) 1000) (o_lt (upd sMtape_L33 (Mo_taped sMo_L33 : Int32).toNatClampNeg ((x1_L33 >>> ((8 * x3_L33) &&& 31)) &&& 255)) fun sMtape_3 => (o_lt (Mo_set_taped sMo_L33 ((Mo_taped sMo_L33) + 1)) fun sMo_4 => (Mod_feed_L33 fu x1_L33 n (x3_L33 + (-1)) sMo_4 sMtape_3)))
def Mod_feed (fu : Nat) (a0 : Int32) (a1 : Int32) (sMo : S_Mo) (sMtape : (Nat → Int32)) : Option (Int32 × S_Mo × (Nat → Int32)) := o_lt (Mo_set_thrown sMo 0) fun sMo_1 => (if a1 < 1 then some (((-1), sMo_1, sMtape)) else if 4 < a1 then some (((-1), sMo_1, sMtape)) else if ((Mo_taped sMo_1) + a1) ≤ 1000 then Mod_feed_L33 fu a0 fu (a1 - 1) sMo_1 sMtape else some (((-1), sMo_1, sMtape)))
abbrev rm_Mod_feed : Room := { frames := 0, cells := 0, slots := 0, locals := 0 }
set_option maxHeartbeats 4000000 in
set_option maxRecDepth 100000 in
theorem c_Mod_feed (l : Launch) (D : va_G) (K : Nat → ClassId) (fu : Nat) (hMo : Nat → Nat) (sMo : S_Mo) (sMtape : (Nat → Int32)) (a0 : Int32) (a1 : Int32) (r : Int32) (sMo' : S_Mo) (sMtape' : (Nat → Int32)) (hf : Mod_feed fu a0 a1 sMo sMtape = some ((r, sMo', sMtape'))) : mi l D K y_Mod_feed ws_Mod_feed rm_Mod_feed [.ref (hMo 0), .int a0, .int a1] (fl [wMo K hMo sMo, wRowI K (fun _ => hMo 28) 1000 sMtape]) (fl [wMo K hMo sMo', wRowI K (fun _ => hMo 28) 1000 sMtape']) r := by
  refine mi_of (cc := b_Mod_feed) (maxL := 4) (own := "ObsMessagesModel") (by decide) rfl rfl (Nat.le_of_ble_eq_true rfl) ?_
  intro p e s m below meth c A ls hC hP hD hS hl
  obtain ⟨hx, hb, hml, hown, hts, hr, hlocks, hK, hF, hA⟩ := hC
  have hP : va_P D vwCl (fl [wMo K hMo sMo, wRowI K (fun _ => hMo 28) 1000 sMtape]) s.heap := hP
  have hl : lv_has ls 4 [(0, .ref (hMo 0)), (1, .int a0), (2, .int a1)] := hl
  suffices hW : ∀ (H : Heap) (locs : List Loc), va_P D vwCl (fl [wMo K hMo sMo, wRowI K (fun _ => hMo 28) 1000 sMtape]) H → va_S A s.heap H locs → W p l e rm_Mod_feed s m ([.ref (hMo 0), .int a0, .int a1] : List Value).toArray below meth c H locs 0 0 (Qi below ([.ref (hMo 0), .int a0, .int a1] : List Value).toArray s D K A (fl [wMo K hMo sMo', wRowI K (fun _ => hMo 28) 1000 sMtape']) r) (F0 m 0 ls []) from hW s.heap [] hP hS
  clear hP hS
  intro H locs hP hS
  refine lv_aload_n (pc := 0) hx hb d_Mod_feed_0 rfl (lv_at hl 0 rfl) ?_
  refine lv_iconst (v := 0) (pc := 1) hx hb d_Mod_feed_1 (by decide) ?_
  refine va_put (D := D) (ci := 10) (v := .int 0) (ty := .int) (C := R_Mod) (T := T_Mod) (N := 61) (pc := 2) hx hb hts (fun w h => List.mem_cons_of_mem _ (in_Mod w h)) ty_Mod ty_Mod_ok nm_Mod hown hK hP hD hS _ (fl_at 0 0 rfl rfl) rfl 0 (by decide) (hts _ (List.mem_cons_of_mem _ tw_1093)) (fun _ h9 => h9) rfl (by decide +kernel) rfl rfl (Nat.le_of_ble_eq_true rfl) d_Mod_feed_2 (fun H locs hP hD hS => ?_)
  obtain ⟨sMo_1, esMo_1, hf⟩ := o_lt_e hf
  have hP : va_P D vwCl (fl [wMo K hMo sMo_1, wRowI K (fun _ => hMo 28) 1000 sMtape]) H := by rw [esMo_1]; exact fl_P 0 0 rfl (Nat.le_of_ble_eq_true rfl) rfl rfl hP
  have hD : va_D A (fl [wMo K hMo sMo_1, wRowI K (fun _ => hMo 28) 1000 sMtape]) := by rw [esMo_1]; exact fl_D 0 0 rfl (Nat.le_of_ble_eq_true rfl) rfl rfl hD
  refine lv_iload_n (pc := 5) hx hb d_Mod_feed_5 rfl (lv_at hl 2 rfl) ?_
  refine lv_iconst (v := 1) (pc := 6) hx hb d_Mod_feed_6 (by decide) ?_
  refine lv_icmp_lt (tgt := 27) (pc := 7) hx hb d_Mod_feed_7 (by decide) (fun c8 => ?_) (fun c8 => ?_)
  · replace hf := o_t c8 hf
    refine lv_iconst (v := (-1)) (pc := 27) hx hb d_Mod_feed_27 (by decide) ?_
    cases hf
    exact ret_i hx hb hr hlocks hK hP hS d_Mod_feed_28
  · replace hf := o_f c8 hf
    refine lv_iload_n (pc := 10) hx hb d_Mod_feed_10 rfl (lv_at hl 2 rfl) ?_
    refine lv_iconst (v := 4) (pc := 11) hx hb d_Mod_feed_11 (by decide) ?_
    refine lv_icmp_gt (tgt := 27) (pc := 12) hx hb d_Mod_feed_12 (by decide) (fun c7 => ?_) (fun c7 => ?_)
    · replace hf := o_t c7 hf
      refine lv_iconst (v := (-1)) (pc := 27) hx hb d_Mod_feed_27 (by decide) ?_
      cases hf
      exact ret_i hx hb hr hlocks hK hP hS d_Mod_feed_28
    · replace hf := o_f c7 hf
      refine lv_aload_n (pc := 15) hx hb d_Mod_feed_15 rfl (lv_at hl 0 rfl) ?_
      refine va_get (D := D) (ci := 10) (v := .int (Mo_taped sMo_1)) (C := R_Mod) (T := T_Mod) (N := 61) (pc := 16) hx hb hts (fun w h => List.mem_cons_of_mem _ (in_Mod w h)) hown hK hP _ (fl_at 0 0 rfl rfl) rfl 46 (by decide) (hts _ (List.mem_cons_of_mem _ tw_1139)) (fun _ h9 => h9) rfl d_Mod_feed_16 ?_
      refine lv_iload_n (pc := 19) hx hb d_Mod_feed_19 rfl (lv_at hl 2 rfl) ?_
      refine lv_iadd (pc := 20) hx hb d_Mod_feed_20 ?_
      refine lv_sipush (v := 1000) (pc := 21) hx hb d_Mod_feed_21 (by decide) ?_
      refine lv_icmp_le (tgt := 29) (pc := 24) hx hb d_Mod_feed_24 (by decide) (fun c6 => ?_) (fun c6 => ?_)
      · replace hf := o_t c6 hf
        refine lv_iload_n (pc := 29) hx hb d_Mod_feed_29 rfl (lv_at hl 2 rfl) ?_
        refine lv_iconst (v := 1) (pc := 30) hx hb d_Mod_feed_30 (by decide) ?_
        refine lv_isub (pc := 31) hx hb d_Mod_feed_31 ?_
        refine lv_istore_n (lv' := [(3, .int (a1 - 1)), (0, .ref (hMo 0)), (1, .int a0), (2, .int a1)]) (pc := 32) hx hb d_Mod_feed_32 rfl hl (by decide) rfl (fun ls hl => ?_)
        have L33 : ∀ (x1_L33 : Int32) (n : Nat) (x3_L33 : Int32) (sMo_L33 : S_Mo) (sMtape_L33 : (Nat → Int32)) (H : Heap) (locs : List Loc) (ls : Array Slot), va_P D vwCl (fl [wMo K hMo sMo_L33, wRowI K (fun _ => hMo 28) 1000 sMtape_L33]) H → va_D A (fl [wMo K hMo sMo_L33, wRowI K (fun _ => hMo 28) 1000 sMtape_L33]) → va_S A s.heap H locs → lv_has ls 4 [(0, .ref (hMo 0)), (1, .int x1_L33), (3, .int x3_L33)] → Mod_feed_L33 fu x1_L33 n x3_L33 sMo_L33 sMtape_L33 = some ((r, sMo', sMtape')) → W p l e rm_Mod_feed s m ([.ref (hMo 0), .int a0, .int a1] : List Value).toArray below meth c H locs 0 0 (Qi below ([.ref (hMo 0), .int a0, .int a1] : List Value).toArray s D K A (fl [wMo K hMo sMo', wRowI K (fun _ => hMo 28) 1000 sMtape']) r) (F0 m 33 ls []) := by
          intro x1_L33 n
          induction n with
          | zero =>
            intro x3_L33 sMo_L33 sMtape_L33 H locs ls hP hD hS hl hf
            exact absurd hf (fun h => nomatch h)
          | succ n_33 ih_33 =>
            intro x3_L33 sMo_L33 sMtape_L33 H locs ls hP hD hS hl hf
            refine lv_iload_n (pc := 33) hx hb d_Mod_feed_33 rfl (lv_at hl 2 rfl) ?_
            refine lv_if_lt (tgt := 72) (pc := 34) hx hb d_Mod_feed_34 (by decide) (fun c5 => ?_) (fun c5 => ?_)
            · replace hf := o_t c5 hf
              refine lv_aload_n (pc := 72) hx hb d_Mod_feed_72 rfl (lv_at hl 0 rfl) ?_
              refine va_get (D := D) (ci := 10) (v := .int (Mo_taped sMo_L33)) (C := R_Mod) (T := T_Mod) (N := 61) (pc := 73) hx hb hts (fun w h => List.mem_cons_of_mem _ (in_Mod w h)) hown hK hP _ (fl_at 0 0 rfl rfl) rfl 46 (by decide) (hts _ (List.mem_cons_of_mem _ tw_1139)) (fun _ h9 => h9) rfl d_Mod_feed_73 ?_
              cases hf
              exact ret_i hx hb hr hlocks hK hP hS d_Mod_feed_76
            · replace hf := o_f c5 hf
              refine lv_aload_n (pc := 37) hx hb d_Mod_feed_37 rfl (lv_at hl 0 rfl) ?_
              refine va_get (D := D) (ci := 10) (v := .ref (hMo 28)) (C := R_Mod) (T := T_Mod) (N := 61) (pc := 38) hx hb hts (fun w h => List.mem_cons_of_mem _ (in_Mod w h)) hown hK hP _ (fl_at 0 0 rfl rfl) rfl 47 (by decide) (hts _ (List.mem_cons_of_mem _ tw_1140)) (fun _ h9 => h9) rfl d_Mod_feed_38 ?_
              refine lv_aload_n (pc := 41) hx hb d_Mod_feed_41 rfl (lv_at hl 0 rfl) ?_
              refine va_get (D := D) (ci := 10) (v := .int (Mo_taped sMo_L33)) (C := R_Mod) (T := T_Mod) (N := 61) (pc := 42) hx hb hts (fun w h => List.mem_cons_of_mem _ (in_Mod w h)) hown hK hP _ (fl_at 0 0 rfl rfl) rfl 46 (by decide) (hts _ (List.mem_cons_of_mem _ tw_1139)) (fun _ h9 => h9) rfl d_Mod_feed_42 ?_
              refine lv_iload_n (pc := 45) hx hb d_Mod_feed_45 rfl (lv_at hl 1 rfl) ?_
              refine lv_bipush (v := 8) (pc := 46) hx hb d_Mod_feed_46 (by decide) ?_
              refine lv_iload_n (pc := 48) hx hb d_Mod_feed_48 rfl (lv_at hl 2 rfl) ?_
              refine lv_imul (pc := 49) hx hb d_Mod_feed_49 ?_
              refine lv_ishr (pc := 50) hx hb d_Mod_feed_50 ?_
              refine lv_sipush (v := 255) (pc := 51) hx hb d_Mod_feed_51 (by decide) ?_
              refine lv_iand (pc := 54) hx hb d_Mod_feed_54 ?_
              obtain ⟨hi2, hf⟩ := o_gi_e hf
              refine va_iast (D := D) (pc := 55) hx hb hK hP hD hS _ 0 (fl_at 1 0 rfl rfl) rfl hi2 d_Mod_feed_55 (fun H locs hP hD hS => ?_)
              obtain ⟨sMtape_3, esMtape_3, hf⟩ := o_lt_e hf
              have hP : va_P D vwCl (fl [wMo K hMo sMo_L33, wRowI K (fun _ => hMo 28) 1000 sMtape_3]) H := by rw [esMtape_3]; exact fl_P 1 0 rfl (Nat.le_of_ble_eq_true rfl) rfl rfl hP
              have hD : va_D A (fl [wMo K hMo sMo_L33, wRowI K (fun _ => hMo 28) 1000 sMtape_3]) := by rw [esMtape_3]; exact fl_D 1 0 rfl (Nat.le_of_ble_eq_true rfl) rfl rfl hD
              refine lv_aload_n (pc := 56) hx hb d_Mod_feed_56 rfl (lv_at hl 0 rfl) ?_
              refine lv_dup (pc := 57) hx hb d_Mod_feed_57 rfl ?_
              refine va_get (D := D) (ci := 10) (v := .int (Mo_taped sMo_L33)) (C := R_Mod) (T := T_Mod) (N := 61) (pc := 58) hx hb hts (fun w h => List.mem_cons_of_mem _ (in_Mod w h)) hown hK hP _ (fl_at 0 0 rfl rfl) rfl 46 (by decide) (hts _ (List.mem_cons_of_mem _ tw_1139)) (fun _ h9 => h9) rfl d_Mod_feed_58 ?_
              refine lv_iconst (v := 1) (pc := 61) hx hb d_Mod_feed_61 (by decide) ?_
              refine lv_iadd (pc := 62) hx hb d_Mod_feed_62 ?_
              refine va_put (D := D) (ci := 10) (v := .int ((Mo_taped sMo_L33) + 1)) (ty := .int) (C := R_Mod) (T := T_Mod) (N := 61) (pc := 63) hx hb hts (fun w h => List.mem_cons_of_mem _ (in_Mod w h)) ty_Mod ty_Mod_ok nm_Mod hown hK hP hD hS _ (fl_at 0 0 rfl rfl) rfl 46 (by decide) (hts _ (List.mem_cons_of_mem _ tw_1139)) (fun _ h9 => h9) rfl (by decide +kernel) rfl rfl (Nat.le_of_ble_eq_true rfl) d_Mod_feed_63 (fun H locs hP hD hS => ?_)
              obtain ⟨sMo_4, esMo_4, hf⟩ := o_lt_e hf
              have hP : va_P D vwCl (fl [wMo K hMo sMo_4, wRowI K (fun _ => hMo 28) 1000 sMtape_3]) H := by rw [esMo_4]; exact fl_P 0 0 rfl (Nat.le_of_ble_eq_true rfl) rfl rfl hP
              have hD : va_D A (fl [wMo K hMo sMo_4, wRowI K (fun _ => hMo 28) 1000 sMtape_3]) := by rw [esMo_4]; exact fl_D 0 0 rfl (Nat.le_of_ble_eq_true rfl) rfl rfl hD
              refine lv_iinc (v := x3_L33 + (-1)) (lv' := [(3, .int (x3_L33 + (-1))), (0, .ref (hMo 0)), (1, .int x1_L33)]) (pc := 66) hx hb d_Mod_feed_66 hl (k := 2) rfl rfl (by decide) rfl (fun ls hl => ?_)
              refine lv_goto (tgt := 33) (pc := 69) hx hb d_Mod_feed_69 (by decide) ?_
              exact ih_33 (x3_L33 + (-1)) sMo_4 sMtape_3 H locs ls hP hD hS (lv_sub hl [1, 2, 0] rfl) hf
        exact L33 a0 fu (a1 - 1) sMo_1 sMtape H locs ls hP hD hS (lv_sub hl [1, 2, 0] rfl) hf
      · replace hf := o_f c6 hf
        refine lv_iconst (v := (-1)) (pc := 27) hx hb d_Mod_feed_27 (by decide) ?_
        cases hf
        exact ret_i hx hb hr hlocks hK hP hS d_Mod_feed_28
def Mod_unpack_j169 (fu : Nat) (sMtape : (Nat → Int32)) (kc_93 : Int32 → Int32 → (Nat → Int32) → Option (Int32 × S_Mo × (Nat → Int32))) (x1_L93 : Int32) (sMo_L93 : S_Mo) (x2_j169 : Int32) (x3_j169 : Int32) (sMbits_j169 : (Nat → Int32)) : Option (Int32 × S_Mo × (Nat → Int32)) := kc_93 x2_j169 (x3_j169 + 1) sMbits_j169
def Mod_unpack_j168 (fu : Nat) (sMtape : (Nat → Int32)) (kc_93 : Int32 → Int32 → (Nat → Int32) → Option (Int32 × S_Mo × (Nat → Int32))) (x1_L93 : Int32) (sMo_L93 : S_Mo) (x3_j168 : Int32) (t0_j168 : Int32) (sMbits_j168 : (Nat → Int32)) : Option (Int32 × S_Mo × (Nat → Int32)) := Mod_unpack_j169 fu sMtape kc_93 x1_L93 sMo_L93 t0_j168 x3_j168 sMbits_j168
def Mod_unpack_j167 (fu : Nat) (sMtape : (Nat → Int32)) (kc_93 : Int32 → Int32 → (Nat → Int32) → Option (Int32 × S_Mo × (Nat → Int32))) (x1_L93 : Int32) (sMo_L93 : S_Mo) (x3_j167 : Int32) (sMbits_j167 : (Nat → Int32)) : Option (Int32 × S_Mo × (Nat → Int32)) := Mod_unpack_j168 fu sMtape kc_93 x1_L93 sMo_L93 x3_j167 0 sMbits_j167
def Mod_unpack_j133 (fu : Nat) (sMtape : (Nat → Int32)) (kc_93 : Int32 → Int32 → (Nat → Int32) → Option (Int32 × S_Mo × (Nat → Int32))) (x1_L93 : Int32) (sMo_L93 : S_Mo) (x2_j133 : Int32) (x3_j133 : Int32) (t0_j133 : Int32) (sMbits_j133 : (Nat → Int32)) : Option (Int32 × S_Mo × (Nat → Int32)) := if (Mo_many sMo_L93) ≤ x3_j133 then if x2_j133 = 0 then Mod_unpack_j167 fu sMtape kc_93 x1_L93 sMo_L93 x3_j133 sMbits_j133 else if t0_j133 = 0 then Mod_unpack_j168 fu sMtape kc_93 x1_L93 sMo_L93 x3_j133 1 sMbits_j133 else Mod_unpack_j167 fu sMtape kc_93 x1_L93 sMo_L93 x3_j133 sMbits_j133 else o_gd (o_in x3_j133 40000) (o_lt (upd sMbits_j133 (x3_j133 : Int32).toNatClampNeg (vp_nar .boolean t0_j133)) fun sMbits_17 => (Mod_unpack_j169 fu sMtape kc_93 x1_L93 sMo_L93 x2_j133 x3_j133 sMbits_17))
def Mod_unpack_L93 (fu : Nat) (sMtape : (Nat → Int32)) (x1_L93 : Int32) (sMo_L93 : S_Mo) : Nat → Int32 → Int32 → (Nat → Int32) → Option (Int32 × S_Mo × (Nat → Int32))
  | 0, _, _, _ => none
  | n + 1, x2_L93, x3_L93, sMbits_L93 => if (8 * (x1_L93 - 4)) ≤ x3_L93 then o_gd (o_bool x2_L93) (some ((x2_L93, sMo_L93, sMbits_L93))) else o_gd (o_in (4 + (x3_L93 / 8)) 1000) (if (((sMtape (4 + (x3_L93 / 8) : Int32).toNatClampNeg) >>> ((7 - (x3_L93 - x3_L93 / 8 * 8)) &&& 31)) &&& 1) = 1 then Mod_unpack_j133 fu sMtape (fun v0 v1 v2 => Mod_unpack_L93 fu sMtape x1_L93 sMo_L93 n v0 v1 v2) x1_L93 sMo_L93 x2_L93 x3_L93 1 sMbits_L93 else Mod_unpack_j133 fu sMtape (fun v0 v1 v2 => Mod_unpack_L93 fu sMtape x1_L93 sMo_L93 n v0 v1 v2) x1_L93 sMo_L93 x2_L93 x3_L93 0 sMbits_L93)
def Mod_unpack_j27 (fu : Nat) (sMtape : (Nat → Int32)) (x1_j27 : Int32) (sMo_j27 : S_Mo) (sMbits_j27 : (Nat → Int32)) : Option (Int32 × S_Mo × (Nat → Int32)) := o_gd (o_in 1 1000) (if (sMtape (1 : Int32).toNatClampNeg) < 1 then some ((0, sMo_j27, sMbits_j27)) else o_gd (o_in 1 1000) (if (sMtape (1 : Int32).toNatClampNeg) ≤ 8 then o_gd (o_in 2 1000) (o_gd (o_in 3 1000) (o_lt (Mo_set_many sMo_j27 ((256 * (sMtape (2 : Int32).toNatClampNeg)) + (sMtape (3 : Int32).toNatClampNeg))) fun sMo_10 => (if x1_j27 = (4 + (((Mo_many sMo_10) + 7) / 8)) then Mod_unpack_L93 fu sMtape x1_j27 sMo_10 fu 1 0 sMbits_j27 else some ((0, sMo_10, sMbits_j27))))) else some ((0, sMo_j27, sMbits_j27))))
def Mod_unpack (fu : Nat) (sMtape : (Nat → Int32)) (a0 : Int32) (sMo : S_Mo) (sMbits : (Nat → Int32)) : Option (Int32 × S_Mo × (Nat → Int32)) := if a0 < 4 then some ((0, sMo, sMbits)) else o_gd (o_in 0 1000) (if (sMtape (0 : Int32).toNatClampNeg) = 66 then Mod_unpack_j27 fu sMtape a0 sMo sMbits else o_gd (o_in 0 1000) (if (sMtape (0 : Int32).toNatClampNeg) = 67 then Mod_unpack_j27 fu sMtape a0 sMo sMbits else some ((0, sMo, sMbits))))
abbrev rm_Mod_unpack : Room := { frames := 0, cells := 0, slots := 0, locals := 0 }
set_option maxHeartbeats 4000000 in
set_option maxRecDepth 100000 in
theorem c_Mod_unpack (l : Launch) (D : va_G) (K : Nat → ClassId) (fu : Nat) (hMo : Nat → Nat) (sMo : S_Mo) (sMbits : (Nat → Int32)) (sMtape : (Nat → Int32)) (a0 : Int32) (r : Int32) (sMo' : S_Mo) (sMbits' : (Nat → Int32)) (hf : Mod_unpack fu sMtape a0 sMo sMbits = some ((r, sMo', sMbits'))) : mi l D K y_Mod_unpack ws_Mod_unpack rm_Mod_unpack [.ref (hMo 0), .int a0] (fl [wMo K hMo sMo, wRowZ K (fun _ => hMo 26) 40000 sMbits, wRowI K (fun _ => hMo 28) 1000 sMtape]) (fl [wMo K hMo sMo', wRowZ K (fun _ => hMo 26) 40000 sMbits', wRowI K (fun _ => hMo 28) 1000 sMtape]) r := by
  refine mi_of (cc := b_Mod_unpack) (maxL := 5) (own := "ObsMessagesModel") (by decide) rfl rfl (Nat.le_of_ble_eq_true rfl) ?_
  intro p e s m below meth c A ls hC hP hD hS hl
  obtain ⟨hx, hb, hml, hown, hts, hr, hlocks, hK, hF, hA⟩ := hC
  have hP : va_P D vwCl (fl [wMo K hMo sMo, wRowZ K (fun _ => hMo 26) 40000 sMbits, wRowI K (fun _ => hMo 28) 1000 sMtape]) s.heap := hP
  have hl : lv_has ls 5 [(0, .ref (hMo 0)), (1, .int a0)] := hl
  suffices hW : ∀ (H : Heap) (locs : List Loc), va_P D vwCl (fl [wMo K hMo sMo, wRowZ K (fun _ => hMo 26) 40000 sMbits, wRowI K (fun _ => hMo 28) 1000 sMtape]) H → va_S A s.heap H locs → W p l e rm_Mod_unpack s m ([.ref (hMo 0), .int a0] : List Value).toArray below meth c H locs 0 0 (Qi below ([.ref (hMo 0), .int a0] : List Value).toArray s D K A (fl [wMo K hMo sMo', wRowZ K (fun _ => hMo 26) 40000 sMbits', wRowI K (fun _ => hMo 28) 1000 sMtape]) r) (F0 m 0 ls []) from hW s.heap [] hP hS
  clear hP hS
  intro H locs hP hS
  have J27 : ∀ (x1_j27 : Int32) (sMo_j27 : S_Mo) (sMbits_j27 : (Nat → Int32)) (H : Heap) (locs : List Loc) (ls : Array Slot), va_P D vwCl (fl [wMo K hMo sMo_j27, wRowZ K (fun _ => hMo 26) 40000 sMbits_j27, wRowI K (fun _ => hMo 28) 1000 sMtape]) H → va_D A (fl [wMo K hMo sMo_j27, wRowZ K (fun _ => hMo 26) 40000 sMbits_j27, wRowI K (fun _ => hMo 28) 1000 sMtape]) → va_S A s.heap H locs → lv_has ls 5 [(0, .ref (hMo 0)), (1, .int x1_j27)] → Mod_unpack_j27 fu sMtape x1_j27 sMo_j27 sMbits_j27 = some ((r, sMo', sMbits')) → W p l e rm_Mod_unpack s m ([.ref (hMo 0), .int a0] : List Value).toArray below meth c H locs 0 0 (Qi below ([.ref (hMo 0), .int a0] : List Value).toArray s D K A (fl [wMo K hMo sMo', wRowZ K (fun _ => hMo 26) 40000 sMbits', wRowI K (fun _ => hMo 28) 1000 sMtape]) r) (F0 m 27 ls []) := by
    intro x1_j27 sMo_j27 sMbits_j27 H locs ls hP hD hS hl hf
    refine lv_aload_n (pc := 27) hx hb d_Mod_unpack_27 rfl (lv_at hl 0 rfl) ?_
    refine va_get (D := D) (ci := 10) (v := .ref (hMo 28)) (C := R_Mod) (T := T_Mod) (N := 61) (pc := 28) hx hb hts (fun w h => List.mem_cons_of_mem _ (in_Mod w h)) hown hK hP _ (fl_at 0 0 rfl rfl) rfl 47 (by decide) (hts _ (List.mem_cons_of_mem _ tw_1140)) (fun _ h9 => h9) rfl d_Mod_unpack_28 ?_
    refine lv_iconst (v := 1) (pc := 31) hx hb d_Mod_unpack_31 (by decide) ?_
    obtain ⟨hi6, hf⟩ := o_gi_e hf
    refine va_iald (D := D) (pc := 32) hx hb hK hP _ 0 (fl_at 2 0 rfl rfl) rfl hi6 d_Mod_unpack_32 ?_
    refine lv_iconst (v := 1) (pc := 33) hx hb d_Mod_unpack_33 (by decide) ?_
    refine lv_icmp_lt (tgt := 48) (pc := 34) hx hb d_Mod_unpack_34 (by decide) (fun c21 => ?_) (fun c21 => ?_)
    · replace hf := o_t c21 hf
      refine lv_iconst (v := 0) (pc := 48) hx hb d_Mod_unpack_48 (by decide) ?_
      cases hf
      exact ret_z hx hb hr hlocks hK hP hS rfl d_Mod_unpack_49
    · replace hf := o_f c21 hf
      refine lv_aload_n (pc := 37) hx hb d_Mod_unpack_37 rfl (lv_at hl 0 rfl) ?_
      refine va_get (D := D) (ci := 10) (v := .ref (hMo 28)) (C := R_Mod) (T := T_Mod) (N := 61) (pc := 38) hx hb hts (fun w h => List.mem_cons_of_mem _ (in_Mod w h)) hown hK hP _ (fl_at 0 0 rfl rfl) rfl 47 (by decide) (hts _ (List.mem_cons_of_mem _ tw_1140)) (fun _ h9 => h9) rfl d_Mod_unpack_38 ?_
      refine lv_iconst (v := 1) (pc := 41) hx hb d_Mod_unpack_41 (by decide) ?_
      obtain ⟨hi7, hf⟩ := o_gi_e hf
      refine va_iald (D := D) (pc := 42) hx hb hK hP _ 0 (fl_at 2 0 rfl rfl) rfl hi7 d_Mod_unpack_42 ?_
      refine lv_bipush (v := 8) (pc := 43) hx hb d_Mod_unpack_43 (by decide) ?_
      refine lv_icmp_le (tgt := 50) (pc := 45) hx hb d_Mod_unpack_45 (by decide) (fun c20 => ?_) (fun c20 => ?_)
      · replace hf := o_t c20 hf
        refine lv_aload_n (pc := 50) hx hb d_Mod_unpack_50 rfl (lv_at hl 0 rfl) ?_
        refine lv_sipush (v := 256) (pc := 51) hx hb d_Mod_unpack_51 (by decide) ?_
        refine lv_aload_n (pc := 54) hx hb d_Mod_unpack_54 rfl (lv_at hl 0 rfl) ?_
        refine va_get (D := D) (ci := 10) (v := .ref (hMo 28)) (C := R_Mod) (T := T_Mod) (N := 61) (pc := 55) hx hb hts (fun w h => List.mem_cons_of_mem _ (in_Mod w h)) hown hK hP _ (fl_at 0 0 rfl rfl) rfl 47 (by decide) (hts _ (List.mem_cons_of_mem _ tw_1140)) (fun _ h9 => h9) rfl d_Mod_unpack_55 ?_
        refine lv_iconst (v := 2) (pc := 58) hx hb d_Mod_unpack_58 (by decide) ?_
        obtain ⟨hi8, hf⟩ := o_gi_e hf
        refine va_iald (D := D) (pc := 59) hx hb hK hP _ 0 (fl_at 2 0 rfl rfl) rfl hi8 d_Mod_unpack_59 ?_
        refine lv_imul (pc := 60) hx hb d_Mod_unpack_60 ?_
        refine lv_aload_n (pc := 61) hx hb d_Mod_unpack_61 rfl (lv_at hl 0 rfl) ?_
        refine va_get (D := D) (ci := 10) (v := .ref (hMo 28)) (C := R_Mod) (T := T_Mod) (N := 61) (pc := 62) hx hb hts (fun w h => List.mem_cons_of_mem _ (in_Mod w h)) hown hK hP _ (fl_at 0 0 rfl rfl) rfl 47 (by decide) (hts _ (List.mem_cons_of_mem _ tw_1140)) (fun _ h9 => h9) rfl d_Mod_unpack_62 ?_
        refine lv_iconst (v := 3) (pc := 65) hx hb d_Mod_unpack_65 (by decide) ?_
        obtain ⟨hi9, hf⟩ := o_gi_e hf
        refine va_iald (D := D) (pc := 66) hx hb hK hP _ 0 (fl_at 2 0 rfl rfl) rfl hi9 d_Mod_unpack_66 ?_
        refine lv_iadd (pc := 67) hx hb d_Mod_unpack_67 ?_
        refine va_put (D := D) (ci := 10) (v := .int ((256 * (sMtape (2 : Int32).toNatClampNeg)) + (sMtape (3 : Int32).toNatClampNeg))) (ty := .int) (C := R_Mod) (T := T_Mod) (N := 61) (pc := 68) hx hb hts (fun w h => List.mem_cons_of_mem _ (in_Mod w h)) ty_Mod ty_Mod_ok nm_Mod hown hK hP hD hS _ (fl_at 0 0 rfl rfl) rfl 40 (by decide) (hts _ (List.mem_cons_of_mem _ tw_1133)) (fun _ h9 => h9) rfl (by decide +kernel) rfl rfl (Nat.le_of_ble_eq_true rfl) d_Mod_unpack_68 (fun H locs hP hD hS => ?_)
        obtain ⟨sMo_10, esMo_10, hf⟩ := o_lt_e hf
        have hP : va_P D vwCl (fl [wMo K hMo sMo_10, wRowZ K (fun _ => hMo 26) 40000 sMbits_j27, wRowI K (fun _ => hMo 28) 1000 sMtape]) H := by rw [esMo_10]; exact fl_P 0 0 rfl (Nat.le_of_ble_eq_true rfl) rfl rfl hP
        have hD : va_D A (fl [wMo K hMo sMo_10, wRowZ K (fun _ => hMo 26) 40000 sMbits_j27, wRowI K (fun _ => hMo 28) 1000 sMtape]) := by rw [esMo_10]; exact fl_D 0 0 rfl (Nat.le_of_ble_eq_true rfl) rfl rfl hD
        refine lv_iload_n (pc := 71) hx hb d_Mod_unpack_71 rfl (lv_at hl 1 rfl) ?_
        refine lv_iconst (v := 4) (pc := 72) hx hb d_Mod_unpack_72 (by decide) ?_
        refine lv_aload_n (pc := 73) hx hb d_Mod_unpack_73 rfl (lv_at hl 0 rfl) ?_
        refine va_get (D := D) (ci := 10) (v := .int (Mo_many sMo_10)) (C := R_Mod) (T := T_Mod) (N := 61) (pc := 74) hx hb hts (fun w h => List.mem_cons_of_mem _ (in_Mod w h)) hown hK hP _ (fl_at 0 0 rfl rfl) rfl 40 (by decide) (hts _ (List.mem_cons_of_mem _ tw_1133)) (fun _ h9 => h9) rfl d_Mod_unpack_74 ?_
        refine lv_bipush (v := 7) (pc := 77) hx hb d_Mod_unpack_77 (by decide) ?_
        refine lv_iadd (pc := 79) hx hb d_Mod_unpack_79 ?_
        refine lv_bipush (v := 8) (pc := 80) hx hb d_Mod_unpack_80 (by decide) ?_
        refine lv_idiv (pc := 82) hx hb d_Mod_unpack_82 (by decide) ?_
        refine lv_iadd (pc := 83) hx hb d_Mod_unpack_83 ?_
        refine lv_icmp_eq (tgt := 89) (pc := 84) hx hb d_Mod_unpack_84 (by decide) (fun c19 => ?_) (fun c19 => ?_)
        · replace hf := o_t c19 hf
          refine lv_iconst (v := 1) (pc := 89) hx hb d_Mod_unpack_89 (by decide) ?_
          refine lv_istore_n (lv' := [(2, .int 1), (0, .ref (hMo 0)), (1, .int x1_j27)]) (pc := 90) hx hb d_Mod_unpack_90 rfl hl (by decide) rfl (fun ls hl => ?_)
          refine lv_iconst (v := 0) (pc := 91) hx hb d_Mod_unpack_91 (by decide) ?_
          refine lv_istore_n (lv' := [(3, .int 0), (2, .int 1), (0, .ref (hMo 0)), (1, .int x1_j27)]) (pc := 92) hx hb d_Mod_unpack_92 rfl hl (by decide) rfl (fun ls hl => ?_)
          have L93 : ∀ (x1_L93 : Int32) (sMo_L93 : S_Mo) (n : Nat) (x2_L93 : Int32) (x3_L93 : Int32) (sMbits_L93 : (Nat → Int32)) (H : Heap) (locs : List Loc) (ls : Array Slot), va_P D vwCl (fl [wMo K hMo sMo_L93, wRowZ K (fun _ => hMo 26) 40000 sMbits_L93, wRowI K (fun _ => hMo 28) 1000 sMtape]) H → va_D A (fl [wMo K hMo sMo_L93, wRowZ K (fun _ => hMo 26) 40000 sMbits_L93, wRowI K (fun _ => hMo 28) 1000 sMtape]) → va_S A s.heap H locs → lv_has ls 5 [(0, .ref (hMo 0)), (1, .int x1_L93), (2, .int x2_L93), (3, .int x3_L93)] → Mod_unpack_L93 fu sMtape x1_L93 sMo_L93 n x2_L93 x3_L93 sMbits_L93 = some ((r, sMo', sMbits')) → W p l e rm_Mod_unpack s m ([.ref (hMo 0), .int a0] : List Value).toArray below meth c H locs 0 0 (Qi below ([.ref (hMo 0), .int a0] : List Value).toArray s D K A (fl [wMo K hMo sMo', wRowZ K (fun _ => hMo 26) 40000 sMbits', wRowI K (fun _ => hMo 28) 1000 sMtape]) r) (F0 m 93 ls []) := by
            intro x1_L93 sMo_L93 n
            induction n with
            | zero =>
              intro x2_L93 x3_L93 sMbits_L93 H locs ls hP hD hS hl hf
              exact absurd hf (fun h => nomatch h)
            | succ n_93 ih_93 =>
              intro x2_L93 x3_L93 sMbits_L93 H locs ls hP hD hS hl hf
              have J169 : ∀ (x2_j169 : Int32) (x3_j169 : Int32) (sMbits_j169 : (Nat → Int32)) (H : Heap) (locs : List Loc) (ls : Array Slot), va_P D vwCl (fl [wMo K hMo sMo_L93, wRowZ K (fun _ => hMo 26) 40000 sMbits_j169, wRowI K (fun _ => hMo 28) 1000 sMtape]) H → va_D A (fl [wMo K hMo sMo_L93, wRowZ K (fun _ => hMo 26) 40000 sMbits_j169, wRowI K (fun _ => hMo 28) 1000 sMtape]) → va_S A s.heap H locs → lv_has ls 5 [(0, .ref (hMo 0)), (1, .int x1_L93), (2, .int x2_j169), (3, .int x3_j169)] → Mod_unpack_j169 fu sMtape (fun v0 v1 v2 => Mod_unpack_L93 fu sMtape x1_L93 sMo_L93 n_93 v0 v1 v2) x1_L93 sMo_L93 x2_j169 x3_j169 sMbits_j169 = some ((r, sMo', sMbits')) → W p l e rm_Mod_unpack s m ([.ref (hMo 0), .int a0] : List Value).toArray below meth c H locs 0 0 (Qi below ([.ref (hMo 0), .int a0] : List Value).toArray s D K A (fl [wMo K hMo sMo', wRowZ K (fun _ => hMo 26) 40000 sMbits', wRowI K (fun _ => hMo 28) 1000 sMtape]) r) (F0 m 169 ls []) := by
                intro x2_j169 x3_j169 sMbits_j169 H locs ls hP hD hS hl hf
                refine lv_iinc (v := x3_j169 + 1) (lv' := [(3, .int (x3_j169 + 1)), (0, .ref (hMo 0)), (1, .int x1_L93), (2, .int x2_j169)]) (pc := 169) hx hb d_Mod_unpack_169 hl (k := 3) rfl rfl (by decide) rfl (fun ls hl => ?_)
                refine lv_goto (tgt := 93) (pc := 172) hx hb d_Mod_unpack_172 (by decide) ?_
                exact ih_93 x2_j169 (x3_j169 + 1) sMbits_j169 H locs ls hP hD hS (lv_sub hl [1, 2, 3, 0] rfl) hf
              have J168 : ∀ (x3_j168 : Int32) (t0_j168 : Int32) (sMbits_j168 : (Nat → Int32)) (H : Heap) (locs : List Loc) (ls : Array Slot), va_P D vwCl (fl [wMo K hMo sMo_L93, wRowZ K (fun _ => hMo 26) 40000 sMbits_j168, wRowI K (fun _ => hMo 28) 1000 sMtape]) H → va_D A (fl [wMo K hMo sMo_L93, wRowZ K (fun _ => hMo 26) 40000 sMbits_j168, wRowI K (fun _ => hMo 28) 1000 sMtape]) → va_S A s.heap H locs → lv_has ls 5 [(0, .ref (hMo 0)), (1, .int x1_L93), (3, .int x3_j168)] → Mod_unpack_j168 fu sMtape (fun v0 v1 v2 => Mod_unpack_L93 fu sMtape x1_L93 sMo_L93 n_93 v0 v1 v2) x1_L93 sMo_L93 x3_j168 t0_j168 sMbits_j168 = some ((r, sMo', sMbits')) → W p l e rm_Mod_unpack s m ([.ref (hMo 0), .int a0] : List Value).toArray below meth c H locs 0 0 (Qi below ([.ref (hMo 0), .int a0] : List Value).toArray s D K A (fl [wMo K hMo sMo', wRowZ K (fun _ => hMo 26) 40000 sMbits', wRowI K (fun _ => hMo 28) 1000 sMtape]) r) (F0 m 168 ls [.int t0_j168]) := by
                intro x3_j168 t0_j168 sMbits_j168 H locs ls hP hD hS hl hf
                refine lv_istore_n (lv' := [(2, .int t0_j168), (0, .ref (hMo 0)), (1, .int x1_L93), (3, .int x3_j168)]) (pc := 168) hx hb d_Mod_unpack_168 rfl hl (by decide) rfl (fun ls hl => ?_)
                exact J169 t0_j168 x3_j168 sMbits_j168 H locs ls hP hD hS (lv_sub hl [1, 2, 0, 3] rfl) hf
              have J167 : ∀ (x3_j167 : Int32) (sMbits_j167 : (Nat → Int32)) (H : Heap) (locs : List Loc) (ls : Array Slot), va_P D vwCl (fl [wMo K hMo sMo_L93, wRowZ K (fun _ => hMo 26) 40000 sMbits_j167, wRowI K (fun _ => hMo 28) 1000 sMtape]) H → va_D A (fl [wMo K hMo sMo_L93, wRowZ K (fun _ => hMo 26) 40000 sMbits_j167, wRowI K (fun _ => hMo 28) 1000 sMtape]) → va_S A s.heap H locs → lv_has ls 5 [(0, .ref (hMo 0)), (1, .int x1_L93), (3, .int x3_j167)] → Mod_unpack_j167 fu sMtape (fun v0 v1 v2 => Mod_unpack_L93 fu sMtape x1_L93 sMo_L93 n_93 v0 v1 v2) x1_L93 sMo_L93 x3_j167 sMbits_j167 = some ((r, sMo', sMbits')) → W p l e rm_Mod_unpack s m ([.ref (hMo 0), .int a0] : List Value).toArray below meth c H locs 0 0 (Qi below ([.ref (hMo 0), .int a0] : List Value).toArray s D K A (fl [wMo K hMo sMo', wRowZ K (fun _ => hMo 26) 40000 sMbits', wRowI K (fun _ => hMo 28) 1000 sMtape]) r) (F0 m 167 ls []) := by
                intro x3_j167 sMbits_j167 H locs ls hP hD hS hl hf
                refine lv_iconst (v := 0) (pc := 167) hx hb d_Mod_unpack_167 (by decide) ?_
                exact J168 x3_j167 0 sMbits_j167 H locs ls hP hD hS (lv_sub hl [0, 1, 2] rfl) hf
              have J133 : ∀ (x2_j133 : Int32) (x3_j133 : Int32) (t0_j133 : Int32) (sMbits_j133 : (Nat → Int32)) (H : Heap) (locs : List Loc) (ls : Array Slot), va_P D vwCl (fl [wMo K hMo sMo_L93, wRowZ K (fun _ => hMo 26) 40000 sMbits_j133, wRowI K (fun _ => hMo 28) 1000 sMtape]) H → va_D A (fl [wMo K hMo sMo_L93, wRowZ K (fun _ => hMo 26) 40000 sMbits_j133, wRowI K (fun _ => hMo 28) 1000 sMtape]) → va_S A s.heap H locs → lv_has ls 5 [(0, .ref (hMo 0)), (1, .int x1_L93), (2, .int x2_j133), (3, .int x3_j133)] → Mod_unpack_j133 fu sMtape (fun v0 v1 v2 => Mod_unpack_L93 fu sMtape x1_L93 sMo_L93 n_93 v0 v1 v2) x1_L93 sMo_L93 x2_j133 x3_j133 t0_j133 sMbits_j133 = some ((r, sMo', sMbits')) → W p l e rm_Mod_unpack s m ([.ref (hMo 0), .int a0] : List Value).toArray below meth c H locs 0 0 (Qi below ([.ref (hMo 0), .int a0] : List Value).toArray s D K A (fl [wMo K hMo sMo', wRowZ K (fun _ => hMo 26) 40000 sMbits', wRowI K (fun _ => hMo 28) 1000 sMtape]) r) (F0 m 133 ls [.int t0_j133]) := by
                intro x2_j133 x3_j133 t0_j133 sMbits_j133 H locs ls hP hD hS hl hf
                refine lv_istore (lv' := [(4, .int t0_j133), (0, .ref (hMo 0)), (1, .int x1_L93), (2, .int x2_j133), (3, .int x3_j133)]) (pc := 133) hx hb d_Mod_unpack_133 hl (by decide) rfl (fun ls hl => ?_)
                refine lv_iload_n (pc := 135) hx hb d_Mod_unpack_135 rfl (lv_at hl 4 rfl) ?_
                refine lv_aload_n (pc := 136) hx hb d_Mod_unpack_136 rfl (lv_at hl 1 rfl) ?_
                refine va_get (D := D) (ci := 10) (v := .int (Mo_many sMo_L93)) (C := R_Mod) (T := T_Mod) (N := 61) (pc := 137) hx hb hts (fun w h => List.mem_cons_of_mem _ (in_Mod w h)) hown hK hP _ (fl_at 0 0 rfl rfl) rfl 40 (by decide) (hts _ (List.mem_cons_of_mem _ tw_1133)) (fun _ h9 => h9) rfl d_Mod_unpack_137 ?_
                refine lv_icmp_ge (tgt := 154) (pc := 140) hx hb d_Mod_unpack_140 (by decide) (fun c18 => ?_) (fun c18 => ?_)
                · replace hf := o_t c18 hf
                  refine lv_iload_n (pc := 154) hx hb d_Mod_unpack_154 rfl (lv_at hl 3 rfl) ?_
                  refine lv_if_eq (tgt := 167) (pc := 155) hx hb d_Mod_unpack_155 (by decide) (fun c15 => ?_) (fun c15 => ?_)
                  · replace hf := o_t c15 hf
                    exact J167 x3_j133 sMbits_j133 H locs ls hP hD hS (lv_sub hl [1, 2, 4] rfl) hf
                  · replace hf := o_f c15 hf
                    refine lv_iload (pc := 158) hx hb d_Mod_unpack_158 (lv_at hl 0 rfl) ?_
                    refine lv_if_ne (tgt := 167) (pc := 160) hx hb d_Mod_unpack_160 (by decide) (fun c14 => ?_) (fun c14 => ?_)
                    · replace hf := o_f c14 hf
                      exact J167 x3_j133 sMbits_j133 H locs ls hP hD hS (lv_sub hl [1, 2, 4] rfl) hf
                    · replace hf := o_t c14 hf
                      refine lv_iconst (v := 1) (pc := 163) hx hb d_Mod_unpack_163 (by decide) ?_
                      refine lv_goto (tgt := 168) (pc := 164) hx hb d_Mod_unpack_164 (by decide) ?_
                      exact J168 x3_j133 1 sMbits_j133 H locs ls hP hD hS (lv_sub hl [1, 2, 4] rfl) hf
                · replace hf := o_f c18 hf
                  refine lv_aload_n (pc := 143) hx hb d_Mod_unpack_143 rfl (lv_at hl 1 rfl) ?_
                  refine va_get (D := D) (ci := 10) (v := .ref (hMo 26)) (C := R_Mod) (T := T_Mod) (N := 61) (pc := 144) hx hb hts (fun w h => List.mem_cons_of_mem _ (in_Mod w h)) hown hK hP _ (fl_at 0 0 rfl rfl) rfl 38 (by decide) (hts _ (List.mem_cons_of_mem _ tw_1131)) (fun _ h9 => h9) rfl d_Mod_unpack_144 ?_
                  refine lv_iload_n (pc := 147) hx hb d_Mod_unpack_147 rfl (lv_at hl 4 rfl) ?_
                  refine lv_iload (pc := 148) hx hb d_Mod_unpack_148 (lv_at hl 0 rfl) ?_
                  obtain ⟨hi16, hf⟩ := o_gi_e hf
                  refine va_zast (D := D) (pc := 150) hx hb hK hP hD hS _ 3 (fl_at 1 0 rfl rfl) rfl hi16 d_Mod_unpack_150 (fun H locs hP hD hS => ?_)
                  obtain ⟨sMbits_17, esMbits_17, hf⟩ := o_lt_e hf
                  have hP : va_P D vwCl (fl [wMo K hMo sMo_L93, wRowZ K (fun _ => hMo 26) 40000 sMbits_17, wRowI K (fun _ => hMo 28) 1000 sMtape]) H := by rw [esMbits_17]; exact fl_P 1 0 rfl (Nat.le_of_ble_eq_true rfl) rfl rfl hP
                  have hD : va_D A (fl [wMo K hMo sMo_L93, wRowZ K (fun _ => hMo 26) 40000 sMbits_17, wRowI K (fun _ => hMo 28) 1000 sMtape]) := by rw [esMbits_17]; exact fl_D 1 0 rfl (Nat.le_of_ble_eq_true rfl) rfl rfl hD
                  refine lv_goto (tgt := 169) (pc := 151) hx hb d_Mod_unpack_151 (by decide) ?_
                  exact J169 x2_j133 x3_j133 sMbits_17 H locs ls hP hD hS (lv_sub hl [1, 2, 3, 4] rfl) hf
              refine lv_iload_n (pc := 93) hx hb d_Mod_unpack_93 rfl (lv_at hl 3 rfl) ?_
              refine lv_bipush (v := 8) (pc := 94) hx hb d_Mod_unpack_94 (by decide) ?_
              refine lv_iload_n (pc := 96) hx hb d_Mod_unpack_96 rfl (lv_at hl 1 rfl) ?_
              refine lv_iconst (v := 4) (pc := 97) hx hb d_Mod_unpack_97 (by decide) ?_
              refine lv_isub (pc := 98) hx hb d_Mod_unpack_98 ?_
              refine lv_imul (pc := 99) hx hb d_Mod_unpack_99 ?_
              refine lv_icmp_ge (tgt := 175) (pc := 100) hx hb d_Mod_unpack_100 (by decide) (fun c13 => ?_) (fun c13 => ?_)
              · replace hf := o_t c13 hf
                refine lv_iload_n (pc := 175) hx hb d_Mod_unpack_175 rfl (lv_at hl 2 rfl) ?_
                obtain ⟨hbz, hf⟩ := o_gb_e hf
                cases hf
                exact ret_z hx hb hr hlocks hK hP hS hbz d_Mod_unpack_176
              · replace hf := o_f c13 hf
                refine lv_aload_n (pc := 103) hx hb d_Mod_unpack_103 rfl (lv_at hl 0 rfl) ?_
                refine va_get (D := D) (ci := 10) (v := .ref (hMo 28)) (C := R_Mod) (T := T_Mod) (N := 61) (pc := 104) hx hb hts (fun w h => List.mem_cons_of_mem _ (in_Mod w h)) hown hK hP _ (fl_at 0 0 rfl rfl) rfl 47 (by decide) (hts _ (List.mem_cons_of_mem _ tw_1140)) (fun _ h9 => h9) rfl d_Mod_unpack_104 ?_
                refine lv_iconst (v := 4) (pc := 107) hx hb d_Mod_unpack_107 (by decide) ?_
                refine lv_iload_n (pc := 108) hx hb d_Mod_unpack_108 rfl (lv_at hl 3 rfl) ?_
                refine lv_bipush (v := 8) (pc := 109) hx hb d_Mod_unpack_109 (by decide) ?_
                refine lv_idiv (pc := 111) hx hb d_Mod_unpack_111 (by decide) ?_
                refine lv_iadd (pc := 112) hx hb d_Mod_unpack_112 ?_
                obtain ⟨hi11, hf⟩ := o_gi_e hf
                refine va_iald (D := D) (pc := 113) hx hb hK hP _ 0 (fl_at 2 0 rfl rfl) rfl hi11 d_Mod_unpack_113 ?_
                refine lv_bipush (v := 7) (pc := 114) hx hb d_Mod_unpack_114 (by decide) ?_
                refine lv_iload_n (pc := 116) hx hb d_Mod_unpack_116 rfl (lv_at hl 3 rfl) ?_
                refine lv_bipush (v := 8) (pc := 117) hx hb d_Mod_unpack_117 (by decide) ?_
                refine lv_irem (pc := 119) hx hb d_Mod_unpack_119 (by decide) ?_
                refine lv_isub (pc := 120) hx hb d_Mod_unpack_120 ?_
                refine lv_ishr (pc := 121) hx hb d_Mod_unpack_121 ?_
                refine lv_iconst (v := 1) (pc := 122) hx hb d_Mod_unpack_122 (by decide) ?_
                refine lv_iand (pc := 123) hx hb d_Mod_unpack_123 ?_
                refine lv_iconst (v := 1) (pc := 124) hx hb d_Mod_unpack_124 (by decide) ?_
                refine lv_icmp_ne (tgt := 132) (pc := 125) hx hb d_Mod_unpack_125 (by decide) (fun c12 => ?_) (fun c12 => ?_)
                · replace hf := o_f c12 hf
                  refine lv_iconst (v := 0) (pc := 132) hx hb d_Mod_unpack_132 (by decide) ?_
                  exact J133 x2_L93 x3_L93 0 sMbits_L93 H locs ls hP hD hS (lv_sub hl [0, 1, 2, 3] rfl) hf
                · replace hf := o_t c12 hf
                  refine lv_iconst (v := 1) (pc := 128) hx hb d_Mod_unpack_128 (by decide) ?_
                  refine lv_goto (tgt := 133) (pc := 129) hx hb d_Mod_unpack_129 (by decide) ?_
                  exact J133 x2_L93 x3_L93 1 sMbits_L93 H locs ls hP hD hS (lv_sub hl [0, 1, 2, 3] rfl) hf
          exact L93 x1_j27 sMo_10 fu 1 0 sMbits_j27 H locs ls hP hD hS (lv_sub hl [2, 3, 1, 0] rfl) hf
        · replace hf := o_f c19 hf
          refine lv_iconst (v := 0) (pc := 87) hx hb d_Mod_unpack_87 (by decide) ?_
          cases hf
          exact ret_z hx hb hr hlocks hK hP hS rfl d_Mod_unpack_88
      · replace hf := o_f c20 hf
        refine lv_iconst (v := 0) (pc := 48) hx hb d_Mod_unpack_48 (by decide) ?_
        cases hf
        exact ret_z hx hb hr hlocks hK hP hS rfl d_Mod_unpack_49
  refine lv_iload_n (pc := 0) hx hb d_Mod_unpack_0 rfl (lv_at hl 1 rfl) ?_
  refine lv_iconst (v := 4) (pc := 1) hx hb d_Mod_unpack_1 (by decide) ?_
  refine lv_icmp_lt (tgt := 48) (pc := 2) hx hb d_Mod_unpack_2 (by decide) (fun c5 => ?_) (fun c5 => ?_)
  · replace hf := o_t c5 hf
    refine lv_iconst (v := 0) (pc := 48) hx hb d_Mod_unpack_48 (by decide) ?_
    cases hf
    exact ret_z hx hb hr hlocks hK hP hS rfl d_Mod_unpack_49
  · replace hf := o_f c5 hf
    refine lv_aload_n (pc := 5) hx hb d_Mod_unpack_5 rfl (lv_at hl 0 rfl) ?_
    refine va_get (D := D) (ci := 10) (v := .ref (hMo 28)) (C := R_Mod) (T := T_Mod) (N := 61) (pc := 6) hx hb hts (fun w h => List.mem_cons_of_mem _ (in_Mod w h)) hown hK hP _ (fl_at 0 0 rfl rfl) rfl 47 (by decide) (hts _ (List.mem_cons_of_mem _ tw_1140)) (fun _ h9 => h9) rfl d_Mod_unpack_6 ?_
    refine lv_iconst (v := 0) (pc := 9) hx hb d_Mod_unpack_9 (by decide) ?_
    obtain ⟨hi1, hf⟩ := o_gi_e hf
    refine va_iald (D := D) (pc := 10) hx hb hK hP _ 0 (fl_at 2 0 rfl rfl) rfl hi1 d_Mod_unpack_10 ?_
    refine lv_bipush (v := 66) (pc := 11) hx hb d_Mod_unpack_11 (by decide) ?_
    refine lv_icmp_eq (tgt := 27) (pc := 13) hx hb d_Mod_unpack_13 (by decide) (fun c4 => ?_) (fun c4 => ?_)
    · replace hf := o_t c4 hf
      exact J27 a0 sMo sMbits H locs ls hP hD hS (lv_sub hl [0, 1] rfl) hf
    · replace hf := o_f c4 hf
      refine lv_aload_n (pc := 16) hx hb d_Mod_unpack_16 rfl (lv_at hl 0 rfl) ?_
      refine va_get (D := D) (ci := 10) (v := .ref (hMo 28)) (C := R_Mod) (T := T_Mod) (N := 61) (pc := 17) hx hb hts (fun w h => List.mem_cons_of_mem _ (in_Mod w h)) hown hK hP _ (fl_at 0 0 rfl rfl) rfl 47 (by decide) (hts _ (List.mem_cons_of_mem _ tw_1140)) (fun _ h9 => h9) rfl d_Mod_unpack_17 ?_
      refine lv_iconst (v := 0) (pc := 20) hx hb d_Mod_unpack_20 (by decide) ?_
      obtain ⟨hi2, hf⟩ := o_gi_e hf
      refine va_iald (D := D) (pc := 21) hx hb hK hP _ 0 (fl_at 2 0 rfl rfl) rfl hi2 d_Mod_unpack_21 ?_
      refine lv_bipush (v := 67) (pc := 22) hx hb d_Mod_unpack_22 (by decide) ?_
      refine lv_icmp_ne (tgt := 48) (pc := 24) hx hb d_Mod_unpack_24 (by decide) (fun c3 => ?_) (fun c3 => ?_)
      · replace hf := o_f c3 hf
        refine lv_iconst (v := 0) (pc := 48) hx hb d_Mod_unpack_48 (by decide) ?_
        cases hf
        exact ret_z hx hb hr hlocks hK hP hS rfl d_Mod_unpack_49
      · replace hf := o_t c3 hf
        exact J27 a0 sMo sMbits H locs ls hP hD hS (lv_sub hl [0, 1] rfl) hf
