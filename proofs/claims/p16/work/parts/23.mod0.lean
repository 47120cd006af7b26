def Mod_entry (a0 : Int32) (a1 : Int32) : Option (Int32) := if 0 ≤ a0 then some ((64 * a0) + a1) else some ((64 * 4) + a1)
abbrev rm_Mod_entry : Room := { frames := 0, cells := 0, slots := 0, locals := 0 }
set_option maxHeartbeats 4000000 in
set_option maxRecDepth 100000 in
theorem c_Mod_entry (l : Launch) (D : va_G) (K : Nat → ClassId) (a0 : Int32) (a1 : Int32) (r : Int32) (hf : Mod_entry a0 a1 = some r) : mi l D K y_Mod_entry ws_Mod_entry rm_Mod_entry [.int a0, .int a1] (fl []) (fl []) r := by
  refine mi_of (cc := b_Mod_entry) (maxL := 2) (own := "ObsMessagesModel") (by decide) rfl rfl (Nat.le_of_ble_eq_true rfl) ?_
  intro p e s m below meth c A ls hC hP hD hS hl
  obtain ⟨hx, hb, hml, hown, hts, hr, hlocks, hK, hF, hA⟩ := hC
  have hP : va_P D vwCl (fl []) s.heap := hP
  have hl : lv_has ls 2 [(0, .int a0), (1, .int a1)] := hl
  suffices hW : ∀ (H : Heap) (locs : List Loc), va_P D vwCl (fl []) H → va_S A s.heap H locs → W p l e rm_Mod_entry s m ([.int a0, .int a1] : List Value).toArray below meth c H locs 0 0 (Qi below ([.int a0, .int a1] : List Value).toArray s D K A (fl []) r) (F0 m 0 ls []) from hW s.heap [] hP hS
  clear hP hS
  intro H locs hP hS
  refine lv_bipush (v := 64) (pc := 0) hx hb d_Mod_entry_0 (by decide) ?_
  refine lv_iload_n (pc := 2) hx hb d_Mod_entry_2 rfl (lv_at hl 0 rfl) ?_
  refine lv_if_ge (tgt := 10) (pc := 3) hx hb d_Mod_entry_3 (by decide) (fun c1 => ?_) (fun c1 => ?_)
  · replace hf := o_t c1 hf
    refine lv_iload_n (pc := 10) hx hb d_Mod_entry_10 rfl (lv_at hl 0 rfl) ?_
    refine lv_imul (pc := 11) hx hb d_Mod_entry_11 ?_
    refine lv_iload_n (pc := 12) hx hb d_Mod_entry_12 rfl (lv_at hl 1 rfl) ?_
    refine lv_iadd (pc := 13) hx hb d_Mod_entry_13 ?_
    cases hf
    exact ret_i hx hb hr hlocks hK hP hS d_Mod_entry_14
  · replace hf := o_f c1 hf
    refine lv_iconst (v := 4) (pc := 6) hx hb d_Mod_entry_6 (by decide) ?_
    refine lv_goto (tgt := 11) (pc := 7) hx hb d_Mod_entry_7 (by decide) ?_
    refine lv_imul (pc := 11) hx hb d_Mod_entry_11 ?_
    refine lv_iload_n (pc := 12) hx hb d_Mod_entry_12 rfl (lv_at hl 1 rfl) ?_
    refine lv_iadd (pc := 13) hx hb d_Mod_entry_13 ?_
    cases hf
    exact ret_i hx hb hr hlocks hK hP hS d_Mod_entry_14
def Mod_isEntry (a0 : Int32) (a1 : Int32) : Option (Int32) := if a0 < ((-1)) then some 0 else if 3 < a0 then some 0 else if a1 < 0 then some 0 else if 63 < a1 then some 0 else some 1
abbrev rm_Mod_isEntry : Room := { frames := 0, cells := 0, slots := 0, locals := 0 }
set_option maxHeartbeats 4000000 in
set_option maxRecDepth 100000 in
theorem c_Mod_isEntry (l : Launch) (D : va_G) (K : Nat → ClassId) (a0 : Int32) (a1 : Int32) (r : Int32) (hf : Mod_isEntry a0 a1 = some r) : mi l D K y_Mod_isEntry ws_Mod_isEntry rm_Mod_isEntry [.int a0, .int a1] (fl []) (fl []) r := by
  refine mi_of (cc := b_Mod_isEntry) (maxL := 2) (own := "ObsMessagesModel") (by decide) rfl rfl (Nat.le_of_ble_eq_true rfl) ?_
  intro p e s m below meth c A ls hC hP hD hS hl
  obtain ⟨hx, hb, hml, hown, hts, hr, hlocks, hK, hF, hA⟩ := hC
  have hP : va_P D vwCl (fl []) s.heap := hP
  have hl : lv_has ls 2 [(0, .int a0), (1, .int a1)] := hl
  suffices hW : ∀ (H : Heap) (locs : List Loc), va_P D vwCl (fl []) H → va_S A s.heap H locs → W p l e rm_Mod_isEntry s m ([.int a0, .int a1] : List Value).toArray below meth c H locs 0 0 (Qi below ([.int a0, .int a1] : List Value).toArray s D K A (fl []) r) (F0 m 0 ls []) from hW s.heap [] hP hS
  clear hP hS
  intro H locs hP hS
  refine lv_iload_n (pc := 0) hx hb d_Mod_isEntry_0 rfl (lv_at hl 0 rfl) ?_
  refine lv_iconst (v := (-1)) (pc := 1) hx hb d_Mod_isEntry_1 (by decide) ?_
  refine lv_icmp_lt (tgt := 24) (pc := 2) hx hb d_Mod_isEntry_2 (by decide) (fun c4 => ?_) (fun c4 => ?_)
  · replace hf := o_t c4 hf
    refine lv_iconst (v := 0) (pc := 24) hx hb d_Mod_isEntry_24 (by decide) ?_
    cases hf
    exact ret_z hx hb hr hlocks hK hP hS rfl d_Mod_isEntry_25
  · replace hf := o_f c4 hf
    refine lv_iload_n (pc := 5) hx hb d_Mod_isEntry_5 rfl (lv_at hl 0 rfl) ?_
    refine lv_iconst (v := 3) (pc := 6) hx hb d_Mod_isEntry_6 (by decide) ?_
    refine lv_icmp_gt (tgt := 24) (pc := 7) hx hb d_Mod_isEntry_7 (by decide) (fun c3 => ?_) (fun c3 => ?_)
    · replace hf := o_t c3 hf
      refine lv_iconst (v := 0) (pc := 24) hx hb d_Mod_isEntry_24 (by decide) ?_
      cases hf
      exact ret_z hx hb hr hlocks hK hP hS rfl d_Mod_isEntry_25
    · replace hf := o_f c3 hf
      refine lv_iload_n (pc := 10) hx hb d_Mod_isEntry_10 rfl (lv_at hl 1 rfl) ?_
      refine lv_if_lt (tgt := 24) (pc := 11) hx hb d_Mod_isEntry_11 (by decide) (fun c2 => ?_) (fun c2 => ?_)
      · replace hf := o_t c2 hf
        refine lv_iconst (v := 0) (pc := 24) hx hb d_Mod_isEntry_24 (by decide) ?_
        cases hf
        exact ret_z hx hb hr hlocks hK hP hS rfl d_Mod_isEntry_25
      · replace hf := o_f c2 hf
        refine lv_iload_n (pc := 14) hx hb d_Mod_isEntry_14 rfl (lv_at hl 1 rfl) ?_
        refine lv_bipush (v := 63) (pc := 15) hx hb d_Mod_isEntry_15 (by decide) ?_
        refine lv_icmp_gt (tgt := 24) (pc := 17) hx hb d_Mod_isEntry_17 (by decide) (fun c1 => ?_) (fun c1 => ?_)
        · replace hf := o_t c1 hf
          refine lv_iconst (v := 0) (pc := 24) hx hb d_Mod_isEntry_24 (by decide) ?_
          cases hf
          exact ret_z hx hb hr hlocks hK hP hS rfl d_Mod_isEntry_25
        · replace hf := o_f c1 hf
          refine lv_iconst (v := 1) (pc := 20) hx hb d_Mod_isEntry_20 (by decide) ?_
          refine lv_goto (tgt := 25) (pc := 21) hx hb d_Mod_isEntry_21 (by decide) ?_
          cases hf
          exact ret_z hx hb hr hlocks hK hP hS rfl d_Mod_isEntry_25
def Mod_element_j65 (x1_j65 : Int32) (x2_j65 : Int32) (x3_j65 : Int32) (x4_j65 : Int32) (x5_j65 : Int32) (x6_j65 : Int32) (t1_j65 : Int32) (sMo_j65 : S_Mo) (sMthere_j65 : (Nat → Int32)) (sMscales_j65 : (Nat → Int32)) (sMreferences_j65 : (Nat → Int32)) (sMwidths_j65 : (Nat → Int32)) : Option (S_Mo × (Nat → Int32) × (Nat → Int32) × (Nat → Int32) × (Nat → Int32)) := o_lt (Mo_set_thrown sMo_j65 t1_j65) fun sMo_10 => (if x6_j65 = 0 then some ((sMo_10, sMthere_j65, sMscales_j65, sMreferences_j65, sMwidths_j65)) else o_bd (Mod_entry x1_j65 x2_j65) fun q11 => (o_gd (o_in q11 320) (o_lt (upd sMthere_j65 (q11 : Int32).toNatClampNeg (vp_nar .boolean 1)) fun sMthere_13 => (o_gd (o_in q11 320) (o_lt (upd sMscales_j65 (q11 : Int32).toNatClampNeg x3_j65) fun sMscales_15 => (o_gd (o_in q11 320) (o_lt (upd sMreferences_j65 (q11 : Int32).toNatClampNeg x4_j65) fun sMreferences_17 => (o_gd (o_in q11 320) (o_lt (upd sMwidths_j65 (q11 : Int32).toNatClampNeg x5_j65) fun sMwidths_19 => (some ((sMo_10, sMthere_13, sMscales_15, sMreferences_17, sMwidths_19))))))))))))
def Mod_element_j52 (x1_j52 : Int32) (x2_j52 : Int32) (x3_j52 : Int32) (x4_j52 : Int32) (x5_j52 : Int32) (t0_j52 : Int32) (sMo_j52 : S_Mo) (sMthere_j52 : (Nat → Int32)) (sMscales_j52 : (Nat → Int32)) (sMreferences_j52 : (Nat → Int32)) (sMwidths_j52 : (Nat → Int32)) : Option (S_Mo × (Nat → Int32) × (Nat → Int32) × (Nat → Int32) × (Nat → Int32)) := if t0_j52 = 0 then Mod_element_j65 x1_j52 x2_j52 x3_j52 x4_j52 x5_j52 t0_j52 1 sMo_j52 sMthere_j52 sMscales_j52 sMreferences_j52 sMwidths_j52 else Mod_element_j65 x1_j52 x2_j52 x3_j52 x4_j52 x5_j52 t0_j52 0 sMo_j52 sMthere_j52 sMscales_j52 sMreferences_j52 sMwidths_j52
def Mod_element_j51 (x1_j51 : Int32) (x2_j51 : Int32) (x3_j51 : Int32) (x4_j51 : Int32) (x5_j51 : Int32) (sMo_j51 : S_Mo) (sMthere_j51 : (Nat → Int32)) (sMscales_j51 : (Nat → Int32)) (sMreferences_j51 : (Nat → Int32)) (sMwidths_j51 : (Nat → Int32)) : Option (S_Mo × (Nat → Int32) × (Nat → Int32) × (Nat → Int32) × (Nat → Int32)) := Mod_element_j52 x1_j51 x2_j51 x3_j51 x4_j51 x5_j51 0 sMo_j51 sMthere_j51 sMscales_j51 sMreferences_j51 sMwidths_j51
def Mod_element (a0 : Int32) (a1 : Int32) (a2 : Int32) (a3 : Int32) (a4 : Int32) (sMo : S_Mo) (sMthere : (Nat → Int32)) (sMscales : (Nat → Int32)) (sMreferences : (Nat → Int32)) (sMwidths : (Nat → Int32)) : Option (S_Mo × (Nat → Int32) × (Nat → Int32) × (Nat → Int32) × (Nat → Int32)) := o_bd (Mod_isEntry a0 a1) fun q1 => (if q1 = 0 then Mod_element_j51 a0 a1 a2 a3 a4 sMo sMthere sMscales sMreferences sMwidths else if a2 < ((-8)) then Mod_element_j51 a0 a1 a2 a3 a4 sMo sMthere sMscales sMreferences sMwidths else if 8 < a2 then Mod_element_j51 a0 a1 a2 a3 a4 sMo sMthere sMscales sMreferences sMwidths else if a3 < ((-1000000000)) then Mod_element_j51 a0 a1 a2 a3 a4 sMo sMthere sMscales sMreferences sMwidths else if 1000000000 < a3 then Mod_element_j51 a0 a1 a2 a3 a4 sMo sMthere sMscales sMreferences sMwidths else if a4 < 1 then Mod_element_j51 a0 a1 a2 a3 a4 sMo sMthere sMscales sMreferences sMwidths else if 32 < a4 then Mod_element_j51 a0 a1 a2 a3 a4 sMo sMthere sMscales sMreferences sMwidths else Mod_element_j52 a0 a1 a2 a3 a4 1 sMo sMthere sMscales sMreferences sMwidths)
abbrev rm_Mod_element : Room := { frames := 1, cells := 0, slots := 0, locals := 21 }
set_option maxHeartbeats 4000000 in
set_option maxRecDepth 100000 in
theorem c_Mod_element (l : Launch) (D : va_G) (K : Nat → ClassId) (hMo : Nat → Nat) (sMo : S_Mo) (sMthere : (Nat → Int32)) (sMscales : (Nat → Int32)) (sMreferences : (Nat → Int32)) (sMwidths : (Nat → Int32)) (a0 : Int32) (a1 : Int32) (a2 : Int32) (a3 : Int32) (a4 : Int32) (sMo' : S_Mo) (sMthere' : (Nat → Int32)) (sMscales' : (Nat → Int32)) (sMreferences' : (Nat → Int32)) (sMwidths' : (Nat → Int32)) (hf : Mod_element a0 a1 a2 a3 a4 sMo sMthere sMscales sMreferences sMwidths = some ((sMo', sMthere', sMscales', sMreferences', sMwidths'))) : mv l D K y_Mod_element ws_Mod_element rm_Mod_element [.ref (hMo 0), .int a0, .int a1, .int a2, .int a3, .int a4] (fl [wMo K hMo sMo, wRowZ K (fun _ => hMo 1) 320 sMthere, wRowI K (fun _ => hMo 2) 320 sMscales, wRowI K (fun _ => hMo 3) 320 sMreferences, wRowI K (fun _ => hMo 4) 320 sMwidths]) (fl [wMo K hMo sMo', wRowZ K (fun _ => hMo 1) 320 sMthere', wRowI K (fun _ => hMo 2) 320 sMscales', wRowI K (fun _ => hMo 3) 320 sMreferences', wRowI K (fun _ => hMo 4) 320 sMwidths']) := by
  refine mv_of (cc := b_Mod_element) (maxL := 8) (own := "ObsMessagesModel") (by decide) rfl rfl (Nat.le_of_ble_eq_true rfl) ?_
  intro p e s m below meth c A ls hC hP hD hS hl
  obtain ⟨hx, hb, hml, hown, hts, hr, hlocks, hK, hF, hA⟩ := hC
  have hP : va_P D vwCl (fl [wMo K hMo sMo, wRowZ K (fun _ => hMo 1) 320 sMthere, wRowI K (fun _ => hMo 2) 320 sMscales, wRowI K (fun _ => hMo 3) 320 sMreferences, wRowI K (fun _ => hMo 4) 320 sMwidths]) s.heap := hP
  have hl : lv_has ls 8 [(0, .ref (hMo 0)), (1, .int a0), (2, .int a1), (3, .int a2), (4, .int a3), (5, .int a4)] := hl
  suffices hW : ∀ (H : Heap) (locs : List Loc), va_P D vwCl (fl [wMo K hMo sMo, wRowZ K (fun _ => hMo 1) 320 sMthere, wRowI K (fun _ => hMo 2) 320 sMscales, wRowI K (fun _ => hMo 3) 320 sMreferences, wRowI K (fun _ => hMo 4) 320 sMwidths]) H → va_S A s.heap H locs → W p l e rm_Mod_element s m ([.ref (hMo 0), .int a0, .int a1, .int a2, .int a3, .int a4] : List Value).toArray below meth c H locs 0 0 (Qv below ([.ref (hMo 0), .int a0, .int a1, .int a2, .int a3, .int a4] : List Value).toArray s D K A (fl [wMo K hMo sMo', wRowZ K (fun _ => hMo 1) 320 sMthere', wRowI K (fun _ => hMo 2) 320 sMscales', wRowI K (fun _ => hMo 3) 320 sMreferences', wRowI K (fun _ => hMo 4) 320 sMwidths'])) (F0 m 0 ls []) from hW s.heap [] hP hS
  clear hP hS
  intro H locs hP hS
  have J65 : ∀ (x1_j65 : Int32) (x2_j65 : Int32) (x3_j65 : Int32) (x4_j65 : Int32) (x5_j65 : Int32) (x6_j65 : Int32) (t1_j65 : Int32) (sMo_j65 : S_Mo) (sMthere_j65 : (Nat → Int32)) (sMscales_j65 : (Nat → Int32)) (sMreferences_j65 : (Nat → Int32)) (sMwidths_j65 : (Nat → Int32)) (H : Heap) (locs : List Loc) (ls : Array Slot), va_P D vwCl (fl [wMo K hMo sMo_j65, wRowZ K (fun _ => hMo 1) 320 sMthere_j65, wRowI K (fun _ => hMo 2) 320 sMscales_j65, wRowI K (fun _ => hMo 3) 320 sMreferences_j65, wRowI K (fun _ => hMo 4) 320 sMwidths_j65]) H → va_D A (fl [wMo K hMo sMo_j65, wRowZ K (fun _ => hMo 1) 320 sMthere_j65, wRowI K (fun _ => hMo 2) 320 sMscales_j65, wRowI K (fun _ => hMo 3) 320 sMreferences_j65, wRowI K (fun _ => hMo 4) 320 sMwidths_j65]) → va_S A s.heap H locs → lv_has ls 8 [(0, .ref (hMo 0)), (1, .int x1_j65), (2, .int x2_j65), (3, .int x3_j65), (4, .int x4_j65), (5, .int x5_j65), (6, .int x6_j65)] → Mod_element_j65 x1_j65 x2_j65 x3_j65 x4_j65 x5_j65 x6_j65 t1_j65 sMo_j65 sMthere_j65 sMscales_j65 sMreferences_j65 sMwidths_j65 = some ((sMo', sMthere', sMscales', sMreferences', sMwidths')) → W p l e rm_Mod_element s m ([.ref (hMo 0), .int a0, .int a1, .int a2, .int a3, .int a4] : List Value).toArray below meth c H locs 0 0 (Qv below ([.ref (hMo 0), .int a0, .int a1, .int a2, .int a3, .int a4] : List Value).toArray s D K A (fl [wMo K hMo sMo', wRowZ K (fun _ => hMo 1) 320 sMthere', wRowI K (fun _ => hMo 2) 320 sMscales', wRowI K (fun _ => hMo 3) 320 sMreferences', wRowI K (fun _ => hMo 4) 320 sMwidths'])) (F0 m 65 ls [.int t1_j65, .ref (hMo 0)]) := by
    intro x1_j65 x2_j65 x3_j65 x4_j65 x5_j65 x6_j65 t1_j65 sMo_j65 sMthere_j65 sMscales_j65 sMreferences_j65 sMwidths_j65 H locs ls hP hD hS hl hf
    refine va_put (D := D) (ci := 10) (v := .int t1_j65) (ty := .int) (C := R_Mod) (T := T_Mod) (N := 61) (pc := 65) hx hb hts (fun w h => List.mem_cons_of_mem _ (in_Mod w h)) ty_Mod ty_Mod_ok nm_Mod hown hK hP hD hS _ (fl_at 0 0 rfl rfl) rfl 0 (by decide) (hts _ (List.mem_cons_of_mem _ tw_1093)) (fun _ h9 => h9) rfl (by decide +kernel) rfl rfl (Nat.le_of_ble_eq_true rfl) d_Mod_element_65 (fun H locs hP hD hS => ?_)
    obtain ⟨sMo_10, esMo_10, hf⟩ := o_lt_e hf
    have hP : va_P D vwCl (fl [wMo K hMo sMo_10, wRowZ K (fun _ => hMo 1) 320 sMthere_j65, wRowI K (fun _ => hMo 2) 320 sMscales_j65, wRowI K (fun _ => hMo 3) 320 sMreferences_j65, wRowI K (fun _ => hMo 4) 320 sMwidths_j65]) H := by rw [esMo_10]; exact fl_P 0 0 rfl (Nat.le_of_ble_eq_true rfl) rfl rfl hP
    have hD : va_D A (fl [wMo K hMo sMo_10, wRowZ K (fun _ => hMo 1) 320 sMthere_j65, wRowI K (fun _ => hMo 2) 320 sMscales_j65, wRowI K (fun _ => hMo 3) 320 sMreferences_j65, wRowI K (fun _ => hMo 4) 320 sMwidths_j65]) := by rw [esMo_10]; exact fl_D 0 0 rfl (Nat.le_of_ble_eq_true rfl) rfl rfl hD
    refine lv_iload (pc := 68) hx hb d_Mod_element_68 (lv_at hl 6 rfl) ?_
    refine lv_if_ne (tgt := 74) (pc := 70) hx hb d_Mod_element_70 (by decide) (fun c20 => ?_) (fun c20 => ?_)
    · replace hf := o_f c20 hf
      refine lv_iload_n (pc := 74) hx hb d_Mod_element_74 rfl (lv_at hl 1 rfl) ?_
      refine lv_iload_n (pc := 75) hx hb d_Mod_element_75 rfl (lv_at hl 2 rfl) ?_
      obtain ⟨q11, hq11, hf⟩ := o_bd_e hf
      refine fi_i (pc := 76) (va_runS (As := [.int x1_j65, .int x2_j65]) (rest := []) ⟨hx, hb, hml, hown, hts⟩ ((c_Mod_entry l D K x1_j65 x2_j65 q11 hq11) _) (cwS 2 hts (gS tw_1287 tw_1288 tw_12 tw_1289) rfl rfl rfl (by decide +kernel) ⟨by decide, by decide⟩) ⟨mPre_blind, (mPre_fl hK hF hA hP hD hS [] rfl rfl)⟩ rfl rfl hl.1 rfl (lv_room (Nat.le_of_ble_eq_true rfl)) d_Mod_element_76 ⟨Nat.zero_le _, Nat.zero_le _⟩) hA hP hD hS [] rfl rfl (fun H locs hP hD hS => ?_)
      have hP : va_P D vwCl (fl [wMo K hMo sMo_10, wRowZ K (fun _ => hMo 1) 320 sMthere_j65, wRowI K (fun _ => hMo 2) 320 sMscales_j65, wRowI K (fun _ => hMo 3) 320 sMreferences_j65, wRowI K (fun _ => hMo 4) 320 sMwidths_j65]) H := hP
      have hD : va_D A (fl [wMo K hMo sMo_10, wRowZ K (fun _ => hMo 1) 320 sMthere_j65, wRowI K (fun _ => hMo 2) 320 sMscales_j65, wRowI K (fun _ => hMo 3) 320 sMreferences_j65, wRowI K (fun _ => hMo 4) 320 sMwidths_j65]) := hD
      refine lv_istore (lv' := [(7, .int q11), (0, .ref (hMo 0)), (1, .int x1_j65), (2, .int x2_j65), (3, .int x3_j65), (4, .int x4_j65), (5, .int x5_j65), (6, .int x6_j65)]) (pc := 79) hx hb d_Mod_element_79 hl (by decide) rfl (fun ls hl => ?_)
      refine lv_aload_n (pc := 81) hx hb d_Mod_element_81 rfl (lv_at hl 1 rfl) ?_
      refine va_get (D := D) (ci := 10) (v := .ref (hMo 1)) (C := R_Mod) (T := T_Mod) (N := 61) (pc := 82) hx hb hts (fun w h => List.mem_cons_of_mem _ (in_Mod w h)) hown hK hP _ (fl_at 0 0 rfl rfl) rfl 1 (by decide) (hts _ (List.mem_cons_of_mem _ tw_1094)) (fun _ h9 => h9) rfl d_Mod_element_82 ?_
      refine lv_iload (pc := 85) hx hb d_Mod_element_85 (lv_at hl 0 rfl) ?_
      refine lv_iconst (v := 1) (pc := 87) hx hb d_Mod_element_87 (by decide) ?_
      obtain ⟨hi12, hf⟩ := o_gi_e hf
      refine va_zast (D := D) (pc := 88) hx hb hK hP hD hS _ 3 (fl_at 1 0 rfl rfl) rfl hi12 d_Mod_element_88 (fun H locs hP hD hS => ?_)
      obtain ⟨sMthere_13, esMthere_13, hf⟩ := o_lt_e hf
      have hP : va_P D vwCl (fl [wMo K hMo sMo_10, wRowZ K (fun _ => hMo 1) 320 sMthere_13, wRowI K (fun _ => hMo 2) 320 sMscales_j65, wRowI K (fun _ => hMo 3) 320 sMreferences_j65, wRowI K (fun _ => hMo 4) 320 sMwidths_j65]) H := by rw [esMthere_13]; exact fl_P 1 0 rfl (Nat.le_of_ble_eq_true rfl) rfl rfl hP
      have hD : va_D A (fl [wMo K hMo sMo_10, wRowZ K (fun _ => hMo 1) 320 sMthere_13, wRowI K (fun _ => hMo 2) 320 sMscales_j65, wRowI K (fun _ => hMo 3) 320 sMreferences_j65, wRowI K (fun _ => hMo 4) 320 sMwidths_j65]) := by rw [esMthere_13]; exact fl_D 1 0 rfl (Nat.le_of_ble_eq_true rfl) rfl rfl hD
      refine lv_aload_n (pc := 89) hx hb d_Mod_element_89 rfl (lv_at hl 1 rfl) ?_
      refine va_get (D := D) (ci := 10) (v := .ref (hMo 2)) (C := R_Mod) (T := T_Mod) (N := 61) (pc := 90) hx hb hts (fun w h => List.mem_cons_of_mem _ (in_Mod w h)) hown hK hP _ (fl_at 0 0 rfl rfl) rfl 2 (by decide) (hts _ (List.mem_cons_of_mem _ tw_1095)) (fun _ h9 => h9) rfl d_Mod_element_90 ?_
      refine lv_iload (pc := 93) hx hb d_Mod_element_93 (lv_at hl 0 rfl) ?_
      refine lv_iload_n (pc := 95) hx hb d_Mod_element_95 rfl (lv_at hl 4 rfl) ?_
      obtain ⟨hi14, hf⟩ := o_gi_e hf
      refine va_iast (D := D) (pc := 96) hx hb hK hP hD hS _ 0 (fl_at 2 0 rfl rfl) rfl hi14 d_Mod_element_96 (fun H locs hP hD hS => ?_)
      obtain ⟨sMscales_15, esMscales_15, hf⟩ := o_lt_e hf
      have hP : va_P D vwCl (fl [wMo K hMo sMo_10, wRowZ K (fun _ => hMo 1) 320 sMthere_13, wRowI K (fun _ => hMo 2) 320 sMscales_15, wRowI K (fun _ => hMo 3) 320 sMreferences_j65, wRowI K (fun _ => hMo 4) 320 sMwidths_j65]) H := by rw [esMscales_15]; exact fl_P 2 0 rfl (Nat.le_of_ble_eq_true rfl) rfl rfl hP
      have hD : va_D A (fl [wMo K hMo sMo_10, wRowZ K (fun _ => hMo 1) 320 sMthere_13, wRowI K (fun _ => hMo 2) 320 sMscales_15, wRowI K (fun _ => hMo 3) 320 sMreferences_j65, wRowI K (fun _ => hMo 4) 320 sMwidths_j65]) := by rw [esMscales_15]; exact fl_D 2 0 rfl (Nat.le_of_ble_eq_true rfl) rfl rfl hD
      refine lv_aload_n (pc := 97) hx hb d_Mod_element_97 rfl (lv_at hl 1 rfl) ?_
      refine va_get (D := D) (ci := 10) (v := .ref (hMo 3)) (C := R_Mod) (T := T_Mod) (N := 61) (pc := 98) hx hb hts (fun w h => List.mem_cons_of_mem _ (in_Mod w h)) hown hK hP _ (fl_at 0 0 rfl rfl) rfl 3 (by decide) (hts _ (List.mem_cons_of_mem _ tw_1096)) (fun _ h9 => h9) rfl d_Mod_element_98 ?_
      refine lv_iload (pc := 101) hx hb d_Mod_element_101 (lv_at hl 0 rfl) ?_
      refine lv_iload (pc := 103) hx hb d_Mod_element_103 (lv_at hl 5 rfl) ?_
      obtain ⟨hi16, hf⟩ := o_gi_e hf
      refine va_iast (D := D) (pc := 105) hx hb hK hP hD hS _ 0 (fl_at 3 0 rfl rfl) rfl hi16 d_Mod_element_105 (fun H locs hP hD hS => ?_)
      obtain ⟨sMreferences_17, esMreferences_17, hf⟩ := o_lt_e hf
      have hP : va_P D vwCl (fl [wMo K hMo sMo_10, wRowZ K (fun _ => hMo 1) 320 sMthere_13, wRowI K (fun _ => hMo 2) 320 sMscales_15, wRowI K (fun _ => hMo 3) 320 sMreferences_17, wRowI K (fun _ => hMo 4) 320 sMwidths_j65]) H := by rw [esMreferences_17]; exact fl_P 3 0 rfl (Nat.le_of_ble_eq_true rfl) rfl rfl hP
      have hD : va_D A (fl [wMo K hMo sMo_10, wRowZ K (fun _ => hMo 1) 320 sMthere_13, wRowI K (fun _ => hMo 2) 320 sMscales_15, wRowI K (fun _ => hMo 3) 320 sMreferences_17, wRowI K (fun _ => hMo 4) 320 sMwidths_j65]) := by rw [esMreferences_17]; exact fl_D 3 0 rfl (Nat.le_of_ble_eq_true rfl) rfl rfl hD
      refine lv_aload_n (pc := 106) hx hb d_Mod_element_106 rfl (lv_at hl 1 rfl) ?_
      refine va_get (D := D) (ci := 10) (v := .ref (hMo 4)) (C := R_Mod) (T := T_Mod) (N := 61) (pc := 107) hx hb hts (fun w h => List.mem_cons_of_mem _ (in_Mod w h)) hown hK hP _ (fl_at 0 0 rfl rfl) rfl 4 (by decide) (hts _ (List.mem_cons_of_mem _ tw_1097)) (fun _ h9 => h9) rfl d_Mod_element_107 ?_
      refine lv_iload (pc := 110) hx hb d_Mod_element_110 (lv_at hl 0 rfl) ?_
      refine lv_iload (pc := 112) hx hb d_Mod_element_112 (lv_at hl 6 rfl) ?_
      obtain ⟨hi18, hf⟩ := o_gi_e hf
      refine va_iast (D := D) (pc := 114) hx hb hK hP hD hS _ 0 (fl_at 4 0 rfl rfl) rfl hi18 d_Mod_element_114 (fun H locs hP hD hS => ?_)
      obtain ⟨sMwidths_19, esMwidths_19, hf⟩ := o_lt_e hf
      have hP : va_P D vwCl (fl [wMo K hMo sMo_10, wRowZ K (fun _ => hMo 1) 320 sMthere_13, wRowI K (fun _ => hMo 2) 320 sMscales_15, wRowI K (fun _ => hMo 3) 320 sMreferences_17, wRowI K (fun _ => hMo 4) 320 sMwidths_19]) H := by rw [esMwidths_19]; exact fl_P 4 0 rfl (Nat.le_of_ble_eq_true rfl) rfl rfl hP
      have hD : va_D A (fl [wMo K hMo sMo_10, wRowZ K (fun _ => hMo 1) 320 sMthere_13, wRowI K (fun _ => hMo 2) 320 sMscales_15, wRowI K (fun _ => hMo 3) 320 sMreferences_17, wRowI K (fun _ => hMo 4) 320 sMwidths_19]) := by rw [esMwidths_19]; exact fl_D 4 0 rfl (Nat.le_of_ble_eq_true rfl) rfl rfl hD
      cases hf
      exact ret_v hx hb hr hlocks hK hP hS d_Mod_element_115
    · replace hf := o_t c20 hf
      cases hf
      exact ret_v hx hb hr hlocks hK hP hS d_Mod_element_73
  have J52 : ∀ (x1_j52 : Int32) (x2_j52 : Int32) (x3_j52 : Int32) (x4_j52 : Int32) (x5_j52 : Int32) (t0_j52 : Int32) (sMo_j52 : S_Mo) (sMthere_j52 : (Nat → Int32)) (sMscales_j52 : (Nat → Int32)) (sMreferences_j52 : (Nat → Int32)) (sMwidths_j52 : (Nat → Int32)) (H : Heap) (locs : List Loc) (ls : Array Slot), va_P D vwCl (fl [wMo K hMo sMo_j52, wRowZ K (fun _ => hMo 1) 320 sMthere_j52, wRowI K (fun _ => hMo 2) 320 sMscales_j52, wRowI K (fun _ => hMo 3) 320 sMreferences_j52, wRowI K (fun _ => hMo 4) 320 sMwidths_j52]) H → va_D A (fl [wMo K hMo sMo_j52, wRowZ K (fun _ => hMo 1) 320 sMthere_j52, wRowI K (fun _ => hMo 2) 320 sMscales_j52, wRowI K (fun _ => hMo 3) 320 sMreferences_j52, wRowI K (fun _ => hMo 4) 320 sMwidths_j52]) → va_S A s.heap H locs → lv_has ls 8 [(0, .ref (hMo 0)), (1, .int x1_j52), (2, .int x2_j52), (3, .int x3_j52), (4, .int x4_j52), (5, .int x5_j52)] → Mod_element_j52 x1_j52 x2_j52 x3_j52 x4_j52 x5_j52 t0_j52 sMo_j52 sMthere_j52 sMscales_j52 sMreferences_j52 sMwidths_j52 = some ((sMo', sMthere', sMscales', sMreferences', sMwidths')) → W p l e rm_Mod_element s m ([.ref (hMo 0), .int a0, .int a1, .int a2, .int a3, .int a4] : List Value).toArray below meth c H locs 0 0 (Qv below ([.ref (hMo 0), .int a0, .int a1, .int a2, .int a3, .int a4] : List Value).toArray s D K A (fl [wMo K hMo sMo', wRowZ K (fun _ => hMo 1) 320 sMthere', wRowI K (fun _ => hMo 2) 320 sMscales', wRowI K (fun _ => hMo 3) 320 sMreferences', wRowI K (fun _ => hMo 4) 320 sMwidths'])) (F0 m 52 ls [.int t0_j52]) := by
    intro x1_j52 x2_j52 x3_j52 x4_j52 x5_j52 t0_j52 sMo_j52 sMthere_j52 sMscales_j52 sMreferences_j52 sMwidths_j52 H locs ls hP hD hS hl hf
    refine lv_istore (lv' := [(6, .int t0_j52), (0, .ref (hMo 0)), (1, .int x1_j52), (2, .int x2_j52), (3, .int x3_j52), (4, .int x4_j52), (5, .int x5_j52)]) (pc := 52) hx hb d_Mod_element_52 hl (by decide) rfl (fun ls hl => ?_)
    refine lv_aload_n (pc := 54) hx hb d_Mod_element_54 rfl (lv_at hl 1 rfl) ?_
    refine lv_iload (pc := 55) hx hb d_Mod_element_55 (lv_at hl 0 rfl) ?_
    refine lv_if_eq (tgt := 64) (pc := 57) hx hb d_Mod_element_57 (by decide) (fun c9 => ?_) (fun c9 => ?_)
    · replace hf := o_t c9 hf
      refine lv_iconst (v := 1) (pc := 64) hx hb d_Mod_element_64 (by decide) ?_
      exact J65 x1_j52 x2_j52 x3_j52 x4_j52 x5_j52 t0_j52 1 sMo_j52 sMthere_j52 sMscales_j52 sMreferences_j52 sMwidths_j52 H locs ls hP hD hS (lv_sub hl [1, 2, 3, 4, 5, 6, 0] rfl) hf
    · replace hf := o_f c9 hf
      refine lv_iconst (v := 0) (pc := 60) hx hb d_Mod_element_60 (by decide) ?_
      refine lv_goto (tgt := 65) (pc := 61) hx hb d_Mod_element_61 (by decide) ?_
      exact J65 x1_j52 x2_j52 x3_j52 x4_j52 x5_j52 t0_j52 0 sMo_j52 sMthere_j52 sMscales_j52 sMreferences_j52 sMwidths_j52 H locs ls hP hD hS (lv_sub hl [1, 2, 3, 4, 5, 6, 0] rfl) hf
  have J51 : ∀ (x1_j51 : Int32) (x2_j51 : Int32) (x3_j51 : Int32) (x4_j51 : Int32) (x5_j51 : Int32) (sMo_j51 : S_Mo) (sMthere_j51 : (Nat → Int32)) (sMscales_j51 : (Nat → Int32)) (sMreferences_j51 : (Nat → Int32)) (sMwidths_j51 : (Nat → Int32)) (H : Heap) (locs : List Loc) (ls : Array Slot), va_P D vwCl (fl [wMo K hMo sMo_j51, wRowZ K (fun _ => hMo 1) 320 sMthere_j51, wRowI K (fun _ => hMo 2) 320 sMscales_j51, wRowI K (fun _ => hMo 3) 320 sMreferences_j51, wRowI K (fun _ => hMo 4) 320 sMwidths_j51]) H → va_D A (fl [wMo K hMo sMo_j51, wRowZ K (fun _ => hMo 1) 320 sMthere_j51, wRowI K (fun _ => hMo 2) 320 sMscales_j51, wRowI K (fun _ => hMo 3) 320 sMreferences_j51, wRowI K (fun _ => hMo 4) 320 sMwidths_j51]) → va_S A s.heap H locs → lv_has ls 8 [(0, .ref (hMo 0)), (1, .int x1_j51), (2, .int x2_j51), (3, .int x3_j51), (4, .int x4_j51), (5, .int x5_j51)] → Mod_element_j51 x1_j51 x2_j51 x3_j51 x4_j51 x5_j51 sMo_j51 sMthere_j51 sMscales_j51 sMreferences_j51 sMwidths_j51 = some ((sMo', sMthere', sMscales', sMreferences', sMwidths')) → W p l e rm_Mod_element s m ([.ref (hMo 0), .int a0, .int a1, .int a2, .int a3, .int a4] : List Value).toArray below meth c H locs 0 0 (Qv below ([.ref (hMo 0), .int a0, .int a1, .int a2, .int a3, .int a4] : List Value).toArray s D K A (fl [wMo K hMo sMo', wRowZ K (fun _ => hMo 1) 320 sMthere', wRowI K (fun _ => hMo 2) 320 sMscales', wRowI K (fun _ => hMo 3) 320 sMreferences', wRowI K (fun _ => hMo 4) 320 sMwidths'])) (F0 m 51 ls []) := by
    intro x1_j51 x2_j51 x3_j51 x4_j51 x5_j51 sMo_j51 sMthere_j51 sMscales_j51 sMreferences_j51 sMwidths_j51 H locs ls hP hD hS hl hf
    refine lv_iconst (v := 0) (pc := 51) hx hb d_Mod_element_51 (by decide) ?_
    exact J52 x1_j51 x2_j51 x3_j51 x4_j51 x5_j51 0 sMo_j51 sMthere_j51 sMscales_j51 sMreferences_j51 sMwidths_j51 H locs ls hP hD hS (lv_sub hl [0, 1, 2, 3, 4, 5] rfl) hf
  refine lv_iload_n (pc := 0) hx hb d_Mod_element_0 rfl (lv_at hl 1 rfl) ?_
  refine lv_iload_n (pc := 1) hx hb d_Mod_element_1 rfl (lv_at hl 2 rfl) ?_
  obtain ⟨q1, hq1, hf⟩ := o_bd_e hf
  refine fi_i (pc := 2) (va_runS (As := [.int a0, .int a1]) (rest := []) ⟨hx, hb, hml, hown, hts⟩ ((c_Mod_isEntry l D K a0 a1 q1 hq1) _) (cwS 2 hts (gS tw_1282 tw_1283 tw_12 tw_1284) rfl rfl rfl (by decide +kernel) ⟨by decide, by decide⟩) ⟨mPre_blind, (mPre_fl hK hF hA hP hD hS [] rfl rfl)⟩ rfl rfl hl.1 rfl (lv_room (Nat.le_of_ble_eq_true rfl)) d_Mod_element_2 ⟨Nat.zero_le _, Nat.zero_le _⟩) hA hP hD hS [] rfl rfl (fun H locs hP hD hS => ?_)
  have hP : va_P D vwCl (fl [wMo K hMo sMo, wRowZ K (fun _ => hMo 1) 320 sMthere, wRowI K (fun _ => hMo 2) 320 sMscales, wRowI K (fun _ => hMo 3) 320 sMreferences, wRowI K (fun _ => hMo 4) 320 sMwidths]) H := hP
  have hD : va_D A (fl [wMo K hMo sMo, wRowZ K (fun _ => hMo 1) 320 sMthere, wRowI K (fun _ => hMo 2) 320 sMscales, wRowI K (fun _ => hMo 3) 320 sMreferences, wRowI K (fun _ => hMo 4) 320 sMwidths]) := hD
  refine lv_if_eq (tgt := 51) (pc := 5) hx hb d_Mod_element_5 (by decide) (fun c8 => ?_) (fun c8 => ?_)
  · replace hf := o_t c8 hf
    exact J51 a0 a1 a2 a3 a4 sMo sMthere sMscales sMreferences sMwidths H locs ls hP hD hS (lv_sub hl [0, 1, 2, 3, 4, 5] rfl) hf
  · replace hf := o_f c8 hf
    refine lv_iload_n (pc := 8) hx hb d_Mod_element_8 rfl (lv_at hl 3 rfl) ?_
    refine lv_bipush (v := (-8)) (pc := 9) hx hb d_Mod_element_9 (by decide) ?_
    refine lv_icmp_lt (tgt := 51) (pc := 11) hx hb d_Mod_element_11 (by decide) (fun c7 => ?_) (fun c7 => ?_)
    · replace hf := o_t c7 hf
      exact J51 a0 a1 a2 a3 a4 sMo sMthere sMscales sMreferences sMwidths H locs ls hP hD hS (lv_sub hl [0, 1, 2, 3, 4, 5] rfl) hf
    · replace hf := o_f c7 hf
      refine lv_iload_n (pc := 14) hx hb d_Mod_element_14 rfl (lv_at hl 3 rfl) ?_
      refine lv_bipush (v := 8) (pc := 15) hx hb d_Mod_element_15 (by decide) ?_
      refine lv_icmp_gt (tgt := 51) (pc := 17) hx hb d_Mod_element_17 (by decide) (fun c6 => ?_) (fun c6 => ?_)
      · replace hf := o_t c6 hf
        exact J51 a0 a1 a2 a3 a4 sMo sMthere sMscales sMreferences sMwidths H locs ls hP hD hS (lv_sub hl [0, 1, 2, 3, 4, 5] rfl) hf
      · replace hf := o_f c6 hf
        refine lv_iload (pc := 20) hx hb d_Mod_element_20 (lv_at hl 4 rfl) ?_
        refine lv_ldc (pc := 22) hx hb hown (hts _ (List.mem_cons_of_mem _ tw_1285)) d_Mod_element_22 ?_
        refine lv_icmp_lt (tgt := 51) (pc := 24) hx hb d_Mod_element_24 (by decide) (fun c5 => ?_) (fun c5 => ?_)
        · replace hf := o_t c5 hf
          exact J51 a0 a1 a2 a3 a4 sMo sMthere sMscales sMreferences sMwidths H locs ls hP hD hS (lv_sub hl [0, 1, 2, 3, 4, 5] rfl) hf
        · replace hf := o_f c5 hf
          refine lv_iload (pc := 27) hx hb d_Mod_element_27 (lv_at hl 4 rfl) ?_
          refine lv_ldc (pc := 29) hx hb hown (hts _ (List.mem_cons_of_mem _ tw_1286)) d_Mod_element_29 ?_
          refine lv_icmp_gt (tgt := 51) (pc := 31) hx hb d_Mod_element_31 (by decide) (fun c4 => ?_) (fun c4 => ?_)
          · replace hf := o_t c4 hf
            exact J51 a0 a1 a2 a3 a4 sMo sMthere sMscales sMreferences sMwidths H locs ls hP hD hS (lv_sub hl [0, 1, 2, 3, 4, 5] rfl) hf
          · replace hf := o_f c4 hf
            refine lv_iload (pc := 34) hx hb d_Mod_element_34 (lv_at hl 5 rfl) ?_
            refine lv_iconst (v := 1) (pc := 36) hx hb d_Mod_element_36 (by decide) ?_
            refine lv_icmp_lt (tgt := 51) (pc := 37) hx hb d_Mod_element_37 (by decide) (fun c3 => ?_) (fun c3 => ?_)
            · replace hf := o_t c3 hf
              exact J51 a0 a1 a2 a3 a4 sMo sMthere sMscales sMreferences sMwidths H locs ls hP hD hS (lv_sub hl [0, 1, 2, 3, 4, 5] rfl) hf
            · replace hf := o_f c3 hf
              refine lv_iload (pc := 40) hx hb d_Mod_element_40 (lv_at hl 5 rfl) ?_
              refine lv_bipush (v := 32) (pc := 42) hx hb d_Mod_element_42 (by decide) ?_
              refine lv_icmp_gt (tgt := 51) (pc := 44) hx hb d_Mod_element_44 (by decide) (fun c2 => ?_) (fun c2 => ?_)
              · replace hf := o_t c2 hf
                exact J51 a0 a1 a2 a3 a4 sMo sMthere sMscales sMreferences sMwidths H locs ls hP hD hS (lv_sub hl [0, 1, 2, 3, 4, 5] rfl) hf
              · replace hf := o_f c2 hf
                refine lv_iconst (v := 1) (pc := 47) hx hb d_Mod_element_47 (by decide) ?_
                refine lv_goto (tgt := 52) (pc := 48) hx hb d_Mod_element_48 (by decide) ?_
                exact J52 a0 a1 a2 a3 a4 1 sMo sMthere sMscales sMreferences sMwidths H locs ls hP hD hS (lv_sub hl [0, 1, 2, 3, 4, 5] rfl) hf
def Mod_drop (a0 : Int32) (a1 : Int32) (sMo : S_Mo) (sMthere : (Nat → Int32)) : Option (Int32 × S_Mo × (Nat → Int32)) := o_lt (Mo_set_thrown sMo 0) fun sMo_1 => (o_bd (Mod_isEntry a0 a1) fun q2 => (if q2 = 0 then some ((0, sMo_1, sMthere)) else o_bd (Mod_entry a0 a1) fun q3 => (o_gd (o_in q3 320) (o_bd (Mod_entry a0 a1) fun q5 => (o_gd (o_in q5 320) (o_lt (upd sMthere (q5 : Int32).toNatClampNeg (vp_nar .boolean 0)) fun sMthere_7 => (o_gd (o_bool (sMthere (q3 : Int32).toNatClampNeg)) (some ((sMthere (q3 : Int32).toNatClampNeg, sMo_1, sMthere_7))))))))))
abbrev rm_Mod_drop : Room := { frames := 1, cells := 0, slots := 0, locals := 21 }
set_option maxHeartbeats 4000000 in
set_option maxRecDepth 100000 in
theorem c_Mod_drop (l : Launch) (D : va_G) (K : Nat → ClassId) (hMo : Nat → Nat) (sMo : S_Mo) (sMthere : (Nat → Int32)) (a0 : Int32) (a1 : Int32) (r : Int32) (sMo' : S_Mo) (sMthere' : (Nat → Int32)) (hf : Mod_drop a0 a1 sMo sMthere = some ((r, sMo', sMthere'))) : mi l D K y_Mod_drop ws_Mod_drop rm_Mod_drop [.ref (hMo 0), .int a0, .int a1] (fl [wMo K hMo sMo, wRowZ K (fun _ => hMo 1) 320 sMthere]) (fl [wMo K hMo sMo', wRowZ K (fun _ => hMo 1) 320 sMthere']) r := by
  refine mi_of (cc := b_Mod_drop) (maxL := 4) (own := "ObsMessagesModel") (by decide) rfl rfl (Nat.le_of_ble_eq_true rfl) ?_
  intro p e s m below meth c A ls hC hP hD hS hl
  obtain ⟨hx, hb, hml, hown, hts, hr, hlocks, hK, hF, hA⟩ := hC
  have hP : va_P D vwCl (fl [wMo K hMo sMo, wRowZ K (fun _ => hMo 1) 320 sMthere]) s.heap := hP
  have hl : lv_has ls 4 [(0, .ref (hMo 0)), (1, .int a0), (2, .int a1)] := hl
  suffices hW : ∀ (H : Heap) (locs : List Loc), va_P D vwCl (fl [wMo K hMo sMo, wRowZ K (fun _ => hMo 1) 320 sMthere]) H → va_S A s.heap H locs → W p l e rm_Mod_drop s m ([.ref (hMo 0), .int a0, .int a1] : List Value).toArray below meth c H locs 0 0 (Qi below ([.ref (hMo 0), .int a0, .int a1] : List Value).toArray s D K A (fl [wMo K hMo sMo', wRowZ K (fun _ => hMo 1) 320 sMthere']) r) (F0 m 0 ls []) from hW s.heap [] hP hS
  clear hP hS
  intro H locs hP hS
  refine lv_aload_n (pc := 0) hx hb d_Mod_drop_0 rfl (lv_at hl 0 rfl) ?_
  refine lv_iconst (v := 0) (pc := 1) hx hb d_Mod_drop_1 (by decide) ?_
  refine va_put (D := D) (ci := 10) (v := .int 0) (ty := .int) (C := R_Mod) (T := T_Mod) (N := 61) (pc := 2) hx hb hts (fun w h => List.mem_cons_of_mem _ (in_Mod w h)) ty_Mod ty_Mod_ok nm_Mod hown hK hP hD hS _ (fl_at 0 0 rfl rfl) rfl 0 (by decide) (hts _ (List.mem_cons_of_mem _ tw_1093)) (fun _ h9 => h9) rfl (by decide +kernel) rfl rfl (Nat.le_of_ble_eq_true rfl) d_Mod_drop_2 (fun H locs hP hD hS => ?_)
  obtain ⟨sMo_1, esMo_1, hf⟩ := o_lt_e hf
  have hP : va_P D vwCl (fl [wMo K hMo sMo_1, wRowZ K (fun _ => hMo 1) 320 sMthere]) H := by rw [esMo_1]; exact fl_P 0 0 rfl (Nat.le_of_ble_eq_true rfl) rfl rfl hP
  have hD : va_D A (fl [wMo K hMo sMo_1, wRowZ K (fun _ => hMo 1) 320 sMthere]) := by rw [esMo_1]; exact fl_D 0 0 rfl (Nat.le_of_ble_eq_true rfl) rfl rfl hD
  refine lv_iload_n (pc := 5) hx hb d_Mod_drop_5 rfl (lv_at hl 1 rfl) ?_
  refine lv_iload_n (pc := 6) hx hb d_Mod_drop_6 rfl (lv_at hl 2 rfl) ?_
  obtain ⟨q2, hq2, hf⟩ := o_bd_e hf
  refine fi_i (pc := 7) (va_runS (As := [.int a0, .int a1]) (rest := []) ⟨hx, hb, hml, hown, hts⟩ ((c_Mod_isEntry l D K a0 a1 q2 hq2) _) (cwS 2 hts (gS tw_1282 tw_1283 tw_12 tw_1284) rfl rfl rfl (by decide +kernel) ⟨by decide, by decide⟩) ⟨mPre_blind, (mPre_fl hK hF hA hP hD hS [] rfl rfl)⟩ rfl rfl hl.1 rfl (lv_room (Nat.le_of_ble_eq_true rfl)) d_Mod_drop_7 ⟨Nat.zero_le _, Nat.zero_le _⟩) hA hP hD hS [] rfl rfl (fun H locs hP hD hS => ?_)
  have hP : va_P D vwCl (fl [wMo K hMo sMo_1, wRowZ K (fun _ => hMo 1) 320 sMthere]) H := hP
  have hD : va_D A (fl [wMo K hMo sMo_1, wRowZ K (fun _ => hMo 1) 320 sMthere]) := hD
  refine lv_if_ne (tgt := 15) (pc := 10) hx hb d_Mod_drop_10 (by decide) (fun c8 => ?_) (fun c8 => ?_)
  · replace hf := o_f c8 hf
    refine lv_aload_n (pc := 15) hx hb d_Mod_drop_15 rfl (lv_at hl 0 rfl) ?_
    refine va_get (D := D) (ci := 10) (v := .ref (hMo 1)) (C := R_Mod) (T := T_Mod) (N := 61) (pc := 16) hx hb hts (fun w h => List.mem_cons_of_mem _ (in_Mod w h)) hown hK hP _ (fl_at 0 0 rfl rfl) rfl 1 (by decide) (hts _ (List.mem_cons_of_mem _ tw_1094)) (fun _ h9 => h9) rfl d_Mod_drop_16 ?_
    refine lv_iload_n (pc := 19) hx hb d_Mod_drop_19 rfl (lv_at hl 1 rfl) ?_
    refine lv_iload_n (pc := 20) hx hb d_Mod_drop_20 rfl (lv_at hl 2 rfl) ?_
    obtain ⟨q3, hq3, hf⟩ := o_bd_e hf
    refine fi_i (pc := 21) (va_runS (As := [.int a0, .int a1]) (rest := [.ref (hMo 1)]) ⟨hx, hb, hml, hown, hts⟩ ((c_Mod_entry l D K a0 a1 q3 hq3) _) (cwS 2 hts (gS tw_1287 tw_1288 tw_12 tw_1289) rfl rfl rfl (by decide +kernel) ⟨by decide, by decide⟩) ⟨mPre_blind, (mPre_fl hK hF hA hP hD hS [] rfl rfl)⟩ rfl rfl hl.1 rfl (lv_room (Nat.le_of_ble_eq_true rfl)) d_Mod_drop_21 ⟨Nat.zero_le _, Nat.zero_le _⟩) hA hP hD hS [] rfl rfl (fun H locs hP hD hS => ?_)
    have hP : va_P D vwCl (fl [wMo K hMo sMo_1, wRowZ K (fun _ => hMo 1) 320 sMthere]) H := hP
    have hD : va_D A (fl [wMo K hMo sMo_1, wRowZ K (fun _ => hMo 1) 320 sMthere]) := hD
    obtain ⟨hi4, hf⟩ := o_gi_e hf
    refine va_zald (D := D) (pc := 24) hx hb hK hP _ 3 (fl_at 1 0 rfl rfl) rfl hi4 d_Mod_drop_24 ?_
    refine lv_istore_n (lv' := [(3, .int (sMthere (q3 : Int32).toNatClampNeg)), (0, .ref (hMo 0)), (1, .int a0), (2, .int a1)]) (pc := 25) hx hb d_Mod_drop_25 rfl hl (by decide) rfl (fun ls hl => ?_)
    refine lv_aload_n (pc := 26) hx hb d_Mod_drop_26 rfl (lv_at hl 1 rfl) ?_
    refine va_get (D := D) (ci := 10) (v := .ref (hMo 1)) (C := R_Mod) (T := T_Mod) (N := 61) (pc := 27) hx hb hts (fun w h => List.mem_cons_of_mem _ (in_Mod w h)) hown hK hP _ (fl_at 0 0 rfl rfl) rfl 1 (by decide) (hts _ (List.mem_cons_of_mem _ tw_1094)) (fun _ h9 => h9) rfl d_Mod_drop_27 ?_
    refine lv_iload_n (pc := 30) hx hb d_Mod_drop_30 rfl (lv_at hl 2 rfl) ?_
    refine lv_iload_n (pc := 31) hx hb d_Mod_drop_31 rfl (lv_at hl 3 rfl) ?_
    obtain ⟨q5, hq5, hf⟩ := o_bd_e hf
    refine fi_i (pc := 32) (va_runS (As := [.int a0, .int a1]) (rest := [.ref (hMo 1)]) ⟨hx, hb, hml, hown, hts⟩ ((c_Mod_entry l D K a0 a1 q5 hq5) _) (cwS 2 hts (gS tw_1287 tw_1288 tw_12 tw_1289) rfl rfl rfl (by decide +kernel) ⟨by decide, by decide⟩) ⟨mPre_blind, (mPre_fl hK hF hA hP hD hS [] rfl rfl)⟩ rfl rfl hl.1 rfl (lv_room (Nat.le_of_ble_eq_true rfl)) d_Mod_drop_32 ⟨Nat.zero_le _, Nat.zero_le _⟩) hA hP hD hS [] rfl rfl (fun H locs hP hD hS => ?_)
    have hP : va_P D vwCl (fl [wMo K hMo sMo_1, wRowZ K (fun _ => hMo 1) 320 sMthere]) H := hP
    have hD : va_D A (fl [wMo K hMo sMo_1, wRowZ K (fun _ => hMo 1) 320 sMthere]) := hD
    refine lv_iconst (v := 0) (pc := 35) hx hb d_Mod_drop_35 (by decide) ?_
    obtain ⟨hi6, hf⟩ := o_gi_e hf
    refine va_zast (D := D) (pc := 36) hx hb hK hP hD hS _ 3 (fl_at 1 0 rfl rfl) rfl hi6 d_Mod_drop_36 (fun H locs hP hD hS => ?_)
    obtain ⟨sMthere_7, esMthere_7, hf⟩ := o_lt_e hf
    have hP : va_P D vwCl (fl [wMo K hMo sMo_1, wRowZ K (fun _ => hMo 1) 320 sMthere_7]) H := by rw [esMthere_7]; exact fl_P 1 0 rfl (Nat.le_of_ble_eq_true rfl) rfl rfl hP
    have hD : va_D A (fl [wMo K hMo sMo_1, wRowZ K (fun _ => hMo 1) 320 sMthere_7]) := by rw [esMthere_7]; exact fl_D 1 0 rfl (Nat.le_of_ble_eq_true rfl) rfl rfl hD
    refine lv_iload_n (pc := 37) hx hb d_Mod_drop_37 rfl (lv_at hl 0 rfl) ?_
    obtain ⟨hbz, hf⟩ := o_gb_e hf
    cases hf
    exact ret_z hx hb hr hlocks hK hP hS hbz d_Mod_drop_38
  · replace hf := o_t c8 hf
    refine lv_iconst (v := 0) (pc := 13) hx hb d_Mod_drop_13 (by decide) ?_
    cases hf
    exact ret_z hx hb hr hlocks hK hP hS rfl d_Mod_drop_14
def Mod_version_j15 (x1_j15 : Int32) (t1_j15 : Int32) (sMo_j15 : S_Mo) : Option (S_Mo) := o_lt (Mo_set_thrown sMo_j15 t1_j15) fun sMo_3 => (if (Mo_thrown sMo_3) = 0 then o_lt (Mo_set_used sMo_3 x1_j15) fun sMo_4 => (some sMo_4) else some sMo_3)
def Mod_version_j10 (x1_j10 : Int32) (sMo_j10 : S_Mo) : Option (S_Mo) := Mod_version_j15 x1_j10 1 sMo_j10
def Mod_version (a0 : Int32) (sMo : S_Mo) : Option (S_Mo) := if a0 < 0 then Mod_version_j10 a0 sMo else if a0 ≤ 3 then Mod_version_j15 a0 0 sMo else Mod_version_j10 a0 sMo
abbrev rm_Mod_version : Room := { frames := 0, cells := 0, slots := 0, locals := 0 }
set_option maxHeartbeats 4000000 in
set_option maxRecDepth 100000 in
theorem c_Mod_version (l : Launch) (D : va_G) (K : Nat → ClassId) (hMo : Nat → Nat) (sMo : S_Mo) (a0 : Int32) (sMo' : S_Mo) (hf : Mod_version a0 sMo = some sMo') : mv l D K y_Mod_version ws_Mod_version rm_Mod_version [.ref (hMo 0), .int a0] (fl [wMo K hMo sMo]) (fl [wMo K hMo sMo']) := by
  refine mv_of (cc := b_Mod_version) (maxL := 2) (own := "ObsMessagesModel") (by decide) rfl rfl (Nat.le_of_ble_eq_true rfl) ?_
  intro p e s m below meth c A ls hC hP hD hS hl
  obtain ⟨hx, hb, hml, hown, hts, hr, hlocks, hK, hF, hA⟩ := hC
  have hP : va_P D vwCl (fl [wMo K hMo sMo]) s.heap := hP
  have hl : lv_has ls 2 [(0, .ref (hMo 0)), (1, .int a0)] := hl
  suffices hW : ∀ (H : Heap) (locs : List Loc), va_P D vwCl (fl [wMo K hMo sMo]) H → va_S A s.heap H locs → W p l e rm_Mod_version s m ([.ref (hMo 0), .int a0] : List Value).toArray below meth c H locs 0 0 (Qv below ([.ref (hMo 0), .int a0] : List Value).toArray s D K A (fl [wMo K hMo sMo'])) (F0 m 0 ls []) from hW s.heap [] hP hS
  clear hP hS
  intro H locs hP hS
  have J15 : ∀ (x1_j15 : Int32) (t1_j15 : Int32) (sMo_j15 : S_Mo) (H : Heap) (locs : List Loc) (ls : Array Slot), va_P D vwCl (fl [wMo K hMo sMo_j15]) H → va_D A (fl [wMo K hMo sMo_j15]) → va_S A s.heap H locs → lv_has ls 2 [(0, .ref (hMo 0)), (1, .int x1_j15)] → Mod_version_j15 x1_j15 t1_j15 sMo_j15 = some sMo' → W p l e rm_Mod_version s m ([.ref (hMo 0), .int a0] : List Value).toArray below meth c H locs 0 0 (Qv below ([.ref (hMo 0), .int a0] : List Value).toArray s D K A (fl [wMo K hMo sMo'])) (F0 m 15 ls [.int t1_j15, .ref (hMo 0)]) := by
    intro x1_j15 t1_j15 sMo_j15 H locs ls hP hD hS hl hf
    refine va_put (D := D) (ci := 10) (v := .int t1_j15) (ty := .int) (C := R_Mod) (T := T_Mod) (N := 61) (pc := 15) hx hb hts (fun w h => List.mem_cons_of_mem _ (in_Mod w h)) ty_Mod ty_Mod_ok nm_Mod hown hK hP hD hS _ (fl_at 0 0 rfl rfl) rfl 0 (by decide) (hts _ (List.mem_cons_of_mem _ tw_1093)) (fun _ h9 => h9) rfl (by decide +kernel) rfl rfl (Nat.le_of_ble_eq_true rfl) d_Mod_version_15 (fun H locs hP hD hS => ?_)
    obtain ⟨sMo_3, esMo_3, hf⟩ := o_lt_e hf
    have hP : va_P D vwCl (fl [wMo K hMo sMo_3]) H := by rw [esMo_3]; exact fl_P 0 0 rfl (Nat.le_of_ble_eq_true rfl) rfl rfl hP
    have hD : va_D A (fl [wMo K hMo sMo_3]) := by rw [esMo_3]; exact fl_D 0 0 rfl (Nat.le_of_ble_eq_true rfl) rfl rfl hD
    refine lv_aload_n (pc := 18) hx hb d_Mod_version_18 rfl (lv_at hl 0 rfl) ?_
    refine va_get (D := D) (ci := 10) (v := .int (Mo_thrown sMo_3)) (C := R_Mod) (T := T_Mod) (N := 61) (pc := 19) hx hb hts (fun w h => List.mem_cons_of_mem _ (in_Mod w h)) hown hK hP _ (fl_at 0 0 rfl rfl) rfl 0 (by decide) (hts _ (List.mem_cons_of_mem _ tw_1093)) (fun _ h9 => h9) rfl d_Mod_version_19 ?_
    refine lv_if_ne (tgt := 30) (pc := 22) hx hb d_Mod_version_22 (by decide) (fun c5 => ?_) (fun c5 => ?_)
    · replace hf := o_f c5 hf
      cases hf
      exact ret_v hx hb hr hlocks hK hP hS d_Mod_version_30
    · replace hf := o_t c5 hf
      refine lv_aload_n (pc := 25) hx hb d_Mod_version_25 rfl (lv_at hl 0 rfl) ?_
      refine lv_iload_n (pc := 26) hx hb d_Mod_version_26 rfl (lv_at hl 1 rfl) ?_
      refine va_put (D := D) (ci := 10) (v := .int x1_j15) (ty := .int) (C := R_Mod) (T := T_Mod) (N := 61) (pc := 27) hx hb hts (fun w h => List.mem_cons_of_mem _ (in_Mod w h)) ty_Mod ty_Mod_ok nm_Mod hown hK hP hD hS _ (fl_at 0 0 rfl rfl) rfl 5 (by decide) (hts _ (List.mem_cons_of_mem _ tw_1098)) (fun _ h9 => h9) rfl (by decide +kernel) rfl rfl (Nat.le_of_ble_eq_true rfl) d_Mod_version_27 (fun H locs hP hD hS => ?_)
      obtain ⟨sMo_4, esMo_4, hf⟩ := o_lt_e hf
      have hP : va_P D vwCl (fl [wMo K hMo sMo_4]) H := by rw [esMo_4]; exact fl_P 0 0 rfl (Nat.le_of_ble_eq_true rfl) rfl rfl hP
      have hD : va_D A (fl [wMo K hMo sMo_4]) := by rw [esMo_4]; exact fl_D 0 0 rfl (Nat.le_of_ble_eq_true rfl) rfl rfl hD
      cases hf
      exact ret_v hx hb hr hlocks hK hP hS d_Mod_version_30
  have J10 : ∀ (x1_j10 : Int32) (sMo_j10 : S_Mo) (H : Heap) (locs : List Loc) (ls : Array Slot), va_P D vwCl (fl [wMo K hMo sMo_j10]) H → va_D A (fl [wMo K hMo sMo_j10]) → va_S A s.heap H locs → lv_has ls 2 [(0, .ref (hMo 0)), (1, .int x1_j10)] → Mod_version_j10 x1_j10 sMo_j10 = some sMo' → W p l e rm_Mod_version s m ([.ref (hMo 0), .int a0] : List Value).toArray below meth c H locs 0 0 (Qv below ([.ref (hMo 0), .int a0] : List Value).toArray s D K A (fl [wMo K hMo sMo'])) (F0 m 10 ls [.ref (hMo 0)]) := by
    intro x1_j10 sMo_j10 H locs ls hP hD hS hl hf
    refine lv_iconst (v := 1) (pc := 10) hx hb d_Mod_version_10 (by decide) ?_
    refine lv_goto (tgt := 15) (pc := 11) hx hb d_Mod_version_11 (by decide) ?_
    exact J15 x1_j10 1 sMo_j10 H locs ls hP hD hS (lv_sub hl [0, 1] rfl) hf
  refine lv_aload_n (pc := 0) hx hb d_Mod_version_0 rfl (lv_at hl 0 rfl) ?_
  refine lv_iload_n (pc := 1) hx hb d_Mod_version_1 rfl (lv_at hl 1 rfl) ?_
  refine lv_if_lt (tgt := 10) (pc := 2) hx hb d_Mod_version_2 (by decide) (fun c2 => ?_) (fun c2 => ?_)
  · replace hf := o_t c2 hf
    exact J10 a0 sMo H locs ls hP hD hS (lv_sub hl [0, 1] rfl) hf
  · replace hf := o_f c2 hf
    refine lv_iload_n (pc := 5) hx hb d_Mod_version_5 rfl (lv_at hl 1 rfl) ?_
    refine lv_iconst (v := 3) (pc := 6) hx hb d_Mod_version_6 (by decide) ?_
    refine lv_icmp_le (tgt := 14) (pc := 7) hx hb d_Mod_version_7 (by decide) (fun c1 => ?_) (fun c1 => ?_)
    · replace hf := o_t c1 hf
      refine lv_iconst (v := 0) (pc := 14) hx hb d_Mod_version_14 (by decide) ?_
      exact J15 a0 0 sMo H locs ls hP hD hS (lv_sub hl [0, 1] rfl) hf
    · replace hf := o_f c1 hf
      exact J10 a0 sMo H locs ls hP hD hS (lv_sub hl [0, 1] rfl) hf
def Mod_force_L24 (fu : Nat) (sMo : S_Mo) (sMthere : (Nat → Int32)) (x1_L24 : Int32) (ke_24 : Int32 → Option (Int32)) : Nat → Int32 → Option (Int32)
  | 0, _ => none
  | n + 1, x2_L24 => if x2_L24 < 0 then ke_24 x2_L24 else o_bd (Mod_entry x2_L24 x1_L24) fun q3 => (o_gd (o_in q3 320) (if (sMthere (q3 : Int32).toNatClampNeg) = 0 then Mod_force_L24 fu sMo sMthere x1_L24 ke_24 n (x2_L24 + (-1)) else ke_24 x2_L24))
def Mod_force_j47 (fu : Nat) (sMo : S_Mo) (sMthere : (Nat → Int32)) (x1_j47 : Int32) (x2_j47 : Int32) : Option (Int32) := if 0 ≤ x2_j47 then o_bd (Mod_entry x2_j47 x1_j47) fun q9 => (some q9) else some ((-1))
def Mod_force (fu : Nat) (sMo : S_Mo) (sMthere : (Nat → Int32)) (a0 : Int32) : Option (Int32) := o_bd (Mod_entry ((-1)) a0) fun q1 => (o_gd (o_in q1 320) (if (sMthere (q1 : Int32).toNatClampNeg) = 0 then Mod_force_L24 fu sMo sMthere a0 (fun y2 => Mod_force_j47 fu sMo sMthere a0 y2) fu (Mo_used sMo) else o_bd (Mod_entry ((-1)) a0) fun q7 => (some q7)))
abbrev rm_Mod_force : Room := { frames := 1, cells := 0, slots := 0, locals := 21 }
set_option maxHeartbeats 4000000 in
set_option maxRecDepth 100000 in
theorem c_Mod_force (l : Launch) (D : va_G) (K : Nat → ClassId) (fu : Nat) (hMo : Nat → Nat) (sMo : S_Mo) (sMthere : (Nat → Int32)) (a0 : Int32) (r : Int32) (hf : Mod_force fu sMo sMthere a0 = some r) : mi l D K y_Mod_force ws_Mod_force rm_Mod_force [.ref (hMo 0), .int a0] (fl [wMo K hMo sMo, wRowZ K (fun _ => hMo 1) 320 sMthere]) (fl [wMo K hMo sMo, wRowZ K (fun _ => hMo 1) 320 sMthere]) r := by
  refine mi_of (cc := b_Mod_force) (maxL := 3) (own := "ObsMessagesModel") (by decide) rfl rfl (Nat.le_of_ble_eq_true rfl) ?_
  intro p e s m below meth c A ls hC hP hD hS hl
  obtain ⟨hx, hb, hml, hown, hts, hr, hlocks, hK, hF, hA⟩ := hC
  have hP : va_P D vwCl (fl [wMo K hMo sMo, wRowZ K (fun _ => hMo 1) 320 sMthere]) s.heap := hP
  have hl : lv_has ls 3 [(0, .ref (hMo 0)), (1, .int a0)] := hl
  suffices hW : ∀ (H : Heap) (locs : List Loc), va_P D vwCl (fl [wMo K hMo sMo, wRowZ K (fun _ => hMo 1) 320 sMthere]) H → va_S A s.heap H locs → W p l e rm_Mod_force s m ([.ref (hMo 0), .int a0] : List Value).toArray below meth c H locs 0 0 (Qi below ([.ref (hMo 0), .int a0] : List Value).toArray s D K A (fl [wMo K hMo sMo, wRowZ K (fun _ => hMo 1) 320 sMthere]) r) (F0 m 0 ls []) from hW s.heap [] hP hS
  clear hP hS
  intro H locs hP hS
  have J47 : ∀ (x1_j47 : Int32) (x2_j47 : Int32) (H : Heap) (locs : List Loc) (ls : Array Slot), va_P D vwCl (fl [wMo K hMo sMo, wRowZ K (fun _ => hMo 1) 320 sMthere]) H → va_D A (fl [wMo K hMo sMo, wRowZ K (fun _ => hMo 1) 320 sMthere]) → va_S A s.heap H locs → lv_has ls 3 [(1, .int x1_j47), (2, .int x2_j47)] → Mod_force_j47 fu sMo sMthere x1_j47 x2_j47 = some r → W p l e rm_Mod_force s m ([.ref (hMo 0), .int a0] : List Value).toArray below meth c H locs 0 0 (Qi below ([.ref (hMo 0), .int a0] : List Value).toArray s D K A (fl [wMo K hMo sMo, wRowZ K (fun _ => hMo 1) 320 sMthere]) r) (F0 m 47 ls []) := by
    intro x1_j47 x2_j47 H locs ls hP hD hS hl hf
    refine lv_iload_n (pc := 47) hx hb d_Mod_force_47 rfl (lv_at hl 1 rfl) ?_
    refine lv_if_ge (tgt := 55) (pc := 48) hx hb d_Mod_force_48 (by decide) (fun c10 => ?_) (fun c10 => ?_)
    · replace hf := o_t c10 hf
      refine lv_iload_n (pc := 55) hx hb d_Mod_force_55 rfl (lv_at hl 1 rfl) ?_
      refine lv_iload_n (pc := 56) hx hb d_Mod_force_56 rfl (lv_at hl 0 rfl) ?_
      obtain ⟨q9, hq9, hf⟩ := o_bd_e hf
      refine fi_i (pc := 57) (va_runS (As := [.int x2_j47, .int x1_j47]) (rest := []) ⟨hx, hb, hml, hown, hts⟩ ((c_Mod_entry l D K x2_j47 x1_j47 q9 hq9) _) (cwS 2 hts (gS tw_1287 tw_1288 tw_12 tw_1289) rfl rfl rfl (by decide +kernel) ⟨by decide, by decide⟩) ⟨mPre_blind, (mPre_fl hK hF hA hP hD hS [] rfl rfl)⟩ rfl rfl hl.1 rfl (lv_room (Nat.le_of_ble_eq_true rfl)) d_Mod_force_57 ⟨Nat.zero_le _, Nat.zero_le _⟩) hA hP hD hS [] rfl rfl (fun H locs hP hD hS => ?_)
      have hP : va_P D vwCl (fl [wMo K hMo sMo, wRowZ K (fun _ => hMo 1) 320 sMthere]) H := hP
      have hD : va_D A (fl [wMo K hMo sMo, wRowZ K (fun _ => hMo 1) 320 sMthere]) := hD
      cases hf
      exact ret_i hx hb hr hlocks hK hP hS d_Mod_force_60
    · replace hf := o_f c10 hf
      refine lv_iconst (v := (-1)) (pc := 51) hx hb d_Mod_force_51 (by decide) ?_
      refine lv_goto (tgt := 60) (pc := 52) hx hb d_Mod_force_52 (by decide) ?_
      cases hf
      exact ret_i hx hb hr hlocks hK hP hS d_Mod_force_60
  refine lv_aload_n (pc := 0) hx hb d_Mod_force_0 rfl (lv_at hl 0 rfl) ?_
  refine va_get (D := D) (ci := 10) (v := .ref (hMo 1)) (C := R_Mod) (T := T_Mod) (N := 61) (pc := 1) hx hb hts (fun w h => List.mem_cons_of_mem _ (in_Mod w h)) hown hK hP _ (fl_at 0 0 rfl rfl) rfl 1 (by decide) (hts _ (List.mem_cons_of_mem _ tw_1094)) (fun _ h9 => h9) rfl d_Mod_force_1 ?_
  refine lv_iconst (v := (-1)) (pc := 4) hx hb d_Mod_force_4 (by decide) ?_
  refine lv_iload_n (pc := 5) hx hb d_Mod_force_5 rfl (lv_at hl 1 rfl) ?_
  obtain ⟨q1, hq1, hf⟩ := o_bd_e hf
  refine fi_i (pc := 6) (va_runS (As := [.int ((-1)), .int a0]) (rest := [.ref (hMo 1)]) ⟨hx, hb, hml, hown, hts⟩ ((c_Mod_entry l D K ((-1)) a0 q1 hq1) _) (cwS 2 hts (gS tw_1287 tw_1288 tw_12 tw_1289) rfl rfl rfl (by decide +kernel) ⟨by decide, by decide⟩) ⟨mPre_blind, (mPre_fl hK hF hA hP hD hS [] rfl rfl)⟩ rfl rfl hl.1 rfl (lv_room (Nat.le_of_ble_eq_true rfl)) d_Mod_force_6 ⟨Nat.zero_le _, Nat.zero_le _⟩) hA hP hD hS [] rfl rfl (fun H locs hP hD hS => ?_)
  have hP : va_P D vwCl (fl [wMo K hMo sMo, wRowZ K (fun _ => hMo 1) 320 sMthere]) H := hP
  have hD : va_D A (fl [wMo K hMo sMo, wRowZ K (fun _ => hMo 1) 320 sMthere]) := hD
  obtain ⟨hi2, hf⟩ := o_gi_e hf
  refine va_zald (D := D) (pc := 9) hx hb hK hP _ 3 (fl_at 1 0 rfl rfl) rfl hi2 d_Mod_force_9 ?_
  refine lv_if_eq (tgt := 19) (pc := 10) hx hb d_Mod_force_10 (by decide) (fun c8 => ?_) (fun c8 => ?_)
  · replace hf := o_t c8 hf
    refine lv_aload_n (pc := 19) hx hb d_Mod_force_19 rfl (lv_at hl 0 rfl) ?_
    refine va_get (D := D) (ci := 10) (v := .int (Mo_used sMo)) (C := R_Mod) (T := T_Mod) (N := 61) (pc := 20) hx hb hts (fun w h => List.mem_cons_of_mem _ (in_Mod w h)) hown hK hP _ (fl_at 0 0 rfl rfl) rfl 5 (by decide) (hts _ (List.mem_cons_of_mem _ tw_1098)) (fun _ h9 => h9) rfl d_Mod_force_20 ?_
    refine lv_istore_n (lv' := [(2, .int (Mo_used sMo)), (0, .ref (hMo 0)), (1, .int a0)]) (pc := 23) hx hb d_Mod_force_23 rfl hl (by decide) rfl (fun ls hl => ?_)
    have L24 : ∀ (x1_L24 : Int32) (n : Nat) (x2_L24 : Int32) (H : Heap) (locs : List Loc) (ls : Array Slot), va_P D vwCl (fl [wMo K hMo sMo, wRowZ K (fun _ => hMo 1) 320 sMthere]) H → va_D A (fl [wMo K hMo sMo, wRowZ K (fun _ => hMo 1) 320 sMthere]) → va_S A s.heap H locs → lv_has ls 3 [(0, .ref (hMo 0)), (1, .int x1_L24), (2, .int x2_L24)] → Mod_force_L24 fu sMo sMthere x1_L24 (fun y2 => Mod_force_j47 fu sMo sMthere x1_L24 y2) n x2_L24 = some r → W p l e rm_Mod_force s m ([.ref (hMo 0), .int a0] : List Value).toArray below meth c H locs 0 0 (Qi below ([.ref (hMo 0), .int a0] : List Value).toArray s D K A (fl [wMo K hMo sMo, wRowZ K (fun _ => hMo 1) 320 sMthere]) r) (F0 m 24 ls []) := by
      intro x1_L24 n
      induction n with
      | zero =>
        intro x2_L24 H locs ls hP hD hS hl hf
        exact absurd hf (fun h => nomatch h)
      | succ n_24 ih_24 =>
        intro x2_L24 H locs ls hP hD hS hl hf
        refine lv_iload_n (pc := 24) hx hb d_Mod_force_24 rfl (lv_at hl 2 rfl) ?_
        refine lv_if_lt (tgt := 47) (pc := 25) hx hb d_Mod_force_25 (by decide) (fun c6 => ?_) (fun c6 => ?_)
        · replace hf := o_t c6 hf
          exact J47 x1_L24 x2_L24 H locs ls hP hD hS (lv_sub hl [1, 2] rfl) hf
        · replace hf := o_f c6 hf
          refine lv_aload_n (pc := 28) hx hb d_Mod_force_28 rfl (lv_at hl 0 rfl) ?_
          refine va_get (D := D) (ci := 10) (v := .ref (hMo 1)) (C := R_Mod) (T := T_Mod) (N := 61) (pc := 29) hx hb hts (fun w h => List.mem_cons_of_mem _ (in_Mod w h)) hown hK hP _ (fl_at 0 0 rfl rfl) rfl 1 (by decide) (hts _ (List.mem_cons_of_mem _ tw_1094)) (fun _ h9 => h9) rfl d_Mod_force_29 ?_
          refine lv_iload_n (pc := 32) hx hb d_Mod_force_32 rfl (lv_at hl 2 rfl) ?_
          refine lv_iload_n (pc := 33) hx hb d_Mod_force_33 rfl (lv_at hl 1 rfl) ?_
          obtain ⟨q3, hq3, hf⟩ := o_bd_e hf
          refine fi_i (pc := 34) (va_runS (As := [.int x2_L24, .int x1_L24]) (rest := [.ref (hMo 1)]) ⟨hx, hb, hml, hown, hts⟩ ((c_Mod_entry l D K x2_L24 x1_L24 q3 hq3) _) (cwS 2 hts (gS tw_1287 tw_1288 tw_12 tw_1289) rfl rfl rfl (by decide +kernel) ⟨by decide, by decide⟩) ⟨mPre_blind, (mPre_fl hK hF hA hP hD hS [] rfl rfl)⟩ rfl rfl hl.1 rfl (lv_room (Nat.le_of_ble_eq_true rfl)) d_Mod_force_34 ⟨Nat.zero_le _, Nat.zero_le _⟩) hA hP hD hS [] rfl rfl (fun H locs hP hD hS => ?_)
          have hP : va_P D vwCl (fl [wMo K hMo sMo, wRowZ K (fun _ => hMo 1) 320 sMthere]) H := hP
          have hD : va_D A (fl [wMo K hMo sMo, wRowZ K (fun _ => hMo 1) 320 sMthere]) := hD
          obtain ⟨hi4, hf⟩ := o_gi_e hf
          refine va_zald (D := D) (pc := 37) hx hb hK hP _ 3 (fl_at 1 0 rfl rfl) rfl hi4 d_Mod_force_37 ?_
          refine lv_if_ne (tgt := 47) (pc := 38) hx hb d_Mod_force_38 (by decide) (fun c5 => ?_) (fun c5 => ?_)
          · replace hf := o_f c5 hf
            exact J47 x1_L24 x2_L24 H locs ls hP hD hS (lv_sub hl [1, 2] rfl) hf
          · replace hf := o_t c5 hf
            refine lv_iinc (v := x2_L24 + (-1)) (lv' := [(2, .int (x2_L24 + (-1))), (0, .ref (hMo 0)), (1, .int x1_L24)]) (pc := 41) hx hb d_Mod_force_41 hl (k := 2) rfl rfl (by decide) rfl (fun ls hl => ?_)
            refine lv_goto (tgt := 24) (pc := 44) hx hb d_Mod_force_44 (by decide) ?_
            exact ih_24 (x2_L24 + (-1)) H locs ls hP hD hS (lv_sub hl [1, 2, 0] rfl) hf
    exact L24 a0 fu (Mo_used sMo) H locs ls hP hD hS (lv_sub hl [1, 2, 0] rfl) hf
  · replace hf := o_f c8 hf
    refine lv_iconst (v := (-1)) (pc := 13) hx hb d_Mod_force_13 (by decide) ?_
    refine lv_iload_n (pc := 14) hx hb d_Mod_force_14 rfl (lv_at hl 1 rfl) ?_
    obtain ⟨q7, hq7, hf⟩ := o_bd_e hf
    refine fi_i (pc := 15) (va_runS (As := [.int ((-1)), .int a0]) (rest := []) ⟨hx, hb, hml, hown, hts⟩ ((c_Mod_entry l D K ((-1)) a0 q7 hq7) _) (cwS 2 hts (gS tw_1287 tw_1288 tw_12 tw_1289) rfl rfl rfl (by decide +kernel) ⟨by decide, by decide⟩) ⟨mPre_blind, (mPre_fl hK hF hA hP hD hS [] rfl rfl)⟩ rfl rfl hl.1 rfl (lv_room (Nat.le_of_ble_eq_true rfl)) d_Mod_force_15 ⟨Nat.zero_le _, Nat.zero_le _⟩) hA hP hD hS [] rfl rfl (fun H locs hP hD hS => ?_)
    have hP : va_P D vwCl (fl [wMo K hMo sMo, wRowZ K (fun _ => hMo 1) 320 sMthere]) H := hP
    have hD : va_D A (fl [wMo K hMo sMo, wRowZ K (fun _ => hMo 1) 320 sMthere]) := hD
    cases hf
    exact ret_i hx hb hr hlocks hK hP hS d_Mod_force_18
def Mod_isRepeat (a0 : Int32) : Option (Int32) := if a0 < 216 then some 0 else if 343 < a0 then some 0 else some 1
abbrev rm_Mod_isRepeat : Room := { frames := 0, cells := 0, slots := 0, locals := 0 }
set_option maxHeartbeats 4000000 in
set_option maxRecDepth 100000 in
theorem c_Mod_isRepeat (l : Launch) (D : va_G) (K : Nat → ClassId) (a0 : Int32) (r : Int32) (hf : Mod_isRepeat a0 = some r) : mi l D K y_Mod_isRepeat ws_Mod_isRepeat rm_Mod_isRepeat [.int a0] (fl []) (fl []) r := by
  refine mi_of (cc := b_Mod_isRepeat) (maxL := 1) (own := "ObsMessagesModel") (by decide) rfl rfl (Nat.le_of_ble_eq_true rfl) ?_
  intro p e s m below meth c A ls hC hP hD hS hl
  obtain ⟨hx, hb, hml, hown, hts, hr, hlocks, hK, hF, hA⟩ := hC
  have hP : va_P D vwCl (fl []) s.heap := hP
  have hl : lv_has ls 1 [(0, .int a0)] := hl
  suffices hW : ∀ (H : Heap) (locs : List Loc), va_P D vwCl (fl []) H → va_S A s.heap H locs → W p l e rm_Mod_isRepeat s m ([.int a0] : List Value).toArray below meth c H locs 0 0 (Qi below ([.int a0] : List Value).toArray s D K A (fl []) r) (F0 m 0 ls []) from hW s.heap [] hP hS
  clear hP hS
  intro H locs hP hS
  refine lv_iload_n (pc := 0) hx hb d_Mod_isRepeat_0 rfl (lv_at hl 0 rfl) ?_
  refine lv_sipush (v := 216) (pc := 1) hx hb d_Mod_isRepeat_1 (by decide) ?_
  refine lv_icmp_lt (tgt := 18) (pc := 4) hx hb d_Mod_isRepeat_4 (by decide) (fun c2 => ?_) (fun c2 => ?_)
  · replace hf := o_t c2 hf
    refine lv_iconst (v := 0) (pc := 18) hx hb d_Mod_isRepeat_18 (by decide) ?_
    cases hf
    exact ret_z hx hb hr hlocks hK hP hS rfl d_Mod_isRepeat_19
  · replace hf := o_f c2 hf
    refine lv_iload_n (pc := 7) hx hb d_Mod_isRepeat_7 rfl (lv_at hl 0 rfl) ?_
    refine lv_sipush (v := 343) (pc := 8) hx hb d_Mod_isRepeat_8 (by decide) ?_
    refine lv_icmp_gt (tgt := 18) (pc := 11) hx hb d_Mod_isRepeat_11 (by decide) (fun c1 => ?_) (fun c1 => ?_)
    · replace hf := o_t c1 hf
      refine lv_iconst (v := 0) (pc := 18) hx hb d_Mod_isRepeat_18 (by decide) ?_
      cases hf
      exact ret_z hx hb hr hlocks hK hP hS rfl d_Mod_isRepeat_19
    · replace hf := o_f c1 hf
      refine lv_iconst (v := 1) (pc := 14) hx hb d_Mod_isRepeat_14 (by decide) ?_
      refine lv_goto (tgt := 19) (pc := 15) hx hb d_Mod_isRepeat_15 (by decide) ?_
      cases hf
      exact ret_z hx hb hr hlocks hK hP hS rfl d_Mod_isRepeat_19
def Mod_isDescriptor_j109 (x0_j109 : Int32) : Option (Int32) := if x0_j109 = 520 then some 1 else some 0
def Mod_isDescriptor_j84 (x0_j84 : Int32) (x1_j84 : Int32) : Option (Int32) := o_bd (Mod_isRepeat x0_j84) fun q13 => (if q13 = 0 then if x1_j84 = 0 then if x0_j84 < 501 then Mod_isDescriptor_j109 x0_j84 else if x0_j84 ≤ 516 then some 1 else Mod_isDescriptor_j109 x0_j84 else some 1 else some 1)
def Mod_isDescriptor_j72 (x0_j72 : Int32) (x1_j72 : Int32) : Option (Int32) := if x0_j72 < 100 then Mod_isDescriptor_j84 x0_j72 x1_j72 else if x0_j72 ≤ 115 then some 1 else Mod_isDescriptor_j84 x0_j72 x1_j72
def Mod_isDescriptor_j61 (x0_j61 : Int32) (t0_j61 : Int32) : Option (Int32) := if x0_j61 < 0 then Mod_isDescriptor_j72 x0_j61 t0_j61 else if x0_j61 ≤ 63 then some 1 else Mod_isDescriptor_j72 x0_j61 t0_j61
def Mod_isDescriptor_j56 (x0_j56 : Int32) : Option (Int32) := Mod_isDescriptor_j61 x0_j56 1
def Mod_isDescriptor_j60 (x0_j60 : Int32) : Option (Int32) := Mod_isDescriptor_j61 x0_j60 0
def Mod_isDescriptor_j42 (x0_j42 : Int32) : Option (Int32) := if x0_j42 < 480 then Mod_isDescriptor_j60 x0_j42 else if 487 < x0_j42 then Mod_isDescriptor_j60 x0_j42 else Mod_isDescriptor_j56 x0_j42
def Mod_isDescriptor_j28 (x0_j28 : Int32) : Option (Int32) := if x0_j28 < 460 then Mod_isDescriptor_j42 x0_j28 else if x0_j28 ≤ 468 then Mod_isDescriptor_j56 x0_j28 else Mod_isDescriptor_j42 x0_j28
def Mod_isDescriptor_j14 (x0_j14 : Int32) : Option (Int32) := if x0_j14 < 440 then Mod_isDescriptor_j28 x0_j14 else if x0_j14 ≤ 455 then Mod_isDescriptor_j56 x0_j14 else Mod_isDescriptor_j28 x0_j14
def Mod_isDescriptor (a0 : Int32) : Option (Int32) := if a0 < 400 then Mod_isDescriptor_j14 a0 else if a0 ≤ 431 then Mod_isDescriptor_j56 a0 else Mod_isDescriptor_j14 a0
abbrev rm_Mod_isDescriptor : Room := { frames := 1, cells := 0, slots := 0, locals := 20 }
set_option maxHeartbeats 4000000 in
set_option maxRecDepth 100000 in
theorem c_Mod_isDescriptor (l : Launch) (D : va_G) (K : Nat → ClassId) (a0 : Int32) (r : Int32) (hf : Mod_isDescriptor a0 = some r) : mi l D K y_Mod_isDescriptor ws_Mod_isDescriptor rm_Mod_isDescriptor [.int a0] (fl []) (fl []) r := by
  refine mi_of (cc := b_Mod_isDescriptor) (maxL := 2) (own := "ObsMessagesModel") (by decide) rfl rfl (Nat.le_of_ble_eq_true rfl) ?_
  intro p e s m below meth c A ls hC hP hD hS hl
  obtain ⟨hx, hb, hml, hown, hts, hr, hlocks, hK, hF, hA⟩ := hC
  have hP : va_P D vwCl (fl []) s.heap := hP
  have hl : lv_has ls 2 [(0, .int a0)] := hl
  suffices hW : ∀ (H : Heap) (locs : List Loc), va_P D vwCl (fl []) H → va_S A s.heap H locs → W p l e rm_Mod_isDescriptor s m ([.int a0] : List Value).toArray below meth c H locs 0 0 (Qi below ([.int a0] : List Value).toArray s D K A (fl []) r) (F0 m 0 ls []) from hW s.heap [] hP hS
  clear hP hS
  intro H locs hP hS
  have J109 : ∀ (x0_j109 : Int32) (H : Heap) (locs : List Loc) (ls : Array Slot), va_P D vwCl (fl []) H → va_D A (fl []) → va_S A s.heap H locs → lv_has ls 2 [(0, .int x0_j109)] → Mod_isDescriptor_j109 x0_j109 = some r → W p l e rm_Mod_isDescriptor s m ([.int a0] : List Value).toArray below meth c H locs 0 0 (Qi below ([.int a0] : List Value).toArray s D K A (fl []) r) (F0 m 109 ls []) := by
    intro x0_j109 H locs ls hP hD hS hl hf
    refine lv_iload_n (pc := 109) hx hb d_Mod_isDescriptor_109 rfl (lv_at hl 0 rfl) ?_
    refine lv_sipush (v := 520) (pc := 110) hx hb d_Mod_isDescriptor_110 (by decide) ?_
    refine lv_icmp_ne (tgt := 120) (pc := 113) hx hb d_Mod_isDescriptor_113 (by decide) (fun c18 => ?_) (fun c18 => ?_)
    · replace hf := o_f c18 hf
      refine lv_iconst (v := 0) (pc := 120) hx hb d_Mod_isDescriptor_120 (by decide) ?_
      cases hf
      exact ret_z hx hb hr hlocks hK hP hS rfl d_Mod_isDescriptor_121
    · replace hf := o_t c18 hf
      refine lv_iconst (v := 1) (pc := 116) hx hb d_Mod_isDescriptor_116 (by decide) ?_
      refine lv_goto (tgt := 121) (pc := 117) hx hb d_Mod_isDescriptor_117 (by decide) ?_
      cases hf
      exact ret_z hx hb hr hlocks hK hP hS rfl d_Mod_isDescriptor_121
  have J84 : ∀ (x0_j84 : Int32) (x1_j84 : Int32) (H : Heap) (locs : List Loc) (ls : Array Slot), va_P D vwCl (fl []) H → va_D A (fl []) → va_S A s.heap H locs → lv_has ls 2 [(0, .int x0_j84), (1, .int x1_j84)] → Mod_isDescriptor_j84 x0_j84 x1_j84 = some r → W p l e rm_Mod_isDescriptor s m ([.int a0] : List Value).toArray below meth c H locs 0 0 (Qi below ([.int a0] : List Value).toArray s D K A (fl []) r) (F0 m 84 ls []) := by
    intro x0_j84 x1_j84 H locs ls hP hD hS hl hf
    refine lv_iload_n (pc := 84) hx hb d_Mod_isDescriptor_84 rfl (lv_at hl 0 rfl) ?_
    obtain ⟨q13, hq13, hf⟩ := o_bd_e hf
    refine fi_i (pc := 85) (va_runS (As := [.int x0_j84]) (rest := []) ⟨hx, hb, hml, hown, hts⟩ ((c_Mod_isRepeat l D K x0_j84 q13 hq13) _) (cwS 1 hts (gS tw_1305 tw_1306 tw_12 tw_1307) rfl rfl rfl (by decide +kernel) ⟨by decide, by decide⟩) ⟨mPre_blind, (mPre_fl hK hF hA hP hD hS [] rfl rfl)⟩ rfl rfl hl.1 rfl (lv_room (Nat.le_of_ble_eq_true rfl)) d_Mod_isDescriptor_85 ⟨Nat.zero_le _, Nat.zero_le _⟩) hA hP hD hS [] rfl rfl (fun H locs hP hD hS => ?_)
    have hP : va_P D vwCl (fl []) H := hP
    have hD : va_D A (fl []) := hD
    refine lv_if_ne (tgt := 116) (pc := 88) hx hb d_Mod_isDescriptor_88 (by decide) (fun c17 => ?_) (fun c17 => ?_)
    · replace hf := o_f c17 hf
      refine lv_iconst (v := 1) (pc := 116) hx hb d_Mod_isDescriptor_116 (by decide) ?_
      refine lv_goto (tgt := 121) (pc := 117) hx hb d_Mod_isDescriptor_117 (by decide) ?_
      cases hf
      exact ret_z hx hb hr hlocks hK hP hS rfl d_Mod_isDescriptor_121
    · replace hf := o_t c17 hf
      refine lv_iload_n (pc := 91) hx hb d_Mod_isDescriptor_91 rfl (lv_at hl 1 rfl) ?_
      refine lv_if_ne (tgt := 116) (pc := 92) hx hb d_Mod_isDescriptor_92 (by decide) (fun c16 => ?_) (fun c16 => ?_)
      · replace hf := o_f c16 hf
        refine lv_iconst (v := 1) (pc := 116) hx hb d_Mod_isDescriptor_116 (by decide) ?_
        refine lv_goto (tgt := 121) (pc := 117) hx hb d_Mod_isDescriptor_117 (by decide) ?_
        cases hf
        exact ret_z hx hb hr hlocks hK hP hS rfl d_Mod_isDescriptor_121
      · replace hf := o_t c16 hf
        refine lv_iload_n (pc := 95) hx hb d_Mod_isDescriptor_95 rfl (lv_at hl 0 rfl) ?_
        refine lv_sipush (v := 501) (pc := 96) hx hb d_Mod_isDescriptor_96 (by decide) ?_
        refine lv_icmp_lt (tgt := 109) (pc := 99) hx hb d_Mod_isDescriptor_99 (by decide) (fun c15 => ?_) (fun c15 => ?_)
        · replace hf := o_t c15 hf
          exact J109 x0_j84 H locs ls hP hD hS (lv_sub hl [0] rfl) hf
        · replace hf := o_f c15 hf
          refine lv_iload_n (pc := 102) hx hb d_Mod_isDescriptor_102 rfl (lv_at hl 0 rfl) ?_
          refine lv_sipush (v := 516) (pc := 103) hx hb d_Mod_isDescriptor_103 (by decide) ?_
          refine lv_icmp_le (tgt := 116) (pc := 106) hx hb d_Mod_isDescriptor_106 (by decide) (fun c14 => ?_) (fun c14 => ?_)
          · replace hf := o_t c14 hf
            refine lv_iconst (v := 1) (pc := 116) hx hb d_Mod_isDescriptor_116 (by decide) ?_
            refine lv_goto (tgt := 121) (pc := 117) hx hb d_Mod_isDescriptor_117 (by decide) ?_
            cases hf
            exact ret_z hx hb hr hlocks hK hP hS rfl d_Mod_isDescriptor_121
          · replace hf := o_f c14 hf
            exact J109 x0_j84 H locs ls hP hD hS (lv_sub hl [0] rfl) hf
  have J72 : ∀ (x0_j72 : Int32) (x1_j72 : Int32) (H : Heap) (locs : List Loc) (ls : Array Slot), va_P D vwCl (fl []) H → va_D A (fl []) → va_S A s.heap H locs → lv_has ls 2 [(0, .int x0_j72), (1, .int x1_j72)] → Mod_isDescriptor_j72 x0_j72 x1_j72 = some r → W p l e rm_Mod_isDescriptor s m ([.int a0] : List Value).toArray below meth c H locs 0 0 (Qi below ([.int a0] : List Value).toArray s D K A (fl []) r) (F0 m 72 ls []) := by
    intro x0_j72 x1_j72 H locs ls hP hD hS hl hf
    refine lv_iload_n (pc := 72) hx hb d_Mod_isDescriptor_72 rfl (lv_at hl 0 rfl) ?_
    refine lv_bipush (v := 100) (pc := 73) hx hb d_Mod_isDescriptor_73 (by decide) ?_
    refine lv_icmp_lt (tgt := 84) (pc := 75) hx hb d_Mod_isDescriptor_75 (by decide) (fun c12 => ?_) (fun c12 => ?_)
    · replace hf := o_t c12 hf
      exact J84 x0_j72 x1_j72 H locs ls hP hD hS (lv_sub hl [0, 1] rfl) hf
    · replace hf := o_f c12 hf
      refine lv_iload_n (pc := 78) hx hb d_Mod_isDescriptor_78 rfl (lv_at hl 0 rfl) ?_
      refine lv_bipush (v := 115) (pc := 79) hx hb d_Mod_isDescriptor_79 (by decide) ?_
      refine lv_icmp_le (tgt := 116) (pc := 81) hx hb d_Mod_isDescriptor_81 (by decide) (fun c11 => ?_) (fun c11 => ?_)
      · replace hf := o_t c11 hf
        refine lv_iconst (v := 1) (pc := 116) hx hb d_Mod_isDescriptor_116 (by decide) ?_
        refine lv_goto (tgt := 121) (pc := 117) hx hb d_Mod_isDescriptor_117 (by decide) ?_
        cases hf
        exact ret_z hx hb hr hlocks hK hP hS rfl d_Mod_isDescriptor_121
      · replace hf := o_f c11 hf
        exact J84 x0_j72 x1_j72 H locs ls hP hD hS (lv_sub hl [0, 1] rfl) hf
  have J61 : ∀ (x0_j61 : Int32) (t0_j61 : Int32) (H : Heap) (locs : List Loc) (ls : Array Slot), va_P D vwCl (fl []) H → va_D A (fl []) → va_S A s.heap H locs → lv_has ls 2 [(0, .int x0_j61)] → Mod_isDescriptor_j61 x0_j61 t0_j61 = some r → W p l e rm_Mod_isDescriptor s m ([.int a0] : List Value).toArray below meth c H locs 0 0 (Qi below ([.int a0] : List Value).toArray s D K A (fl []) r) (F0 m 61 ls [.int t0_j61]) := by
    intro x0_j61 t0_j61 H locs ls hP hD hS hl hf
    refine lv_istore_n (lv' := [(1, .int t0_j61), (0, .int x0_j61)]) (pc := 61) hx hb d_Mod_isDescriptor_61 rfl hl (by decide) rfl (fun ls hl => ?_)
    refine lv_iload_n (pc := 62) hx hb d_Mod_isDescriptor_62 rfl (lv_at hl 1 rfl) ?_
    refine lv_if_lt (tgt := 72) (pc := 63) hx hb d_Mod_isDescriptor_63 (by decide) (fun c10 => ?_) (fun c10 => ?_)
    · replace hf := o_t c10 hf
      exact J72 x0_j61 t0_j61 H locs ls hP hD hS (lv_sub hl [1, 0] rfl) hf
    · replace hf := o_f c10 hf
      refine lv_iload_n (pc := 66) hx hb d_Mod_isDescriptor_66 rfl (lv_at hl 1 rfl) ?_
      refine lv_bipush (v := 63) (pc := 67) hx hb d_Mod_isDescriptor_67 (by decide) ?_
      refine lv_icmp_le (tgt := 116) (pc := 69) hx hb d_Mod_isDescriptor_69 (by decide) (fun c9 => ?_) (fun c9 => ?_)
      · replace hf := o_t c9 hf
        refine lv_iconst (v := 1) (pc := 116) hx hb d_Mod_isDescriptor_116 (by decide) ?_
        refine lv_goto (tgt := 121) (pc := 117) hx hb d_Mod_isDescriptor_117 (by decide) ?_
        cases hf
        exact ret_z hx hb hr hlocks hK hP hS rfl d_Mod_isDescriptor_121
      · replace hf := o_f c9 hf
        exact J72 x0_j61 t0_j61 H locs ls hP hD hS (lv_sub hl [1, 0] rfl) hf
  have J60 : ∀ (x0_j60 : Int32) (H : Heap) (locs : List Loc) (ls : Array Slot), va_P D vwCl (fl []) H → va_D A (fl []) → va_S A s.heap H locs → lv_has ls 2 [(0, .int x0_j60)] → Mod_isDescriptor_j60 x0_j60 = some r → W p l e rm_Mod_isDescriptor s m ([.int a0] : List Value).toArray below meth c H locs 0 0 (Qi below ([.int a0] : List Value).toArray s D K A (fl []) r) (F0 m 60 ls []) := by
    intro x0_j60 H locs ls hP hD hS hl hf
    refine lv_iconst (v := 0) (pc := 60) hx hb d_Mod_isDescriptor_60 (by decide) ?_
    exact J61 x0_j60 0 H locs ls hP hD hS (lv_sub hl [0] rfl) hf
  have J56 : ∀ (x0_j56 : Int32) (H : Heap) (locs : List Loc) (ls : Array Slot), va_P D vwCl (fl []) H → va_D A (fl []) → va_S A s.heap H locs → lv_has ls 2 [(0, .int x0_j56)] → Mod_isDescriptor_j56 x0_j56 = some r → W p l e rm_Mod_isDescriptor s m ([.int a0] : List Value).toArray below meth c H locs 0 0 (Qi below ([.int a0] : List Value).toArray s D K A (fl []) r) (F0 m 56 ls []) := by
    intro x0_j56 H locs ls hP hD hS hl hf
    refine lv_iconst (v := 1) (pc := 56) hx hb d_Mod_isDescriptor_56 (by decide) ?_
    refine lv_goto (tgt := 61) (pc := 57) hx hb d_Mod_isDescriptor_57 (by decide) ?_
    exact J61 x0_j56 1 H locs ls hP hD hS (lv_sub hl [0] rfl) hf
  have J42 : ∀ (x0_j42 : Int32) (H : Heap) (locs : List Loc) (ls : Array Slot), va_P D vwCl (fl []) H → va_D A (fl []) → va_S A s.heap H locs → lv_has ls 2 [(0, .int x0_j42)] → Mod_isDescriptor_j42 x0_j42 = some r → W p l e rm_Mod_isDescriptor s m ([.int a0] : List Value).toArray below meth c H locs 0 0 (Qi below ([.int a0] : List Value).toArray s D K A (fl []) r) (F0 m 42 ls []) := by
    intro x0_j42 H locs ls hP hD hS hl hf
    refine lv_iload_n (pc := 42) hx hb d_Mod_isDescriptor_42 rfl (lv_at hl 0 rfl) ?_
    refine lv_sipush (v := 480) (pc := 43) hx hb d_Mod_isDescriptor_43 (by decide) ?_
    refine lv_icmp_lt (tgt := 60) (pc := 46) hx hb d_Mod_isDescriptor_46 (by decide) (fun c8 => ?_) (fun c8 => ?_)
    · replace hf := o_t c8 hf
      exact J60 x0_j42 H locs ls hP hD hS (lv_sub hl [0] rfl) hf
    · replace hf := o_f c8 hf
      refine lv_iload_n (pc := 49) hx hb d_Mod_isDescriptor_49 rfl (lv_at hl 0 rfl) ?_
      refine lv_sipush (v := 487) (pc := 50) hx hb d_Mod_isDescriptor_50 (by decide) ?_
      refine lv_icmp_gt (tgt := 60) (pc := 53) hx hb d_Mod_isDescriptor_53 (by decide) (fun c7 => ?_) (fun c7 => ?_)
      · replace hf := o_t c7 hf
        exact J60 x0_j42 H locs ls hP hD hS (lv_sub hl [0] rfl) hf
      · replace hf := o_f c7 hf
        exact J56 x0_j42 H locs ls hP hD hS (lv_sub hl [0] rfl) hf
  have J28 : ∀ (x0_j28 : Int32) (H : Heap) (locs : List Loc) (ls : Array Slot), va_P D vwCl (fl []) H → va_D A (fl []) → va_S A s.heap H locs → lv_has ls 2 [(0, .int x0_j28)] → Mod_isDescriptor_j28 x0_j28 = some r → W p l e rm_Mod_isDescriptor s m ([.int a0] : List Value).toArray below meth c H locs 0 0 (Qi below ([.int a0] : List Value).toArray s D K A (fl []) r) (F0 m 28 ls []) := by
    intro x0_j28 H locs ls hP hD hS hl hf
    refine lv_iload_n (pc := 28) hx hb d_Mod_isDescriptor_28 rfl (lv_at hl 0 rfl) ?_
    refine lv_sipush (v := 460) (pc := 29) hx hb d_Mod_isDescriptor_29 (by decide) ?_
    refine lv_icmp_lt (tgt := 42) (pc := 32) hx hb d_Mod_isDescriptor_32 (by decide) (fun c6 => ?_) (fun c6 => ?_)
    · replace hf := o_t c6 hf
      exact J42 x0_j28 H locs ls hP hD hS (lv_sub hl [0] rfl) hf
    · replace hf := o_f c6 hf
      refine lv_iload_n (pc := 35) hx hb d_Mod_isDescriptor_35 rfl (lv_at hl 0 rfl) ?_
      refine lv_sipush (v := 468) (pc := 36) hx hb d_Mod_isDescriptor_36 (by decide) ?_
      refine lv_icmp_le (tgt := 56) (pc := 39) hx hb d_Mod_isDescriptor_39 (by decide) (fun c5 => ?_) (fun c5 => ?_)
      · replace hf := o_t c5 hf
        exact J56 x0_j28 H locs ls hP hD hS (lv_sub hl [0] rfl) hf
      · replace hf := o_f c5 hf
        exact J42 x0_j28 H locs ls hP hD hS (lv_sub hl [0] rfl) hf
  have J14 : ∀ (x0_j14 : Int32) (H : Heap) (locs : List Loc) (ls : Array Slot), va_P D vwCl (fl []) H → va_D A (fl []) → va_S A s.heap H locs → lv_has ls 2 [(0, .int x0_j14)] → Mod_isDescriptor_j14 x0_j14 = some r → W p l e rm_Mod_isDescriptor s m ([.int a0] : List Value).toArray below meth c H locs 0 0 (Qi below ([.int a0] : List Value).toArray s D K A (fl []) r) (F0 m 14 ls []) := by
    intro x0_j14 H locs ls hP hD hS hl hf
    refine lv_iload_n (pc := 14) hx hb d_Mod_isDescriptor_14 rfl (lv_at hl 0 rfl) ?_
    refine lv_sipush (v := 440) (pc := 15) hx hb d_Mod_isDescriptor_15 (by decide) ?_
    refine lv_icmp_lt (tgt := 28) (pc := 18) hx hb d_Mod_isDescriptor_18 (by decide) (fun c4 => ?_) (fun c4 => ?_)
    · replace hf := o_t c4 hf
      exact J28 x0_j14 H locs ls hP hD hS (lv_sub hl [0] rfl) hf
    · replace hf := o_f c4 hf
      refine lv_iload_n (pc := 21) hx hb d_Mod_isDescriptor_21 rfl (lv_at hl 0 rfl) ?_
      refine lv_sipush (v := 455) (pc := 22) hx hb d_Mod_isDescriptor_22 (by decide) ?_
      refine lv_icmp_le (tgt := 56) (pc := 25) hx hb d_Mod_isDescriptor_25 (by decide) (fun c3 => ?_) (fun c3 => ?_)
      · replace hf := o_t c3 hf
        exact J56 x0_j14 H locs ls hP hD hS (lv_sub hl [0] rfl) hf
      · replace hf := o_f c3 hf
        exact J28 x0_j14 H locs ls hP hD hS (lv_sub hl [0] rfl) hf
  refine lv_iload_n (pc := 0) hx hb d_Mod_isDescriptor_0 rfl (lv_at hl 0 rfl) ?_
  refine lv_sipush (v := 400) (pc := 1) hx hb d_Mod_isDescriptor_1 (by decide) ?_
  refine lv_icmp_lt (tgt := 14) (pc := 4) hx hb d_Mod_isDescriptor_4 (by decide) (fun c2 => ?_) (fun c2 => ?_)
  · replace hf := o_t c2 hf
    exact J14 a0 H locs ls hP hD hS (lv_sub hl [0] rfl) hf
  · replace hf := o_f c2 hf
    refine lv_iload_n (pc := 7) hx hb d_Mod_isDescriptor_7 rfl (lv_at hl 0 rfl) ?_
    refine lv_sipush (v := 431) (pc := 8) hx hb d_Mod_isDescriptor_8 (by decide) ?_
    refine lv_icmp_le (tgt := 56) (pc := 11) hx hb d_Mod_isDescriptor_11 (by decide) (fun c1 => ?_) (fun c1 => ?_)
    · replace hf := o_t c1 hf
      exact J56 a0 H locs ls hP hD hS (lv_sub hl [0] rfl) hf
    · replace hf := o_f c1 hf
      exact J14 a0 H locs ls hP hD hS (lv_sub hl [0] rfl) hf
def Mod_operator (a0 : Int32) : Option (Int32) := if a0 < 400 then some ((-1)) else if a0 ≤ 487 then if 440 ≤ a0 then if 460 ≤ a0 then if 480 ≤ a0 then some 3 else some 2 else some 1 else some 0 else some ((-1))
abbrev rm_Mod_operator : Room := { frames := 0, cells := 0, slots := 0, locals := 0 }
set_option maxHeartbeats 4000000 in
set_option maxRecDepth 100000 in
theorem c_Mod_operator (l : Launch) (D : va_G) (K : Nat → ClassId) (a0 : Int32) (r : Int32) (hf : Mod_operator a0 = some r) : mi l D K y_Mod_operator ws_Mod_operator rm_Mod_operator [.int a0] (fl []) (fl []) r := by
  refine mi_of (cc := b_Mod_operator) (maxL := 1) (own := "ObsMessagesModel") (by decide) rfl rfl (Nat.le_of_ble_eq_true rfl) ?_
  intro p e s m below meth c A ls hC hP hD hS hl
  obtain ⟨hx, hb, hml, hown, hts, hr, hlocks, hK, hF, hA⟩ := hC
  have hP : va_P D vwCl (fl []) s.heap := hP
  have hl : lv_has ls 1 [(0, .int a0)] := hl
  suffices hW : ∀ (H : Heap) (locs : List Loc), va_P D vwCl (fl []) H → va_S A s.heap H locs → W p l e rm_Mod_operator s m ([.int a0] : List Value).toArray below meth c H locs 0 0 (Qi below ([.int a0] : List Value).toArray s D K A (fl []) r) (F0 m 0 ls []) from hW s.heap [] hP hS
  clear hP hS
  intro H locs hP hS
  refine lv_iload_n (pc := 0) hx hb d_Mod_operator_0 rfl (lv_at hl 0 rfl) ?_
  refine lv_sipush (v := 400) (pc := 1) hx hb d_Mod_operator_1 (by decide) ?_
  refine lv_icmp_lt (tgt := 14) (pc := 4) hx hb d_Mod_operator_4 (by decide) (fun c5 => ?_) (fun c5 => ?_)
  · replace hf := o_t c5 hf
    refine lv_iconst (v := (-1)) (pc := 14) hx hb d_Mod_operator_14 (by decide) ?_
    refine lv_goto (tgt := 52) (pc := 15) hx hb d_Mod_operator_15 (by decide) ?_
    cases hf
    exact ret_i hx hb hr hlocks hK hP hS d_Mod_operator_52
  · replace hf := o_f c5 hf
    refine lv_iload_n (pc := 7) hx hb d_Mod_operator_7 rfl (lv_at hl 0 rfl) ?_
    refine lv_sipush (v := 487) (pc := 8) hx hb d_Mod_operator_8 (by decide) ?_
    refine lv_icmp_le (tgt := 18) (pc := 11) hx hb d_Mod_operator_11 (by decide) (fun c4 => ?_) (fun c4 => ?_)
    · replace hf := o_t c4 hf
      refine lv_iload_n (pc := 18) hx hb d_Mod_operator_18 rfl (lv_at hl 0 rfl) ?_
      refine lv_sipush (v := 440) (pc := 19) hx hb d_Mod_operator_19 (by decide) ?_
      refine lv_icmp_ge (tgt := 29) (pc := 22) hx hb d_Mod_operator_22 (by decide) (fun c3 => ?_) (fun c3 => ?_)
      · replace hf := o_t c3 hf
        refine lv_iload_n (pc := 29) hx hb d_Mod_operator_29 rfl (lv_at hl 0 rfl) ?_
        refine lv_sipush (v := 460) (pc := 30) hx hb d_Mod_operator_30 (by decide) ?_
        refine lv_icmp_ge (tgt := 40) (pc := 33) hx hb d_Mod_operator_33 (by decide) (fun c2 => ?_) (fun c2 => ?_)
        · replace hf := o_t c2 hf
          refine lv_iload_n (pc := 40) hx hb d_Mod_operator_40 rfl (lv_at hl 0 rfl) ?_
          refine lv_sipush (v := 480) (pc := 41) hx hb d_Mod_operator_41 (by decide) ?_
          refine lv_icmp_ge (tgt := 51) (pc := 44) hx hb d_Mod_operator_44 (by decide) (fun c1 => ?_) (fun c1 => ?_)
          · replace hf := o_t c1 hf
            refine lv_iconst (v := 3) (pc := 51) hx hb d_Mod_operator_51 (by decide) ?_
            cases hf
            exact ret_i hx hb hr hlocks hK hP hS d_Mod_operator_52
          · replace hf := o_f c1 hf
            refine lv_iconst (v := 2) (pc := 47) hx hb d_Mod_operator_47 (by decide) ?_
            refine lv_goto (tgt := 52) (pc := 48) hx hb d_Mod_operator_48 (by decide) ?_
            cases hf
            exact ret_i hx hb hr hlocks hK hP hS d_Mod_operator_52
        · replace hf := o_f c2 hf
          refine lv_iconst (v := 1) (pc := 36) hx hb d_Mod_operator_36 (by decide) ?_
          refine lv_goto (tgt := 52) (pc := 37) hx hb d_Mod_operator_37 (by decide) ?_
          cases hf
          exact ret_i hx hb hr hlocks hK hP hS d_Mod_operator_52
      · replace hf := o_f c3 hf
        refine lv_iconst (v := 0) (pc := 25) hx hb d_Mod_operator_25 (by decide) ?_
        refine lv_goto (tgt := 52) (pc := 26) hx hb d_Mod_operator_26 (by decide) ?_
        cases hf
        exact ret_i hx hb hr hlocks hK hP hS d_Mod_operator_52
    · replace hf := o_f c4 hf
      refine lv_iconst (v := (-1)) (pc := 14) hx hb d_Mod_operator_14 (by decide) ?_
      refine lv_goto (tgt := 52) (pc := 15) hx hb d_Mod_operator_15 (by decide) ?_
      cases hf
      exact ret_i hx hb hr hlocks hK hP hS d_Mod_operator_52
