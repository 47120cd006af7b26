def Tab_isScale (a0 : Int32) : Option (Int32) := if a0 < ((-8)) then some 0 else if 8 < a0 then some 0 else some 1
abbrev rm_Tab_isScale : Room := { frames := 0, cells := 0, slots := 0, locals := 0 }
set_option maxHeartbeats 4000000 in
set_option maxRecDepth 100000 in
theorem c_Tab_isScale (l : Launch) (D : va_G) (K : Nat → ClassId) (a0 : Int32) (r : Int32) (hf : Tab_isScale a0 = some r) : mi l D K y_Tab_isScale ws_Tab_isScale rm_Tab_isScale [.int a0] (fl []) (fl []) r := by
  refine mi_of (cc := b_Tab_isScale) (maxL := 1) (own := "ObsMessages$Tables") (by decide) rfl rfl (Nat.le_of_ble_eq_true rfl) ?_
  intro p e s m below meth c A ls hC hP hD hS hl
  obtain ⟨hx, hb, hml, hown, hts, hr, hlocks, hK, hF, hA⟩ := hC
  have hP : va_P D vwCl (fl []) s.heap := hP
  have hl : lv_has ls 1 [(0, .int a0)] := hl
  suffices hW : ∀ (H : Heap) (locs : List Loc), va_P D vwCl (fl []) H → va_S A s.heap H locs → W p l e rm_Tab_isScale s m ([.int a0] : List Value).toArray below meth c H locs 0 0 (Qi below ([.int a0] : List Value).toArray s D K A (fl []) r) (F0 m 0 ls []) from hW s.heap [] hP hS
  clear hP hS
  intro H locs hP hS
  refine lv_iload_n (pc := 0) hx hb d_Tab_isScale_0 rfl (lv_at hl 0 rfl) ?_
  refine lv_bipush (v := (-8)) (pc := 1) hx hb d_Tab_isScale_1 (by decide) ?_
  refine lv_icmp_lt (tgt := 16) (pc := 3) hx hb d_Tab_isScale_3 (by decide) (fun c2 => ?_) (fun c2 => ?_)
  · replace hf := o_t c2 hf
    refine lv_iconst (v := 0) (pc := 16) hx hb d_Tab_isScale_16 (by decide) ?_
    cases hf
    exact ret_z hx hb hr hlocks hK hP hS rfl d_Tab_isScale_17
  · replace hf := o_f c2 hf
    refine lv_iload_n (pc := 6) hx hb d_Tab_isScale_6 rfl (lv_at hl 0 rfl) ?_
    refine lv_bipush (v := 8) (pc := 7) hx hb d_Tab_isScale_7 (by decide) ?_
    refine lv_icmp_gt (tgt := 16) (pc := 9) hx hb d_Tab_isScale_9 (by decide) (fun c1 => ?_) (fun c1 => ?_)
    · replace hf := o_t c1 hf
      refine lv_iconst (v := 0) (pc := 16) hx hb d_Tab_isScale_16 (by decide) ?_
      cases hf
      exact ret_z hx hb hr hlocks hK hP hS rfl d_Tab_isScale_17
    · replace hf := o_f c1 hf
      refine lv_iconst (v := 1) (pc := 12) hx hb d_Tab_isScale_12 (by decide) ?_
      refine lv_goto (tgt := 17) (pc := 13) hx hb d_Tab_isScale_13 (by decide) ?_
      cases hf
      exact ret_z hx hb hr hlocks hK hP hS rfl d_Tab_isScale_17
def Tab_isWidth (a0 : Int32) : Option (Int32) := if a0 < 1 then some 0 else if 32 < a0 then some 0 else some 1
abbrev rm_Tab_isWidth : Room := { frames := 0, cells := 0, slots := 0, locals := 0 }
set_option maxHeartbeats 4000000 in
set_option maxRecDepth 100000 in
theorem c_Tab_isWidth (l : Launch) (D : va_G) (K : Nat → ClassId) (a0 : Int32) (r : Int32) (hf : Tab_isWidth a0 = some r) : mi l D K y_Tab_isWidth ws_Tab_isWidth rm_Tab_isWidth [.int a0] (fl []) (fl []) r := by
  refine mi_of (cc := b_Tab_isWidth) (maxL := 1) (own := "ObsMessages$Tables") (by decide) rfl rfl (Nat.le_of_ble_eq_true rfl) ?_
  intro p e s m below meth c A ls hC hP hD hS hl
  obtain ⟨hx, hb, hml, hown, hts, hr, hlocks, hK, hF, hA⟩ := hC
  have hP : va_P D vwCl (fl []) s.heap := hP
  have hl : lv_has ls 1 [(0, .int a0)] := hl
  suffices hW : ∀ (H : Heap) (locs : List Loc), va_P D vwCl (fl []) H → va_S A s.heap H locs → W p l e rm_Tab_isWidth s m ([.int a0] : List Value).toArray below meth c H locs 0 0 (Qi below ([.int a0] : List Value).toArray s D K A (fl []) r) (F0 m 0 ls []) from hW s.heap [] hP hS
  clear hP hS
  intro H locs hP hS
  refine lv_iload_n (pc := 0) hx hb d_Tab_isWidth_0 rfl (lv_at hl 0 rfl) ?_
  refine lv_iconst (v := 1) (pc := 1) hx hb d_Tab_isWidth_1 (by decide) ?_
  refine lv_icmp_lt (tgt := 15) (pc := 2) hx hb d_Tab_isWidth_2 (by decide) (fun c2 => ?_) (fun c2 => ?_)
  · replace hf := o_t c2 hf
    refine lv_iconst (v := 0) (pc := 15) hx hb d_Tab_isWidth_15 (by decide) ?_
    cases hf
    exact ret_z hx hb hr hlocks hK hP hS rfl d_Tab_isWidth_16
  · replace hf := o_f c2 hf
    refine lv_iload_n (pc := 5) hx hb d_Tab_isWidth_5 rfl (lv_at hl 0 rfl) ?_
    refine lv_bipush (v := 32) (pc := 6) hx hb d_Tab_isWidth_6 (by decide) ?_
    refine lv_icmp_gt (tgt := 15) (pc := 8) hx hb d_Tab_isWidth_8 (by decide) (fun c1 => ?_) (fun c1 => ?_)
    · replace hf := o_t c1 hf
      refine lv_iconst (v := 0) (pc := 15) hx hb d_Tab_isWidth_15 (by decide) ?_
      cases hf
      exact ret_z hx hb hr hlocks hK hP hS rfl d_Tab_isWidth_16
    · replace hf := o_f c1 hf
      refine lv_iconst (v := 1) (pc := 11) hx hb d_Tab_isWidth_11 (by decide) ?_
      refine lv_goto (tgt := 16) (pc := 12) hx hb d_Tab_isWidth_12 (by decide) ?_
      cases hf
      exact ret_z hx hb hr hlocks hK hP hS rfl d_Tab_isWidth_16
def Tab_isEntry (a0 : Int32) (a1 : Int32) (a2 : Int32) : Option (Int32) := o_bd (Tab_isScale a0) fun q1 => (if q1 = 0 then some 0 else o_bd (Tab_isWidth a2) fun q2 => (if q2 = 0 then some 0 else if a1 < ((-1000000000)) then some 0 else if 1000000000 < a1 then some 0 else some 1))
abbrev rm_Tab_isEntry : Room := { frames := 1, cells := 0, slots := 0, locals := 20 }
set_option maxHeartbeats 4000000 in
set_option maxRecDepth 100000 in
theorem c_Tab_isEntry (l : Launch) (D : va_G) (K : Nat → ClassId) (a0 : Int32) (a1 : Int32) (a2 : Int32) (r : Int32) (hf : Tab_isEntry a0 a1 a2 = some r) : mi l D K y_Tab_isEntry ws_Tab_isEntry rm_Tab_isEntry [.int a0, .int a1, .int a2] (fl []) (fl []) r := by
  refine mi_of (cc := b_Tab_isEntry) (maxL := 3) (own := "ObsMessages$Tables") (by decide) rfl rfl (Nat.le_of_ble_eq_true rfl) ?_
  intro p e s m below meth c A ls hC hP hD hS hl
  obtain ⟨hx, hb, hml, hown, hts, hr, hlocks, hK, hF, hA⟩ := hC
  have hP : va_P D vwCl (fl []) s.heap := hP
  have hl : lv_has ls 3 [(0, .int a0), (1, .int a1), (2, .int a2)] := hl
  suffices hW : ∀ (H : Heap) (locs : List Loc), va_P D vwCl (fl []) H → va_S A s.heap H locs → W p l e rm_Tab_isEntry s m ([.int a0, .int a1, .int a2] : List Value).toArray below meth c H locs 0 0 (Qi below ([.int a0, .int a1, .int a2] : List Value).toArray s D K A (fl []) r) (F0 m 0 ls []) from hW s.heap [] hP hS
  clear hP hS
  intro H locs hP hS
  refine lv_iload_n (pc := 0) hx hb d_Tab_isEntry_0 rfl (lv_at hl 0 rfl) ?_
  obtain ⟨q1, hq1, hf⟩ := o_bd_e hf
  refine fi_i (pc := 1) (va_runS (As := [.int a0]) (rest := []) ⟨hx, hb, hml, hown, hts⟩ ((c_Tab_isScale l D K a0 q1 hq1) _) (cwS 1 hts (gS tw_682 tw_501 tw_2 tw_502) rfl rfl rfl (by decide +kernel) ⟨by decide, by decide⟩) ⟨mPre_blind, (mPre_fl hK hF hA hP hD hS [] rfl rfl)⟩ rfl rfl hl.1 rfl (lv_room (Nat.le_of_ble_eq_true rfl)) d_Tab_isEntry_1 ⟨Nat.zero_le _, Nat.zero_le _⟩) hA hP hD hS [] rfl rfl (fun H locs hP hD hS => ?_)
  have hP : va_P D vwCl (fl []) H := hP
  have hD : va_D A (fl []) := hD
  refine lv_if_eq (tgt := 30) (pc := 4) hx hb d_Tab_isEntry_4 (by decide) (fun c6 => ?_) (fun c6 => ?_)
  · replace hf := o_t c6 hf
    refine lv_iconst (v := 0) (pc := 30) hx hb d_Tab_isEntry_30 (by decide) ?_
    cases hf
    exact ret_z hx hb hr hlocks hK hP hS rfl d_Tab_isEntry_31
  · replace hf := o_f c6 hf
    refine lv_iload_n (pc := 7) hx hb d_Tab_isEntry_7 rfl (lv_at hl 2 rfl) ?_
    obtain ⟨q2, hq2, hf⟩ := o_bd_e hf
    refine fi_i (pc := 8) (va_runS (As := [.int a2]) (rest := []) ⟨hx, hb, hml, hown, hts⟩ ((c_Tab_isWidth l D K a2 q2 hq2) _) (cwS 1 hts (gS tw_683 tw_498 tw_2 tw_499) rfl rfl rfl (by decide +kernel) ⟨by decide, by decide⟩) ⟨mPre_blind, (mPre_fl hK hF hA hP hD hS [] rfl rfl)⟩ rfl rfl hl.1 rfl (lv_room (Nat.le_of_ble_eq_true rfl)) d_Tab_isEntry_8 ⟨Nat.zero_le _, Nat.zero_le _⟩) hA hP hD hS [] rfl rfl (fun H locs hP hD hS => ?_)
    have hP : va_P D vwCl (fl []) H := hP
    have hD : va_D A (fl []) := hD
    refine lv_if_eq (tgt := 30) (pc := 11) hx hb d_Tab_isEntry_11 (by decide) (fun c5 => ?_) (fun c5 => ?_)
    · replace hf := o_t c5 hf
      refine lv_iconst (v := 0) (pc := 30) hx hb d_Tab_isEntry_30 (by decide) ?_
      cases hf
      exact ret_z hx hb hr hlocks hK hP hS rfl d_Tab_isEntry_31
    · replace hf := o_f c5 hf
      refine lv_iload_n (pc := 14) hx hb d_Tab_isEntry_14 rfl (lv_at hl 1 rfl) ?_
      refine lv_ldc (pc := 15) hx hb hown (hts _ (List.mem_cons_of_mem _ tw_684)) d_Tab_isEntry_15 ?_
      refine lv_icmp_lt (tgt := 30) (pc := 17) hx hb d_Tab_isEntry_17 (by decide) (fun c4 => ?_) (fun c4 => ?_)
      · replace hf := o_t c4 hf
        refine lv_iconst (v := 0) (pc := 30) hx hb d_Tab_isEntry_30 (by decide) ?_
        cases hf
        exact ret_z hx hb hr hlocks hK hP hS rfl d_Tab_isEntry_31
      · replace hf := o_f c4 hf
        refine lv_iload_n (pc := 20) hx hb d_Tab_isEntry_20 rfl (lv_at hl 1 rfl) ?_
        refine lv_ldc (pc := 21) hx hb hown (hts _ (List.mem_cons_of_mem _ tw_685)) d_Tab_isEntry_21 ?_
        refine lv_icmp_gt (tgt := 30) (pc := 23) hx hb d_Tab_isEntry_23 (by decide) (fun c3 => ?_) (fun c3 => ?_)
        · replace hf := o_t c3 hf
          refine lv_iconst (v := 0) (pc := 30) hx hb d_Tab_isEntry_30 (by decide) ?_
          cases hf
          exact ret_z hx hb hr hlocks hK hP hS rfl d_Tab_isEntry_31
        · replace hf := o_f c3 hf
          refine lv_iconst (v := 1) (pc := 26) hx hb d_Tab_isEntry_26 (by decide) ?_
          refine lv_goto (tgt := 31) (pc := 27) hx hb d_Tab_isEntry_27 (by decide) ?_
          cases hf
          exact ret_z hx hb hr hlocks hK hP hS rfl d_Tab_isEntry_31
def Tab_startOf (a0 : Int32) : Option (Int32) := some (a0 * 8)
abbrev rm_Tab_startOf : Room := { frames := 0, cells := 0, slots := 0, locals := 0 }
set_option maxHeartbeats 4000000 in
set_option maxRecDepth 100000 in
theorem c_Tab_startOf (l : Launch) (D : va_G) (K : Nat → ClassId) (a0 : Int32) (r : Int32) (hf : Tab_startOf a0 = some r) : mi l D K y_Tab_startOf ws_Tab_startOf rm_Tab_startOf [.int a0] (fl []) (fl []) r := by
  refine mi_of (cc := b_Tab_startOf) (maxL := 1) (own := "ObsMessages$Tables") (by decide) rfl rfl (Nat.le_of_ble_eq_true rfl) ?_
  intro p e s m below meth c A ls hC hP hD hS hl
  obtain ⟨hx, hb, hml, hown, hts, hr, hlocks, hK, hF, hA⟩ := hC
  have hP : va_P D vwCl (fl []) s.heap := hP
  have hl : lv_has ls 1 [(0, .int a0)] := hl
  suffices hW : ∀ (H : Heap) (locs : List Loc), va_P D vwCl (fl []) H → va_S A s.heap H locs → W p l e rm_Tab_startOf s m ([.int a0] : List Value).toArray below meth c H locs 0 0 (Qi below ([.int a0] : List Value).toArray s D K A (fl []) r) (F0 m 0 ls []) from hW s.heap [] hP hS
  clear hP hS
  intro H locs hP hS
  refine lv_iload_n (pc := 0) hx hb d_Tab_startOf_0 rfl (lv_at hl 0 rfl) ?_
  refine lv_bipush (v := 8) (pc := 1) hx hb d_Tab_startOf_1 (by decide) ?_
  refine lv_imul (pc := 3) hx hb d_Tab_startOf_3 ?_
  cases hf
  exact ret_i hx hb hr hlocks hK hP hS d_Tab_startOf_4
def Tab_entryAt (a0 : Int32) (a1 : Int32) : Option (Int32) := some ((a0 * 64) + a1)
abbrev rm_Tab_entryAt : Room := { frames := 0, cells := 0, slots := 0, locals := 0 }
set_option maxHeartbeats 4000000 in
set_option maxRecDepth 100000 in
theorem c_Tab_entryAt (l : Launch) (D : va_G) (K : Nat → ClassId) (a0 : Int32) (a1 : Int32) (r : Int32) (hf : Tab_entryAt a0 a1 = some r) : mi l D K y_Tab_entryAt ws_Tab_entryAt rm_Tab_entryAt [.int a0, .int a1] (fl []) (fl []) r := by
  refine mi_of (cc := b_Tab_entryAt) (maxL := 2) (own := "ObsMessages$Tables") (by decide) rfl rfl (Nat.le_of_ble_eq_true rfl) ?_
  intro p e s m below meth c A ls hC hP hD hS hl
  obtain ⟨hx, hb, hml, hown, hts, hr, hlocks, hK, hF, hA⟩ := hC
  have hP : va_P D vwCl (fl []) s.heap := hP
  have hl : lv_has ls 2 [(0, .int a0), (1, .int a1)] := hl
  suffices hW : ∀ (H : Heap) (locs : List Loc), va_P D vwCl (fl []) H → va_S A s.heap H locs → W p l e rm_Tab_entryAt s m ([.int a0, .int a1] : List Value).toArray below meth c H locs 0 0 (Qi below ([.int a0, .int a1] : List Value).toArray s D K A (fl []) r) (F0 m 0 ls []) from hW s.heap [] hP hS
  clear hP hS
  intro H locs hP hS
  refine lv_iload_n (pc := 0) hx hb d_Tab_entryAt_0 rfl (lv_at hl 0 rfl) ?_
  refine lv_bipush (v := 64) (pc := 1) hx hb d_Tab_entryAt_1 (by decide) ?_
  refine lv_imul (pc := 3) hx hb d_Tab_entryAt_3 ?_
  refine lv_iload_n (pc := 4) hx hb d_Tab_entryAt_4 rfl (lv_at hl 1 rfl) ?_
  refine lv_iadd (pc := 5) hx hb d_Tab_entryAt_5 ?_
  cases hf
  exact ret_i hx hb hr hlocks hK hP hS d_Tab_entryAt_6
def Tab_listOf (a0 : Int32) : Option (Int32) := if a0 = ((-1)) then some 16 else if a0 < 0 then some ((-1)) else if 16 ≤ a0 then some ((-1)) else some a0
abbrev rm_Tab_listOf : Room := { frames := 0, cells := 0, slots := 0, locals := 0 }
set_option maxHeartbeats 4000000 in
set_option maxRecDepth 100000 in
theorem c_Tab_listOf (l : Launch) (D : va_G) (K : Nat → ClassId) (a0 : Int32) (r : Int32) (hf : Tab_listOf a0 = some r) : mi l D K y_Tab_listOf ws_Tab_listOf rm_Tab_listOf [.int a0] (fl []) (fl []) r := by
  refine mi_of (cc := b_Tab_listOf) (maxL := 1) (own := "ObsMessages$Tables") (by decide) rfl rfl (Nat.le_of_ble_eq_true rfl) ?_
  intro p e s m below meth c A ls hC hP hD hS hl
  obtain ⟨hx, hb, hml, hown, hts, hr, hlocks, hK, hF, hA⟩ := hC
  have hP : va_P D vwCl (fl []) s.heap := hP
  have hl : lv_has ls 1 [(0, .int a0)] := hl
  suffices hW : ∀ (H : Heap) (locs : List Loc), va_P D vwCl (fl []) H → va_S A s.heap H locs → W p l e rm_Tab_listOf s m ([.int a0] : List Value).toArray below meth c H locs 0 0 (Qi below ([.int a0] : List Value).toArray s D K A (fl []) r) (F0 m 0 ls []) from hW s.heap [] hP hS
  clear hP hS
  intro H locs hP hS
  refine lv_iload_n (pc := 0) hx hb d_Tab_listOf_0 rfl (lv_at hl 0 rfl) ?_
  refine lv_iconst (v := (-1)) (pc := 1) hx hb d_Tab_listOf_1 (by decide) ?_
  refine lv_icmp_ne (tgt := 8) (pc := 2) hx hb d_Tab_listOf_2 (by decide) (fun c3 => ?_) (fun c3 => ?_)
  · replace hf := o_f c3 hf
    refine lv_iload_n (pc := 8) hx hb d_Tab_listOf_8 rfl (lv_at hl 0 rfl) ?_
    refine lv_if_lt (tgt := 22) (pc := 9) hx hb d_Tab_listOf_9 (by decide) (fun c2 => ?_) (fun c2 => ?_)
    · replace hf := o_t c2 hf
      refine lv_iconst (v := (-1)) (pc := 22) hx hb d_Tab_listOf_22 (by decide) ?_
      cases hf
      exact ret_i hx hb hr hlocks hK hP hS d_Tab_listOf_23
    · replace hf := o_f c2 hf
      refine lv_iload_n (pc := 12) hx hb d_Tab_listOf_12 rfl (lv_at hl 0 rfl) ?_
      refine lv_bipush (v := 16) (pc := 13) hx hb d_Tab_listOf_13 (by decide) ?_
      refine lv_icmp_ge (tgt := 22) (pc := 15) hx hb d_Tab_listOf_15 (by decide) (fun c1 => ?_) (fun c1 => ?_)
      · replace hf := o_t c1 hf
        refine lv_iconst (v := (-1)) (pc := 22) hx hb d_Tab_listOf_22 (by decide) ?_
        cases hf
        exact ret_i hx hb hr hlocks hK hP hS d_Tab_listOf_23
      · replace hf := o_f c1 hf
        refine lv_iload_n (pc := 18) hx hb d_Tab_listOf_18 rfl (lv_at hl 0 rfl) ?_
        refine lv_goto (tgt := 23) (pc := 19) hx hb d_Tab_listOf_19 (by decide) ?_
        cases hf
        exact ret_i hx hb hr hlocks hK hP hS d_Tab_listOf_23
  · replace hf := o_t c3 hf
    refine lv_bipush (v := 16) (pc := 5) hx hb d_Tab_listOf_5 (by decide) ?_
    cases hf
    exact ret_i hx hb hr hlocks hK hP hS d_Tab_listOf_7
def Tab_endOf (sTab : S_Tab) (a0 : Int32) : Option (Int32) := o_bd (Tab_startOf a0) fun q1 => (o_gd (o_in a0 17) (some (q1 + (Tab_sizes sTab (a0 : Int32).toNatClampNeg))))
abbrev rm_Tab_endOf : Room := { frames := 1, cells := 0, slots := 0, locals := 20 }
set_option maxHeartbeats 4000000 in
set_option maxRecDepth 100000 in
theorem c_Tab_endOf (l : Launch) (D : va_G) (K : Nat → ClassId) (hTab : Nat → Nat) (sTab : S_Tab) (a0 : Int32) (r : Int32) (hf : Tab_endOf sTab a0 = some r) : mi l D K y_Tab_endOf ws_Tab_endOf rm_Tab_endOf [.ref (hTab 0), .int a0] (fl [wTab K hTab sTab]) (fl [wTab K hTab sTab]) r := by
  refine mi_of (cc := b_Tab_endOf) (maxL := 2) (own := "ObsMessages$Tables") (by decide) rfl rfl (Nat.le_of_ble_eq_true rfl) ?_
  intro p e s m below meth c A ls hC hP hD hS hl
  obtain ⟨hx, hb, hml, hown, hts, hr, hlocks, hK, hF, hA⟩ := hC
  have hP : va_P D vwCl (fl [wTab K hTab sTab]) s.heap := hP
  have hl : lv_has ls 2 [(0, .ref (hTab 0)), (1, .int a0)] := hl
  suffices hW : ∀ (H : Heap) (locs : List Loc), va_P D vwCl (fl [wTab K hTab sTab]) H → va_S A s.heap H locs → W p l e rm_Tab_endOf s m ([.ref (hTab 0), .int a0] : List Value).toArray below meth c H locs 0 0 (Qi below ([.ref (hTab 0), .int a0] : List Value).toArray s D K A (fl [wTab K hTab sTab]) r) (F0 m 0 ls []) from hW s.heap [] hP hS
  clear hP hS
  intro H locs hP hS
  refine lv_iload_n (pc := 0) hx hb d_Tab_endOf_0 rfl (lv_at hl 1 rfl) ?_
  obtain ⟨q1, hq1, hf⟩ := o_bd_e hf
  refine fi_i (pc := 1) (va_runS (As := [.int a0]) (rest := []) ⟨hx, hb, hml, hown, hts⟩ ((c_Tab_startOf l D K a0 q1 hq1) _) (cwS 1 hts (gS tw_453 tw_454 tw_2 tw_455) rfl rfl rfl (by decide +kernel) ⟨by decide, by decide⟩) ⟨mPre_blind, (mPre_fl hK hF hA hP hD hS [] rfl rfl)⟩ rfl rfl hl.1 rfl (lv_room (Nat.le_of_ble_eq_true rfl)) d_Tab_endOf_1 ⟨Nat.zero_le _, Nat.zero_le _⟩) hA hP hD hS [] rfl rfl (fun H locs hP hD hS => ?_)
  have hP : va_P D vwCl (fl [wTab K hTab sTab]) H := hP
  have hD : va_D A (fl [wTab K hTab sTab]) := hD
  refine lv_aload_n (pc := 4) hx hb d_Tab_endOf_4 rfl (lv_at hl 0 rfl) ?_
  refine va_get (D := D) (ci := 1) (v := .ref (hTab 5)) (C := R_Tab) (T := T_Tab) (N := 6) (pc := 5) hx hb hts (fun w h => List.mem_cons_of_mem _ (in_Tab w h)) hown hK hP _ (fl_at 0 0 rfl rfl) rfl 4 (by decide) (hts _ (List.mem_cons_of_mem _ tw_49)) (fun _ h9 => h9) rfl d_Tab_endOf_5 ?_
  refine lv_iload_n (pc := 8) hx hb d_Tab_endOf_8 rfl (lv_at hl 1 rfl) ?_
  obtain ⟨hi2, hf⟩ := o_gi_e hf
  refine va_iald (D := D) (pc := 9) hx hb hK hP _ 0 (fl_at 0 5 rfl rfl) rfl hi2 d_Tab_endOf_9 ?_
  refine lv_iadd (pc := 10) hx hb d_Tab_endOf_10 ?_
  cases hf
  exact ret_i hx hb hr hlocks hK hP hS d_Tab_endOf_11
def Tab_isFull_j19 (sTab : S_Tab) (t0_j19 : Int32) (t1_j19 : Int32) : Option (Int32) := if t0_j19 < t1_j19 then some 0 else some 1
def Tab_isFull (sTab : S_Tab) (a0 : Int32) : Option (Int32) := o_gd (o_in a0 17) (if a0 = 16 then Tab_isFull_j19 sTab (Tab_sizes sTab (a0 : Int32).toNatClampNeg) 24 else Tab_isFull_j19 sTab (Tab_sizes sTab (a0 : Int32).toNatClampNeg) 8)
abbrev rm_Tab_isFull : Room := { frames := 0, cells := 0, slots := 0, locals := 0 }
set_option maxHeartbeats 4000000 in
set_option maxRecDepth 100000 in
theorem c_Tab_isFull (l : Launch) (D : va_G) (K : Nat → ClassId) (hTab : Nat → Nat) (sTab : S_Tab) (a0 : Int32) (r : Int32) (hf : Tab_isFull sTab a0 = some r) : mi l D K y_Tab_isFull ws_Tab_isFull rm_Tab_isFull [.ref (hTab 0), .int a0] (fl [wTab K hTab sTab]) (fl [wTab K hTab sTab]) r := by
  refine mi_of (cc := b_Tab_isFull) (maxL := 2) (own := "ObsMessages$Tables") (by decide) rfl rfl (Nat.le_of_ble_eq_true rfl) ?_
  intro p e s m below meth c A ls hC hP hD hS hl
  obtain ⟨hx, hb, hml, hown, hts, hr, hlocks, hK, hF, hA⟩ := hC
  have hP : va_P D vwCl (fl [wTab K hTab sTab]) s.heap := hP
  have hl : lv_has ls 2 [(0, .ref (hTab 0)), (1, .int a0)] := hl
  suffices hW : ∀ (H : Heap) (locs : List Loc), va_P D vwCl (fl [wTab K hTab sTab]) H → va_S A s.heap H locs → W p l e rm_Tab_isFull s m ([.ref (hTab 0), .int a0] : List Value).toArray below meth c H locs 0 0 (Qi below ([.ref (hTab 0), .int a0] : List Value).toArray s D K A (fl [wTab K hTab sTab]) r) (F0 m 0 ls []) from hW s.heap [] hP hS
  clear hP hS
  intro H locs hP hS
  have J19 : ∀ (t0_j19 : Int32) (t1_j19 : Int32) (H : Heap) (locs : List Loc) (ls : Array Slot), va_P D vwCl (fl [wTab K hTab sTab]) H → va_D A (fl [wTab K hTab sTab]) → va_S A s.heap H locs → lv_has ls 2 [] → Tab_isFull_j19 sTab t0_j19 t1_j19 = some r → W p l e rm_Tab_isFull s m ([.ref (hTab 0), .int a0] : List Value).toArray below meth c H locs 0 0 (Qi below ([.ref (hTab 0), .int a0] : List Value).toArray s D K A (fl [wTab K hTab sTab]) r) (F0 m 19 ls [.int t1_j19, .int t0_j19]) := by
    intro t0_j19 t1_j19 H locs ls hP hD hS hl hf
    refine lv_icmp_lt (tgt := 26) (pc := 19) hx hb d_Tab_isFull_19 (by decide) (fun c3 => ?_) (fun c3 => ?_)
    · replace hf := o_t c3 hf
      refine lv_iconst (v := 0) (pc := 26) hx hb d_Tab_isFull_26 (by decide) ?_
      cases hf
      exact ret_z hx hb hr hlocks hK hP hS rfl d_Tab_isFull_27
    · replace hf := o_f c3 hf
      refine lv_iconst (v := 1) (pc := 22) hx hb d_Tab_isFull_22 (by decide) ?_
      refine lv_goto (tgt := 27) (pc := 23) hx hb d_Tab_isFull_23 (by decide) ?_
      cases hf
      exact ret_z hx hb hr hlocks hK hP hS rfl d_Tab_isFull_27
  refine lv_aload_n (pc := 0) hx hb d_Tab_isFull_0 rfl (lv_at hl 0 rfl) ?_
  refine va_get (D := D) (ci := 1) (v := .ref (hTab 5)) (C := R_Tab) (T := T_Tab) (N := 6) (pc := 1) hx hb hts (fun w h => List.mem_cons_of_mem _ (in_Tab w h)) hown hK hP _ (fl_at 0 0 rfl rfl) rfl 4 (by decide) (hts _ (List.mem_cons_of_mem _ tw_49)) (fun _ h9 => h9) rfl d_Tab_isFull_1 ?_
  refine lv_iload_n (pc := 4) hx hb d_Tab_isFull_4 rfl (lv_at hl 1 rfl) ?_
  obtain ⟨hi1, hf⟩ := o_gi_e hf
  refine va_iald (D := D) (pc := 5) hx hb hK hP _ 0 (fl_at 0 5 rfl rfl) rfl hi1 d_Tab_isFull_5 ?_
  refine lv_iload_n (pc := 6) hx hb d_Tab_isFull_6 rfl (lv_at hl 1 rfl) ?_
  refine lv_bipush (v := 16) (pc := 7) hx hb d_Tab_isFull_7 (by decide) ?_
  refine lv_icmp_ne (tgt := 17) (pc := 9) hx hb d_Tab_isFull_9 (by decide) (fun c2 => ?_) (fun c2 => ?_)
  · replace hf := o_f c2 hf
    refine lv_bipush (v := 8) (pc := 17) hx hb d_Tab_isFull_17 (by decide) ?_
    exact J19 (Tab_sizes sTab (a0 : Int32).toNatClampNeg) 8 H locs ls hP hD hS (lv_sub hl [] rfl) hf
  · replace hf := o_t c2 hf
    refine lv_bipush (v := 24) (pc := 12) hx hb d_Tab_isFull_12 (by decide) ?_
    refine lv_goto (tgt := 19) (pc := 14) hx hb d_Tab_isFull_14 (by decide) ?_
    exact J19 (Tab_sizes sTab (a0 : Int32).toNatClampNeg) 24 H locs ls hP hD hS (lv_sub hl [] rfl) hf
def Tab_extend (a0 : Int32) (a1 : Int32) (sTab : S_Tab) : Option (Int32 × S_Tab) := o_bd (Tab_endOf sTab a0) fun q1 => (o_gd (o_in q1 152) (o_lt (Tab_put_listed sTab (q1 : Int32).toNatClampNeg a1) fun sTab_3 => (o_gd (o_in a0 17) (o_gd (o_in a0 17) (o_lt (Tab_put_sizes sTab_3 (a0 : Int32).toNatClampNeg ((Tab_sizes sTab_3 (a0 : Int32).toNatClampNeg) + 1)) fun sTab_6 => (o_gd (o_in a0 17) (some ((Tab_sizes sTab_6 (a0 : Int32).toNatClampNeg, sTab_6)))))))))
abbrev rm_Tab_extend : Room := { frames := 2, cells := 0, slots := 0, locals := 41 }
set_option maxHeartbeats 4000000 in
set_option maxRecDepth 100000 in
theorem c_Tab_extend (l : Launch) (D : va_G) (K : Nat → ClassId) (hTab : Nat → Nat) (sTab : S_Tab) (a0 : Int32) (a1 : Int32) (r : Int32) (sTab' : S_Tab) (hf : Tab_extend a0 a1 sTab = some ((r, sTab'))) : mi l D K y_Tab_extend ws_Tab_extend rm_Tab_extend [.ref (hTab 0), .int a0, .int a1] (fl [wTab K hTab sTab]) (fl [wTab K hTab sTab']) r := by
  refine mi_of (cc := b_Tab_extend) (maxL := 3) (own := "ObsMessages$Tables") (by decide) rfl rfl (Nat.le_of_ble_eq_true rfl) ?_
  intro p e s m below meth c A ls hC hP hD hS hl
  obtain ⟨hx, hb, hml, hown, hts, hr, hlocks, hK, hF, hA⟩ := hC
  have hP : va_P D vwCl (fl [wTab K hTab sTab]) s.heap := hP
  have hl : lv_has ls 3 [(0, .ref (hTab 0)), (1, .int a0), (2, .int a1)] := hl
  suffices hW : ∀ (H : Heap) (locs : List Loc), va_P D vwCl (fl [wTab K hTab sTab]) H → va_S A s.heap H locs → W p l e rm_Tab_extend s m ([.ref (hTab 0), .int a0, .int a1] : List Value).toArray below meth c H locs 0 0 (Qi below ([.ref (hTab 0), .int a0, .int a1] : List Value).toArray s D K A (fl [wTab K hTab sTab']) r) (F0 m 0 ls []) from hW s.heap [] hP hS
  clear hP hS
  intro H locs hP hS
  refine lv_aload_n (pc := 0) hx hb d_Tab_extend_0 rfl (lv_at hl 0 rfl) ?_
  refine va_get (D := D) (ci := 1) (v := .ref (hTab 4)) (C := R_Tab) (T := T_Tab) (N := 6) (pc := 1) hx hb hts (fun w h => List.mem_cons_of_mem _ (in_Tab w h)) hown hK hP _ (fl_at 0 0 rfl rfl) rfl 3 (by decide) (hts _ (List.mem_cons_of_mem _ tw_47)) (fun _ h9 => h9) rfl d_Tab_extend_1 ?_
  refine lv_aload_n (pc := 4) hx hb d_Tab_extend_4 rfl (lv_at hl 0 rfl) ?_
  refine lv_iload_n (pc := 5) hx hb d_Tab_extend_5 rfl (lv_at hl 1 rfl) ?_
  obtain ⟨q1, hq1, hf⟩ := o_bd_e hf
  refine fi_i (pc := 6) (va_runV (As := [.int a0]) (rest := [.ref (hTab 4)]) ⟨hx, hb, hml, hown, hts⟩ ((c_Tab_endOf l D K hTab sTab a0 q1 hq1) _) (cwV 1 hts (gV tw_807 tw_450 tw_451 tw_2 tw_452) rfl rfl rfl (by decide +kernel) ⟨by decide, by decide⟩) ⟨mPre_blind, va_recv hK hP (ci := 1) rfl (fl_at 0 0 rfl rfl), (mPre_fl hK hF hA hP hD hS [0] rfl rfl)⟩ rfl rfl hl.1 rfl (lv_room (Nat.le_of_ble_eq_true rfl)) d_Tab_extend_6 ⟨Nat.zero_le _, Nat.zero_le _⟩) hA hP hD hS [0] rfl rfl (fun H locs hP hD hS => ?_)
  have hP : va_P D vwCl (fl [wTab K hTab sTab]) H := hP
  have hD : va_D A (fl [wTab K hTab sTab]) := hD
  refine lv_iload_n (pc := 9) hx hb d_Tab_extend_9 rfl (lv_at hl 2 rfl) ?_
  obtain ⟨hi2, hf⟩ := o_gi_e hf
  refine va_iast (D := D) (pc := 10) hx hb hK hP hD hS _ 0 (fl_at 0 4 rfl rfl) rfl hi2 d_Tab_extend_10 (fun H locs hP hD hS => ?_)
  obtain ⟨sTab_3, esTab_3, hf⟩ := o_lt_e hf
  have hP : va_P D vwCl (fl [wTab K hTab sTab_3]) H := by rw [esTab_3]; exact fl_P 0 4 rfl (Nat.le_of_ble_eq_true rfl) rfl rfl hP
  have hD : va_D A (fl [wTab K hTab sTab_3]) := by rw [esTab_3]; exact fl_D 0 4 rfl (Nat.le_of_ble_eq_true rfl) rfl rfl hD
  refine lv_aload_n (pc := 11) hx hb d_Tab_extend_11 rfl (lv_at hl 0 rfl) ?_
  refine va_get (D := D) (ci := 1) (v := .ref (hTab 5)) (C := R_Tab) (T := T_Tab) (N := 6) (pc := 12) hx hb hts (fun w h => List.mem_cons_of_mem _ (in_Tab w h)) hown hK hP _ (fl_at 0 0 rfl rfl) rfl 4 (by decide) (hts _ (List.mem_cons_of_mem _ tw_49)) (fun _ h9 => h9) rfl d_Tab_extend_12 ?_
  refine lv_iload_n (pc := 15) hx hb d_Tab_extend_15 rfl (lv_at hl 1 rfl) ?_
  refine lv_dup2_11 (pc := 16) hx hb d_Tab_extend_16 rfl rfl ?_
  obtain ⟨hi4, hf⟩ := o_gi_e hf
  refine va_iald (D := D) (pc := 17) hx hb hK hP _ 0 (fl_at 0 5 rfl rfl) rfl hi4 d_Tab_extend_17 ?_
  refine lv_iconst (v := 1) (pc := 18) hx hb d_Tab_extend_18 (by decide) ?_
  refine lv_iadd (pc := 19) hx hb d_Tab_extend_19 ?_
  obtain ⟨hi5, hf⟩ := o_gi_e hf
  refine va_iast (D := D) (pc := 20) hx hb hK hP hD hS _ 0 (fl_at 0 5 rfl rfl) rfl hi5 d_Tab_extend_20 (fun H locs hP hD hS => ?_)
  obtain ⟨sTab_6, esTab_6, hf⟩ := o_lt_e hf
  have hP : va_P D vwCl (fl [wTab K hTab sTab_6]) H := by rw [esTab_6]; exact fl_P 0 5 rfl (Nat.le_of_ble_eq_true rfl) rfl rfl hP
  have hD : va_D A (fl [wTab K hTab sTab_6]) := by rw [esTab_6]; exact fl_D 0 5 rfl (Nat.le_of_ble_eq_true rfl) rfl rfl hD
  refine lv_aload_n (pc := 21) hx hb d_Tab_extend_21 rfl (lv_at hl 0 rfl) ?_
  refine va_get (D := D) (ci := 1) (v := .ref (hTab 5)) (C := R_Tab) (T := T_Tab) (N := 6) (pc := 22) hx hb hts (fun w h => List.mem_cons_of_mem _ (in_Tab w h)) hown hK hP _ (fl_at 0 0 rfl rfl) rfl 4 (by decide) (hts _ (List.mem_cons_of_mem _ tw_49)) (fun _ h9 => h9) rfl d_Tab_extend_22 ?_
  refine lv_iload_n (pc := 25) hx hb d_Tab_extend_25 rfl (lv_at hl 1 rfl) ?_
  obtain ⟨hi7, hf⟩ := o_gi_e hf
  refine va_iald (D := D) (pc := 26) hx hb hK hP _ 0 (fl_at 0 5 rfl rfl) rfl hi7 d_Tab_extend_26 ?_
  cases hf
  exact ret_i hx hb hr hlocks hK hP hS d_Tab_extend_27
def Tab_inForce_L24 (fu : Nat) (sTab : S_Tab) (x1_L24 : Int32) : Nat → Int32 → Option (Int32)
  | 0, _ => none
  | n + 1, x2_L24 => if x2_L24 < 0 then some ((-1)) else o_bd (Tab_entryAt x2_L24 x1_L24) fun q3 => (o_gd (o_in q3 320) (if (Tab_widths sTab (q3 : Int32).toNatClampNeg) ≤ 0 then Tab_inForce_L24 fu sTab x1_L24 n (x2_L24 + (-1)) else o_bd (Tab_entryAt x2_L24 x1_L24) fun q5 => (some q5)))
def Tab_inForce (fu : Nat) (sTab : S_Tab) (a0 : Int32) : Option (Int32) := o_bd (Tab_entryAt 4 a0) fun q1 => (o_gd (o_in q1 320) (if (Tab_widths sTab (q1 : Int32).toNatClampNeg) ≤ 0 then Tab_inForce_L24 fu sTab a0 fu (Tab_versionInUse sTab) else o_bd (Tab_entryAt 4 a0) fun q8 => (some q8)))
abbrev rm_Tab_inForce : Room := { frames := 1, cells := 0, slots := 0, locals := 21 }
set_option maxHeartbeats 4000000 in
set_option maxRecDepth 100000 in
theorem c_Tab_inForce (l : Launch) (D : va_G) (K : Nat → ClassId) (fu : Nat) (hTab : Nat → Nat) (sTab : S_Tab) (a0 : Int32) (r : Int32) (hf : Tab_inForce fu sTab a0 = some r) : mi l D K y_Tab_inForce ws_Tab_inForce rm_Tab_inForce [.ref (hTab 0), .int a0] (fl [wTab K hTab sTab]) (fl [wTab K hTab sTab]) r := by
  refine mi_of (cc := b_Tab_inForce) (maxL := 3) (own := "ObsMessages$Tables") (by decide) rfl rfl (Nat.le_of_ble_eq_true rfl) ?_
  intro p e s m below meth c A ls hC hP hD hS hl
  obtain ⟨hx, hb, hml, hown, hts, hr, hlocks, hK, hF, hA⟩ := hC
  have hP : va_P D vwCl (fl [wTab K hTab sTab]) s.heap := hP
  have hl : lv_has ls 3 [(0, .ref (hTab 0)), (1, .int a0)] := hl
  suffices hW : ∀ (H : Heap) (locs : List Loc), va_P D vwCl (fl [wTab K hTab sTab]) H → va_S A s.heap H locs → W p l e rm_Tab_inForce s m ([.ref (hTab 0), .int a0] : List Value).toArray below meth c H locs 0 0 (Qi below ([.ref (hTab 0), .int a0] : List Value).toArray s D K A (fl [wTab K hTab sTab]) r) (F0 m 0 ls []) from hW s.heap [] hP hS
  clear hP hS
  intro H locs hP hS
  refine lv_aload_n (pc := 0) hx hb d_Tab_inForce_0 rfl (lv_at hl 0 rfl) ?_
  refine va_get (D := D) (ci := 1) (v := .ref (hTab 3)) (C := R_Tab) (T := T_Tab) (N := 6) (pc := 1) hx hb hts (fun w h => List.mem_cons_of_mem _ (in_Tab w h)) hown hK hP _ (fl_at 0 0 rfl rfl) rfl 2 (by decide) (hts _ (List.mem_cons_of_mem _ tw_43)) (fun _ h9 => h9) rfl d_Tab_inForce_1 ?_
  refine lv_iconst (v := 4) (pc := 4) hx hb d_Tab_inForce_4 (by decide) ?_
  refine lv_iload_n (pc := 5) hx hb d_Tab_inForce_5 rfl (lv_at hl 1 rfl) ?_
  obtain ⟨q1, hq1, hf⟩ := o_bd_e hf
  refine fi_i (pc := 6) (va_runS (As := [.int 4, .int a0]) (rest := [.ref (hTab 3)]) ⟨hx, hb, hml, hown, hts⟩ ((c_Tab_entryAt l D K 4 a0 q1 hq1) _) (cwS 2 hts (gS tw_424 tw_425 tw_2 tw_426) rfl rfl rfl (by decide +kernel) ⟨by decide, by decide⟩) ⟨mPre_blind, (mPre_fl hK hF hA hP hD hS [] rfl rfl)⟩ rfl rfl hl.1 rfl (lv_room (Nat.le_of_ble_eq_true rfl)) d_Tab_inForce_6 ⟨Nat.zero_le _, Nat.zero_le _⟩) hA hP hD hS [] rfl rfl (fun H locs hP hD hS => ?_)
  have hP : va_P D vwCl (fl [wTab K hTab sTab]) H := hP
  have hD : va_D A (fl [wTab K hTab sTab]) := hD
  obtain ⟨hi2, hf⟩ := o_gi_e hf
  refine va_iald (D := D) (pc := 9) hx hb hK hP _ 0 (fl_at 0 3 rfl rfl) rfl hi2 d_Tab_inForce_9 ?_
  refine lv_if_le (tgt := 19) (pc := 10) hx hb d_Tab_inForce_10 (by decide) (fun c9 => ?_) (fun c9 => ?_)
  · replace hf := o_t c9 hf
    refine lv_aload_n (pc := 19) hx hb d_Tab_inForce_19 rfl (lv_at hl 0 rfl) ?_
    refine va_get (D := D) (ci := 1) (v := .int (Tab_versionInUse sTab)) (C := R_Tab) (T := T_Tab) (N := 6) (pc := 20) hx hb hts (fun w h => List.mem_cons_of_mem _ (in_Tab w h)) hown hK hP _ (fl_at 0 0 rfl rfl) rfl 5 (by decide) (hts _ (List.mem_cons_of_mem _ tw_52)) (fun _ h9 => h9) rfl d_Tab_inForce_20 ?_
    refine lv_istore_n (lv' := [(2, .int (Tab_versionInUse sTab)), (0, .ref (hTab 0)), (1, .int a0)]) (pc := 23) hx hb d_Tab_inForce_23 rfl hl (by decide) rfl (fun ls hl => ?_)
    have L24 : ∀ (x1_L24 : Int32) (n : Nat) (x2_L24 : Int32) (H : Heap) (locs : List Loc) (ls : Array Slot), va_P D vwCl (fl [wTab K hTab sTab]) H → va_D A (fl [wTab K hTab sTab]) → va_S A s.heap H locs → lv_has ls 3 [(0, .ref (hTab 0)), (1, .int x1_L24), (2, .int x2_L24)] → Tab_inForce_L24 fu sTab x1_L24 n x2_L24 = some r → W p l e rm_Tab_inForce s m ([.ref (hTab 0), .int a0] : List Value).toArray below meth c H locs 0 0 (Qi below ([.ref (hTab 0), .int a0] : List Value).toArray s D K A (fl [wTab K hTab sTab]) r) (F0 m 24 ls []) := by
      intro x1_L24 n
      induction n with
      | zero =>
        intro x2_L24 H locs ls hP hD hS hl hf
        exact absurd hf (fun h => nomatch h)
      | succ n_24 ih_24 =>
        intro x2_L24 H locs ls hP hD hS hl hf
        refine lv_iload_n (pc := 24) hx hb d_Tab_inForce_24 rfl (lv_at hl 2 rfl) ?_
        refine lv_if_lt (tgt := 53) (pc := 25) hx hb d_Tab_inForce_25 (by decide) (fun c7 => ?_) (fun c7 => ?_)
        · replace hf := o_t c7 hf
          refine lv_iconst (v := (-1)) (pc := 53) hx hb d_Tab_inForce_53 (by decide) ?_
          cases hf
          exact ret_i hx hb hr hlocks hK hP hS d_Tab_inForce_54
        · replace hf := o_f c7 hf
          refine lv_aload_n (pc := 28) hx hb d_Tab_inForce_28 rfl (lv_at hl 0 rfl) ?_
          refine va_get (D := D) (ci := 1) (v := .ref (hTab 3)) (C := R_Tab) (T := T_Tab) (N := 6) (pc := 29) hx hb hts (fun w h => List.mem_cons_of_mem _ (in_Tab w h)) hown hK hP _ (fl_at 0 0 rfl rfl) rfl 2 (by decide) (hts _ (List.mem_cons_of_mem _ tw_43)) (fun _ h9 => h9) rfl d_Tab_inForce_29 ?_
          refine lv_iload_n (pc := 32) hx hb d_Tab_inForce_32 rfl (lv_at hl 2 rfl) ?_
          refine lv_iload_n (pc := 33) hx hb d_Tab_inForce_33 rfl (lv_at hl 1 rfl) ?_
          obtain ⟨q3, hq3, hf⟩ := o_bd_e hf
          refine fi_i (pc := 34) (va_runS (As := [.int x2_L24, .int x1_L24]) (rest := [.ref (hTab 3)]) ⟨hx, hb, hml, hown, hts⟩ ((c_Tab_entryAt l D K x2_L24 x1_L24 q3 hq3) _) (cwS 2 hts (gS tw_424 tw_425 tw_2 tw_426) rfl rfl rfl (by decide +kernel) ⟨by decide, by decide⟩) ⟨mPre_blind, (mPre_fl hK hF hA hP hD hS [] rfl rfl)⟩ rfl rfl hl.1 rfl (lv_room (Nat.le_of_ble_eq_true rfl)) d_Tab_inForce_34 ⟨Nat.zero_le _, Nat.zero_le _⟩) hA hP hD hS [] rfl rfl (fun H locs hP hD hS => ?_)
          have hP : va_P D vwCl (fl [wTab K hTab sTab]) H := hP
          have hD : va_D A (fl [wTab K hTab sTab]) := hD
          obtain ⟨hi4, hf⟩ := o_gi_e hf
          refine va_iald (D := D) (pc := 37) hx hb hK hP _ 0 (fl_at 0 3 rfl rfl) rfl hi4 d_Tab_inForce_37 ?_
          refine lv_if_le (tgt := 47) (pc := 38) hx hb d_Tab_inForce_38 (by decide) (fun c6 => ?_) (fun c6 => ?_)
          · replace hf := o_t c6 hf
            refine lv_iinc (v := x2_L24 + (-1)) (lv' := [(2, .int (x2_L24 + (-1))), (0, .ref (hTab 0)), (1, .int x1_L24)]) (pc := 47) hx hb d_Tab_inForce_47 hl (k := 2) rfl rfl (by decide) rfl (fun ls hl => ?_)
            refine lv_goto (tgt := 24) (pc := 50) hx hb d_Tab_inForce_50 (by decide) ?_
            exact ih_24 (x2_L24 + (-1)) H locs ls hP hD hS (lv_sub hl [1, 2, 0] rfl) hf
          · replace hf := o_f c6 hf
            refine lv_iload_n (pc := 41) hx hb d_Tab_inForce_41 rfl (lv_at hl 2 rfl) ?_
            refine lv_iload_n (pc := 42) hx hb d_Tab_inForce_42 rfl (lv_at hl 1 rfl) ?_
            obtain ⟨q5, hq5, hf⟩ := o_bd_e hf
            refine fi_i (pc := 43) (va_runS (As := [.int x2_L24, .int x1_L24]) (rest := []) ⟨hx, hb, hml, hown, hts⟩ ((c_Tab_entryAt l D K x2_L24 x1_L24 q5 hq5) _) (cwS 2 hts (gS tw_424 tw_425 tw_2 tw_426) rfl rfl rfl (by decide +kernel) ⟨by decide, by decide⟩) ⟨mPre_blind, (mPre_fl hK hF hA hP hD hS [] rfl rfl)⟩ rfl rfl hl.1 rfl (lv_room (Nat.le_of_ble_eq_true rfl)) d_Tab_inForce_43 ⟨Nat.zero_le _, Nat.zero_le _⟩) hA hP hD hS [] rfl rfl (fun H locs hP hD hS => ?_)
            have hP : va_P D vwCl (fl [wTab K hTab sTab]) H := hP
            have hD : va_D A (fl [wTab K hTab sTab]) := hD
            cases hf
            exact ret_i hx hb hr hlocks hK hP hS d_Tab_inForce_46
    exact L24 a0 fu (Tab_versionInUse sTab) H locs ls hP hD hS (lv_sub hl [1, 2, 0] rfl) hf
  · replace hf := o_f c9 hf
    refine lv_iconst (v := 4) (pc := 13) hx hb d_Tab_inForce_13 (by decide) ?_
    refine lv_iload_n (pc := 14) hx hb d_Tab_inForce_14 rfl (lv_at hl 1 rfl) ?_
    obtain ⟨q8, hq8, hf⟩ := o_bd_e hf
    refine fi_i (pc := 15) (va_runS (As := [.int 4, .int a0]) (rest := []) ⟨hx, hb, hml, hown, hts⟩ ((c_Tab_entryAt l D K 4 a0 q8 hq8) _) (cwS 2 hts (gS tw_424 tw_425 tw_2 tw_426) rfl rfl rfl (by decide +kernel) ⟨by decide, by decide⟩) ⟨mPre_blind, (mPre_fl hK hF hA hP hD hS [] rfl rfl)⟩ rfl rfl hl.1 rfl (lv_room (Nat.le_of_ble_eq_true rfl)) d_Tab_inForce_15 ⟨Nat.zero_le _, Nat.zero_le _⟩) hA hP hD hS [] rfl rfl (fun H locs hP hD hS => ?_)
    have hP : va_P D vwCl (fl [wTab K hTab sTab]) H := hP
    have hD : va_D A (fl [wTab K hTab sTab]) := hD
    cases hf
    exact ret_i hx hb hr hlocks hK hP hS d_Tab_inForce_18
